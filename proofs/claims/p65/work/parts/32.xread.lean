/-! written by program from the bytecode: what each method computes, and its contract -/

theorem dX5_requireSide_0 : decode cX5_requireSide 0 = .ok (.iload_n 0, 1) := by decide +kernel
theorem dX5_requireSide_1 : decode cX5_requireSide 1 = .ok (.ifCond .lt 8, 3) := by decide +kernel
theorem dX5_requireSide_4 : decode cX5_requireSide 4 = .ok (.iload_n 0, 1) := by decide +kernel
theorem dX5_requireSide_5 : decode cX5_requireSide 5 = .ok (.iconst 1, 1) := by decide +kernel
theorem dX5_requireSide_6 : decode cX5_requireSide 6 = .ok (.if_icmp .le 14, 3) := by decide +kernel
theorem dX5_requireSide_9 : decode cX5_requireSide 9 = .ok (.new 236, 3) := by decide +kernel
theorem dX5_requireSide_12 : decode cX5_requireSide 12 = .ok (.dup, 1) := by decide +kernel
theorem dX5_requireSide_13 : decode cX5_requireSide 13 = .ok (.ldc_w 399, 3) := by decide +kernel
theorem dX5_requireSide_16 : decode cX5_requireSide 16 = .ok (.invokespecial 240, 3) := by decide +kernel
theorem dX5_requireSide_19 : decode cX5_requireSide 19 = .ok (.athrow, 1) := by decide +kernel
theorem dX5_requireSide_20 : decode cX5_requireSide 20 = .ok (.return_, 1) := by decide +kernel
def f_X5_requireSide (N : Nat) (p1 : Int32) : Option (Nat ⊕ Unit) :=
  jn (fun (s9 : Unit) => some (Sum.inl 2)) (fun (j9 : (Unit) → Option (Nat ⊕ Unit)) => (if p1 < 0 then j9 () else (if p1 ≤ (1 : Int32) then some (Sum.inr ()) else j9 ())))
set_option maxHeartbeats 4000000 in
set_option maxRecDepth 100000 in
theorem met_X5_requireSide (l : Launch) (z0 : Nat) (hst : l.stackTraces = false) (dC : Nat → ClassId) (dI : Nat → Nat → Nat) (cyI cyO : ClassId)  (N : Nat) (p1 : Int32) (out : Nat ⊕ Unit) (hF : f_X5_requireSide N p1 = some out) : vx_Met l yX5_requireSide (Cond.code yX5_requireSide cX5_requireSide 1 none :: wT) ({ frames := 6, cells := 1, slots := 6, locals := 82 } : Room) (wRdX z0 dC dI cyI cyO [.int p1] ([] : va_W)) (va_Qv (fun (_ : Unit) => Sum.inr () = out) (fun _ _ => True) wN0) (xcR Unit out) 1 6 wN0 := by
  refine vx_ofW (cc := cX5_requireSide) (maxL := 1) (ret := none) (by decide) rfl ?_
  intro p e s m args below meth c s₁ B hml htx hv
  obtain ⟨rfl, hP, hK, hZ⟩ := hv
  have hx := B.exec
  have hb := B.bytes
  have hr := B.returns
  have hts0 := atoms_spec (ws := (Cond.code yX5_requireSide cX5_requireSide 1 none :: wT)) B.pre
  have hts := fun w h => hts0 w (List.mem_cons_of_mem _ h)
  clear hts0
  have hown : s.vm.findClass RX5 = some m.cls := findClass_of_methodNamed B.named
  have hlocks := B.notSynchronized
  have hAz : ∀ q, wN0 q → z0 ≤ q := fun q h => h.elim
  have hS : va_S wN0 s.heap s.heap [] := va_S.rf
  have hl := lv_entry [.int p1] (n := 1) (Nat.le_of_ble_eq_true rfl)
  rw [lg_entry_eq]
  generalize (lg_sl [.int p1] ++ List.replicate (1 - (lg_sl [.int p1]).length) Slot.unset).toArray = ls at hl ⊢
  have hl : lv_has ls 1 [(0, .int p1)] := hl
  unfold f_X5_requireSide at hF
  refine lv_iload_n hx hb dX5_requireSide_0 rfl (lv_at hl 0 rfl) ?_
  obtain ⟨j9, hj9, hF⟩ := jn_use hF
  have hJ9 : ∀ (s9 : Unit) (H : Heap) (locs : List Loc) (ls : Array Slot), va_P (dC, dI) vwCl ([] : va_W) H → va_S wN0 s.heap H locs → lv_has ls 1 [] → j9 s9 = some out → W p l e (headSpec (Cond.code yX5_requireSide cX5_requireSide 1 none :: wT) ({ frames := 6, cells := 1, slots := 6, locals := 82 } : Room)).room s m ([.int p1] : List Value).toArray below meth c H locs 0 0 (vx_MQ below (va_Qv (fun (_ : Unit) => Sum.inr () = out) (fun _ _ => True) wN0) (xcR Unit out) ([.int p1] : List Value).toArray s 1 6 wN0) (F0 m 9 ls []) := by
    intro s9 H locs ls hP hS hl hF
    have hF := (congrFun hj9 s9).symm.trans hF
    have hF9 : (Sum.inl 2 : Nat ⊕ Unit) = out := Option.some.inj hF
    exact thrRW_2 hF9 hx hb hst (is := 399) (text := "there is no such side") hown hts hZ hS (hl.1.trans hml.symm) (by decide) dX5_requireSide_9 dX5_requireSide_12 dX5_requireSide_13 dX5_requireSide_16 dX5_requireSide_19 htx (Nat.le_of_ble_eq_true rfl) (Nat.le_of_ble_eq_true rfl) (Nat.le_of_ble_eq_true rfl) (Nat.le_of_ble_eq_true rfl) hlocks (Nat.le_of_ble_eq_true rfl) (Nat.le_of_ble_eq_true rfl)
  refine lv_if_lt (tgt := 9) hx hb dX5_requireSide_1 (by decide) (fun c1 => ?_) (fun c1 => ?_)
  · have hF := itp c1 hF
    exact hJ9 () _ _ _ hP hS (lv_sub hl [] rfl) hF
  · have hF := itn c1 hF
    refine lv_iload_n hx hb dX5_requireSide_4 rfl (lv_at hl 0 rfl) ?_
    refine lv_iconst (v := 1) hx hb dX5_requireSide_5 (by decide) ?_
    refine lv_icmp_le (tgt := 20) hx hb dX5_requireSide_6 (by decide) (fun c2 => ?_) (fun c2 => ?_)
    · have hF := itp c2 hF
      refine vx_ret ?_
      refine W.widen (k := 1) (n := 6) (Nat.le_of_ble_eq_true rfl) (Nat.le_of_ble_eq_true rfl) ?_
      exact W.vret hx hb hr (fun t ht hW => ⟨⟨(), rfl, Option.some.inj hF, trivial⟩, hS.F ht⟩) hS.2.2 dX5_requireSide_20
    · have hF := itn c2 hF
      exact hJ9 () _ _ _ hP hS (lv_sub hl [] rfl) hF
theorem dX5_requireCurve_0 : decode cX5_requireCurve 0 = .ok (.iload_n 0, 1) := by decide +kernel
theorem dX5_requireCurve_1 : decode cX5_requireCurve 1 = .ok (.iload_n 1, 1) := by decide +kernel
theorem dX5_requireCurve_2 : decode cX5_requireCurve 2 = .ok (.iload_n 2, 1) := by decide +kernel
theorem dX5_requireCurve_3 : decode cX5_requireCurve 3 = .ok (.invokestatic 75, 3) := by decide +kernel
theorem dX5_requireCurve_6 : decode cX5_requireCurve 6 = .ok (.ifCond .eq 12, 3) := by decide +kernel
theorem dX5_requireCurve_9 : decode cX5_requireCurve 9 = .ok (.iload_n 3, 1) := by decide +kernel
theorem dX5_requireCurve_10 : decode cX5_requireCurve 10 = .ok (.ifCond .lt 8, 3) := by decide +kernel
theorem dX5_requireCurve_13 : decode cX5_requireCurve 13 = .ok (.iload_n 3, 1) := by decide +kernel
theorem dX5_requireCurve_14 : decode cX5_requireCurve 14 = .ok (.iload_n 1, 1) := by decide +kernel
theorem dX5_requireCurve_15 : decode cX5_requireCurve 15 = .ok (.if_icmp .le 14, 3) := by decide +kernel
theorem dX5_requireCurve_18 : decode cX5_requireCurve 18 = .ok (.new 49, 3) := by decide +kernel
theorem dX5_requireCurve_21 : decode cX5_requireCurve 21 = .ok (.dup, 1) := by decide +kernel
theorem dX5_requireCurve_22 : decode cX5_requireCurve 22 = .ok (.ldc_w 401, 3) := by decide +kernel
theorem dX5_requireCurve_25 : decode cX5_requireCurve 25 = .ok (.invokespecial 53, 3) := by decide +kernel
theorem dX5_requireCurve_28 : decode cX5_requireCurve 28 = .ok (.athrow, 1) := by decide +kernel
theorem dX5_requireCurve_29 : decode cX5_requireCurve 29 = .ok (.return_, 1) := by decide +kernel
def f_X5_requireCurve (N : Nat) (p1 : Int32) (p2 : Int32) (p3 : Int32) (p4 : Int32) : Option (Nat ⊕ Unit) :=
  (f_X5_isPlay N p1 p2 p3).bind (fun o1 => jn (fun (s18 : Unit) => some (Sum.inl 0)) (fun (j18 : (Unit) → Option (Nat ⊕ Unit)) => (if o1 = 0 then j18 () else (if p4 < 0 then j18 () else (if p4 ≤ p2 then some (Sum.inr ()) else j18 ())))))
set_option maxHeartbeats 4000000 in
set_option maxRecDepth 100000 in
theorem met_X5_requireCurve (l : Launch) (z0 : Nat) (hst : l.stackTraces = false) (dC : Nat → ClassId) (dI : Nat → Nat → Nat) (cyI cyO : ClassId)  (N : Nat) (p1 : Int32) (p2 : Int32) (p3 : Int32) (p4 : Int32) (out : Nat ⊕ Unit) (hF : f_X5_requireCurve N p1 p2 p3 p4 = some out) : vx_Met l yX5_requireCurve (Cond.code yX5_requireCurve cX5_requireCurve 4 none :: wT) ({ frames := 6, cells := 1, slots := 6, locals := 82 } : Room) (wRdX z0 dC dI cyI cyO [.int p1, .int p2, .int p3, .int p4] ([] : va_W)) (va_Qv (fun (_ : Unit) => Sum.inr () = out) (fun _ _ => True) wN0) (xcR Unit out) 1 6 wN0 := by
  refine vx_ofW (cc := cX5_requireCurve) (maxL := 4) (ret := none) (by decide) rfl ?_
  intro p e s m args below meth c s₁ B hml htx hv
  obtain ⟨rfl, hP, hK, hZ⟩ := hv
  have hx := B.exec
  have hb := B.bytes
  have hr := B.returns
  have hts0 := atoms_spec (ws := (Cond.code yX5_requireCurve cX5_requireCurve 4 none :: wT)) B.pre
  have hts := fun w h => hts0 w (List.mem_cons_of_mem _ h)
  clear hts0
  have hown : s.vm.findClass RX5 = some m.cls := findClass_of_methodNamed B.named
  have hlocks := B.notSynchronized
  have hAz : ∀ q, wN0 q → z0 ≤ q := fun q h => h.elim
  have hS : va_S wN0 s.heap s.heap [] := va_S.rf
  have hl := lv_entry [.int p1, .int p2, .int p3, .int p4] (n := 4) (Nat.le_of_ble_eq_true rfl)
  rw [lg_entry_eq]
  generalize (lg_sl [.int p1, .int p2, .int p3, .int p4] ++ List.replicate (4 - (lg_sl [.int p1, .int p2, .int p3, .int p4]).length) Slot.unset).toArray = ls at hl ⊢
  have hl : lv_has ls 4 [(0, .int p1), (1, .int p2), (2, .int p3), (3, .int p4)] := hl
  unfold f_X5_requireCurve at hF
  refine lv_iload_n hx hb dX5_requireCurve_0 rfl (lv_at hl 0 rfl) ?_
  refine lv_iload_n hx hb dX5_requireCurve_1 rfl (lv_at hl 1 rfl) ?_
  refine lv_iload_n hx hb dX5_requireCurve_2 rfl (lv_at hl 2 rfl) ?_
  obtain ⟨o1, h2, hF⟩ := obd hF
  refine wcRSi (As := [.int p1, .int p2, .int p3]) (rest := []) ⟨hx, hb, hml, hown, hts⟩ (met_X5_isPlay l dC dI cyI cyO  N  p1 p2 p3 o1 h2) (va_cwS 3 hts (gS w_methodLink_X5_75 w_static_X5_isPlay w_initialized_X5 w_code_X5_isPlay) rfl rfl rfl (by decide +kernel) ⟨Nat.le_of_ble_eq_true rfl, Nat.le_of_ble_eq_true rfl⟩) hP hK [] rfl rfl hl.1 (Nat.le_of_ble_eq_true rfl) dX5_requireCurve_3 ⟨Nat.le_of_ble_eq_true rfl, Nat.le_of_ble_eq_true rfl⟩ hS (fun r H locs hw hP hS => ?_)
  obtain ⟨hw, hz3⟩ := hw
  have hw := hw.symm
  subst hw
  obtain ⟨j18, hj18, hF⟩ := jn_use hF
  have hJ18 : ∀ (s18 : Unit) (H : Heap) (locs : List Loc) (ls : Array Slot), va_P (dC, dI) vwCl ([] : va_W) H → va_S wN0 s.heap H locs → lv_has ls 4 [] → j18 s18 = some out → W p l e (headSpec (Cond.code yX5_requireCurve cX5_requireCurve 4 none :: wT) ({ frames := 6, cells := 1, slots := 6, locals := 82 } : Room)).room s m ([.int p1, .int p2, .int p3, .int p4] : List Value).toArray below meth c H locs 0 0 (vx_MQ below (va_Qv (fun (_ : Unit) => Sum.inr () = out) (fun _ _ => True) wN0) (xcR Unit out) ([.int p1, .int p2, .int p3, .int p4] : List Value).toArray s 1 6 wN0) (F0 m 18 ls []) := by
    intro s18 H locs ls hP hS hl hF
    have hF := (congrFun hj18 s18).symm.trans hF
    have hF9 : (Sum.inl 0 : Nat ⊕ Unit) = out := Option.some.inj hF
    exact thrRW_0 hF9 hx hb hst (is := 401) (text := "aim, weight, bias or steps is out of range") hown hts hZ hS (hl.1.trans hml.symm) (by decide) dX5_requireCurve_18 dX5_requireCurve_21 dX5_requireCurve_22 dX5_requireCurve_25 dX5_requireCurve_28 htx (Nat.le_of_ble_eq_true rfl) (Nat.le_of_ble_eq_true rfl) (Nat.le_of_ble_eq_true rfl) (Nat.le_of_ble_eq_true rfl) hlocks (Nat.le_of_ble_eq_true rfl) (Nat.le_of_ble_eq_true rfl)
  refine lv_if_eq (tgt := 18) hx hb dX5_requireCurve_6 (by decide) (fun c4 => ?_) (fun c4 => ?_)
  · have hF := itp c4 hF
    exact hJ18 () _ _ _ hP hS (lv_sub hl [] rfl) hF
  · have hF := itn c4 hF
    refine lv_iload_n hx hb dX5_requireCurve_9 rfl (lv_at hl 3 rfl) ?_
    refine lv_if_lt (tgt := 18) hx hb dX5_requireCurve_10 (by decide) (fun c5 => ?_) (fun c5 => ?_)
    · have hF := itp c5 hF
      exact hJ18 () _ _ _ hP hS (lv_sub hl [] rfl) hF
    · have hF := itn c5 hF
      refine lv_iload_n hx hb dX5_requireCurve_13 rfl (lv_at hl 3 rfl) ?_
      refine lv_iload_n hx hb dX5_requireCurve_14 rfl (lv_at hl 1 rfl) ?_
      refine lv_icmp_le (tgt := 29) hx hb dX5_requireCurve_15 (by decide) (fun c6 => ?_) (fun c6 => ?_)
      · have hF := itp c6 hF
        refine vx_ret ?_
        refine W.widen (k := 1) (n := 6) (Nat.le_of_ble_eq_true rfl) (Nat.le_of_ble_eq_true rfl) ?_
        exact W.vret hx hb hr (fun t ht hW => ⟨⟨(), rfl, Option.some.inj hF, trivial⟩, hS.F ht⟩) hS.2.2 dX5_requireCurve_29
      · have hF := itn c6 hF
        exact hJ18 () _ _ _ hP hS (lv_sub hl [] rfl) hF
theorem dX5_requireBowl_0 : decode cX5_requireBowl 0 = .ok (.iload_n 1, 1) := by decide +kernel
theorem dX5_requireBowl_1 : decode cX5_requireBowl 1 = .ok (.ifCond .lt 17, 3) := by decide +kernel
theorem dX5_requireBowl_4 : decode cX5_requireBowl 4 = .ok (.iload_n 1, 1) := by decide +kernel
theorem dX5_requireBowl_5 : decode cX5_requireBowl 5 = .ok (.aload_n 0, 1) := by decide +kernel
theorem dX5_requireBowl_6 : decode cX5_requireBowl 6 = .ok (.getfield 12, 3) := by decide +kernel
theorem dX5_requireBowl_9 : decode cX5_requireBowl 9 = .ok (.getfield 90, 3) := by decide +kernel
theorem dX5_requireBowl_12 : decode cX5_requireBowl 12 = .ok (.getfield 214, 3) := by decide +kernel
theorem dX5_requireBowl_15 : decode cX5_requireBowl 15 = .ok (.if_icmp .lt 14, 3) := by decide +kernel
theorem dX5_requireBowl_18 : decode cX5_requireBowl 18 = .ok (.new 236, 3) := by decide +kernel
theorem dX5_requireBowl_21 : decode cX5_requireBowl 21 = .ok (.dup, 1) := by decide +kernel
theorem dX5_requireBowl_22 : decode cX5_requireBowl 22 = .ok (.ldc_w 395, 3) := by decide +kernel
theorem dX5_requireBowl_25 : decode cX5_requireBowl 25 = .ok (.invokespecial 240, 3) := by decide +kernel
theorem dX5_requireBowl_28 : decode cX5_requireBowl 28 = .ok (.athrow, 1) := by decide +kernel
theorem dX5_requireBowl_29 : decode cX5_requireBowl 29 = .ok (.return_, 1) := by decide +kernel
def f_X5_requireBowl (N : Nat) (xv : XV) (nv : SV) (p1 : Int32) : Option (Nat ⊕ Unit) :=
  jn (fun (s18 : Unit) => some (Sum.inl 2)) (fun (j18 : (Unit) → Option (Nat ⊕ Unit)) => (if p1 < 0 then j18 () else (if p1 < (G_bowlCount (S_green nv)) then some (Sum.inr ()) else j18 ())))
set_option maxHeartbeats 4000000 in
set_option maxRecDepth 100000 in
theorem met_X5_requireBowl (l : Launch) (z0 : Nat) (hst : l.stackTraces = false) (dC : Nat → ClassId) (dI : Nat → Nat → Nat) (cyI cyO : ClassId) (x : Nat → Nat) (tr : Nat → Nat) (an : Nat → Nat) (fl fs : Nat → Option Nat) (N : Nat) (xv : XV) (nv : SV) (p1 : Int32) (out : Nat ⊕ Unit) (hF : f_X5_requireBowl N xv nv p1 = some out) : vx_Met l yX5_requireBowl (Cond.code yX5_requireBowl cX5_requireBowl 2 none :: wT) ({ frames := 6, cells := 1, slots := 6, locals := 82 } : Room) (wRdX z0 dC dI cyI cyO [.ref (x 0), .int p1] (([(cXo x an tr xv), (cH cyO (x 1) (x 2) 2 fl), (cXk cyI x xv), (cH cyO (x 4) (x 5) 6 fs), (cT cyI x (X_text xv)), (cSo an nv), (cG cyI an (S_green nv)), (cV cyI an (S_score nv))] : List va_W).flatten)) (va_Qv (fun (_ : Unit) => Sum.inr () = out) (fun _ _ => True) wN0) (xcR Unit out) 1 6 wN0 := by
  refine vx_ofW (cc := cX5_requireBowl) (maxL := 2) (ret := none) (by decide) rfl ?_
  intro p e s m args below meth c s₁ B hml htx hv
  obtain ⟨rfl, hP, hK, hZ⟩ := hv
  have hx := B.exec
  have hb := B.bytes
  have hr := B.returns
  have hts0 := atoms_spec (ws := (Cond.code yX5_requireBowl cX5_requireBowl 2 none :: wT)) B.pre
  have hts := fun w h => hts0 w (List.mem_cons_of_mem _ h)
  clear hts0
  have hown : s.vm.findClass RX5 = some m.cls := findClass_of_methodNamed B.named
  have hlocks := B.notSynchronized
  have hAz : ∀ q, wN0 q → z0 ≤ q := fun q h => h.elim
  have hS : va_S wN0 s.heap s.heap [] := va_S.rf
  have hl := lv_entry [.ref (x 0), .int p1] (n := 2) (Nat.le_of_ble_eq_true rfl)
  rw [lg_entry_eq]
  generalize (lg_sl [.ref (x 0), .int p1] ++ List.replicate (2 - (lg_sl [.ref (x 0), .int p1]).length) Slot.unset).toArray = ls at hl ⊢
  have hl : lv_has ls 2 [(0, .ref (x 0)), (1, .int p1)] := hl
  unfold f_X5_requireBowl at hF
  refine lv_iload_n hx hb dX5_requireBowl_0 rfl (lv_at hl 1 rfl) ?_
  obtain ⟨j18, hj18, hF⟩ := jn_use hF
  have hJ18 : ∀ (s18 : Unit) (H : Heap) (locs : List Loc) (ls : Array Slot), va_P (dC, dI) vwCl (([(cXo x an tr xv), (cH cyO (x 1) (x 2) 2 fl), (cXk cyI x xv), (cH cyO (x 4) (x 5) 6 fs), (cT cyI x (X_text xv)), (cSo an nv), (cG cyI an (S_green nv)), (cV cyI an (S_score nv))] : List va_W).flatten) H → va_S wN0 s.heap H locs → lv_has ls 2 [] → j18 s18 = some out → W p l e (headSpec (Cond.code yX5_requireBowl cX5_requireBowl 2 none :: wT) ({ frames := 6, cells := 1, slots := 6, locals := 82 } : Room)).room s m ([.ref (x 0), .int p1] : List Value).toArray below meth c H locs 0 0 (vx_MQ below (va_Qv (fun (_ : Unit) => Sum.inr () = out) (fun _ _ => True) wN0) (xcR Unit out) ([.ref (x 0), .int p1] : List Value).toArray s 1 6 wN0) (F0 m 18 ls []) := by
    intro s18 H locs ls hP hS hl hF
    have hF := (congrFun hj18 s18).symm.trans hF
    have hF9 : (Sum.inl 2 : Nat ⊕ Unit) = out := Option.some.inj hF
    exact thrRW_2 hF9 hx hb hst (is := 395) (text := "there is no such bowl") hown hts hZ hS (hl.1.trans hml.symm) (by decide) dX5_requireBowl_18 dX5_requireBowl_21 dX5_requireBowl_22 dX5_requireBowl_25 dX5_requireBowl_28 htx (Nat.le_of_ble_eq_true rfl) (Nat.le_of_ble_eq_true rfl) (Nat.le_of_ble_eq_true rfl) (Nat.le_of_ble_eq_true rfl) hlocks (Nat.le_of_ble_eq_true rfl) (Nat.le_of_ble_eq_true rfl)
  refine lv_if_lt (tgt := 18) hx hb dX5_requireBowl_1 (by decide) (fun c1 => ?_) (fun c1 => ?_)
  · have hF := itp c1 hF
    exact hJ18 () _ _ _ hP hS (lv_sub hl [] rfl) hF
  · have hF := itn c1 hF
    refine lv_iload_n hx hb dX5_requireBowl_4 rfl (lv_at hl 1 rfl) ?_
    refine lv_aload_n hx hb dX5_requireBowl_5 rfl (lv_at hl 0 rfl) ?_
    refine va_get (D := (dC, dI)) (ci := 5) (v := .ref (an 0)) (C := RX5) (T := TX5) (N := 8) hx hb hts inX5 hown hK.1 hP 0 rfl rfl 0 (by decide) (hts _ w_fieldLink_X5_12) (fun _ h9 => h9) rfl dX5_requireBowl_6 ?_
    refine va_get (D := (dC, dI)) (ci := 3) (v := .ref (an 1)) (C := RX3) (T := TX3) (N := 6) hx hb hts inX3 hown hK.1 hP 8 rfl rfl 0 (by decide) (hts _ w_fieldLink_X5_90) (fun _ h9 => h9) rfl dX5_requireBowl_9 ?_
    refine va_get (D := (dC, dI)) (ci := 0) (v := .int (G_bowlCount (S_green nv))) (C := RX0) (T := TX0) (N := 9) hx hb hts inX0 hown hK.1 hP 9 rfl rfl 7 (by decide) (hts _ w_fieldLink_X5_214) (fun _ h9 => h9) rfl dX5_requireBowl_12 ?_
    refine lv_icmp_lt (tgt := 29) hx hb dX5_requireBowl_15 (by decide) (fun c2 => ?_) (fun c2 => ?_)
    · have hF := itp c2 hF
      refine vx_ret ?_
      refine W.widen (k := 1) (n := 6) (Nat.le_of_ble_eq_true rfl) (Nat.le_of_ble_eq_true rfl) ?_
      exact W.vret hx hb hr (fun t ht hW => ⟨⟨(), rfl, Option.some.inj hF, trivial⟩, hS.F ht⟩) hS.2.2 dX5_requireBowl_29
    · have hF := itn c2 hF
      exact hJ18 () _ _ _ hP hS (lv_sub hl [] rfl) hF
theorem dX5_requireAlive_0 : decode cX5_requireAlive 0 = .ok (.aload_n 0, 1) := by decide +kernel
theorem dX5_requireAlive_1 : decode cX5_requireAlive 1 = .ok (.getfield 12, 3) := by decide +kernel
theorem dX5_requireAlive_4 : decode cX5_requireAlive 4 = .ok (.getfield 90, 3) := by decide +kernel
theorem dX5_requireAlive_7 : decode cX5_requireAlive 7 = .ok (.iload_n 1, 1) := by decide +kernel
theorem dX5_requireAlive_8 : decode cX5_requireAlive 8 = .ok (.invokevirtual 367, 3) := by decide +kernel
theorem dX5_requireAlive_11 : decode cX5_requireAlive 11 = .ok (.ifCond .ne 14, 3) := by decide +kernel
theorem dX5_requireAlive_14 : decode cX5_requireAlive 14 = .ok (.new 60, 3) := by decide +kernel
theorem dX5_requireAlive_17 : decode cX5_requireAlive 17 = .ok (.dup, 1) := by decide +kernel
theorem dX5_requireAlive_18 : decode cX5_requireAlive 18 = .ok (.ldc_w 397, 3) := by decide +kernel
theorem dX5_requireAlive_21 : decode cX5_requireAlive 21 = .ok (.invokespecial 64, 3) := by decide +kernel
theorem dX5_requireAlive_24 : decode cX5_requireAlive 24 = .ok (.athrow, 1) := by decide +kernel
theorem dX5_requireAlive_25 : decode cX5_requireAlive 25 = .ok (.return_, 1) := by decide +kernel
def f_X5_requireAlive (N : Nat) (xv : XV) (nv : SV) (p1 : Int32) : Option (Nat ⊕ Unit) :=
  (f_X0_isAlive N (S_green nv) p1).bind (fun o1 => (if o1 = 0 then some (Sum.inl 1) else some (Sum.inr ())))
set_option maxHeartbeats 4000000 in
set_option maxRecDepth 100000 in
theorem met_X5_requireAlive (l : Launch) (z0 : Nat) (hst : l.stackTraces = false) (dC : Nat → ClassId) (dI : Nat → Nat → Nat) (cyI cyO : ClassId) (x : Nat → Nat) (tr : Nat → Nat) (an : Nat → Nat) (fl fs : Nat → Option Nat) (N : Nat) (xv : XV) (nv : SV) (p1 : Int32) (out : Nat ⊕ Unit) (hF : f_X5_requireAlive N xv nv p1 = some out) : vx_Met l yX5_requireAlive (Cond.code yX5_requireAlive cX5_requireAlive 2 none :: wT) ({ frames := 6, cells := 1, slots := 6, locals := 82 } : Room) (wRdX z0 dC dI cyI cyO [.ref (x 0), .int p1] (([(cXo x an tr xv), (cH cyO (x 1) (x 2) 2 fl), (cXk cyI x xv), (cH cyO (x 4) (x 5) 6 fs), (cT cyI x (X_text xv)), (cSo an nv), (cG cyI an (S_green nv)), (cV cyI an (S_score nv))] : List va_W).flatten)) (va_Qv (fun (_ : Unit) => Sum.inr () = out) (fun _ _ => True) wN0) (xcR Unit out) 1 6 wN0 := by
  refine vx_ofW (cc := cX5_requireAlive) (maxL := 2) (ret := none) (by decide) rfl ?_
  intro p e s m args below meth c s₁ B hml htx hv
  obtain ⟨rfl, hP, hK, hZ⟩ := hv
  have hx := B.exec
  have hb := B.bytes
  have hr := B.returns
  have hts0 := atoms_spec (ws := (Cond.code yX5_requireAlive cX5_requireAlive 2 none :: wT)) B.pre
  have hts := fun w h => hts0 w (List.mem_cons_of_mem _ h)
  clear hts0
  have hown : s.vm.findClass RX5 = some m.cls := findClass_of_methodNamed B.named
  have hlocks := B.notSynchronized
  have hAz : ∀ q, wN0 q → z0 ≤ q := fun q h => h.elim
  have hS : va_S wN0 s.heap s.heap [] := va_S.rf
  have hl := lv_entry [.ref (x 0), .int p1] (n := 2) (Nat.le_of_ble_eq_true rfl)
  rw [lg_entry_eq]
  generalize (lg_sl [.ref (x 0), .int p1] ++ List.replicate (2 - (lg_sl [.ref (x 0), .int p1]).length) Slot.unset).toArray = ls at hl ⊢
  have hl : lv_has ls 2 [(0, .ref (x 0)), (1, .int p1)] := hl
  unfold f_X5_requireAlive at hF
  refine lv_aload_n hx hb dX5_requireAlive_0 rfl (lv_at hl 0 rfl) ?_
  refine va_get (D := (dC, dI)) (ci := 5) (v := .ref (an 0)) (C := RX5) (T := TX5) (N := 8) hx hb hts inX5 hown hK.1 hP 0 rfl rfl 0 (by decide) (hts _ w_fieldLink_X5_12) (fun _ h9 => h9) rfl dX5_requireAlive_1 ?_
  refine va_get (D := (dC, dI)) (ci := 3) (v := .ref (an 1)) (C := RX3) (T := TX3) (N := 6) hx hb hts inX3 hown hK.1 hP 8 rfl rfl 0 (by decide) (hts _ w_fieldLink_X5_90) (fun _ h9 => h9) rfl dX5_requireAlive_4 ?_
  refine lv_iload_n hx hb dX5_requireAlive_7 rfl (lv_at hl 1 rfl) ?_
  obtain ⟨o1, h2, hF⟩ := obd hF
  refine wcRVi (As := [.int p1]) (rest := []) (b := (an 1)) ⟨hx, hb, hml, hown, hts⟩ (met_X0_isAlive l dC dI cyI cyO an N (S_green nv) p1 o1 h2) (cwV 1 hts (gV w_methodLink_X5_367 w_instanceMethod_X0_isAlive w_selects_X0_isAlive w_initialized_X0 w_code_X0_isAlive) rfl rfl rfl (by decide +kernel) ⟨Nat.le_of_ble_eq_true rfl, Nat.le_of_ble_eq_true rfl⟩) (va_recv hK.1 hP (ci := 0) (q0 := 9) rfl rfl) hP hK [9, 10, 11, 12, 13, 14, 15, 16] rfl rfl hl.1 (Nat.le_of_ble_eq_true rfl) dX5_requireAlive_8 ⟨Nat.le_of_ble_eq_true rfl, Nat.le_of_ble_eq_true rfl⟩ hS (fun r H locs hw hP hS => ?_)
  obtain ⟨hw, hz3⟩ := hw
  have hw := hw.symm
  subst hw
  refine lv_if_ne (tgt := 25) hx hb dX5_requireAlive_11 (by decide) (fun c4 => ?_) (fun c4 => ?_)
  · have hF := itn c4 hF
    refine vx_ret ?_
    refine W.widen (k := 1) (n := 6) (Nat.le_of_ble_eq_true rfl) (Nat.le_of_ble_eq_true rfl) ?_
    exact W.vret hx hb hr (fun t ht hW => ⟨⟨(), rfl, Option.some.inj hF, trivial⟩, hS.F ht⟩) hS.2.2 dX5_requireAlive_25
  · have hF := itp c4 hF
    have hF9 : (Sum.inl 1 : Nat ⊕ Unit) = out := Option.some.inj hF
    exact thrRW_1 hF9 hx hb hst (is := 397) (text := "the bowl is dead") hown hts hZ hS (hl.1.trans hml.symm) (by decide) dX5_requireAlive_14 dX5_requireAlive_17 dX5_requireAlive_18 dX5_requireAlive_21 dX5_requireAlive_24 htx (Nat.le_of_ble_eq_true rfl) (Nat.le_of_ble_eq_true rfl) (Nat.le_of_ble_eq_true rfl) (Nat.le_of_ble_eq_true rfl) hlocks (Nat.le_of_ble_eq_true rfl) (Nat.le_of_ble_eq_true rfl)
theorem dX5_savedStates_0 : decode cX5_savedStates 0 = .ok (.aload_n 0, 1) := by decide +kernel
theorem dX5_savedStates_1 : decode cX5_savedStates 1 = .ok (.getfield 39, 3) := by decide +kernel
theorem dX5_savedStates_4 : decode cX5_savedStates 4 = .ok (.ireturn, 1) := by decide +kernel
def f_X5_savedStates (N : Nat) (xv : XV) : Option (Int32) :=
  some (X_savedCount xv)
set_option maxHeartbeats 4000000 in
set_option maxRecDepth 100000 in
theorem met_X5_savedStates (l : Launch) (dC : Nat → ClassId) (dI : Nat → Nat → Nat) (cyI cyO : ClassId) (x : Nat → Nat) (an : Nat → Nat) (tr : Nat → Nat) (fl fs : Nat → Option Nat) (N : Nat) (xv : XV) (out : Int32) (hF : f_X5_savedStates N xv = some out) : Met l yX5_savedStates (Cond.code yX5_savedStates cX5_savedStates 1 (some .int) :: wT) ({ frames := 0, cells := 0, slots := 0, locals := 0 } : Room) (wRd dC dI cyI cyO [.ref (x 0)] (([(cXo x an tr xv), (cH cyO (x 1) (x 2) 2 fl), (cXk cyI x xv), (cH cyO (x 4) (x 5) 6 fs), (cT cyI x (X_text xv))] : List va_W).flatten)) (va_Qi (fun (r : Int32) (_ : Unit) => r = out) (fun _ _ => True) wN0) 0 0 wN0 := by
  refine Met.ofW (cc := cX5_savedStates) (maxL := 1) (ret := (some .int)) (by decide) rfl ?_
  intro p e s m args below meth c s₁ B hml hv
  obtain ⟨rfl, hP, hK⟩ := hv
  have hx := B.exec
  have hb := B.bytes
  have hr := B.returns
  have hts0 := atoms_spec (ws := (Cond.code yX5_savedStates cX5_savedStates 1 (some .int) :: wT)) B.pre
  have hts := fun w h => hts0 w (List.mem_cons_of_mem _ h)
  clear hts0
  have hown : s.vm.findClass RX5 = some m.cls := findClass_of_methodNamed B.named
  have hlocks := B.notSynchronized
  have hS : va_S wN0 s.heap s.heap [] := va_S.rf
  have hl := lv_entry [.ref (x 0)] (n := 1) (Nat.le_of_ble_eq_true rfl)
  rw [lg_entry_eq]
  generalize (lg_sl [.ref (x 0)] ++ List.replicate (1 - (lg_sl [.ref (x 0)]).length) Slot.unset).toArray = ls at hl ⊢
  have hl : lv_has ls 1 [(0, .ref (x 0))] := hl
  unfold f_X5_savedStates at hF
  refine lv_aload_n hx hb dX5_savedStates_0 rfl (lv_at hl 0 rfl) ?_
  refine va_get (D := (dC, dI)) (ci := 5) (v := .int (X_savedCount xv)) (C := RX5) (T := TX5) (N := 8) hx hb hts inX5 hown hK.1 hP 0 rfl rfl 6 (by decide) (hts _ w_fieldLink_X5_39) (fun _ h9 => h9) rfl dX5_savedStates_1 ?_
  exact W.iret (v := (X_savedCount xv)) hx hb hr (fun t ht hW => ⟨⟨_, (), rfl, Option.some.inj hF, trivial⟩, hS.F ht⟩) hS.2.2 dX5_savedStates_4
theorem dX5_isJackThere_0 : decode cX5_isJackThere 0 = .ok (.aload_n 0, 1) := by decide +kernel
theorem dX5_isJackThere_1 : decode cX5_isJackThere 1 = .ok (.getfield 12, 3) := by decide +kernel
theorem dX5_isJackThere_4 : decode cX5_isJackThere 4 = .ok (.getfield 90, 3) := by decide +kernel
theorem dX5_isJackThere_7 : decode cX5_isJackThere 7 = .ok (.invokevirtual 127, 3) := by decide +kernel
theorem dX5_isJackThere_10 : decode cX5_isJackThere 10 = .ok (.ireturn, 1) := by decide +kernel
def f_X5_isJackThere (N : Nat) (xv : XV) (nv : SV) : Option (Int32) :=
  (f_X0_hasJack N (S_green nv)).bind (fun o1 => some o1)
set_option maxHeartbeats 4000000 in
set_option maxRecDepth 100000 in
theorem met_X5_isJackThere (l : Launch) (dC : Nat → ClassId) (dI : Nat → Nat → Nat) (cyI cyO : ClassId) (x : Nat → Nat) (tr : Nat → Nat) (an : Nat → Nat) (fl fs : Nat → Option Nat) (N : Nat) (xv : XV) (nv : SV) (out : Int32) (hF : f_X5_isJackThere N xv nv = some out) : Met l yX5_isJackThere (Cond.code yX5_isJackThere cX5_isJackThere 1 (some .boolean) :: wT) ({ frames := 3, cells := 0, slots := 0, locals := 62 } : Room) (wRd dC dI cyI cyO [.ref (x 0)] (([(cXo x an tr xv), (cH cyO (x 1) (x 2) 2 fl), (cXk cyI x xv), (cH cyO (x 4) (x 5) 6 fs), (cT cyI x (X_text xv)), (cSo an nv), (cG cyI an (S_green nv)), (cV cyI an (S_score nv))] : List va_W).flatten)) (va_Qi (fun (r : Int32) (_ : Unit) => r = out ∧ b01 r) (fun _ _ => True) wN0) 0 0 wN0 := by
  refine Met.ofW (cc := cX5_isJackThere) (maxL := 1) (ret := (some .boolean)) (by decide) rfl ?_
  intro p e s m args below meth c s₁ B hml hv
  obtain ⟨rfl, hP, hK⟩ := hv
  have hx := B.exec
  have hb := B.bytes
  have hr := B.returns
  have hts0 := atoms_spec (ws := (Cond.code yX5_isJackThere cX5_isJackThere 1 (some .boolean) :: wT)) B.pre
  have hts := fun w h => hts0 w (List.mem_cons_of_mem _ h)
  clear hts0
  have hown : s.vm.findClass RX5 = some m.cls := findClass_of_methodNamed B.named
  have hlocks := B.notSynchronized
  have hS : va_S wN0 s.heap s.heap [] := va_S.rf
  have hl := lv_entry [.ref (x 0)] (n := 1) (Nat.le_of_ble_eq_true rfl)
  rw [lg_entry_eq]
  generalize (lg_sl [.ref (x 0)] ++ List.replicate (1 - (lg_sl [.ref (x 0)]).length) Slot.unset).toArray = ls at hl ⊢
  have hl : lv_has ls 1 [(0, .ref (x 0))] := hl
  unfold f_X5_isJackThere at hF
  refine lv_aload_n hx hb dX5_isJackThere_0 rfl (lv_at hl 0 rfl) ?_
  refine va_get (D := (dC, dI)) (ci := 5) (v := .ref (an 0)) (C := RX5) (T := TX5) (N := 8) hx hb hts inX5 hown hK.1 hP 0 rfl rfl 0 (by decide) (hts _ w_fieldLink_X5_12) (fun _ h9 => h9) rfl dX5_isJackThere_1 ?_
  refine va_get (D := (dC, dI)) (ci := 3) (v := .ref (an 1)) (C := RX3) (T := TX3) (N := 6) hx hb hts inX3 hown hK.1 hP 8 rfl rfl 0 (by decide) (hts _ w_fieldLink_X5_90) (fun _ h9 => h9) rfl dX5_isJackThere_4 ?_
  obtain ⟨o1, h2, hF⟩ := obd hF
  refine wcRVi (As := []) (rest := []) (b := (an 1)) ⟨hx, hb, hml, hown, hts⟩ (met_X0_hasJack l dC dI cyI cyO an N (S_green nv)  o1 h2) (cwV 0 hts (gV w_methodLink_X5_127 w_instanceMethod_X0_hasJack w_selects_X0_hasJack w_initialized_X0 w_code_X0_hasJack) rfl rfl rfl (by decide +kernel) ⟨Nat.le_of_ble_eq_true rfl, Nat.le_of_ble_eq_true rfl⟩) (va_recv hK.1 hP (ci := 0) (q0 := 9) rfl rfl) hP hK [9, 10, 11, 12, 13, 14, 15, 16] rfl rfl hl.1 (Nat.le_of_ble_eq_true rfl) dX5_isJackThere_7 ⟨Nat.le_of_ble_eq_true rfl, Nat.le_of_ble_eq_true rfl⟩ hS (fun r H locs hw hP hS => ?_)
  obtain ⟨hw, hz3⟩ := hw
  have hw := hw.symm
  subst hw
  exact W.zret (ty := .boolean) (v := o1) hx hb hr (b01_n hz3) (fun t ht hW => ⟨⟨_, (), rfl, ⟨Option.some.inj hF, hz3⟩, trivial⟩, hS.F ht⟩) hS.2.2 dX5_isJackThere_10
theorem dX5_jackRow_0 : decode cX5_jackRow 0 = .ok (.aload_n 0, 1) := by decide +kernel
theorem dX5_jackRow_1 : decode cX5_jackRow 1 = .ok (.getfield 12, 3) := by decide +kernel
theorem dX5_jackRow_4 : decode cX5_jackRow 4 = .ok (.getfield 90, 3) := by decide +kernel
theorem dX5_jackRow_7 : decode cX5_jackRow 7 = .ok (.invokevirtual 127, 3) := by decide +kernel
theorem dX5_jackRow_10 : decode cX5_jackRow 10 = .ok (.ifCond .ne 13, 3) := by decide +kernel
theorem dX5_jackRow_13 : decode cX5_jackRow 13 = .ok (.new 60, 3) := by decide +kernel
theorem dX5_jackRow_16 : decode cX5_jackRow 16 = .ok (.dup, 1) := by decide +kernel
theorem dX5_jackRow_17 : decode cX5_jackRow 17 = .ok (.ldc 206, 2) := by decide +kernel
theorem dX5_jackRow_19 : decode cX5_jackRow 19 = .ok (.invokespecial 64, 3) := by decide +kernel
theorem dX5_jackRow_22 : decode cX5_jackRow 22 = .ok (.athrow, 1) := by decide +kernel
theorem dX5_jackRow_23 : decode cX5_jackRow 23 = .ok (.aload_n 0, 1) := by decide +kernel
theorem dX5_jackRow_24 : decode cX5_jackRow 24 = .ok (.getfield 12, 3) := by decide +kernel
theorem dX5_jackRow_27 : decode cX5_jackRow 27 = .ok (.getfield 90, 3) := by decide +kernel
theorem dX5_jackRow_30 : decode cX5_jackRow 30 = .ok (.bipush 8, 2) := by decide +kernel
theorem dX5_jackRow_32 : decode cX5_jackRow 32 = .ok (.invokevirtual 208, 3) := by decide +kernel
theorem dX5_jackRow_35 : decode cX5_jackRow 35 = .ok (.bipush 21, 2) := by decide +kernel
theorem dX5_jackRow_37 : decode cX5_jackRow 37 = .ok (.idiv, 1) := by decide +kernel
theorem dX5_jackRow_38 : decode cX5_jackRow 38 = .ok (.ireturn, 1) := by decide +kernel
def f_X5_jackRow (N : Nat) (xv : XV) (nv : SV) : Option (Nat ⊕ Int32) :=
  (f_X0_hasJack N (S_green nv)).bind (fun o1 => (if o1 = 0 then some (Sum.inl 1) else (f_X0_placeOf N (S_green nv) (8 : Int32)).bind (fun o5 => some (Sum.inr (o5 / (21 : Int32))))))
set_option maxHeartbeats 4000000 in
set_option maxRecDepth 100000 in
theorem met_X5_jackRow (l : Launch) (z0 : Nat) (hst : l.stackTraces = false) (dC : Nat → ClassId) (dI : Nat → Nat → Nat) (cyI cyO : ClassId) (x : Nat → Nat) (tr : Nat → Nat) (an : Nat → Nat) (fl fs : Nat → Option Nat) (N : Nat) (xv : XV) (nv : SV) (out : Nat ⊕ Int32) (hF : f_X5_jackRow N xv nv = some out) : vx_Met l yX5_jackRow (Cond.code yX5_jackRow cX5_jackRow 1 (some .int) :: wT) ({ frames := 6, cells := 1, slots := 6, locals := 82 } : Room) (wRdX z0 dC dI cyI cyO [.ref (x 0)] (([(cXo x an tr xv), (cH cyO (x 1) (x 2) 2 fl), (cXk cyI x xv), (cH cyO (x 4) (x 5) 6 fs), (cT cyI x (X_text xv)), (cSo an nv), (cG cyI an (S_green nv)), (cV cyI an (S_score nv))] : List va_W).flatten)) (va_Qi (fun (r : Int32) (_ : Unit) => Sum.inr r = out) (fun _ _ => True) wN0) (xcR Int32 out) 1 6 wN0 := by
  refine vx_ofW (cc := cX5_jackRow) (maxL := 1) (ret := (some .int)) (by decide) rfl ?_
  intro p e s m args below meth c s₁ B hml htx hv
  obtain ⟨rfl, hP, hK, hZ⟩ := hv
  have hx := B.exec
  have hb := B.bytes
  have hr := B.returns
  have hts0 := atoms_spec (ws := (Cond.code yX5_jackRow cX5_jackRow 1 (some .int) :: wT)) B.pre
  have hts := fun w h => hts0 w (List.mem_cons_of_mem _ h)
  clear hts0
  have hown : s.vm.findClass RX5 = some m.cls := findClass_of_methodNamed B.named
  have hlocks := B.notSynchronized
  have hAz : ∀ q, wN0 q → z0 ≤ q := fun q h => h.elim
  have hS : va_S wN0 s.heap s.heap [] := va_S.rf
  have hl := lv_entry [.ref (x 0)] (n := 1) (Nat.le_of_ble_eq_true rfl)
  rw [lg_entry_eq]
  generalize (lg_sl [.ref (x 0)] ++ List.replicate (1 - (lg_sl [.ref (x 0)]).length) Slot.unset).toArray = ls at hl ⊢
  have hl : lv_has ls 1 [(0, .ref (x 0))] := hl
  unfold f_X5_jackRow at hF
  refine lv_aload_n hx hb dX5_jackRow_0 rfl (lv_at hl 0 rfl) ?_
  refine va_get (D := (dC, dI)) (ci := 5) (v := .ref (an 0)) (C := RX5) (T := TX5) (N := 8) hx hb hts inX5 hown hK.1 hP 0 rfl rfl 0 (by decide) (hts _ w_fieldLink_X5_12) (fun _ h9 => h9) rfl dX5_jackRow_1 ?_
  refine va_get (D := (dC, dI)) (ci := 3) (v := .ref (an 1)) (C := RX3) (T := TX3) (N := 6) hx hb hts inX3 hown hK.1 hP 8 rfl rfl 0 (by decide) (hts _ w_fieldLink_X5_90) (fun _ h9 => h9) rfl dX5_jackRow_4 ?_
  obtain ⟨o1, h2, hF⟩ := obd hF
  refine wcRVi (As := []) (rest := []) (b := (an 1)) ⟨hx, hb, hml, hown, hts⟩ (met_X0_hasJack l dC dI cyI cyO an N (S_green nv)  o1 h2) (cwV 0 hts (gV w_methodLink_X5_127 w_instanceMethod_X0_hasJack w_selects_X0_hasJack w_initialized_X0 w_code_X0_hasJack) rfl rfl rfl (by decide +kernel) ⟨Nat.le_of_ble_eq_true rfl, Nat.le_of_ble_eq_true rfl⟩) (va_recv hK.1 hP (ci := 0) (q0 := 9) rfl rfl) hP hK [9, 10, 11, 12, 13, 14, 15, 16] rfl rfl hl.1 (Nat.le_of_ble_eq_true rfl) dX5_jackRow_7 ⟨Nat.le_of_ble_eq_true rfl, Nat.le_of_ble_eq_true rfl⟩ hS (fun r H locs hw hP hS => ?_)
  obtain ⟨hw, hz3⟩ := hw
  have hw := hw.symm
  subst hw
  refine lv_if_ne (tgt := 23) hx hb dX5_jackRow_10 (by decide) (fun c4 => ?_) (fun c4 => ?_)
  · have hF := itn c4 hF
    refine lv_aload_n hx hb dX5_jackRow_23 rfl (lv_at hl 0 rfl) ?_
    refine va_get (D := (dC, dI)) (ci := 5) (v := .ref (an 0)) (C := RX5) (T := TX5) (N := 8) hx hb hts inX5 hown hK.1 hP 0 rfl rfl 0 (by decide) (hts _ w_fieldLink_X5_12) (fun _ h9 => h9) rfl dX5_jackRow_24 ?_
    refine va_get (D := (dC, dI)) (ci := 3) (v := .ref (an 1)) (C := RX3) (T := TX3) (N := 6) hx hb hts inX3 hown hK.1 hP 8 rfl rfl 0 (by decide) (hts _ w_fieldLink_X5_90) (fun _ h9 => h9) rfl dX5_jackRow_27 ?_
    refine lv_bipush (v := 8) hx hb dX5_jackRow_30 (by decide) ?_
    obtain ⟨o5, h6, hF⟩ := obd hF
    refine wcRVi (As := [.int (8 : Int32)]) (rest := []) (b := (an 1)) ⟨hx, hb, hml, hown, hts⟩ (met_X0_placeOf l dC dI cyI cyO an N (S_green nv) (8 : Int32) o5 h6) (cwV 1 hts (gV w_methodLink_X5_208 w_instanceMethod_X0_placeOf w_selects_X0_placeOf w_initialized_X0 w_code_X0_placeOf) rfl rfl rfl (by decide +kernel) ⟨Nat.le_of_ble_eq_true rfl, Nat.le_of_ble_eq_true rfl⟩) (va_recv hK.1 hP (ci := 0) (q0 := 9) rfl rfl) hP hK [9, 10, 11, 12, 13, 14, 15, 16] rfl rfl hl.1 (Nat.le_of_ble_eq_true rfl) dX5_jackRow_32 ⟨Nat.le_of_ble_eq_true rfl, Nat.le_of_ble_eq_true rfl⟩ hS (fun r H locs hw hP hS => ?_)
    have hw := hw.symm
    subst hw
    refine lv_bipush (v := 21) hx hb dX5_jackRow_35 (by decide) ?_
    refine lv_idiv hx hb dX5_jackRow_37 (by decide) ?_
    refine vx_ret ?_
    refine W.widen (k := 1) (n := 6) (Nat.le_of_ble_eq_true rfl) (Nat.le_of_ble_eq_true rfl) ?_
    exact W.iret (v := (o5 / (21 : Int32))) hx hb hr (fun t ht hW => ⟨⟨_, (), rfl, Option.some.inj hF, trivial⟩, hS.F ht⟩) hS.2.2 dX5_jackRow_38
  · have hF := itp c4 hF
    have hF9 : (Sum.inl 1 : Nat ⊕ Int32) = out := Option.some.inj hF
    exact thrR_1 hF9 hx hb hst (is := 206) (text := "the jack does not lie") hown hts hZ hS (hl.1.trans hml.symm) (by decide) dX5_jackRow_13 dX5_jackRow_16 dX5_jackRow_17 dX5_jackRow_19 dX5_jackRow_22 htx (Nat.le_of_ble_eq_true rfl) (Nat.le_of_ble_eq_true rfl) (Nat.le_of_ble_eq_true rfl) (Nat.le_of_ble_eq_true rfl) hlocks (Nat.le_of_ble_eq_true rfl) (Nat.le_of_ble_eq_true rfl)
theorem dX5_jackColumn_0 : decode cX5_jackColumn 0 = .ok (.aload_n 0, 1) := by decide +kernel
theorem dX5_jackColumn_1 : decode cX5_jackColumn 1 = .ok (.getfield 12, 3) := by decide +kernel
theorem dX5_jackColumn_4 : decode cX5_jackColumn 4 = .ok (.getfield 90, 3) := by decide +kernel
theorem dX5_jackColumn_7 : decode cX5_jackColumn 7 = .ok (.invokevirtual 127, 3) := by decide +kernel
theorem dX5_jackColumn_10 : decode cX5_jackColumn 10 = .ok (.ifCond .ne 13, 3) := by decide +kernel
theorem dX5_jackColumn_13 : decode cX5_jackColumn 13 = .ok (.new 60, 3) := by decide +kernel
theorem dX5_jackColumn_16 : decode cX5_jackColumn 16 = .ok (.dup, 1) := by decide +kernel
theorem dX5_jackColumn_17 : decode cX5_jackColumn 17 = .ok (.ldc 206, 2) := by decide +kernel
theorem dX5_jackColumn_19 : decode cX5_jackColumn 19 = .ok (.invokespecial 64, 3) := by decide +kernel
theorem dX5_jackColumn_22 : decode cX5_jackColumn 22 = .ok (.athrow, 1) := by decide +kernel
theorem dX5_jackColumn_23 : decode cX5_jackColumn 23 = .ok (.aload_n 0, 1) := by decide +kernel
theorem dX5_jackColumn_24 : decode cX5_jackColumn 24 = .ok (.getfield 12, 3) := by decide +kernel
theorem dX5_jackColumn_27 : decode cX5_jackColumn 27 = .ok (.getfield 90, 3) := by decide +kernel
theorem dX5_jackColumn_30 : decode cX5_jackColumn 30 = .ok (.bipush 8, 2) := by decide +kernel
theorem dX5_jackColumn_32 : decode cX5_jackColumn 32 = .ok (.invokevirtual 208, 3) := by decide +kernel
theorem dX5_jackColumn_35 : decode cX5_jackColumn 35 = .ok (.bipush 21, 2) := by decide +kernel
theorem dX5_jackColumn_37 : decode cX5_jackColumn 37 = .ok (.irem, 1) := by decide +kernel
theorem dX5_jackColumn_38 : decode cX5_jackColumn 38 = .ok (.ireturn, 1) := by decide +kernel
def f_X5_jackColumn (N : Nat) (xv : XV) (nv : SV) : Option (Nat ⊕ Int32) :=
  (f_X0_hasJack N (S_green nv)).bind (fun o1 => (if o1 = 0 then some (Sum.inl 1) else (f_X0_placeOf N (S_green nv) (8 : Int32)).bind (fun o5 => some (Sum.inr (o5 - o5 / (21 : Int32) * (21 : Int32))))))
set_option maxHeartbeats 4000000 in
set_option maxRecDepth 100000 in
theorem met_X5_jackColumn (l : Launch) (z0 : Nat) (hst : l.stackTraces = false) (dC : Nat → ClassId) (dI : Nat → Nat → Nat) (cyI cyO : ClassId) (x : Nat → Nat) (tr : Nat → Nat) (an : Nat → Nat) (fl fs : Nat → Option Nat) (N : Nat) (xv : XV) (nv : SV) (out : Nat ⊕ Int32) (hF : f_X5_jackColumn N xv nv = some out) : vx_Met l yX5_jackColumn (Cond.code yX5_jackColumn cX5_jackColumn 1 (some .int) :: wT) ({ frames := 6, cells := 1, slots := 6, locals := 82 } : Room) (wRdX z0 dC dI cyI cyO [.ref (x 0)] (([(cXo x an tr xv), (cH cyO (x 1) (x 2) 2 fl), (cXk cyI x xv), (cH cyO (x 4) (x 5) 6 fs), (cT cyI x (X_text xv)), (cSo an nv), (cG cyI an (S_green nv)), (cV cyI an (S_score nv))] : List va_W).flatten)) (va_Qi (fun (r : Int32) (_ : Unit) => Sum.inr r = out) (fun _ _ => True) wN0) (xcR Int32 out) 1 6 wN0 := by
  refine vx_ofW (cc := cX5_jackColumn) (maxL := 1) (ret := (some .int)) (by decide) rfl ?_
  intro p e s m args below meth c s₁ B hml htx hv
  obtain ⟨rfl, hP, hK, hZ⟩ := hv
  have hx := B.exec
  have hb := B.bytes
  have hr := B.returns
  have hts0 := atoms_spec (ws := (Cond.code yX5_jackColumn cX5_jackColumn 1 (some .int) :: wT)) B.pre
  have hts := fun w h => hts0 w (List.mem_cons_of_mem _ h)
  clear hts0
  have hown : s.vm.findClass RX5 = some m.cls := findClass_of_methodNamed B.named
  have hlocks := B.notSynchronized
  have hAz : ∀ q, wN0 q → z0 ≤ q := fun q h => h.elim
  have hS : va_S wN0 s.heap s.heap [] := va_S.rf
  have hl := lv_entry [.ref (x 0)] (n := 1) (Nat.le_of_ble_eq_true rfl)
  rw [lg_entry_eq]
  generalize (lg_sl [.ref (x 0)] ++ List.replicate (1 - (lg_sl [.ref (x 0)]).length) Slot.unset).toArray = ls at hl ⊢
  have hl : lv_has ls 1 [(0, .ref (x 0))] := hl
  unfold f_X5_jackColumn at hF
  refine lv_aload_n hx hb dX5_jackColumn_0 rfl (lv_at hl 0 rfl) ?_
  refine va_get (D := (dC, dI)) (ci := 5) (v := .ref (an 0)) (C := RX5) (T := TX5) (N := 8) hx hb hts inX5 hown hK.1 hP 0 rfl rfl 0 (by decide) (hts _ w_fieldLink_X5_12) (fun _ h9 => h9) rfl dX5_jackColumn_1 ?_
  refine va_get (D := (dC, dI)) (ci := 3) (v := .ref (an 1)) (C := RX3) (T := TX3) (N := 6) hx hb hts inX3 hown hK.1 hP 8 rfl rfl 0 (by decide) (hts _ w_fieldLink_X5_90) (fun _ h9 => h9) rfl dX5_jackColumn_4 ?_
  obtain ⟨o1, h2, hF⟩ := obd hF
  refine wcRVi (As := []) (rest := []) (b := (an 1)) ⟨hx, hb, hml, hown, hts⟩ (met_X0_hasJack l dC dI cyI cyO an N (S_green nv)  o1 h2) (cwV 0 hts (gV w_methodLink_X5_127 w_instanceMethod_X0_hasJack w_selects_X0_hasJack w_initialized_X0 w_code_X0_hasJack) rfl rfl rfl (by decide +kernel) ⟨Nat.le_of_ble_eq_true rfl, Nat.le_of_ble_eq_true rfl⟩) (va_recv hK.1 hP (ci := 0) (q0 := 9) rfl rfl) hP hK [9, 10, 11, 12, 13, 14, 15, 16] rfl rfl hl.1 (Nat.le_of_ble_eq_true rfl) dX5_jackColumn_7 ⟨Nat.le_of_ble_eq_true rfl, Nat.le_of_ble_eq_true rfl⟩ hS (fun r H locs hw hP hS => ?_)
  obtain ⟨hw, hz3⟩ := hw
  have hw := hw.symm
  subst hw
  refine lv_if_ne (tgt := 23) hx hb dX5_jackColumn_10 (by decide) (fun c4 => ?_) (fun c4 => ?_)
  · have hF := itn c4 hF
    refine lv_aload_n hx hb dX5_jackColumn_23 rfl (lv_at hl 0 rfl) ?_
    refine va_get (D := (dC, dI)) (ci := 5) (v := .ref (an 0)) (C := RX5) (T := TX5) (N := 8) hx hb hts inX5 hown hK.1 hP 0 rfl rfl 0 (by decide) (hts _ w_fieldLink_X5_12) (fun _ h9 => h9) rfl dX5_jackColumn_24 ?_
    refine va_get (D := (dC, dI)) (ci := 3) (v := .ref (an 1)) (C := RX3) (T := TX3) (N := 6) hx hb hts inX3 hown hK.1 hP 8 rfl rfl 0 (by decide) (hts _ w_fieldLink_X5_90) (fun _ h9 => h9) rfl dX5_jackColumn_27 ?_
    refine lv_bipush (v := 8) hx hb dX5_jackColumn_30 (by decide) ?_
    obtain ⟨o5, h6, hF⟩ := obd hF
    refine wcRVi (As := [.int (8 : Int32)]) (rest := []) (b := (an 1)) ⟨hx, hb, hml, hown, hts⟩ (met_X0_placeOf l dC dI cyI cyO an N (S_green nv) (8 : Int32) o5 h6) (cwV 1 hts (gV w_methodLink_X5_208 w_instanceMethod_X0_placeOf w_selects_X0_placeOf w_initialized_X0 w_code_X0_placeOf) rfl rfl rfl (by decide +kernel) ⟨Nat.le_of_ble_eq_true rfl, Nat.le_of_ble_eq_true rfl⟩) (va_recv hK.1 hP (ci := 0) (q0 := 9) rfl rfl) hP hK [9, 10, 11, 12, 13, 14, 15, 16] rfl rfl hl.1 (Nat.le_of_ble_eq_true rfl) dX5_jackColumn_32 ⟨Nat.le_of_ble_eq_true rfl, Nat.le_of_ble_eq_true rfl⟩ hS (fun r H locs hw hP hS => ?_)
    have hw := hw.symm
    subst hw
    refine lv_bipush (v := 21) hx hb dX5_jackColumn_35 (by decide) ?_
    refine lv_irem hx hb dX5_jackColumn_37 (by decide) ?_
    refine vx_ret ?_
    refine W.widen (k := 1) (n := 6) (Nat.le_of_ble_eq_true rfl) (Nat.le_of_ble_eq_true rfl) ?_
    exact W.iret (v := (o5 - o5 / (21 : Int32) * (21 : Int32))) hx hb hr (fun t ht hW => ⟨⟨_, (), rfl, Option.some.inj hF, trivial⟩, hS.F ht⟩) hS.2.2 dX5_jackColumn_38
  · have hF := itp c4 hF
    have hF9 : (Sum.inl 1 : Nat ⊕ Int32) = out := Option.some.inj hF
    exact thrR_1 hF9 hx hb hst (is := 206) (text := "the jack does not lie") hown hts hZ hS (hl.1.trans hml.symm) (by decide) dX5_jackColumn_13 dX5_jackColumn_16 dX5_jackColumn_17 dX5_jackColumn_19 dX5_jackColumn_22 htx (Nat.le_of_ble_eq_true rfl) (Nat.le_of_ble_eq_true rfl) (Nat.le_of_ble_eq_true rfl) (Nat.le_of_ble_eq_true rfl) hlocks (Nat.le_of_ble_eq_true rfl) (Nat.le_of_ble_eq_true rfl)
theorem dX5_isBurnt_0 : decode cX5_isBurnt 0 = .ok (.aload_n 0, 1) := by decide +kernel
theorem dX5_isBurnt_1 : decode cX5_isBurnt 1 = .ok (.getfield 12, 3) := by decide +kernel
theorem dX5_isBurnt_4 : decode cX5_isBurnt 4 = .ok (.getfield 90, 3) := by decide +kernel
theorem dX5_isBurnt_7 : decode cX5_isBurnt 7 = .ok (.invokevirtual 211, 3) := by decide +kernel
theorem dX5_isBurnt_10 : decode cX5_isBurnt 10 = .ok (.ireturn, 1) := by decide +kernel
def f_X5_isBurnt (N : Nat) (xv : XV) (nv : SV) : Option (Int32) :=
  (f_X0_isJackLost N (S_green nv)).bind (fun o1 => some o1)
set_option maxHeartbeats 4000000 in
set_option maxRecDepth 100000 in
theorem met_X5_isBurnt (l : Launch) (dC : Nat → ClassId) (dI : Nat → Nat → Nat) (cyI cyO : ClassId) (x : Nat → Nat) (tr : Nat → Nat) (an : Nat → Nat) (fl fs : Nat → Option Nat) (N : Nat) (xv : XV) (nv : SV) (out : Int32) (hF : f_X5_isBurnt N xv nv = some out) : Met l yX5_isBurnt (Cond.code yX5_isBurnt cX5_isBurnt 1 (some .boolean) :: wT) ({ frames := 2, cells := 0, slots := 0, locals := 44 } : Room) (wRd dC dI cyI cyO [.ref (x 0)] (([(cXo x an tr xv), (cH cyO (x 1) (x 2) 2 fl), (cXk cyI x xv), (cH cyO (x 4) (x 5) 6 fs), (cT cyI x (X_text xv)), (cSo an nv), (cG cyI an (S_green nv)), (cV cyI an (S_score nv))] : List va_W).flatten)) (va_Qi (fun (r : Int32) (_ : Unit) => r = out ∧ b01 r) (fun _ _ => True) wN0) 0 0 wN0 := by
  refine Met.ofW (cc := cX5_isBurnt) (maxL := 1) (ret := (some .boolean)) (by decide) rfl ?_
  intro p e s m args below meth c s₁ B hml hv
  obtain ⟨rfl, hP, hK⟩ := hv
  have hx := B.exec
  have hb := B.bytes
  have hr := B.returns
  have hts0 := atoms_spec (ws := (Cond.code yX5_isBurnt cX5_isBurnt 1 (some .boolean) :: wT)) B.pre
  have hts := fun w h => hts0 w (List.mem_cons_of_mem _ h)
  clear hts0
  have hown : s.vm.findClass RX5 = some m.cls := findClass_of_methodNamed B.named
  have hlocks := B.notSynchronized
  have hS : va_S wN0 s.heap s.heap [] := va_S.rf
  have hl := lv_entry [.ref (x 0)] (n := 1) (Nat.le_of_ble_eq_true rfl)
  rw [lg_entry_eq]
  generalize (lg_sl [.ref (x 0)] ++ List.replicate (1 - (lg_sl [.ref (x 0)]).length) Slot.unset).toArray = ls at hl ⊢
  have hl : lv_has ls 1 [(0, .ref (x 0))] := hl
  unfold f_X5_isBurnt at hF
  refine lv_aload_n hx hb dX5_isBurnt_0 rfl (lv_at hl 0 rfl) ?_
  refine va_get (D := (dC, dI)) (ci := 5) (v := .ref (an 0)) (C := RX5) (T := TX5) (N := 8) hx hb hts inX5 hown hK.1 hP 0 rfl rfl 0 (by decide) (hts _ w_fieldLink_X5_12) (fun _ h9 => h9) rfl dX5_isBurnt_1 ?_
  refine va_get (D := (dC, dI)) (ci := 3) (v := .ref (an 1)) (C := RX3) (T := TX3) (N := 6) hx hb hts inX3 hown hK.1 hP 8 rfl rfl 0 (by decide) (hts _ w_fieldLink_X5_90) (fun _ h9 => h9) rfl dX5_isBurnt_4 ?_
  obtain ⟨o1, h2, hF⟩ := obd hF
  refine wcRVi (As := []) (rest := []) (b := (an 1)) ⟨hx, hb, hml, hown, hts⟩ (met_X0_isJackLost l dC dI cyI cyO an N (S_green nv)  o1 h2) (cwV 0 hts (gV w_methodLink_X5_211 w_instanceMethod_X0_isJackLost w_selects_X0_isJackLost w_initialized_X0 w_code_X0_isJackLost) rfl rfl rfl (by decide +kernel) ⟨Nat.le_of_ble_eq_true rfl, Nat.le_of_ble_eq_true rfl⟩) (va_recv hK.1 hP (ci := 0) (q0 := 9) rfl rfl) hP hK [9, 10, 11, 12, 13, 14, 15, 16] rfl rfl hl.1 (Nat.le_of_ble_eq_true rfl) dX5_isBurnt_7 ⟨Nat.le_of_ble_eq_true rfl, Nat.le_of_ble_eq_true rfl⟩ hS (fun r H locs hw hP hS => ?_)
  obtain ⟨hw, hz3⟩ := hw
  have hw := hw.symm
  subst hw
  exact W.zret (ty := .boolean) (v := o1) hx hb hr (b01_n hz3) (fun t ht hW => ⟨⟨_, (), rfl, ⟨Option.some.inj hF, hz3⟩, trivial⟩, hS.F ht⟩) hS.2.2 dX5_isBurnt_10
theorem dX5_bowls_0 : decode cX5_bowls 0 = .ok (.aload_n 0, 1) := by decide +kernel
theorem dX5_bowls_1 : decode cX5_bowls 1 = .ok (.getfield 12, 3) := by decide +kernel
theorem dX5_bowls_4 : decode cX5_bowls 4 = .ok (.getfield 90, 3) := by decide +kernel
theorem dX5_bowls_7 : decode cX5_bowls 7 = .ok (.getfield 214, 3) := by decide +kernel
theorem dX5_bowls_10 : decode cX5_bowls 10 = .ok (.ireturn, 1) := by decide +kernel
def f_X5_bowls (N : Nat) (xv : XV) (nv : SV) : Option (Int32) :=
  some (G_bowlCount (S_green nv))
set_option maxHeartbeats 4000000 in
set_option maxRecDepth 100000 in
theorem met_X5_bowls (l : Launch) (dC : Nat → ClassId) (dI : Nat → Nat → Nat) (cyI cyO : ClassId) (x : Nat → Nat) (tr : Nat → Nat) (an : Nat → Nat) (fl fs : Nat → Option Nat) (N : Nat) (xv : XV) (nv : SV) (out : Int32) (hF : f_X5_bowls N xv nv = some out) : Met l yX5_bowls (Cond.code yX5_bowls cX5_bowls 1 (some .int) :: wT) ({ frames := 0, cells := 0, slots := 0, locals := 0 } : Room) (wRd dC dI cyI cyO [.ref (x 0)] (([(cXo x an tr xv), (cH cyO (x 1) (x 2) 2 fl), (cXk cyI x xv), (cH cyO (x 4) (x 5) 6 fs), (cT cyI x (X_text xv)), (cSo an nv), (cG cyI an (S_green nv)), (cV cyI an (S_score nv))] : List va_W).flatten)) (va_Qi (fun (r : Int32) (_ : Unit) => r = out) (fun _ _ => True) wN0) 0 0 wN0 := by
  refine Met.ofW (cc := cX5_bowls) (maxL := 1) (ret := (some .int)) (by decide) rfl ?_
  intro p e s m args below meth c s₁ B hml hv
  obtain ⟨rfl, hP, hK⟩ := hv
  have hx := B.exec
  have hb := B.bytes
  have hr := B.returns
  have hts0 := atoms_spec (ws := (Cond.code yX5_bowls cX5_bowls 1 (some .int) :: wT)) B.pre
  have hts := fun w h => hts0 w (List.mem_cons_of_mem _ h)
  clear hts0
  have hown : s.vm.findClass RX5 = some m.cls := findClass_of_methodNamed B.named
  have hlocks := B.notSynchronized
  have hS : va_S wN0 s.heap s.heap [] := va_S.rf
  have hl := lv_entry [.ref (x 0)] (n := 1) (Nat.le_of_ble_eq_true rfl)
  rw [lg_entry_eq]
  generalize (lg_sl [.ref (x 0)] ++ List.replicate (1 - (lg_sl [.ref (x 0)]).length) Slot.unset).toArray = ls at hl ⊢
  have hl : lv_has ls 1 [(0, .ref (x 0))] := hl
  unfold f_X5_bowls at hF
  refine lv_aload_n hx hb dX5_bowls_0 rfl (lv_at hl 0 rfl) ?_
  refine va_get (D := (dC, dI)) (ci := 5) (v := .ref (an 0)) (C := RX5) (T := TX5) (N := 8) hx hb hts inX5 hown hK.1 hP 0 rfl rfl 0 (by decide) (hts _ w_fieldLink_X5_12) (fun _ h9 => h9) rfl dX5_bowls_1 ?_
  refine va_get (D := (dC, dI)) (ci := 3) (v := .ref (an 1)) (C := RX3) (T := TX3) (N := 6) hx hb hts inX3 hown hK.1 hP 8 rfl rfl 0 (by decide) (hts _ w_fieldLink_X5_90) (fun _ h9 => h9) rfl dX5_bowls_4 ?_
  refine va_get (D := (dC, dI)) (ci := 0) (v := .int (G_bowlCount (S_green nv))) (C := RX0) (T := TX0) (N := 9) hx hb hts inX0 hown hK.1 hP 9 rfl rfl 7 (by decide) (hts _ w_fieldLink_X5_214) (fun _ h9 => h9) rfl dX5_bowls_7 ?_
  exact W.iret (v := (G_bowlCount (S_green nv))) hx hb hr (fun t ht hW => ⟨⟨_, (), rfl, Option.some.inj hF, trivial⟩, hS.F ht⟩) hS.2.2 dX5_bowls_10
theorem dX5_bowlsOfSide_0 : decode cX5_bowlsOfSide 0 = .ok (.aload_n 0, 1) := by decide +kernel
theorem dX5_bowlsOfSide_1 : decode cX5_bowlsOfSide 1 = .ok (.getfield 12, 3) := by decide +kernel
theorem dX5_bowlsOfSide_4 : decode cX5_bowlsOfSide 4 = .ok (.getfield 132, 3) := by decide +kernel
theorem dX5_bowlsOfSide_7 : decode cX5_bowlsOfSide 7 = .ok (.ireturn, 1) := by decide +kernel
def f_X5_bowlsOfSide (N : Nat) (xv : XV) (nv : SV) : Option (Int32) :=
  some (S_bowlsEach nv)
set_option maxHeartbeats 4000000 in
set_option maxRecDepth 100000 in
theorem met_X5_bowlsOfSide (l : Launch) (dC : Nat → ClassId) (dI : Nat → Nat → Nat) (cyI cyO : ClassId) (x : Nat → Nat) (tr : Nat → Nat) (an : Nat → Nat) (fl fs : Nat → Option Nat) (N : Nat) (xv : XV) (nv : SV) (out : Int32) (hF : f_X5_bowlsOfSide N xv nv = some out) : Met l yX5_bowlsOfSide (Cond.code yX5_bowlsOfSide cX5_bowlsOfSide 1 (some .int) :: wT) ({ frames := 0, cells := 0, slots := 0, locals := 0 } : Room) (wRd dC dI cyI cyO [.ref (x 0)] (([(cXo x an tr xv), (cH cyO (x 1) (x 2) 2 fl), (cXk cyI x xv), (cH cyO (x 4) (x 5) 6 fs), (cT cyI x (X_text xv)), (cSo an nv), (cG cyI an (S_green nv)), (cV cyI an (S_score nv))] : List va_W).flatten)) (va_Qi (fun (r : Int32) (_ : Unit) => r = out) (fun _ _ => True) wN0) 0 0 wN0 := by
  refine Met.ofW (cc := cX5_bowlsOfSide) (maxL := 1) (ret := (some .int)) (by decide) rfl ?_
  intro p e s m args below meth c s₁ B hml hv
  obtain ⟨rfl, hP, hK⟩ := hv
  have hx := B.exec
  have hb := B.bytes
  have hr := B.returns
  have hts0 := atoms_spec (ws := (Cond.code yX5_bowlsOfSide cX5_bowlsOfSide 1 (some .int) :: wT)) B.pre
  have hts := fun w h => hts0 w (List.mem_cons_of_mem _ h)
  clear hts0
  have hown : s.vm.findClass RX5 = some m.cls := findClass_of_methodNamed B.named
  have hlocks := B.notSynchronized
  have hS : va_S wN0 s.heap s.heap [] := va_S.rf
  have hl := lv_entry [.ref (x 0)] (n := 1) (Nat.le_of_ble_eq_true rfl)
  rw [lg_entry_eq]
  generalize (lg_sl [.ref (x 0)] ++ List.replicate (1 - (lg_sl [.ref (x 0)]).length) Slot.unset).toArray = ls at hl ⊢
  have hl : lv_has ls 1 [(0, .ref (x 0))] := hl
  unfold f_X5_bowlsOfSide at hF
  refine lv_aload_n hx hb dX5_bowlsOfSide_0 rfl (lv_at hl 0 rfl) ?_
  refine va_get (D := (dC, dI)) (ci := 5) (v := .ref (an 0)) (C := RX5) (T := TX5) (N := 8) hx hb hts inX5 hown hK.1 hP 0 rfl rfl 0 (by decide) (hts _ w_fieldLink_X5_12) (fun _ h9 => h9) rfl dX5_bowlsOfSide_1 ?_
  refine va_get (D := (dC, dI)) (ci := 3) (v := .int (S_bowlsEach nv)) (C := RX3) (T := TX3) (N := 6) hx hb hts inX3 hown hK.1 hP 8 rfl rfl 2 (by decide) (hts _ w_fieldLink_X5_132) (fun _ h9 => h9) rfl dX5_bowlsOfSide_4 ?_
  exact W.iret (v := (S_bowlsEach nv)) hx hb hr (fun t ht hW => ⟨⟨_, (), rfl, Option.some.inj hF, trivial⟩, hS.F ht⟩) hS.2.2 dX5_bowlsOfSide_7
theorem dX5_turn_0 : decode cX5_turn 0 = .ok (.aload_n 0, 1) := by decide +kernel
theorem dX5_turn_1 : decode cX5_turn 1 = .ok (.getfield 12, 3) := by decide +kernel
theorem dX5_turn_4 : decode cX5_turn 4 = .ok (.invokevirtual 81, 3) := by decide +kernel
theorem dX5_turn_7 : decode cX5_turn 7 = .ok (.ifCond .ne 13, 3) := by decide +kernel
theorem dX5_turn_10 : decode cX5_turn 10 = .ok (.new 60, 3) := by decide +kernel
theorem dX5_turn_13 : decode cX5_turn 13 = .ok (.dup, 1) := by decide +kernel
theorem dX5_turn_14 : decode cX5_turn 14 = .ok (.ldc 84, 2) := by decide +kernel
theorem dX5_turn_16 : decode cX5_turn 16 = .ok (.invokespecial 64, 3) := by decide +kernel
theorem dX5_turn_19 : decode cX5_turn 19 = .ok (.athrow, 1) := by decide +kernel
theorem dX5_turn_20 : decode cX5_turn 20 = .ok (.aload_n 0, 1) := by decide +kernel
theorem dX5_turn_21 : decode cX5_turn 21 = .ok (.getfield 12, 3) := by decide +kernel
theorem dX5_turn_24 : decode cX5_turn 24 = .ok (.invokevirtual 71, 3) := by decide +kernel
theorem dX5_turn_27 : decode cX5_turn 27 = .ok (.ireturn, 1) := by decide +kernel
def f_X5_turn (N : Nat) (xv : XV) (nv : SV) : Option (Nat ⊕ Int32) :=
  (f_X3_canPlay N nv).bind (fun o1 => (if o1 = 0 then some (Sum.inl 1) else (f_X3_nextSide N nv).bind (fun o5 => some (Sum.inr o5))))
set_option maxHeartbeats 4000000 in
set_option maxRecDepth 100000 in
theorem met_X5_turn (l : Launch) (z0 : Nat) (hst : l.stackTraces = false) (dC : Nat → ClassId) (dI : Nat → Nat → Nat) (cyI cyO : ClassId) (x : Nat → Nat) (tr : Nat → Nat) (an : Nat → Nat) (fl fs : Nat → Option Nat) (N : Nat) (xv : XV) (nv : SV) (out : Nat ⊕ Int32) (hF : f_X5_turn N xv nv = some out) : vx_Met l yX5_turn (Cond.code yX5_turn cX5_turn 1 (some .int) :: wT) ({ frames := 6, cells := 1, slots := 6, locals := 82 } : Room) (wRdX z0 dC dI cyI cyO [.ref (x 0)] (([(cXo x an tr xv), (cH cyO (x 1) (x 2) 2 fl), (cXk cyI x xv), (cH cyO (x 4) (x 5) 6 fs), (cT cyI x (X_text xv)), (cSo an nv), (cG cyI an (S_green nv)), (cV cyI an (S_score nv))] : List va_W).flatten)) (va_Qi (fun (r : Int32) (_ : Unit) => Sum.inr r = out) (fun _ _ => True) wN0) (xcR Int32 out) 1 6 wN0 := by
  refine vx_ofW (cc := cX5_turn) (maxL := 1) (ret := (some .int)) (by decide) rfl ?_
  intro p e s m args below meth c s₁ B hml htx hv
  obtain ⟨rfl, hP, hK, hZ⟩ := hv
  have hx := B.exec
  have hb := B.bytes
  have hr := B.returns
  have hts0 := atoms_spec (ws := (Cond.code yX5_turn cX5_turn 1 (some .int) :: wT)) B.pre
  have hts := fun w h => hts0 w (List.mem_cons_of_mem _ h)
  clear hts0
  have hown : s.vm.findClass RX5 = some m.cls := findClass_of_methodNamed B.named
  have hlocks := B.notSynchronized
  have hAz : ∀ q, wN0 q → z0 ≤ q := fun q h => h.elim
  have hS : va_S wN0 s.heap s.heap [] := va_S.rf
  have hl := lv_entry [.ref (x 0)] (n := 1) (Nat.le_of_ble_eq_true rfl)
  rw [lg_entry_eq]
  generalize (lg_sl [.ref (x 0)] ++ List.replicate (1 - (lg_sl [.ref (x 0)]).length) Slot.unset).toArray = ls at hl ⊢
  have hl : lv_has ls 1 [(0, .ref (x 0))] := hl
  unfold f_X5_turn at hF
  refine lv_aload_n hx hb dX5_turn_0 rfl (lv_at hl 0 rfl) ?_
  refine va_get (D := (dC, dI)) (ci := 5) (v := .ref (an 0)) (C := RX5) (T := TX5) (N := 8) hx hb hts inX5 hown hK.1 hP 0 rfl rfl 0 (by decide) (hts _ w_fieldLink_X5_12) (fun _ h9 => h9) rfl dX5_turn_1 ?_
  obtain ⟨o1, h2, hF⟩ := obd hF
  refine wcRVi (As := []) (rest := []) (b := (an 0)) ⟨hx, hb, hml, hown, hts⟩ (met_X3_canPlay l dC dI cyI cyO an N nv  o1 h2) (cwV 0 hts (gV w_methodLink_X5_81 w_instanceMethod_X3_canPlay w_selects_X3_canPlay w_initialized_X3 w_code_X3_canPlay) rfl rfl rfl (by decide +kernel) ⟨Nat.le_of_ble_eq_true rfl, Nat.le_of_ble_eq_true rfl⟩) (va_recv hK.1 hP (ci := 3) (q0 := 8) rfl rfl) hP hK [8, 9, 10, 11, 12, 13, 14, 15, 16, 17, 18, 19, 20] rfl rfl hl.1 (Nat.le_of_ble_eq_true rfl) dX5_turn_4 ⟨Nat.le_of_ble_eq_true rfl, Nat.le_of_ble_eq_true rfl⟩ hS (fun r H locs hw hP hS => ?_)
  obtain ⟨hw, hz3⟩ := hw
  have hw := hw.symm
  subst hw
  refine lv_if_ne (tgt := 20) hx hb dX5_turn_7 (by decide) (fun c4 => ?_) (fun c4 => ?_)
  · have hF := itn c4 hF
    refine lv_aload_n hx hb dX5_turn_20 rfl (lv_at hl 0 rfl) ?_
    refine va_get (D := (dC, dI)) (ci := 5) (v := .ref (an 0)) (C := RX5) (T := TX5) (N := 8) hx hb hts inX5 hown hK.1 hP 0 rfl rfl 0 (by decide) (hts _ w_fieldLink_X5_12) (fun _ h9 => h9) rfl dX5_turn_21 ?_
    obtain ⟨o5, h6, hF⟩ := obd hF
    refine wcRVi (As := []) (rest := []) (b := (an 0)) ⟨hx, hb, hml, hown, hts⟩ (met_X3_nextSide l dC dI cyI cyO an N nv  o5 h6) (cwV 0 hts (gV w_methodLink_X5_71 w_instanceMethod_X3_nextSide w_selects_X3_nextSide w_initialized_X3 w_code_X3_nextSide) rfl rfl rfl (by decide +kernel) ⟨Nat.le_of_ble_eq_true rfl, Nat.le_of_ble_eq_true rfl⟩) (va_recv hK.1 hP (ci := 3) (q0 := 8) rfl rfl) hP hK [8, 9, 10, 11, 12, 13, 14, 15, 16, 17, 18, 19, 20] rfl rfl hl.1 (Nat.le_of_ble_eq_true rfl) dX5_turn_24 ⟨Nat.le_of_ble_eq_true rfl, Nat.le_of_ble_eq_true rfl⟩ hS (fun r H locs hw hP hS => ?_)
    have hw := hw.symm
    subst hw
    refine vx_ret ?_
    refine W.widen (k := 1) (n := 6) (Nat.le_of_ble_eq_true rfl) (Nat.le_of_ble_eq_true rfl) ?_
    exact W.iret (v := o5) hx hb hr (fun t ht hW => ⟨⟨_, (), rfl, Option.some.inj hF, trivial⟩, hS.F ht⟩) hS.2.2 dX5_turn_27
  · have hF := itp c4 hF
    have hF9 : (Sum.inl 1 : Nat ⊕ Int32) = out := Option.some.inj hF
    exact thrR_1 hF9 hx hb hst (is := 84) (text := "no bowl can be played") hown hts hZ hS (hl.1.trans hml.symm) (by decide) dX5_turn_10 dX5_turn_13 dX5_turn_14 dX5_turn_16 dX5_turn_19 htx (Nat.le_of_ble_eq_true rfl) (Nat.le_of_ble_eq_true rfl) (Nat.le_of_ble_eq_true rfl) (Nat.le_of_ble_eq_true rfl) hlocks (Nat.le_of_ble_eq_true rfl) (Nat.le_of_ble_eq_true rfl)
theorem dX5_sideOf_0 : decode cX5_sideOf 0 = .ok (.aload_n 0, 1) := by decide +kernel
theorem dX5_sideOf_1 : decode cX5_sideOf 1 = .ok (.iload_n 1, 1) := by decide +kernel
theorem dX5_sideOf_2 : decode cX5_sideOf 2 = .ok (.invokevirtual 217, 3) := by decide +kernel
theorem dX5_sideOf_5 : decode cX5_sideOf 5 = .ok (.aload_n 0, 1) := by decide +kernel
theorem dX5_sideOf_6 : decode cX5_sideOf 6 = .ok (.getfield 12, 3) := by decide +kernel
theorem dX5_sideOf_9 : decode cX5_sideOf 9 = .ok (.getfield 90, 3) := by decide +kernel
theorem dX5_sideOf_12 : decode cX5_sideOf 12 = .ok (.getfield 220, 3) := by decide +kernel
theorem dX5_sideOf_15 : decode cX5_sideOf 15 = .ok (.iload_n 1, 1) := by decide +kernel
theorem dX5_sideOf_16 : decode cX5_sideOf 16 = .ok (.invokestatic 195, 3) := by decide +kernel
theorem dX5_sideOf_19 : decode cX5_sideOf 19 = .ok (.ireturn, 1) := by decide +kernel
def f_X5_sideOf (N : Nat) (xv : XV) (nv : SV) (p1 : Int32) : Option (Nat ⊕ Int32) :=
  (f_X5_requireBowl N xv nv p1).bind (fun o1 => exc o1 (fun k => some (Sum.inl k)) (fun (_ : Unit) => (f_X5_at N 8 (G_sides (S_green nv)) p1).bind (fun o3 => some (Sum.inr o3))))
set_option maxHeartbeats 4000000 in
set_option maxRecDepth 100000 in
theorem met_X5_sideOf (l : Launch) (z0 : Nat) (hst : l.stackTraces = false) (dC : Nat → ClassId) (dI : Nat → Nat → Nat) (cyI cyO : ClassId) (x : Nat → Nat) (tr : Nat → Nat) (an : Nat → Nat) (fl fs : Nat → Option Nat) (N : Nat) (xv : XV) (nv : SV) (p1 : Int32) (out : Nat ⊕ Int32) (hF : f_X5_sideOf N xv nv p1 = some out) : vx_Met l yX5_sideOf (Cond.code yX5_sideOf cX5_sideOf 2 (some .int) :: wT) ({ frames := 7, cells := 1, slots := 6, locals := 103 } : Room) (wRdX z0 dC dI cyI cyO [.ref (x 0), .int p1] (([(cXo x an tr xv), (cH cyO (x 1) (x 2) 2 fl), (cXk cyI x xv), (cH cyO (x 4) (x 5) 6 fs), (cT cyI x (X_text xv)), (cSo an nv), (cG cyI an (S_green nv)), (cV cyI an (S_score nv))] : List va_W).flatten)) (va_Qi (fun (r : Int32) (_ : Unit) => Sum.inr r = out) (fun _ _ => True) wN0) (xcR Int32 out) 1 6 wN0 := by
  refine vx_ofW (cc := cX5_sideOf) (maxL := 2) (ret := (some .int)) (by decide) rfl ?_
  intro p e s m args below meth c s₁ B hml htx hv
  obtain ⟨rfl, hP, hK, hZ⟩ := hv
  have hx := B.exec
  have hb := B.bytes
  have hr := B.returns
  have hts0 := atoms_spec (ws := (Cond.code yX5_sideOf cX5_sideOf 2 (some .int) :: wT)) B.pre
  have hts := fun w h => hts0 w (List.mem_cons_of_mem _ h)
  clear hts0
  have hown : s.vm.findClass RX5 = some m.cls := findClass_of_methodNamed B.named
  have hlocks := B.notSynchronized
  have hAz : ∀ q, wN0 q → z0 ≤ q := fun q h => h.elim
  have hS : va_S wN0 s.heap s.heap [] := va_S.rf
  have hl := lv_entry [.ref (x 0), .int p1] (n := 2) (Nat.le_of_ble_eq_true rfl)
  rw [lg_entry_eq]
  generalize (lg_sl [.ref (x 0), .int p1] ++ List.replicate (2 - (lg_sl [.ref (x 0), .int p1]).length) Slot.unset).toArray = ls at hl ⊢
  have hl : lv_has ls 2 [(0, .ref (x 0)), (1, .int p1)] := hl
  unfold f_X5_sideOf at hF
  refine lv_aload_n hx hb dX5_sideOf_0 rfl (lv_at hl 0 rfl) ?_
  refine lv_iload_n hx hb dX5_sideOf_1 rfl (lv_at hl 1 rfl) ?_
  obtain ⟨o1, h2, hF⟩ := obd hF
  refine wxRVv (As := [.int p1]) (rest := []) (b := (x 0)) ⟨hx, hb, hml, hown, hts⟩ (met_X5_requireBowl l z0 hst dC dI cyI cyO x tr an fl fs N xv nv p1 o1 h2) (cwV 1 hts (gV w_methodLink_X5_217 w_instanceMethod_X5_requireBowl w_selects_X5_requireBowl w_initialized_X5 w_code_X5_requireBowl) rfl rfl rfl (by decide +kernel) ⟨Nat.le_of_ble_eq_true rfl, Nat.le_of_ble_eq_true rfl⟩) (va_recv hK.1 hP (ci := 5) (q0 := 0) rfl rfl) hP hK hZ hAz [0, 1, 2, 3, 4, 5, 6, 7, 8, 9, 10, 11, 12, 13, 14, 15, 16, 17, 18, 19, 20] rfl rfl hl.1 (Nat.le_of_ble_eq_true rfl) dX5_sideOf_2 ⟨Nat.le_of_ble_eq_true rfl, Nat.le_of_ble_eq_true rfl⟩ hS (fun k ce q9 H locs hw hP hS h9 hv9 hc9 => ?_) (fun H locs hw hP hS => ?_)
  · have hw := hw.symm
    subst hw
    have hF := exc_l hF
    exact outR (Option.some.inj hF) htx hlocks hS h9 hv9 hc9 (Nat.le_of_ble_eq_true rfl) (Nat.le_of_ble_eq_true rfl)
  · skip
    have hw := hw.symm
    subst hw
    have hF := exc_r hF
    refine lv_aload_n hx hb dX5_sideOf_5 rfl (lv_at hl 0 rfl) ?_
    refine va_get (D := (dC, dI)) (ci := 5) (v := .ref (an 0)) (C := RX5) (T := TX5) (N := 8) hx hb hts inX5 hown hK.1 hP 0 rfl rfl 0 (by decide) (hts _ w_fieldLink_X5_12) (fun _ h9 => h9) rfl dX5_sideOf_6 ?_
    refine va_get (D := (dC, dI)) (ci := 3) (v := .ref (an 1)) (C := RX3) (T := TX3) (N := 6) hx hb hts inX3 hown hK.1 hP 8 rfl rfl 0 (by decide) (hts _ w_fieldLink_X5_90) (fun _ h9 => h9) rfl dX5_sideOf_9 ?_
    refine va_get (D := (dC, dI)) (ci := 0) (v := .ref (an 3)) (C := RX0) (T := TX0) (N := 9) hx hb hts inX0 hown hK.1 hP 9 rfl rfl 1 (by decide) (hts _ w_fieldLink_X5_220) (fun _ h9 => h9) rfl dX5_sideOf_12 ?_
    refine lv_iload_n hx hb dX5_sideOf_15 rfl (lv_at hl 1 rfl) ?_
    obtain ⟨o3, h4, hF⟩ := obd hF
    refine wcRSi (As := [.ref (an 3), .int p1]) (rest := []) ⟨hx, hb, hml, hown, hts⟩ (met_X5_at l dC dI cyI cyO (an 3) 8 N (G_sides (S_green nv)) p1 o3 h4) (va_cwS 2 hts (gS w_methodLink_X5_195 w_static_X5_at w_initialized_X5 w_code_X5_at) rfl rfl rfl (by decide +kernel) ⟨Nat.le_of_ble_eq_true rfl, Nat.le_of_ble_eq_true rfl⟩) hP hK [11] rfl rfl hl.1 (Nat.le_of_ble_eq_true rfl) dX5_sideOf_16 ⟨Nat.le_of_ble_eq_true rfl, Nat.le_of_ble_eq_true rfl⟩ hS (fun r H locs hw hP hS => ?_)
    have hw := hw.symm
    subst hw
    refine vx_ret ?_
    refine W.widen (k := 1) (n := 6) (Nat.le_of_ble_eq_true rfl) (Nat.le_of_ble_eq_true rfl) ?_
    exact W.iret (v := o3) hx hb hr (fun t ht hW => ⟨⟨_, (), rfl, Option.some.inj hF, trivial⟩, hS.F ht⟩) hS.2.2 dX5_sideOf_19
theorem dX5_stateOf_0 : decode cX5_stateOf 0 = .ok (.aload_n 0, 1) := by decide +kernel
theorem dX5_stateOf_1 : decode cX5_stateOf 1 = .ok (.iload_n 1, 1) := by decide +kernel
theorem dX5_stateOf_2 : decode cX5_stateOf 2 = .ok (.invokevirtual 217, 3) := by decide +kernel
theorem dX5_stateOf_5 : decode cX5_stateOf 5 = .ok (.aload_n 0, 1) := by decide +kernel
theorem dX5_stateOf_6 : decode cX5_stateOf 6 = .ok (.getfield 12, 3) := by decide +kernel
theorem dX5_stateOf_9 : decode cX5_stateOf 9 = .ok (.getfield 90, 3) := by decide +kernel
theorem dX5_stateOf_12 : decode cX5_stateOf 12 = .ok (.iload_n 1, 1) := by decide +kernel
theorem dX5_stateOf_13 : decode cX5_stateOf 13 = .ok (.invokevirtual 94, 3) := by decide +kernel
theorem dX5_stateOf_16 : decode cX5_stateOf 16 = .ok (.ireturn, 1) := by decide +kernel
def f_X5_stateOf (N : Nat) (xv : XV) (nv : SV) (p1 : Int32) : Option (Nat ⊕ Int32) :=
  (f_X5_requireBowl N xv nv p1).bind (fun o1 => exc o1 (fun k => some (Sum.inl k)) (fun (_ : Unit) => (f_X0_fateOf N (S_green nv) p1).bind (fun o3 => some (Sum.inr o3))))
set_option maxHeartbeats 4000000 in
set_option maxRecDepth 100000 in
theorem met_X5_stateOf (l : Launch) (z0 : Nat) (hst : l.stackTraces = false) (dC : Nat → ClassId) (dI : Nat → Nat → Nat) (cyI cyO : ClassId) (x : Nat → Nat) (tr : Nat → Nat) (an : Nat → Nat) (fl fs : Nat → Option Nat) (N : Nat) (xv : XV) (nv : SV) (p1 : Int32) (out : Nat ⊕ Int32) (hF : f_X5_stateOf N xv nv p1 = some out) : vx_Met l yX5_stateOf (Cond.code yX5_stateOf cX5_stateOf 2 (some .int) :: wT) ({ frames := 7, cells := 1, slots := 6, locals := 103 } : Room) (wRdX z0 dC dI cyI cyO [.ref (x 0), .int p1] (([(cXo x an tr xv), (cH cyO (x 1) (x 2) 2 fl), (cXk cyI x xv), (cH cyO (x 4) (x 5) 6 fs), (cT cyI x (X_text xv)), (cSo an nv), (cG cyI an (S_green nv)), (cV cyI an (S_score nv))] : List va_W).flatten)) (va_Qi (fun (r : Int32) (_ : Unit) => Sum.inr r = out) (fun _ _ => True) wN0) (xcR Int32 out) 1 6 wN0 := by
  refine vx_ofW (cc := cX5_stateOf) (maxL := 2) (ret := (some .int)) (by decide) rfl ?_
  intro p e s m args below meth c s₁ B hml htx hv
  obtain ⟨rfl, hP, hK, hZ⟩ := hv
  have hx := B.exec
  have hb := B.bytes
  have hr := B.returns
  have hts0 := atoms_spec (ws := (Cond.code yX5_stateOf cX5_stateOf 2 (some .int) :: wT)) B.pre
  have hts := fun w h => hts0 w (List.mem_cons_of_mem _ h)
  clear hts0
  have hown : s.vm.findClass RX5 = some m.cls := findClass_of_methodNamed B.named
  have hlocks := B.notSynchronized
  have hAz : ∀ q, wN0 q → z0 ≤ q := fun q h => h.elim
  have hS : va_S wN0 s.heap s.heap [] := va_S.rf
  have hl := lv_entry [.ref (x 0), .int p1] (n := 2) (Nat.le_of_ble_eq_true rfl)
  rw [lg_entry_eq]
  generalize (lg_sl [.ref (x 0), .int p1] ++ List.replicate (2 - (lg_sl [.ref (x 0), .int p1]).length) Slot.unset).toArray = ls at hl ⊢
  have hl : lv_has ls 2 [(0, .ref (x 0)), (1, .int p1)] := hl
  unfold f_X5_stateOf at hF
  refine lv_aload_n hx hb dX5_stateOf_0 rfl (lv_at hl 0 rfl) ?_
  refine lv_iload_n hx hb dX5_stateOf_1 rfl (lv_at hl 1 rfl) ?_
  obtain ⟨o1, h2, hF⟩ := obd hF
  refine wxRVv (As := [.int p1]) (rest := []) (b := (x 0)) ⟨hx, hb, hml, hown, hts⟩ (met_X5_requireBowl l z0 hst dC dI cyI cyO x tr an fl fs N xv nv p1 o1 h2) (cwV 1 hts (gV w_methodLink_X5_217 w_instanceMethod_X5_requireBowl w_selects_X5_requireBowl w_initialized_X5 w_code_X5_requireBowl) rfl rfl rfl (by decide +kernel) ⟨Nat.le_of_ble_eq_true rfl, Nat.le_of_ble_eq_true rfl⟩) (va_recv hK.1 hP (ci := 5) (q0 := 0) rfl rfl) hP hK hZ hAz [0, 1, 2, 3, 4, 5, 6, 7, 8, 9, 10, 11, 12, 13, 14, 15, 16, 17, 18, 19, 20] rfl rfl hl.1 (Nat.le_of_ble_eq_true rfl) dX5_stateOf_2 ⟨Nat.le_of_ble_eq_true rfl, Nat.le_of_ble_eq_true rfl⟩ hS (fun k ce q9 H locs hw hP hS h9 hv9 hc9 => ?_) (fun H locs hw hP hS => ?_)
  · have hw := hw.symm
    subst hw
    have hF := exc_l hF
    exact outR (Option.some.inj hF) htx hlocks hS h9 hv9 hc9 (Nat.le_of_ble_eq_true rfl) (Nat.le_of_ble_eq_true rfl)
  · skip
    have hw := hw.symm
    subst hw
    have hF := exc_r hF
    refine lv_aload_n hx hb dX5_stateOf_5 rfl (lv_at hl 0 rfl) ?_
    refine va_get (D := (dC, dI)) (ci := 5) (v := .ref (an 0)) (C := RX5) (T := TX5) (N := 8) hx hb hts inX5 hown hK.1 hP 0 rfl rfl 0 (by decide) (hts _ w_fieldLink_X5_12) (fun _ h9 => h9) rfl dX5_stateOf_6 ?_
    refine va_get (D := (dC, dI)) (ci := 3) (v := .ref (an 1)) (C := RX3) (T := TX3) (N := 6) hx hb hts inX3 hown hK.1 hP 8 rfl rfl 0 (by decide) (hts _ w_fieldLink_X5_90) (fun _ h9 => h9) rfl dX5_stateOf_9 ?_
    refine lv_iload_n hx hb dX5_stateOf_12 rfl (lv_at hl 1 rfl) ?_
    obtain ⟨o3, h4, hF⟩ := obd hF
    refine wcRVi (As := [.int p1]) (rest := []) (b := (an 1)) ⟨hx, hb, hml, hown, hts⟩ (met_X0_fateOf l dC dI cyI cyO an N (S_green nv) p1 o3 h4) (cwV 1 hts (gV w_methodLink_X5_94 w_instanceMethod_X0_fateOf w_selects_X0_fateOf w_initialized_X0 w_code_X0_fateOf) rfl rfl rfl (by decide +kernel) ⟨Nat.le_of_ble_eq_true rfl, Nat.le_of_ble_eq_true rfl⟩) (va_recv hK.1 hP (ci := 0) (q0 := 9) rfl rfl) hP hK [9, 10, 11, 12, 13, 14, 15, 16] rfl rfl hl.1 (Nat.le_of_ble_eq_true rfl) dX5_stateOf_13 ⟨Nat.le_of_ble_eq_true rfl, Nat.le_of_ble_eq_true rfl⟩ hS (fun r H locs hw hP hS => ?_)
    have hw := hw.symm
    subst hw
    refine vx_ret ?_
    refine W.widen (k := 1) (n := 6) (Nat.le_of_ble_eq_true rfl) (Nat.le_of_ble_eq_true rfl) ?_
    exact W.iret (v := o3) hx hb hr (fun t ht hW => ⟨⟨_, (), rfl, Option.some.inj hF, trivial⟩, hS.F ht⟩) hS.2.2 dX5_stateOf_16
theorem dX5_rowOf_0 : decode cX5_rowOf 0 = .ok (.aload_n 0, 1) := by decide +kernel
theorem dX5_rowOf_1 : decode cX5_rowOf 1 = .ok (.iload_n 1, 1) := by decide +kernel
theorem dX5_rowOf_2 : decode cX5_rowOf 2 = .ok (.invokevirtual 217, 3) := by decide +kernel
theorem dX5_rowOf_5 : decode cX5_rowOf 5 = .ok (.aload_n 0, 1) := by decide +kernel
theorem dX5_rowOf_6 : decode cX5_rowOf 6 = .ok (.iload_n 1, 1) := by decide +kernel
theorem dX5_rowOf_7 : decode cX5_rowOf 7 = .ok (.invokevirtual 223, 3) := by decide +kernel
theorem dX5_rowOf_10 : decode cX5_rowOf 10 = .ok (.aload_n 0, 1) := by decide +kernel
theorem dX5_rowOf_11 : decode cX5_rowOf 11 = .ok (.getfield 12, 3) := by decide +kernel
theorem dX5_rowOf_14 : decode cX5_rowOf 14 = .ok (.getfield 90, 3) := by decide +kernel
theorem dX5_rowOf_17 : decode cX5_rowOf 17 = .ok (.iload_n 1, 1) := by decide +kernel
theorem dX5_rowOf_18 : decode cX5_rowOf 18 = .ok (.invokevirtual 208, 3) := by decide +kernel
theorem dX5_rowOf_21 : decode cX5_rowOf 21 = .ok (.bipush 21, 2) := by decide +kernel
theorem dX5_rowOf_23 : decode cX5_rowOf 23 = .ok (.idiv, 1) := by decide +kernel
theorem dX5_rowOf_24 : decode cX5_rowOf 24 = .ok (.ireturn, 1) := by decide +kernel
def f_X5_rowOf (N : Nat) (xv : XV) (nv : SV) (p1 : Int32) : Option (Nat ⊕ Int32) :=
  (f_X5_requireBowl N xv nv p1).bind (fun o1 => exc o1 (fun k => some (Sum.inl k)) (fun (_ : Unit) => (f_X5_requireAlive N xv nv p1).bind (fun o3 => exc o3 (fun k => some (Sum.inl k)) (fun (_ : Unit) => (f_X0_placeOf N (S_green nv) p1).bind (fun o5 => some (Sum.inr (o5 / (21 : Int32))))))))
set_option maxHeartbeats 4000000 in
set_option maxRecDepth 100000 in
theorem met_X5_rowOf (l : Launch) (z0 : Nat) (hst : l.stackTraces = false) (dC : Nat → ClassId) (dI : Nat → Nat → Nat) (cyI cyO : ClassId) (x : Nat → Nat) (tr : Nat → Nat) (an : Nat → Nat) (fl fs : Nat → Option Nat) (N : Nat) (xv : XV) (nv : SV) (p1 : Int32) (out : Nat ⊕ Int32) (hF : f_X5_rowOf N xv nv p1 = some out) : vx_Met l yX5_rowOf (Cond.code yX5_rowOf cX5_rowOf 2 (some .int) :: wT) ({ frames := 7, cells := 2, slots := 12, locals := 103 } : Room) (wRdX z0 dC dI cyI cyO [.ref (x 0), .int p1] (([(cXo x an tr xv), (cH cyO (x 1) (x 2) 2 fl), (cXk cyI x xv), (cH cyO (x 4) (x 5) 6 fs), (cT cyI x (X_text xv)), (cSo an nv), (cG cyI an (S_green nv)), (cV cyI an (S_score nv))] : List va_W).flatten)) (va_Qi (fun (r : Int32) (_ : Unit) => Sum.inr r = out) (fun _ _ => True) wN0) (xcR Int32 out) 2 12 wN0 := by
  refine vx_ofW (cc := cX5_rowOf) (maxL := 2) (ret := (some .int)) (by decide) rfl ?_
  intro p e s m args below meth c s₁ B hml htx hv
  obtain ⟨rfl, hP, hK, hZ⟩ := hv
  have hx := B.exec
  have hb := B.bytes
  have hr := B.returns
  have hts0 := atoms_spec (ws := (Cond.code yX5_rowOf cX5_rowOf 2 (some .int) :: wT)) B.pre
  have hts := fun w h => hts0 w (List.mem_cons_of_mem _ h)
  clear hts0
  have hown : s.vm.findClass RX5 = some m.cls := findClass_of_methodNamed B.named
  have hlocks := B.notSynchronized
  have hAz : ∀ q, wN0 q → z0 ≤ q := fun q h => h.elim
  have hS : va_S wN0 s.heap s.heap [] := va_S.rf
  have hl := lv_entry [.ref (x 0), .int p1] (n := 2) (Nat.le_of_ble_eq_true rfl)
  rw [lg_entry_eq]
  generalize (lg_sl [.ref (x 0), .int p1] ++ List.replicate (2 - (lg_sl [.ref (x 0), .int p1]).length) Slot.unset).toArray = ls at hl ⊢
  have hl : lv_has ls 2 [(0, .ref (x 0)), (1, .int p1)] := hl
  unfold f_X5_rowOf at hF
  refine lv_aload_n hx hb dX5_rowOf_0 rfl (lv_at hl 0 rfl) ?_
  refine lv_iload_n hx hb dX5_rowOf_1 rfl (lv_at hl 1 rfl) ?_
  obtain ⟨o1, h2, hF⟩ := obd hF
  refine wxRVv (As := [.int p1]) (rest := []) (b := (x 0)) ⟨hx, hb, hml, hown, hts⟩ (met_X5_requireBowl l z0 hst dC dI cyI cyO x tr an fl fs N xv nv p1 o1 h2) (cwV 1 hts (gV w_methodLink_X5_217 w_instanceMethod_X5_requireBowl w_selects_X5_requireBowl w_initialized_X5 w_code_X5_requireBowl) rfl rfl rfl (by decide +kernel) ⟨Nat.le_of_ble_eq_true rfl, Nat.le_of_ble_eq_true rfl⟩) (va_recv hK.1 hP (ci := 5) (q0 := 0) rfl rfl) hP hK hZ hAz [0, 1, 2, 3, 4, 5, 6, 7, 8, 9, 10, 11, 12, 13, 14, 15, 16, 17, 18, 19, 20] rfl rfl hl.1 (Nat.le_of_ble_eq_true rfl) dX5_rowOf_2 ⟨Nat.le_of_ble_eq_true rfl, Nat.le_of_ble_eq_true rfl⟩ hS (fun k ce q9 H locs hw hP hS h9 hv9 hc9 => ?_) (fun H locs hw hP hS => ?_)
  · have hw := hw.symm
    subst hw
    have hF := exc_l hF
    exact outR (Option.some.inj hF) htx hlocks hS h9 hv9 hc9 (Nat.le_of_ble_eq_true rfl) (Nat.le_of_ble_eq_true rfl)
  · skip
    have hw := hw.symm
    subst hw
    have hF := exc_r hF
    refine lv_aload_n hx hb dX5_rowOf_5 rfl (lv_at hl 0 rfl) ?_
    refine lv_iload_n hx hb dX5_rowOf_6 rfl (lv_at hl 1 rfl) ?_
    obtain ⟨o3, h4, hF⟩ := obd hF
    refine wxRVv (As := [.int p1]) (rest := []) (b := (x 0)) ⟨hx, hb, hml, hown, hts⟩ (met_X5_requireAlive l z0 hst dC dI cyI cyO x tr an fl fs N xv nv p1 o3 h4) (cwV 1 hts (gV w_methodLink_X5_223 w_instanceMethod_X5_requireAlive w_selects_X5_requireAlive w_initialized_X5 w_code_X5_requireAlive) rfl rfl rfl (by decide +kernel) ⟨Nat.le_of_ble_eq_true rfl, Nat.le_of_ble_eq_true rfl⟩) (va_recv hK.1 hP (ci := 5) (q0 := 0) rfl rfl) hP hK hZ hAz [0, 1, 2, 3, 4, 5, 6, 7, 8, 9, 10, 11, 12, 13, 14, 15, 16, 17, 18, 19, 20] rfl rfl hl.1 (Nat.le_of_ble_eq_true rfl) dX5_rowOf_7 ⟨Nat.le_of_ble_eq_true rfl, Nat.le_of_ble_eq_true rfl⟩ hS (fun k ce q9 H locs hw hP hS h9 hv9 hc9 => ?_) (fun H locs hw hP hS => ?_)
    · have hw := hw.symm
      subst hw
      have hF := exc_l hF
      exact outR (Option.some.inj hF) htx hlocks hS h9 hv9 hc9 (Nat.le_of_ble_eq_true rfl) (Nat.le_of_ble_eq_true rfl)
    · skip
      have hw := hw.symm
      subst hw
      have hF := exc_r hF
      refine lv_aload_n hx hb dX5_rowOf_10 rfl (lv_at hl 0 rfl) ?_
      refine va_get (D := (dC, dI)) (ci := 5) (v := .ref (an 0)) (C := RX5) (T := TX5) (N := 8) hx hb hts inX5 hown hK.1 hP 0 rfl rfl 0 (by decide) (hts _ w_fieldLink_X5_12) (fun _ h9 => h9) rfl dX5_rowOf_11 ?_
      refine va_get (D := (dC, dI)) (ci := 3) (v := .ref (an 1)) (C := RX3) (T := TX3) (N := 6) hx hb hts inX3 hown hK.1 hP 8 rfl rfl 0 (by decide) (hts _ w_fieldLink_X5_90) (fun _ h9 => h9) rfl dX5_rowOf_14 ?_
      refine lv_iload_n hx hb dX5_rowOf_17 rfl (lv_at hl 1 rfl) ?_
      obtain ⟨o5, h6, hF⟩ := obd hF
      refine wcRVi (As := [.int p1]) (rest := []) (b := (an 1)) ⟨hx, hb, hml, hown, hts⟩ (met_X0_placeOf l dC dI cyI cyO an N (S_green nv) p1 o5 h6) (cwV 1 hts (gV w_methodLink_X5_208 w_instanceMethod_X0_placeOf w_selects_X0_placeOf w_initialized_X0 w_code_X0_placeOf) rfl rfl rfl (by decide +kernel) ⟨Nat.le_of_ble_eq_true rfl, Nat.le_of_ble_eq_true rfl⟩) (va_recv hK.1 hP (ci := 0) (q0 := 9) rfl rfl) hP hK [9, 10, 11, 12, 13, 14, 15, 16] rfl rfl hl.1 (Nat.le_of_ble_eq_true rfl) dX5_rowOf_18 ⟨Nat.le_of_ble_eq_true rfl, Nat.le_of_ble_eq_true rfl⟩ hS (fun r H locs hw hP hS => ?_)
      have hw := hw.symm
      subst hw
      refine lv_bipush (v := 21) hx hb dX5_rowOf_21 (by decide) ?_
      refine lv_idiv hx hb dX5_rowOf_23 (by decide) ?_
      refine vx_ret ?_
      refine W.widen (k := 2) (n := 12) (Nat.le_of_ble_eq_true rfl) (Nat.le_of_ble_eq_true rfl) ?_
      exact W.iret (v := (o5 / (21 : Int32))) hx hb hr (fun t ht hW => ⟨⟨_, (), rfl, Option.some.inj hF, trivial⟩, hS.F ht⟩) hS.2.2 dX5_rowOf_24
theorem dX5_columnOf_0 : decode cX5_columnOf 0 = .ok (.aload_n 0, 1) := by decide +kernel
theorem dX5_columnOf_1 : decode cX5_columnOf 1 = .ok (.iload_n 1, 1) := by decide +kernel
theorem dX5_columnOf_2 : decode cX5_columnOf 2 = .ok (.invokevirtual 217, 3) := by decide +kernel
theorem dX5_columnOf_5 : decode cX5_columnOf 5 = .ok (.aload_n 0, 1) := by decide +kernel
theorem dX5_columnOf_6 : decode cX5_columnOf 6 = .ok (.iload_n 1, 1) := by decide +kernel
theorem dX5_columnOf_7 : decode cX5_columnOf 7 = .ok (.invokevirtual 223, 3) := by decide +kernel
theorem dX5_columnOf_10 : decode cX5_columnOf 10 = .ok (.aload_n 0, 1) := by decide +kernel
theorem dX5_columnOf_11 : decode cX5_columnOf 11 = .ok (.getfield 12, 3) := by decide +kernel
theorem dX5_columnOf_14 : decode cX5_columnOf 14 = .ok (.getfield 90, 3) := by decide +kernel
theorem dX5_columnOf_17 : decode cX5_columnOf 17 = .ok (.iload_n 1, 1) := by decide +kernel
theorem dX5_columnOf_18 : decode cX5_columnOf 18 = .ok (.invokevirtual 208, 3) := by decide +kernel
theorem dX5_columnOf_21 : decode cX5_columnOf 21 = .ok (.bipush 21, 2) := by decide +kernel
theorem dX5_columnOf_23 : decode cX5_columnOf 23 = .ok (.irem, 1) := by decide +kernel
theorem dX5_columnOf_24 : decode cX5_columnOf 24 = .ok (.ireturn, 1) := by decide +kernel
def f_X5_columnOf (N : Nat) (xv : XV) (nv : SV) (p1 : Int32) : Option (Nat ⊕ Int32) :=
  (f_X5_requireBowl N xv nv p1).bind (fun o1 => exc o1 (fun k => some (Sum.inl k)) (fun (_ : Unit) => (f_X5_requireAlive N xv nv p1).bind (fun o3 => exc o3 (fun k => some (Sum.inl k)) (fun (_ : Unit) => (f_X0_placeOf N (S_green nv) p1).bind (fun o5 => some (Sum.inr (o5 - o5 / (21 : Int32) * (21 : Int32))))))))
set_option maxHeartbeats 4000000 in
set_option maxRecDepth 100000 in
theorem met_X5_columnOf (l : Launch) (z0 : Nat) (hst : l.stackTraces = false) (dC : Nat → ClassId) (dI : Nat → Nat → Nat) (cyI cyO : ClassId) (x : Nat → Nat) (tr : Nat → Nat) (an : Nat → Nat) (fl fs : Nat → Option Nat) (N : Nat) (xv : XV) (nv : SV) (p1 : Int32) (out : Nat ⊕ Int32) (hF : f_X5_columnOf N xv nv p1 = some out) : vx_Met l yX5_columnOf (Cond.code yX5_columnOf cX5_columnOf 2 (some .int) :: wT) ({ frames := 7, cells := 2, slots := 12, locals := 103 } : Room) (wRdX z0 dC dI cyI cyO [.ref (x 0), .int p1] (([(cXo x an tr xv), (cH cyO (x 1) (x 2) 2 fl), (cXk cyI x xv), (cH cyO (x 4) (x 5) 6 fs), (cT cyI x (X_text xv)), (cSo an nv), (cG cyI an (S_green nv)), (cV cyI an (S_score nv))] : List va_W).flatten)) (va_Qi (fun (r : Int32) (_ : Unit) => Sum.inr r = out) (fun _ _ => True) wN0) (xcR Int32 out) 2 12 wN0 := by
  refine vx_ofW (cc := cX5_columnOf) (maxL := 2) (ret := (some .int)) (by decide) rfl ?_
  intro p e s m args below meth c s₁ B hml htx hv
  obtain ⟨rfl, hP, hK, hZ⟩ := hv
  have hx := B.exec
  have hb := B.bytes
  have hr := B.returns
  have hts0 := atoms_spec (ws := (Cond.code yX5_columnOf cX5_columnOf 2 (some .int) :: wT)) B.pre
  have hts := fun w h => hts0 w (List.mem_cons_of_mem _ h)
  clear hts0
  have hown : s.vm.findClass RX5 = some m.cls := findClass_of_methodNamed B.named
  have hlocks := B.notSynchronized
  have hAz : ∀ q, wN0 q → z0 ≤ q := fun q h => h.elim
  have hS : va_S wN0 s.heap s.heap [] := va_S.rf
  have hl := lv_entry [.ref (x 0), .int p1] (n := 2) (Nat.le_of_ble_eq_true rfl)
  rw [lg_entry_eq]
  generalize (lg_sl [.ref (x 0), .int p1] ++ List.replicate (2 - (lg_sl [.ref (x 0), .int p1]).length) Slot.unset).toArray = ls at hl ⊢
  have hl : lv_has ls 2 [(0, .ref (x 0)), (1, .int p1)] := hl
  unfold f_X5_columnOf at hF
  refine lv_aload_n hx hb dX5_columnOf_0 rfl (lv_at hl 0 rfl) ?_
  refine lv_iload_n hx hb dX5_columnOf_1 rfl (lv_at hl 1 rfl) ?_
  obtain ⟨o1, h2, hF⟩ := obd hF
  refine wxRVv (As := [.int p1]) (rest := []) (b := (x 0)) ⟨hx, hb, hml, hown, hts⟩ (met_X5_requireBowl l z0 hst dC dI cyI cyO x tr an fl fs N xv nv p1 o1 h2) (cwV 1 hts (gV w_methodLink_X5_217 w_instanceMethod_X5_requireBowl w_selects_X5_requireBowl w_initialized_X5 w_code_X5_requireBowl) rfl rfl rfl (by decide +kernel) ⟨Nat.le_of_ble_eq_true rfl, Nat.le_of_ble_eq_true rfl⟩) (va_recv hK.1 hP (ci := 5) (q0 := 0) rfl rfl) hP hK hZ hAz [0, 1, 2, 3, 4, 5, 6, 7, 8, 9, 10, 11, 12, 13, 14, 15, 16, 17, 18, 19, 20] rfl rfl hl.1 (Nat.le_of_ble_eq_true rfl) dX5_columnOf_2 ⟨Nat.le_of_ble_eq_true rfl, Nat.le_of_ble_eq_true rfl⟩ hS (fun k ce q9 H locs hw hP hS h9 hv9 hc9 => ?_) (fun H locs hw hP hS => ?_)
  · have hw := hw.symm
    subst hw
    have hF := exc_l hF
    exact outR (Option.some.inj hF) htx hlocks hS h9 hv9 hc9 (Nat.le_of_ble_eq_true rfl) (Nat.le_of_ble_eq_true rfl)
  · skip
    have hw := hw.symm
    subst hw
    have hF := exc_r hF
    refine lv_aload_n hx hb dX5_columnOf_5 rfl (lv_at hl 0 rfl) ?_
    refine lv_iload_n hx hb dX5_columnOf_6 rfl (lv_at hl 1 rfl) ?_
    obtain ⟨o3, h4, hF⟩ := obd hF
    refine wxRVv (As := [.int p1]) (rest := []) (b := (x 0)) ⟨hx, hb, hml, hown, hts⟩ (met_X5_requireAlive l z0 hst dC dI cyI cyO x tr an fl fs N xv nv p1 o3 h4) (cwV 1 hts (gV w_methodLink_X5_223 w_instanceMethod_X5_requireAlive w_selects_X5_requireAlive w_initialized_X5 w_code_X5_requireAlive) rfl rfl rfl (by decide +kernel) ⟨Nat.le_of_ble_eq_true rfl, Nat.le_of_ble_eq_true rfl⟩) (va_recv hK.1 hP (ci := 5) (q0 := 0) rfl rfl) hP hK hZ hAz [0, 1, 2, 3, 4, 5, 6, 7, 8, 9, 10, 11, 12, 13, 14, 15, 16, 17, 18, 19, 20] rfl rfl hl.1 (Nat.le_of_ble_eq_true rfl) dX5_columnOf_7 ⟨Nat.le_of_ble_eq_true rfl, Nat.le_of_ble_eq_true rfl⟩ hS (fun k ce q9 H locs hw hP hS h9 hv9 hc9 => ?_) (fun H locs hw hP hS => ?_)
    · have hw := hw.symm
      subst hw
      have hF := exc_l hF
      exact outR (Option.some.inj hF) htx hlocks hS h9 hv9 hc9 (Nat.le_of_ble_eq_true rfl) (Nat.le_of_ble_eq_true rfl)
    · skip
      have hw := hw.symm
      subst hw
      have hF := exc_r hF
      refine lv_aload_n hx hb dX5_columnOf_10 rfl (lv_at hl 0 rfl) ?_
      refine va_get (D := (dC, dI)) (ci := 5) (v := .ref (an 0)) (C := RX5) (T := TX5) (N := 8) hx hb hts inX5 hown hK.1 hP 0 rfl rfl 0 (by decide) (hts _ w_fieldLink_X5_12) (fun _ h9 => h9) rfl dX5_columnOf_11 ?_
      refine va_get (D := (dC, dI)) (ci := 3) (v := .ref (an 1)) (C := RX3) (T := TX3) (N := 6) hx hb hts inX3 hown hK.1 hP 8 rfl rfl 0 (by decide) (hts _ w_fieldLink_X5_90) (fun _ h9 => h9) rfl dX5_columnOf_14 ?_
      refine lv_iload_n hx hb dX5_columnOf_17 rfl (lv_at hl 1 rfl) ?_
      obtain ⟨o5, h6, hF⟩ := obd hF
      refine wcRVi (As := [.int p1]) (rest := []) (b := (an 1)) ⟨hx, hb, hml, hown, hts⟩ (met_X0_placeOf l dC dI cyI cyO an N (S_green nv) p1 o5 h6) (cwV 1 hts (gV w_methodLink_X5_208 w_instanceMethod_X0_placeOf w_selects_X0_placeOf w_initialized_X0 w_code_X0_placeOf) rfl rfl rfl (by decide +kernel) ⟨Nat.le_of_ble_eq_true rfl, Nat.le_of_ble_eq_true rfl⟩) (va_recv hK.1 hP (ci := 0) (q0 := 9) rfl rfl) hP hK [9, 10, 11, 12, 13, 14, 15, 16] rfl rfl hl.1 (Nat.le_of_ble_eq_true rfl) dX5_columnOf_18 ⟨Nat.le_of_ble_eq_true rfl, Nat.le_of_ble_eq_true rfl⟩ hS (fun r H locs hw hP hS => ?_)
      have hw := hw.symm
      subst hw
      refine lv_bipush (v := 21) hx hb dX5_columnOf_21 (by decide) ?_
      refine lv_irem hx hb dX5_columnOf_23 (by decide) ?_
      refine vx_ret ?_
      refine W.widen (k := 2) (n := 12) (Nat.le_of_ble_eq_true rfl) (Nat.le_of_ble_eq_true rfl) ?_
      exact W.iret (v := (o5 - o5 / (21 : Int32) * (21 : Int32))) hx hb hr (fun t ht hW => ⟨⟨_, (), rfl, Option.some.inj hF, trivial⟩, hS.F ht⟩) hS.2.2 dX5_columnOf_24
theorem dX5_isToucher_0 : decode cX5_isToucher 0 = .ok (.aload_n 0, 1) := by decide +kernel
theorem dX5_isToucher_1 : decode cX5_isToucher 1 = .ok (.iload_n 1, 1) := by decide +kernel
theorem dX5_isToucher_2 : decode cX5_isToucher 2 = .ok (.invokevirtual 217, 3) := by decide +kernel
theorem dX5_isToucher_5 : decode cX5_isToucher 5 = .ok (.aload_n 0, 1) := by decide +kernel
theorem dX5_isToucher_6 : decode cX5_isToucher 6 = .ok (.getfield 12, 3) := by decide +kernel
theorem dX5_isToucher_9 : decode cX5_isToucher 9 = .ok (.getfield 90, 3) := by decide +kernel
theorem dX5_isToucher_12 : decode cX5_isToucher 12 = .ok (.getfield 226, 3) := by decide +kernel
theorem dX5_isToucher_15 : decode cX5_isToucher 15 = .ok (.iload_n 1, 1) := by decide +kernel
theorem dX5_isToucher_16 : decode cX5_isToucher 16 = .ok (.invokestatic 195, 3) := by decide +kernel
theorem dX5_isToucher_19 : decode cX5_isToucher 19 = .ok (.iconst 1, 1) := by decide +kernel
theorem dX5_isToucher_20 : decode cX5_isToucher 20 = .ok (.if_icmp .ne 7, 3) := by decide +kernel
theorem dX5_isToucher_23 : decode cX5_isToucher 23 = .ok (.iconst 1, 1) := by decide +kernel
theorem dX5_isToucher_24 : decode cX5_isToucher 24 = .ok (.goto 4, 3) := by decide +kernel
theorem dX5_isToucher_27 : decode cX5_isToucher 27 = .ok (.iconst 0, 1) := by decide +kernel
theorem dX5_isToucher_28 : decode cX5_isToucher 28 = .ok (.ireturn, 1) := by decide +kernel
def f_X5_isToucher (N : Nat) (xv : XV) (nv : SV) (p1 : Int32) : Option (Nat ⊕ Int32) :=
  (f_X5_requireBowl N xv nv p1).bind (fun o1 => exc o1 (fun k => some (Sum.inl k)) (fun (_ : Unit) => (f_X5_at N 8 (G_touched (S_green nv)) p1).bind (fun o3 => jn (fun (s28 : Int32) => some (Sum.inr s28)) (fun (j28 : (Int32) → Option (Nat ⊕ Int32)) => (if o3 = (1 : Int32) then j28 (1 : Int32) else j28 (0 : Int32))))))
set_option maxHeartbeats 4000000 in
set_option maxRecDepth 100000 in
theorem met_X5_isToucher (l : Launch) (z0 : Nat) (hst : l.stackTraces = false) (dC : Nat → ClassId) (dI : Nat → Nat → Nat) (cyI cyO : ClassId) (x : Nat → Nat) (tr : Nat → Nat) (an : Nat → Nat) (fl fs : Nat → Option Nat) (N : Nat) (xv : XV) (nv : SV) (p1 : Int32) (out : Nat ⊕ Int32) (hF : f_X5_isToucher N xv nv p1 = some out) : vx_Met l yX5_isToucher (Cond.code yX5_isToucher cX5_isToucher 2 (some .boolean) :: wT) ({ frames := 7, cells := 1, slots := 6, locals := 103 } : Room) (wRdX z0 dC dI cyI cyO [.ref (x 0), .int p1] (([(cXo x an tr xv), (cH cyO (x 1) (x 2) 2 fl), (cXk cyI x xv), (cH cyO (x 4) (x 5) 6 fs), (cT cyI x (X_text xv)), (cSo an nv), (cG cyI an (S_green nv)), (cV cyI an (S_score nv))] : List va_W).flatten)) (va_Qi (fun (r : Int32) (_ : Unit) => Sum.inr r = out ∧ b01 r) (fun _ _ => True) wN0) (xcR Int32 out) 1 6 wN0 := by
  refine vx_ofW (cc := cX5_isToucher) (maxL := 2) (ret := (some .boolean)) (by decide) rfl ?_
  intro p e s m args below meth c s₁ B hml htx hv
  obtain ⟨rfl, hP, hK, hZ⟩ := hv
  have hx := B.exec
  have hb := B.bytes
  have hr := B.returns
  have hts0 := atoms_spec (ws := (Cond.code yX5_isToucher cX5_isToucher 2 (some .boolean) :: wT)) B.pre
  have hts := fun w h => hts0 w (List.mem_cons_of_mem _ h)
  clear hts0
  have hown : s.vm.findClass RX5 = some m.cls := findClass_of_methodNamed B.named
  have hlocks := B.notSynchronized
  have hAz : ∀ q, wN0 q → z0 ≤ q := fun q h => h.elim
  have hS : va_S wN0 s.heap s.heap [] := va_S.rf
  have hl := lv_entry [.ref (x 0), .int p1] (n := 2) (Nat.le_of_ble_eq_true rfl)
  rw [lg_entry_eq]
  generalize (lg_sl [.ref (x 0), .int p1] ++ List.replicate (2 - (lg_sl [.ref (x 0), .int p1]).length) Slot.unset).toArray = ls at hl ⊢
  have hl : lv_has ls 2 [(0, .ref (x 0)), (1, .int p1)] := hl
  unfold f_X5_isToucher at hF
  refine lv_aload_n hx hb dX5_isToucher_0 rfl (lv_at hl 0 rfl) ?_
  refine lv_iload_n hx hb dX5_isToucher_1 rfl (lv_at hl 1 rfl) ?_
  obtain ⟨o1, h2, hF⟩ := obd hF
  refine wxRVv (As := [.int p1]) (rest := []) (b := (x 0)) ⟨hx, hb, hml, hown, hts⟩ (met_X5_requireBowl l z0 hst dC dI cyI cyO x tr an fl fs N xv nv p1 o1 h2) (cwV 1 hts (gV w_methodLink_X5_217 w_instanceMethod_X5_requireBowl w_selects_X5_requireBowl w_initialized_X5 w_code_X5_requireBowl) rfl rfl rfl (by decide +kernel) ⟨Nat.le_of_ble_eq_true rfl, Nat.le_of_ble_eq_true rfl⟩) (va_recv hK.1 hP (ci := 5) (q0 := 0) rfl rfl) hP hK hZ hAz [0, 1, 2, 3, 4, 5, 6, 7, 8, 9, 10, 11, 12, 13, 14, 15, 16, 17, 18, 19, 20] rfl rfl hl.1 (Nat.le_of_ble_eq_true rfl) dX5_isToucher_2 ⟨Nat.le_of_ble_eq_true rfl, Nat.le_of_ble_eq_true rfl⟩ hS (fun k ce q9 H locs hw hP hS h9 hv9 hc9 => ?_) (fun H locs hw hP hS => ?_)
  · have hw := hw.symm
    subst hw
    have hF := exc_l hF
    exact outR (Option.some.inj hF) htx hlocks hS h9 hv9 hc9 (Nat.le_of_ble_eq_true rfl) (Nat.le_of_ble_eq_true rfl)
  · skip
    have hw := hw.symm
    subst hw
    have hF := exc_r hF
    refine lv_aload_n hx hb dX5_isToucher_5 rfl (lv_at hl 0 rfl) ?_
    refine va_get (D := (dC, dI)) (ci := 5) (v := .ref (an 0)) (C := RX5) (T := TX5) (N := 8) hx hb hts inX5 hown hK.1 hP 0 rfl rfl 0 (by decide) (hts _ w_fieldLink_X5_12) (fun _ h9 => h9) rfl dX5_isToucher_6 ?_
    refine va_get (D := (dC, dI)) (ci := 3) (v := .ref (an 1)) (C := RX3) (T := TX3) (N := 6) hx hb hts inX3 hown hK.1 hP 8 rfl rfl 0 (by decide) (hts _ w_fieldLink_X5_90) (fun _ h9 => h9) rfl dX5_isToucher_9 ?_
    refine va_get (D := (dC, dI)) (ci := 0) (v := .ref (an 7)) (C := RX0) (T := TX0) (N := 9) hx hb hts inX0 hown hK.1 hP 9 rfl rfl 5 (by decide) (hts _ w_fieldLink_X5_226) (fun _ h9 => h9) rfl dX5_isToucher_12 ?_
    refine lv_iload_n hx hb dX5_isToucher_15 rfl (lv_at hl 1 rfl) ?_
    obtain ⟨o3, h4, hF⟩ := obd hF
    refine wcRSi (As := [.ref (an 7), .int p1]) (rest := []) ⟨hx, hb, hml, hown, hts⟩ (met_X5_at l dC dI cyI cyO (an 7) 8 N (G_touched (S_green nv)) p1 o3 h4) (va_cwS 2 hts (gS w_methodLink_X5_195 w_static_X5_at w_initialized_X5 w_code_X5_at) rfl rfl rfl (by decide +kernel) ⟨Nat.le_of_ble_eq_true rfl, Nat.le_of_ble_eq_true rfl⟩) hP hK [15] rfl rfl hl.1 (Nat.le_of_ble_eq_true rfl) dX5_isToucher_16 ⟨Nat.le_of_ble_eq_true rfl, Nat.le_of_ble_eq_true rfl⟩ hS (fun r H locs hw hP hS => ?_)
    have hw := hw.symm
    subst hw
    refine lv_iconst (v := 1) hx hb dX5_isToucher_19 (by decide) ?_
    obtain ⟨j28, hj28, hF⟩ := jn_use hF
    have hJ28 : ∀ (s28 : Int32) (H : Heap) (locs : List Loc) (ls : Array Slot) (hz_28_s0 : b01 s28), va_P (dC, dI) vwCl (([(cXo x an tr xv), (cH cyO (x 1) (x 2) 2 fl), (cXk cyI x xv), (cH cyO (x 4) (x 5) 6 fs), (cT cyI x (X_text xv)), (cSo an nv), (cG cyI an (S_green nv)), (cV cyI an (S_score nv))] : List va_W).flatten) H → va_S wN0 s.heap H locs → lv_has ls 2 [] → j28 s28 = some out → W p l e (headSpec (Cond.code yX5_isToucher cX5_isToucher 2 (some .boolean) :: wT) ({ frames := 7, cells := 1, slots := 6, locals := 103 } : Room)).room s m ([.ref (x 0), .int p1] : List Value).toArray below meth c H locs (0 + 1) (0 + 6) (vx_MQ below (va_Qi (fun (r : Int32) (_ : Unit) => Sum.inr r = out ∧ b01 r) (fun _ _ => True) wN0) (xcR Int32 out) ([.ref (x 0), .int p1] : List Value).toArray s 1 6 wN0) (F0 m 28 ls [.int s28]) := by
      intro s28 H locs ls hz_28_s0 hP hS hl hF
      have hF := (congrFun hj28 s28).symm.trans hF
      refine vx_ret ?_
      refine W.widen (k := 1) (n := 6) (Nat.le_of_ble_eq_true rfl) (Nat.le_of_ble_eq_true rfl) ?_
      exact W.zret (ty := .boolean) (v := s28) hx hb hr (b01_n hz_28_s0) (fun t ht hW => ⟨⟨_, (), rfl, ⟨Option.some.inj hF, hz_28_s0⟩, trivial⟩, hS.F ht⟩) hS.2.2 dX5_isToucher_28
    refine lv_icmp_ne (tgt := 27) hx hb dX5_isToucher_20 (by decide) (fun c5 => ?_) (fun c5 => ?_)
    · have hF := itn c5 hF
      refine lv_iconst (v := 0) hx hb dX5_isToucher_27 (by decide) ?_
      exact hJ28 (0 : Int32) _ _ _ b01_0 hP hS (lv_sub hl [] rfl) hF
    · have hF := itp c5 hF
      refine lv_iconst (v := 1) hx hb dX5_isToucher_23 (by decide) ?_
      refine lv_goto (tgt := 28) hx hb dX5_isToucher_24 (by decide) ?_
      exact hJ28 (1 : Int32) _ _ _ b01_1 hP hS (lv_sub hl [] rfl) hF
theorem dX5_distanceOf_0 : decode cX5_distanceOf 0 = .ok (.aload_n 0, 1) := by decide +kernel
theorem dX5_distanceOf_1 : decode cX5_distanceOf 1 = .ok (.iload_n 1, 1) := by decide +kernel
theorem dX5_distanceOf_2 : decode cX5_distanceOf 2 = .ok (.invokevirtual 217, 3) := by decide +kernel
theorem dX5_distanceOf_5 : decode cX5_distanceOf 5 = .ok (.aload_n 0, 1) := by decide +kernel
theorem dX5_distanceOf_6 : decode cX5_distanceOf 6 = .ok (.iload_n 1, 1) := by decide +kernel
theorem dX5_distanceOf_7 : decode cX5_distanceOf 7 = .ok (.invokevirtual 223, 3) := by decide +kernel
theorem dX5_distanceOf_10 : decode cX5_distanceOf 10 = .ok (.aload_n 0, 1) := by decide +kernel
theorem dX5_distanceOf_11 : decode cX5_distanceOf 11 = .ok (.getfield 12, 3) := by decide +kernel
theorem dX5_distanceOf_14 : decode cX5_distanceOf 14 = .ok (.getfield 90, 3) := by decide +kernel
theorem dX5_distanceOf_17 : decode cX5_distanceOf 17 = .ok (.invokevirtual 127, 3) := by decide +kernel
theorem dX5_distanceOf_20 : decode cX5_distanceOf 20 = .ok (.ifCond .ne 13, 3) := by decide +kernel
theorem dX5_distanceOf_23 : decode cX5_distanceOf 23 = .ok (.new 60, 3) := by decide +kernel
theorem dX5_distanceOf_26 : decode cX5_distanceOf 26 = .ok (.dup, 1) := by decide +kernel
theorem dX5_distanceOf_27 : decode cX5_distanceOf 27 = .ok (.ldc 206, 2) := by decide +kernel
theorem dX5_distanceOf_29 : decode cX5_distanceOf 29 = .ok (.invokespecial 64, 3) := by decide +kernel
theorem dX5_distanceOf_32 : decode cX5_distanceOf 32 = .ok (.athrow, 1) := by decide +kernel
theorem dX5_distanceOf_33 : decode cX5_distanceOf 33 = .ok (.aload_n 0, 1) := by decide +kernel
theorem dX5_distanceOf_34 : decode cX5_distanceOf 34 = .ok (.getfield 12, 3) := by decide +kernel
theorem dX5_distanceOf_37 : decode cX5_distanceOf 37 = .ok (.getfield 90, 3) := by decide +kernel
theorem dX5_distanceOf_40 : decode cX5_distanceOf 40 = .ok (.iload_n 1, 1) := by decide +kernel
theorem dX5_distanceOf_41 : decode cX5_distanceOf 41 = .ok (.invokevirtual 229, 3) := by decide +kernel
theorem dX5_distanceOf_44 : decode cX5_distanceOf 44 = .ok (.ireturn, 1) := by decide +kernel
def f_X5_distanceOf (N : Nat) (xv : XV) (nv : SV) (p1 : Int32) : Option (Nat ⊕ Int32) :=
  (f_X5_requireBowl N xv nv p1).bind (fun o1 => exc o1 (fun k => some (Sum.inl k)) (fun (_ : Unit) => (f_X5_requireAlive N xv nv p1).bind (fun o3 => exc o3 (fun k => some (Sum.inl k)) (fun (_ : Unit) => (f_X0_hasJack N (S_green nv)).bind (fun o5 => (if o5 = 0 then some (Sum.inl 1) else (f_X0_distance N (S_green nv) p1).bind (fun o9 => some (Sum.inr o9))))))))
set_option maxHeartbeats 4000000 in
set_option maxRecDepth 100000 in
theorem met_X5_distanceOf (l : Launch) (z0 : Nat) (hst : l.stackTraces = false) (dC : Nat → ClassId) (dI : Nat → Nat → Nat) (cyI cyO : ClassId) (x : Nat → Nat) (tr : Nat → Nat) (an : Nat → Nat) (fl fs : Nat → Option Nat) (N : Nat) (xv : XV) (nv : SV) (p1 : Int32) (out : Nat ⊕ Int32) (hF : f_X5_distanceOf N xv nv p1 = some out) : vx_Met l yX5_distanceOf (Cond.code yX5_distanceOf cX5_distanceOf 2 (some .int) :: wT) ({ frames := 7, cells := 3, slots := 18, locals := 103 } : Room) (wRdX z0 dC dI cyI cyO [.ref (x 0), .int p1] (([(cXo x an tr xv), (cH cyO (x 1) (x 2) 2 fl), (cXk cyI x xv), (cH cyO (x 4) (x 5) 6 fs), (cT cyI x (X_text xv)), (cSo an nv), (cG cyI an (S_green nv)), (cV cyI an (S_score nv))] : List va_W).flatten)) (va_Qi (fun (r : Int32) (_ : Unit) => Sum.inr r = out) (fun _ _ => True) wN0) (xcR Int32 out) 3 18 wN0 := by
  refine vx_ofW (cc := cX5_distanceOf) (maxL := 2) (ret := (some .int)) (by decide) rfl ?_
  intro p e s m args below meth c s₁ B hml htx hv
  obtain ⟨rfl, hP, hK, hZ⟩ := hv
  have hx := B.exec
  have hb := B.bytes
  have hr := B.returns
  have hts0 := atoms_spec (ws := (Cond.code yX5_distanceOf cX5_distanceOf 2 (some .int) :: wT)) B.pre
  have hts := fun w h => hts0 w (List.mem_cons_of_mem _ h)
  clear hts0
  have hown : s.vm.findClass RX5 = some m.cls := findClass_of_methodNamed B.named
  have hlocks := B.notSynchronized
  have hAz : ∀ q, wN0 q → z0 ≤ q := fun q h => h.elim
  have hS : va_S wN0 s.heap s.heap [] := va_S.rf
  have hl := lv_entry [.ref (x 0), .int p1] (n := 2) (Nat.le_of_ble_eq_true rfl)
  rw [lg_entry_eq]
  generalize (lg_sl [.ref (x 0), .int p1] ++ List.replicate (2 - (lg_sl [.ref (x 0), .int p1]).length) Slot.unset).toArray = ls at hl ⊢
  have hl : lv_has ls 2 [(0, .ref (x 0)), (1, .int p1)] := hl
  unfold f_X5_distanceOf at hF
  refine lv_aload_n hx hb dX5_distanceOf_0 rfl (lv_at hl 0 rfl) ?_
  refine lv_iload_n hx hb dX5_distanceOf_1 rfl (lv_at hl 1 rfl) ?_
  obtain ⟨o1, h2, hF⟩ := obd hF
  refine wxRVv (As := [.int p1]) (rest := []) (b := (x 0)) ⟨hx, hb, hml, hown, hts⟩ (met_X5_requireBowl l z0 hst dC dI cyI cyO x tr an fl fs N xv nv p1 o1 h2) (cwV 1 hts (gV w_methodLink_X5_217 w_instanceMethod_X5_requireBowl w_selects_X5_requireBowl w_initialized_X5 w_code_X5_requireBowl) rfl rfl rfl (by decide +kernel) ⟨Nat.le_of_ble_eq_true rfl, Nat.le_of_ble_eq_true rfl⟩) (va_recv hK.1 hP (ci := 5) (q0 := 0) rfl rfl) hP hK hZ hAz [0, 1, 2, 3, 4, 5, 6, 7, 8, 9, 10, 11, 12, 13, 14, 15, 16, 17, 18, 19, 20] rfl rfl hl.1 (Nat.le_of_ble_eq_true rfl) dX5_distanceOf_2 ⟨Nat.le_of_ble_eq_true rfl, Nat.le_of_ble_eq_true rfl⟩ hS (fun k ce q9 H locs hw hP hS h9 hv9 hc9 => ?_) (fun H locs hw hP hS => ?_)
  · have hw := hw.symm
    subst hw
    have hF := exc_l hF
    exact outR (Option.some.inj hF) htx hlocks hS h9 hv9 hc9 (Nat.le_of_ble_eq_true rfl) (Nat.le_of_ble_eq_true rfl)
  · skip
    have hw := hw.symm
    subst hw
    have hF := exc_r hF
    refine lv_aload_n hx hb dX5_distanceOf_5 rfl (lv_at hl 0 rfl) ?_
    refine lv_iload_n hx hb dX5_distanceOf_6 rfl (lv_at hl 1 rfl) ?_
    obtain ⟨o3, h4, hF⟩ := obd hF
    refine wxRVv (As := [.int p1]) (rest := []) (b := (x 0)) ⟨hx, hb, hml, hown, hts⟩ (met_X5_requireAlive l z0 hst dC dI cyI cyO x tr an fl fs N xv nv p1 o3 h4) (cwV 1 hts (gV w_methodLink_X5_223 w_instanceMethod_X5_requireAlive w_selects_X5_requireAlive w_initialized_X5 w_code_X5_requireAlive) rfl rfl rfl (by decide +kernel) ⟨Nat.le_of_ble_eq_true rfl, Nat.le_of_ble_eq_true rfl⟩) (va_recv hK.1 hP (ci := 5) (q0 := 0) rfl rfl) hP hK hZ hAz [0, 1, 2, 3, 4, 5, 6, 7, 8, 9, 10, 11, 12, 13, 14, 15, 16, 17, 18, 19, 20] rfl rfl hl.1 (Nat.le_of_ble_eq_true rfl) dX5_distanceOf_7 ⟨Nat.le_of_ble_eq_true rfl, Nat.le_of_ble_eq_true rfl⟩ hS (fun k ce q9 H locs hw hP hS h9 hv9 hc9 => ?_) (fun H locs hw hP hS => ?_)
    · have hw := hw.symm
      subst hw
      have hF := exc_l hF
      exact outR (Option.some.inj hF) htx hlocks hS h9 hv9 hc9 (Nat.le_of_ble_eq_true rfl) (Nat.le_of_ble_eq_true rfl)
    · skip
      have hw := hw.symm
      subst hw
      have hF := exc_r hF
      refine lv_aload_n hx hb dX5_distanceOf_10 rfl (lv_at hl 0 rfl) ?_
      refine va_get (D := (dC, dI)) (ci := 5) (v := .ref (an 0)) (C := RX5) (T := TX5) (N := 8) hx hb hts inX5 hown hK.1 hP 0 rfl rfl 0 (by decide) (hts _ w_fieldLink_X5_12) (fun _ h9 => h9) rfl dX5_distanceOf_11 ?_
      refine va_get (D := (dC, dI)) (ci := 3) (v := .ref (an 1)) (C := RX3) (T := TX3) (N := 6) hx hb hts inX3 hown hK.1 hP 8 rfl rfl 0 (by decide) (hts _ w_fieldLink_X5_90) (fun _ h9 => h9) rfl dX5_distanceOf_14 ?_
      obtain ⟨o5, h6, hF⟩ := obd hF
      refine wcRVi (As := []) (rest := []) (b := (an 1)) ⟨hx, hb, hml, hown, hts⟩ (met_X0_hasJack l dC dI cyI cyO an N (S_green nv)  o5 h6) (cwV 0 hts (gV w_methodLink_X5_127 w_instanceMethod_X0_hasJack w_selects_X0_hasJack w_initialized_X0 w_code_X0_hasJack) rfl rfl rfl (by decide +kernel) ⟨Nat.le_of_ble_eq_true rfl, Nat.le_of_ble_eq_true rfl⟩) (va_recv hK.1 hP (ci := 0) (q0 := 9) rfl rfl) hP hK [9, 10, 11, 12, 13, 14, 15, 16] rfl rfl hl.1 (Nat.le_of_ble_eq_true rfl) dX5_distanceOf_17 ⟨Nat.le_of_ble_eq_true rfl, Nat.le_of_ble_eq_true rfl⟩ hS (fun r H locs hw hP hS => ?_)
      obtain ⟨hw, hz7⟩ := hw
      have hw := hw.symm
      subst hw
      refine lv_if_ne (tgt := 33) hx hb dX5_distanceOf_20 (by decide) (fun c8 => ?_) (fun c8 => ?_)
      · have hF := itn c8 hF
        refine lv_aload_n hx hb dX5_distanceOf_33 rfl (lv_at hl 0 rfl) ?_
        refine va_get (D := (dC, dI)) (ci := 5) (v := .ref (an 0)) (C := RX5) (T := TX5) (N := 8) hx hb hts inX5 hown hK.1 hP 0 rfl rfl 0 (by decide) (hts _ w_fieldLink_X5_12) (fun _ h9 => h9) rfl dX5_distanceOf_34 ?_
        refine va_get (D := (dC, dI)) (ci := 3) (v := .ref (an 1)) (C := RX3) (T := TX3) (N := 6) hx hb hts inX3 hown hK.1 hP 8 rfl rfl 0 (by decide) (hts _ w_fieldLink_X5_90) (fun _ h9 => h9) rfl dX5_distanceOf_37 ?_
        refine lv_iload_n hx hb dX5_distanceOf_40 rfl (lv_at hl 1 rfl) ?_
        obtain ⟨o9, h10, hF⟩ := obd hF
        refine wcRVi (As := [.int p1]) (rest := []) (b := (an 1)) ⟨hx, hb, hml, hown, hts⟩ (met_X0_distance l dC dI cyI cyO an N (S_green nv) p1 o9 h10) (cwV 1 hts (gV w_methodLink_X5_229 w_instanceMethod_X0_distance w_selects_X0_distance w_initialized_X0 w_code_X0_distance) rfl rfl rfl (by decide +kernel) ⟨Nat.le_of_ble_eq_true rfl, Nat.le_of_ble_eq_true rfl⟩) (va_recv hK.1 hP (ci := 0) (q0 := 9) rfl rfl) hP hK [9, 10, 11, 12, 13, 14, 15, 16] rfl rfl hl.1 (Nat.le_of_ble_eq_true rfl) dX5_distanceOf_41 ⟨Nat.le_of_ble_eq_true rfl, Nat.le_of_ble_eq_true rfl⟩ hS (fun r H locs hw hP hS => ?_)
        have hw := hw.symm
        subst hw
        refine vx_ret ?_
        refine W.widen (k := 3) (n := 18) (Nat.le_of_ble_eq_true rfl) (Nat.le_of_ble_eq_true rfl) ?_
        exact W.iret (v := o9) hx hb hr (fun t ht hW => ⟨⟨_, (), rfl, Option.some.inj hF, trivial⟩, hS.F ht⟩) hS.2.2 dX5_distanceOf_44
      · have hF := itp c8 hF
        have hF9 : (Sum.inl 1 : Nat ⊕ Int32) = out := Option.some.inj hF
        exact thrR_1 hF9 hx hb hst (is := 206) (text := "the jack does not lie") hown hts hZ hS (hl.1.trans hml.symm) (by decide) dX5_distanceOf_23 dX5_distanceOf_26 dX5_distanceOf_27 dX5_distanceOf_29 dX5_distanceOf_32 htx (Nat.le_of_ble_eq_true rfl) (Nat.le_of_ble_eq_true rfl) (Nat.le_of_ble_eq_true rfl) (Nat.le_of_ble_eq_true rfl) hlocks (Nat.le_of_ble_eq_true rfl) (Nat.le_of_ble_eq_true rfl)
theorem dX5_bowlAt_0 : decode cX5_bowlAt 0 = .ok (.iload_n 1, 1) := by decide +kernel
theorem dX5_bowlAt_1 : decode cX5_bowlAt 1 = .ok (.ifCond .lt 16, 3) := by decide +kernel
theorem dX5_bowlAt_4 : decode cX5_bowlAt 4 = .ok (.iload_n 1, 1) := by decide +kernel
theorem dX5_bowlAt_5 : decode cX5_bowlAt 5 = .ok (.bipush 60, 2) := by decide +kernel
theorem dX5_bowlAt_7 : decode cX5_bowlAt 7 = .ok (.if_icmp .ge 10, 3) := by decide +kernel
theorem dX5_bowlAt_10 : decode cX5_bowlAt 10 = .ok (.iload_n 2, 1) := by decide +kernel
theorem dX5_bowlAt_11 : decode cX5_bowlAt 11 = .ok (.invokestatic 232, 3) := by decide +kernel
theorem dX5_bowlAt_14 : decode cX5_bowlAt 14 = .ok (.ifCond .eq 13, 3) := by decide +kernel
theorem dX5_bowlAt_17 : decode cX5_bowlAt 17 = .ok (.new 236, 3) := by decide +kernel
theorem dX5_bowlAt_20 : decode cX5_bowlAt 20 = .ok (.dup, 1) := by decide +kernel
theorem dX5_bowlAt_21 : decode cX5_bowlAt 21 = .ok (.ldc 238, 2) := by decide +kernel
theorem dX5_bowlAt_23 : decode cX5_bowlAt 23 = .ok (.invokespecial 240, 3) := by decide +kernel
theorem dX5_bowlAt_26 : decode cX5_bowlAt 26 = .ok (.athrow, 1) := by decide +kernel
theorem dX5_bowlAt_27 : decode cX5_bowlAt 27 = .ok (.aload_n 0, 1) := by decide +kernel
theorem dX5_bowlAt_28 : decode cX5_bowlAt 28 = .ok (.getfield 12, 3) := by decide +kernel
theorem dX5_bowlAt_31 : decode cX5_bowlAt 31 = .ok (.getfield 90, 3) := by decide +kernel
theorem dX5_bowlAt_34 : decode cX5_bowlAt 34 = .ok (.iload_n 1, 1) := by decide +kernel
theorem dX5_bowlAt_35 : decode cX5_bowlAt 35 = .ok (.bipush 21, 2) := by decide +kernel
theorem dX5_bowlAt_37 : decode cX5_bowlAt 37 = .ok (.imul, 1) := by decide +kernel
theorem dX5_bowlAt_38 : decode cX5_bowlAt 38 = .ok (.iload_n 2, 1) := by decide +kernel
theorem dX5_bowlAt_39 : decode cX5_bowlAt 39 = .ok (.iadd, 1) := by decide +kernel
theorem dX5_bowlAt_40 : decode cX5_bowlAt 40 = .ok (.invokevirtual 241, 3) := by decide +kernel
theorem dX5_bowlAt_43 : decode cX5_bowlAt 43 = .ok (.istore_n 3, 1) := by decide +kernel
theorem dX5_bowlAt_44 : decode cX5_bowlAt 44 = .ok (.iload_n 3, 1) := by decide +kernel
theorem dX5_bowlAt_45 : decode cX5_bowlAt 45 = .ok (.iconst (-1), 1) := by decide +kernel
theorem dX5_bowlAt_46 : decode cX5_bowlAt 46 = .ok (.if_icmp .eq 9, 3) := by decide +kernel
theorem dX5_bowlAt_49 : decode cX5_bowlAt 49 = .ok (.iload_n 3, 1) := by decide +kernel
theorem dX5_bowlAt_50 : decode cX5_bowlAt 50 = .ok (.bipush 8, 2) := by decide +kernel
theorem dX5_bowlAt_52 : decode cX5_bowlAt 52 = .ok (.if_icmp .ne 13, 3) := by decide +kernel
theorem dX5_bowlAt_55 : decode cX5_bowlAt 55 = .ok (.new 60, 3) := by decide +kernel
theorem dX5_bowlAt_58 : decode cX5_bowlAt 58 = .ok (.dup, 1) := by decide +kernel
theorem dX5_bowlAt_59 : decode cX5_bowlAt 59 = .ok (.ldc 244, 2) := by decide +kernel
theorem dX5_bowlAt_61 : decode cX5_bowlAt 61 = .ok (.invokespecial 64, 3) := by decide +kernel
theorem dX5_bowlAt_64 : decode cX5_bowlAt 64 = .ok (.athrow, 1) := by decide +kernel
theorem dX5_bowlAt_65 : decode cX5_bowlAt 65 = .ok (.iload_n 3, 1) := by decide +kernel
theorem dX5_bowlAt_66 : decode cX5_bowlAt 66 = .ok (.ireturn, 1) := by decide +kernel
def f_X5_bowlAt (N : Nat) (xv : XV) (nv : SV) (p1 : Int32) (p2 : Int32) : Option (Nat ⊕ Int32) :=
  jn (fun (s17 : Unit) => some (Sum.inl 2)) (fun (j17 : (Unit) → Option (Nat ⊕ Int32)) => (if p1 < 0 then j17 () else (if (60 : Int32) ≤ p1 then j17 () else (f_X5_isOut N p2).bind (fun o3 => (if o3 = 0 then (f_X0_thingAt N (S_green nv) ((p1 * (21 : Int32)) + p2)).bind (fun o7 => jn (fun (s55 : Unit) => some (Sum.inl 1)) (fun (j55 : (Unit) → Option (Nat ⊕ Int32)) => (if o7 = (-1 : Int32) then j55 () else (if o7 = (8 : Int32) then j55 () else some (Sum.inr o7))))) else j17 ())))))
set_option maxHeartbeats 4000000 in
set_option maxRecDepth 100000 in
theorem met_X5_bowlAt (l : Launch) (z0 : Nat) (hst : l.stackTraces = false) (dC : Nat → ClassId) (dI : Nat → Nat → Nat) (cyI cyO : ClassId) (x : Nat → Nat) (tr : Nat → Nat) (an : Nat → Nat) (fl fs : Nat → Option Nat) (N : Nat) (xv : XV) (nv : SV) (p1 : Int32) (p2 : Int32) (out : Nat ⊕ Int32) (hF : f_X5_bowlAt N xv nv p1 p2 = some out) : vx_Met l yX5_bowlAt (Cond.code yX5_bowlAt cX5_bowlAt 4 (some .int) :: wT) ({ frames := 6, cells := 1, slots := 6, locals := 82 } : Room) (wRdX z0 dC dI cyI cyO [.ref (x 0), .int p1, .int p2] (([(cXo x an tr xv), (cH cyO (x 1) (x 2) 2 fl), (cXk cyI x xv), (cH cyO (x 4) (x 5) 6 fs), (cT cyI x (X_text xv)), (cSo an nv), (cG cyI an (S_green nv)), (cV cyI an (S_score nv))] : List va_W).flatten)) (va_Qi (fun (r : Int32) (_ : Unit) => Sum.inr r = out) (fun _ _ => True) wN0) (xcR Int32 out) 1 6 wN0 := by
  refine vx_ofW (cc := cX5_bowlAt) (maxL := 4) (ret := (some .int)) (by decide) rfl ?_
  intro p e s m args below meth c s₁ B hml htx hv
  obtain ⟨rfl, hP, hK, hZ⟩ := hv
  have hx := B.exec
  have hb := B.bytes
  have hr := B.returns
  have hts0 := atoms_spec (ws := (Cond.code yX5_bowlAt cX5_bowlAt 4 (some .int) :: wT)) B.pre
  have hts := fun w h => hts0 w (List.mem_cons_of_mem _ h)
  clear hts0
  have hown : s.vm.findClass RX5 = some m.cls := findClass_of_methodNamed B.named
  have hlocks := B.notSynchronized
  have hAz : ∀ q, wN0 q → z0 ≤ q := fun q h => h.elim
  have hS : va_S wN0 s.heap s.heap [] := va_S.rf
  have hl := lv_entry [.ref (x 0), .int p1, .int p2] (n := 4) (Nat.le_of_ble_eq_true rfl)
  rw [lg_entry_eq]
  generalize (lg_sl [.ref (x 0), .int p1, .int p2] ++ List.replicate (4 - (lg_sl [.ref (x 0), .int p1, .int p2]).length) Slot.unset).toArray = ls at hl ⊢
  have hl : lv_has ls 4 [(0, .ref (x 0)), (1, .int p1), (2, .int p2)] := hl
  unfold f_X5_bowlAt at hF
  refine lv_iload_n hx hb dX5_bowlAt_0 rfl (lv_at hl 1 rfl) ?_
  obtain ⟨j17, hj17, hF⟩ := jn_use hF
  have hJ17 : ∀ (s17 : Unit) (H : Heap) (locs : List Loc) (ls : Array Slot), va_P (dC, dI) vwCl (([(cXo x an tr xv), (cH cyO (x 1) (x 2) 2 fl), (cXk cyI x xv), (cH cyO (x 4) (x 5) 6 fs), (cT cyI x (X_text xv)), (cSo an nv), (cG cyI an (S_green nv)), (cV cyI an (S_score nv))] : List va_W).flatten) H → va_S wN0 s.heap H locs → lv_has ls 4 [] → j17 s17 = some out → W p l e (headSpec (Cond.code yX5_bowlAt cX5_bowlAt 4 (some .int) :: wT) ({ frames := 6, cells := 1, slots := 6, locals := 82 } : Room)).room s m ([.ref (x 0), .int p1, .int p2] : List Value).toArray below meth c H locs 0 0 (vx_MQ below (va_Qi (fun (r : Int32) (_ : Unit) => Sum.inr r = out) (fun _ _ => True) wN0) (xcR Int32 out) ([.ref (x 0), .int p1, .int p2] : List Value).toArray s 1 6 wN0) (F0 m 17 ls []) := by
    intro s17 H locs ls hP hS hl hF
    have hF := (congrFun hj17 s17).symm.trans hF
    have hF9 : (Sum.inl 2 : Nat ⊕ Int32) = out := Option.some.inj hF
    exact thrR_2 hF9 hx hb hst (is := 238) (text := "there is no such place") hown hts hZ hS (hl.1.trans hml.symm) (by decide) dX5_bowlAt_17 dX5_bowlAt_20 dX5_bowlAt_21 dX5_bowlAt_23 dX5_bowlAt_26 htx (Nat.le_of_ble_eq_true rfl) (Nat.le_of_ble_eq_true rfl) (Nat.le_of_ble_eq_true rfl) (Nat.le_of_ble_eq_true rfl) hlocks (Nat.le_of_ble_eq_true rfl) (Nat.le_of_ble_eq_true rfl)
  refine lv_if_lt (tgt := 17) hx hb dX5_bowlAt_1 (by decide) (fun c1 => ?_) (fun c1 => ?_)
  · have hF := itp c1 hF
    exact hJ17 () _ _ _ hP hS (lv_sub hl [] rfl) hF
  · have hF := itn c1 hF
    refine lv_iload_n hx hb dX5_bowlAt_4 rfl (lv_at hl 1 rfl) ?_
    refine lv_bipush (v := 60) hx hb dX5_bowlAt_5 (by decide) ?_
    refine lv_icmp_ge (tgt := 17) hx hb dX5_bowlAt_7 (by decide) (fun c2 => ?_) (fun c2 => ?_)
    · have hF := itp c2 hF
      exact hJ17 () _ _ _ hP hS (lv_sub hl [] rfl) hF
    · have hF := itn c2 hF
      refine lv_iload_n hx hb dX5_bowlAt_10 rfl (lv_at hl 2 rfl) ?_
      obtain ⟨o3, h4, hF⟩ := obd hF
      refine wcRSi (As := [.int p2]) (rest := []) ⟨hx, hb, hml, hown, hts⟩ (met_X5_isOut l dC dI cyI cyO  N  p2 o3 h4) (va_cwS 1 hts (gS w_methodLink_X5_232 w_static_X5_isOut w_initialized_X5 w_code_X5_isOut) rfl rfl rfl (by decide +kernel) ⟨Nat.le_of_ble_eq_true rfl, Nat.le_of_ble_eq_true rfl⟩) hP hK [] rfl rfl hl.1 (Nat.le_of_ble_eq_true rfl) dX5_bowlAt_11 ⟨Nat.le_of_ble_eq_true rfl, Nat.le_of_ble_eq_true rfl⟩ hS (fun r H locs hw hP hS => ?_)
      obtain ⟨hw, hz5⟩ := hw
      have hw := hw.symm
      subst hw
      refine lv_if_eq (tgt := 27) hx hb dX5_bowlAt_14 (by decide) (fun c6 => ?_) (fun c6 => ?_)
      · have hF := itp c6 hF
        refine lv_aload_n hx hb dX5_bowlAt_27 rfl (lv_at hl 0 rfl) ?_
        refine va_get (D := (dC, dI)) (ci := 5) (v := .ref (an 0)) (C := RX5) (T := TX5) (N := 8) hx hb hts inX5 hown hK.1 hP 0 rfl rfl 0 (by decide) (hts _ w_fieldLink_X5_12) (fun _ h9 => h9) rfl dX5_bowlAt_28 ?_
        refine va_get (D := (dC, dI)) (ci := 3) (v := .ref (an 1)) (C := RX3) (T := TX3) (N := 6) hx hb hts inX3 hown hK.1 hP 8 rfl rfl 0 (by decide) (hts _ w_fieldLink_X5_90) (fun _ h9 => h9) rfl dX5_bowlAt_31 ?_
        refine lv_iload_n hx hb dX5_bowlAt_34 rfl (lv_at hl 1 rfl) ?_
        refine lv_bipush (v := 21) hx hb dX5_bowlAt_35 (by decide) ?_
        refine lv_imul hx hb dX5_bowlAt_37 ?_
        refine lv_iload_n hx hb dX5_bowlAt_38 rfl (lv_at hl 2 rfl) ?_
        refine lv_iadd hx hb dX5_bowlAt_39 ?_
        obtain ⟨o7, h8, hF⟩ := obd hF
        refine wcRVi (As := [.int ((p1 * (21 : Int32)) + p2)]) (rest := []) (b := (an 1)) ⟨hx, hb, hml, hown, hts⟩ (met_X0_thingAt l dC dI cyI cyO an N (S_green nv) ((p1 * (21 : Int32)) + p2) o7 h8) (cwV 1 hts (gV w_methodLink_X5_241 w_instanceMethod_X0_thingAt w_selects_X0_thingAt w_initialized_X0 w_code_X0_thingAt) rfl rfl rfl (by decide +kernel) ⟨Nat.le_of_ble_eq_true rfl, Nat.le_of_ble_eq_true rfl⟩) (va_recv hK.1 hP (ci := 0) (q0 := 9) rfl rfl) hP hK [9, 10, 11, 12, 13, 14, 15, 16] rfl rfl hl.1 (Nat.le_of_ble_eq_true rfl) dX5_bowlAt_40 ⟨Nat.le_of_ble_eq_true rfl, Nat.le_of_ble_eq_true rfl⟩ hS (fun r H locs hw hP hS => ?_)
        have hw := hw.symm
        subst hw
        refine lv_istore_n (lv' := [(3, .int o7), (0, .ref (x 0)), (1, .int p1), (2, .int p2)]) hx hb dX5_bowlAt_43 rfl hl (by decide) rfl (fun ls hl => ?_)
        refine lv_iload_n hx hb dX5_bowlAt_44 rfl (lv_at hl 0 rfl) ?_
        refine lv_iconst (v := -1) hx hb dX5_bowlAt_45 (by decide) ?_
        obtain ⟨j55, hj55, hF⟩ := jn_use hF
        have hJ55 : ∀ (s55 : Unit) (H : Heap) (locs : List Loc) (ls : Array Slot), va_P (dC, dI) vwCl (([(cXo x an tr xv), (cH cyO (x 1) (x 2) 2 fl), (cXk cyI x xv), (cH cyO (x 4) (x 5) 6 fs), (cT cyI x (X_text xv)), (cSo an nv), (cG cyI an (S_green nv)), (cV cyI an (S_score nv))] : List va_W).flatten) H → va_S wN0 s.heap H locs → lv_has ls 4 [] → j55 s55 = some out → W p l e (headSpec (Cond.code yX5_bowlAt cX5_bowlAt 4 (some .int) :: wT) ({ frames := 6, cells := 1, slots := 6, locals := 82 } : Room)).room s m ([.ref (x 0), .int p1, .int p2] : List Value).toArray below meth c H locs 0 0 (vx_MQ below (va_Qi (fun (r : Int32) (_ : Unit) => Sum.inr r = out) (fun _ _ => True) wN0) (xcR Int32 out) ([.ref (x 0), .int p1, .int p2] : List Value).toArray s 1 6 wN0) (F0 m 55 ls []) := by
          intro s55 H locs ls hP hS hl hF
          have hF := (congrFun hj55 s55).symm.trans hF
          have hF9 : (Sum.inl 1 : Nat ⊕ Int32) = out := Option.some.inj hF
          exact thrR_1 hF9 hx hb hst (is := 244) (text := "no bowl lies there") hown hts hZ hS (hl.1.trans hml.symm) (by decide) dX5_bowlAt_55 dX5_bowlAt_58 dX5_bowlAt_59 dX5_bowlAt_61 dX5_bowlAt_64 htx (Nat.le_of_ble_eq_true rfl) (Nat.le_of_ble_eq_true rfl) (Nat.le_of_ble_eq_true rfl) (Nat.le_of_ble_eq_true rfl) hlocks (Nat.le_of_ble_eq_true rfl) (Nat.le_of_ble_eq_true rfl)
        refine lv_icmp_eq (tgt := 55) hx hb dX5_bowlAt_46 (by decide) (fun c9 => ?_) (fun c9 => ?_)
        · have hF := itp c9 hF
          exact hJ55 () _ _ _ hP hS (lv_sub hl [] rfl) hF
        · have hF := itn c9 hF
          refine lv_iload_n hx hb dX5_bowlAt_49 rfl (lv_at hl 0 rfl) ?_
          refine lv_bipush (v := 8) hx hb dX5_bowlAt_50 (by decide) ?_
          refine lv_icmp_ne (tgt := 65) hx hb dX5_bowlAt_52 (by decide) (fun c10 => ?_) (fun c10 => ?_)
          · have hF := itn c10 hF
            refine lv_iload_n hx hb dX5_bowlAt_65 rfl (lv_at hl 0 rfl) ?_
            refine vx_ret ?_
            refine W.widen (k := 1) (n := 6) (Nat.le_of_ble_eq_true rfl) (Nat.le_of_ble_eq_true rfl) ?_
            exact W.iret (v := o7) hx hb hr (fun t ht hW => ⟨⟨_, (), rfl, Option.some.inj hF, trivial⟩, hS.F ht⟩) hS.2.2 dX5_bowlAt_66
          · have hF := itp c10 hF
            exact hJ55 () _ _ _ hP hS (lv_sub hl [] rfl) hF
      · have hF := itn c6 hF
        exact hJ17 () _ _ _ hP hS (lv_sub hl [] rfl) hF
theorem dX5_aimOf_0 : decode cX5_aimOf 0 = .ok (.aload_n 0, 1) := by decide +kernel
theorem dX5_aimOf_1 : decode cX5_aimOf 1 = .ok (.iload_n 1, 1) := by decide +kernel
theorem dX5_aimOf_2 : decode cX5_aimOf 2 = .ok (.invokevirtual 217, 3) := by decide +kernel
theorem dX5_aimOf_5 : decode cX5_aimOf 5 = .ok (.aload_n 0, 1) := by decide +kernel
theorem dX5_aimOf_6 : decode cX5_aimOf 6 = .ok (.getfield 12, 3) := by decide +kernel
theorem dX5_aimOf_9 : decode cX5_aimOf 9 = .ok (.getfield 90, 3) := by decide +kernel
theorem dX5_aimOf_12 : decode cX5_aimOf 12 = .ok (.getfield 246, 3) := by decide +kernel
theorem dX5_aimOf_15 : decode cX5_aimOf 15 = .ok (.iload_n 1, 1) := by decide +kernel
theorem dX5_aimOf_16 : decode cX5_aimOf 16 = .ok (.invokestatic 195, 3) := by decide +kernel
theorem dX5_aimOf_19 : decode cX5_aimOf 19 = .ok (.ireturn, 1) := by decide +kernel
def f_X5_aimOf (N : Nat) (xv : XV) (nv : SV) (p1 : Int32) : Option (Nat ⊕ Int32) :=
  (f_X5_requireBowl N xv nv p1).bind (fun o1 => exc o1 (fun k => some (Sum.inl k)) (fun (_ : Unit) => (f_X5_at N 8 (G_aims (S_green nv)) p1).bind (fun o3 => some (Sum.inr o3))))
set_option maxHeartbeats 4000000 in
set_option maxRecDepth 100000 in
theorem met_X5_aimOf (l : Launch) (z0 : Nat) (hst : l.stackTraces = false) (dC : Nat → ClassId) (dI : Nat → Nat → Nat) (cyI cyO : ClassId) (x : Nat → Nat) (tr : Nat → Nat) (an : Nat → Nat) (fl fs : Nat → Option Nat) (N : Nat) (xv : XV) (nv : SV) (p1 : Int32) (out : Nat ⊕ Int32) (hF : f_X5_aimOf N xv nv p1 = some out) : vx_Met l yX5_aimOf (Cond.code yX5_aimOf cX5_aimOf 2 (some .int) :: wT) ({ frames := 7, cells := 1, slots := 6, locals := 103 } : Room) (wRdX z0 dC dI cyI cyO [.ref (x 0), .int p1] (([(cXo x an tr xv), (cH cyO (x 1) (x 2) 2 fl), (cXk cyI x xv), (cH cyO (x 4) (x 5) 6 fs), (cT cyI x (X_text xv)), (cSo an nv), (cG cyI an (S_green nv)), (cV cyI an (S_score nv))] : List va_W).flatten)) (va_Qi (fun (r : Int32) (_ : Unit) => Sum.inr r = out) (fun _ _ => True) wN0) (xcR Int32 out) 1 6 wN0 := by
  refine vx_ofW (cc := cX5_aimOf) (maxL := 2) (ret := (some .int)) (by decide) rfl ?_
  intro p e s m args below meth c s₁ B hml htx hv
  obtain ⟨rfl, hP, hK, hZ⟩ := hv
  have hx := B.exec
  have hb := B.bytes
  have hr := B.returns
  have hts0 := atoms_spec (ws := (Cond.code yX5_aimOf cX5_aimOf 2 (some .int) :: wT)) B.pre
  have hts := fun w h => hts0 w (List.mem_cons_of_mem _ h)
  clear hts0
  have hown : s.vm.findClass RX5 = some m.cls := findClass_of_methodNamed B.named
  have hlocks := B.notSynchronized
  have hAz : ∀ q, wN0 q → z0 ≤ q := fun q h => h.elim
  have hS : va_S wN0 s.heap s.heap [] := va_S.rf
  have hl := lv_entry [.ref (x 0), .int p1] (n := 2) (Nat.le_of_ble_eq_true rfl)
  rw [lg_entry_eq]
  generalize (lg_sl [.ref (x 0), .int p1] ++ List.replicate (2 - (lg_sl [.ref (x 0), .int p1]).length) Slot.unset).toArray = ls at hl ⊢
  have hl : lv_has ls 2 [(0, .ref (x 0)), (1, .int p1)] := hl
  unfold f_X5_aimOf at hF
  refine lv_aload_n hx hb dX5_aimOf_0 rfl (lv_at hl 0 rfl) ?_
  refine lv_iload_n hx hb dX5_aimOf_1 rfl (lv_at hl 1 rfl) ?_
  obtain ⟨o1, h2, hF⟩ := obd hF
  refine wxRVv (As := [.int p1]) (rest := []) (b := (x 0)) ⟨hx, hb, hml, hown, hts⟩ (met_X5_requireBowl l z0 hst dC dI cyI cyO x tr an fl fs N xv nv p1 o1 h2) (cwV 1 hts (gV w_methodLink_X5_217 w_instanceMethod_X5_requireBowl w_selects_X5_requireBowl w_initialized_X5 w_code_X5_requireBowl) rfl rfl rfl (by decide +kernel) ⟨Nat.le_of_ble_eq_true rfl, Nat.le_of_ble_eq_true rfl⟩) (va_recv hK.1 hP (ci := 5) (q0 := 0) rfl rfl) hP hK hZ hAz [0, 1, 2, 3, 4, 5, 6, 7, 8, 9, 10, 11, 12, 13, 14, 15, 16, 17, 18, 19, 20] rfl rfl hl.1 (Nat.le_of_ble_eq_true rfl) dX5_aimOf_2 ⟨Nat.le_of_ble_eq_true rfl, Nat.le_of_ble_eq_true rfl⟩ hS (fun k ce q9 H locs hw hP hS h9 hv9 hc9 => ?_) (fun H locs hw hP hS => ?_)
  · have hw := hw.symm
    subst hw
    have hF := exc_l hF
    exact outR (Option.some.inj hF) htx hlocks hS h9 hv9 hc9 (Nat.le_of_ble_eq_true rfl) (Nat.le_of_ble_eq_true rfl)
  · skip
    have hw := hw.symm
    subst hw
    have hF := exc_r hF
    refine lv_aload_n hx hb dX5_aimOf_5 rfl (lv_at hl 0 rfl) ?_
    refine va_get (D := (dC, dI)) (ci := 5) (v := .ref (an 0)) (C := RX5) (T := TX5) (N := 8) hx hb hts inX5 hown hK.1 hP 0 rfl rfl 0 (by decide) (hts _ w_fieldLink_X5_12) (fun _ h9 => h9) rfl dX5_aimOf_6 ?_
    refine va_get (D := (dC, dI)) (ci := 3) (v := .ref (an 1)) (C := RX3) (T := TX3) (N := 6) hx hb hts inX3 hown hK.1 hP 8 rfl rfl 0 (by decide) (hts _ w_fieldLink_X5_90) (fun _ h9 => h9) rfl dX5_aimOf_9 ?_
    refine va_get (D := (dC, dI)) (ci := 0) (v := .ref (an 4)) (C := RX0) (T := TX0) (N := 9) hx hb hts inX0 hown hK.1 hP 9 rfl rfl 2 (by decide) (hts _ w_fieldLink_X5_246) (fun _ h9 => h9) rfl dX5_aimOf_12 ?_
    refine lv_iload_n hx hb dX5_aimOf_15 rfl (lv_at hl 1 rfl) ?_
    obtain ⟨o3, h4, hF⟩ := obd hF
    refine wcRSi (As := [.ref (an 4), .int p1]) (rest := []) ⟨hx, hb, hml, hown, hts⟩ (met_X5_at l dC dI cyI cyO (an 4) 8 N (G_aims (S_green nv)) p1 o3 h4) (va_cwS 2 hts (gS w_methodLink_X5_195 w_static_X5_at w_initialized_X5 w_code_X5_at) rfl rfl rfl (by decide +kernel) ⟨Nat.le_of_ble_eq_true rfl, Nat.le_of_ble_eq_true rfl⟩) hP hK [12] rfl rfl hl.1 (Nat.le_of_ble_eq_true rfl) dX5_aimOf_16 ⟨Nat.le_of_ble_eq_true rfl, Nat.le_of_ble_eq_true rfl⟩ hS (fun r H locs hw hP hS => ?_)
    have hw := hw.symm
    subst hw
    refine vx_ret ?_
    refine W.widen (k := 1) (n := 6) (Nat.le_of_ble_eq_true rfl) (Nat.le_of_ble_eq_true rfl) ?_
    exact W.iret (v := o3) hx hb hr (fun t ht hW => ⟨⟨_, (), rfl, Option.some.inj hF, trivial⟩, hS.F ht⟩) hS.2.2 dX5_aimOf_19
theorem dX5_weightOf_0 : decode cX5_weightOf 0 = .ok (.aload_n 0, 1) := by decide +kernel
theorem dX5_weightOf_1 : decode cX5_weightOf 1 = .ok (.iload_n 1, 1) := by decide +kernel
theorem dX5_weightOf_2 : decode cX5_weightOf 2 = .ok (.invokevirtual 217, 3) := by decide +kernel
theorem dX5_weightOf_5 : decode cX5_weightOf 5 = .ok (.aload_n 0, 1) := by decide +kernel
theorem dX5_weightOf_6 : decode cX5_weightOf 6 = .ok (.getfield 12, 3) := by decide +kernel
theorem dX5_weightOf_9 : decode cX5_weightOf 9 = .ok (.getfield 90, 3) := by decide +kernel
theorem dX5_weightOf_12 : decode cX5_weightOf 12 = .ok (.getfield 249, 3) := by decide +kernel
theorem dX5_weightOf_15 : decode cX5_weightOf 15 = .ok (.iload_n 1, 1) := by decide +kernel
theorem dX5_weightOf_16 : decode cX5_weightOf 16 = .ok (.invokestatic 195, 3) := by decide +kernel
theorem dX5_weightOf_19 : decode cX5_weightOf 19 = .ok (.ireturn, 1) := by decide +kernel
def f_X5_weightOf (N : Nat) (xv : XV) (nv : SV) (p1 : Int32) : Option (Nat ⊕ Int32) :=
  (f_X5_requireBowl N xv nv p1).bind (fun o1 => exc o1 (fun k => some (Sum.inl k)) (fun (_ : Unit) => (f_X5_at N 8 (G_weights (S_green nv)) p1).bind (fun o3 => some (Sum.inr o3))))
set_option maxHeartbeats 4000000 in
set_option maxRecDepth 100000 in
theorem met_X5_weightOf (l : Launch) (z0 : Nat) (hst : l.stackTraces = false) (dC : Nat → ClassId) (dI : Nat → Nat → Nat) (cyI cyO : ClassId) (x : Nat → Nat) (tr : Nat → Nat) (an : Nat → Nat) (fl fs : Nat → Option Nat) (N : Nat) (xv : XV) (nv : SV) (p1 : Int32) (out : Nat ⊕ Int32) (hF : f_X5_weightOf N xv nv p1 = some out) : vx_Met l yX5_weightOf (Cond.code yX5_weightOf cX5_weightOf 2 (some .int) :: wT) ({ frames := 7, cells := 1, slots := 6, locals := 103 } : Room) (wRdX z0 dC dI cyI cyO [.ref (x 0), .int p1] (([(cXo x an tr xv), (cH cyO (x 1) (x 2) 2 fl), (cXk cyI x xv), (cH cyO (x 4) (x 5) 6 fs), (cT cyI x (X_text xv)), (cSo an nv), (cG cyI an (S_green nv)), (cV cyI an (S_score nv))] : List va_W).flatten)) (va_Qi (fun (r : Int32) (_ : Unit) => Sum.inr r = out) (fun _ _ => True) wN0) (xcR Int32 out) 1 6 wN0 := by
  refine vx_ofW (cc := cX5_weightOf) (maxL := 2) (ret := (some .int)) (by decide) rfl ?_
  intro p e s m args below meth c s₁ B hml htx hv
  obtain ⟨rfl, hP, hK, hZ⟩ := hv
  have hx := B.exec
  have hb := B.bytes
  have hr := B.returns
  have hts0 := atoms_spec (ws := (Cond.code yX5_weightOf cX5_weightOf 2 (some .int) :: wT)) B.pre
  have hts := fun w h => hts0 w (List.mem_cons_of_mem _ h)
  clear hts0
  have hown : s.vm.findClass RX5 = some m.cls := findClass_of_methodNamed B.named
  have hlocks := B.notSynchronized
  have hAz : ∀ q, wN0 q → z0 ≤ q := fun q h => h.elim
  have hS : va_S wN0 s.heap s.heap [] := va_S.rf
  have hl := lv_entry [.ref (x 0), .int p1] (n := 2) (Nat.le_of_ble_eq_true rfl)
  rw [lg_entry_eq]
  generalize (lg_sl [.ref (x 0), .int p1] ++ List.replicate (2 - (lg_sl [.ref (x 0), .int p1]).length) Slot.unset).toArray = ls at hl ⊢
  have hl : lv_has ls 2 [(0, .ref (x 0)), (1, .int p1)] := hl
  unfold f_X5_weightOf at hF
  refine lv_aload_n hx hb dX5_weightOf_0 rfl (lv_at hl 0 rfl) ?_
  refine lv_iload_n hx hb dX5_weightOf_1 rfl (lv_at hl 1 rfl) ?_
  obtain ⟨o1, h2, hF⟩ := obd hF
  refine wxRVv (As := [.int p1]) (rest := []) (b := (x 0)) ⟨hx, hb, hml, hown, hts⟩ (met_X5_requireBowl l z0 hst dC dI cyI cyO x tr an fl fs N xv nv p1 o1 h2) (cwV 1 hts (gV w_methodLink_X5_217 w_instanceMethod_X5_requireBowl w_selects_X5_requireBowl w_initialized_X5 w_code_X5_requireBowl) rfl rfl rfl (by decide +kernel) ⟨Nat.le_of_ble_eq_true rfl, Nat.le_of_ble_eq_true rfl⟩) (va_recv hK.1 hP (ci := 5) (q0 := 0) rfl rfl) hP hK hZ hAz [0, 1, 2, 3, 4, 5, 6, 7, 8, 9, 10, 11, 12, 13, 14, 15, 16, 17, 18, 19, 20] rfl rfl hl.1 (Nat.le_of_ble_eq_true rfl) dX5_weightOf_2 ⟨Nat.le_of_ble_eq_true rfl, Nat.le_of_ble_eq_true rfl⟩ hS (fun k ce q9 H locs hw hP hS h9 hv9 hc9 => ?_) (fun H locs hw hP hS => ?_)
  · have hw := hw.symm
    subst hw
    have hF := exc_l hF
    exact outR (Option.some.inj hF) htx hlocks hS h9 hv9 hc9 (Nat.le_of_ble_eq_true rfl) (Nat.le_of_ble_eq_true rfl)
  · skip
    have hw := hw.symm
    subst hw
    have hF := exc_r hF
    refine lv_aload_n hx hb dX5_weightOf_5 rfl (lv_at hl 0 rfl) ?_
    refine va_get (D := (dC, dI)) (ci := 5) (v := .ref (an 0)) (C := RX5) (T := TX5) (N := 8) hx hb hts inX5 hown hK.1 hP 0 rfl rfl 0 (by decide) (hts _ w_fieldLink_X5_12) (fun _ h9 => h9) rfl dX5_weightOf_6 ?_
    refine va_get (D := (dC, dI)) (ci := 3) (v := .ref (an 1)) (C := RX3) (T := TX3) (N := 6) hx hb hts inX3 hown hK.1 hP 8 rfl rfl 0 (by decide) (hts _ w_fieldLink_X5_90) (fun _ h9 => h9) rfl dX5_weightOf_9 ?_
    refine va_get (D := (dC, dI)) (ci := 0) (v := .ref (an 5)) (C := RX0) (T := TX0) (N := 9) hx hb hts inX0 hown hK.1 hP 9 rfl rfl 3 (by decide) (hts _ w_fieldLink_X5_249) (fun _ h9 => h9) rfl dX5_weightOf_12 ?_
    refine lv_iload_n hx hb dX5_weightOf_15 rfl (lv_at hl 1 rfl) ?_
    obtain ⟨o3, h4, hF⟩ := obd hF
    refine wcRSi (As := [.ref (an 5), .int p1]) (rest := []) ⟨hx, hb, hml, hown, hts⟩ (met_X5_at l dC dI cyI cyO (an 5) 8 N (G_weights (S_green nv)) p1 o3 h4) (va_cwS 2 hts (gS w_methodLink_X5_195 w_static_X5_at w_initialized_X5 w_code_X5_at) rfl rfl rfl (by decide +kernel) ⟨Nat.le_of_ble_eq_true rfl, Nat.le_of_ble_eq_true rfl⟩) hP hK [13] rfl rfl hl.1 (Nat.le_of_ble_eq_true rfl) dX5_weightOf_16 ⟨Nat.le_of_ble_eq_true rfl, Nat.le_of_ble_eq_true rfl⟩ hS (fun r H locs hw hP hS => ?_)
    have hw := hw.symm
    subst hw
    refine vx_ret ?_
    refine W.widen (k := 1) (n := 6) (Nat.le_of_ble_eq_true rfl) (Nat.le_of_ble_eq_true rfl) ?_
    exact W.iret (v := o3) hx hb hr (fun t ht hW => ⟨⟨_, (), rfl, Option.some.inj hF, trivial⟩, hS.F ht⟩) hS.2.2 dX5_weightOf_19
theorem dX5_biasOf_0 : decode cX5_biasOf 0 = .ok (.aload_n 0, 1) := by decide +kernel
theorem dX5_biasOf_1 : decode cX5_biasOf 1 = .ok (.iload_n 1, 1) := by decide +kernel
theorem dX5_biasOf_2 : decode cX5_biasOf 2 = .ok (.invokevirtual 217, 3) := by decide +kernel
theorem dX5_biasOf_5 : decode cX5_biasOf 5 = .ok (.aload_n 0, 1) := by decide +kernel
theorem dX5_biasOf_6 : decode cX5_biasOf 6 = .ok (.getfield 12, 3) := by decide +kernel
theorem dX5_biasOf_9 : decode cX5_biasOf 9 = .ok (.getfield 90, 3) := by decide +kernel
theorem dX5_biasOf_12 : decode cX5_biasOf 12 = .ok (.getfield 252, 3) := by decide +kernel
theorem dX5_biasOf_15 : decode cX5_biasOf 15 = .ok (.iload_n 1, 1) := by decide +kernel
theorem dX5_biasOf_16 : decode cX5_biasOf 16 = .ok (.invokestatic 195, 3) := by decide +kernel
theorem dX5_biasOf_19 : decode cX5_biasOf 19 = .ok (.ireturn, 1) := by decide +kernel
def f_X5_biasOf (N : Nat) (xv : XV) (nv : SV) (p1 : Int32) : Option (Nat ⊕ Int32) :=
  (f_X5_requireBowl N xv nv p1).bind (fun o1 => exc o1 (fun k => some (Sum.inl k)) (fun (_ : Unit) => (f_X5_at N 8 (G_biases (S_green nv)) p1).bind (fun o3 => some (Sum.inr o3))))
set_option maxHeartbeats 4000000 in
set_option maxRecDepth 100000 in
theorem met_X5_biasOf (l : Launch) (z0 : Nat) (hst : l.stackTraces = false) (dC : Nat → ClassId) (dI : Nat → Nat → Nat) (cyI cyO : ClassId) (x : Nat → Nat) (tr : Nat → Nat) (an : Nat → Nat) (fl fs : Nat → Option Nat) (N : Nat) (xv : XV) (nv : SV) (p1 : Int32) (out : Nat ⊕ Int32) (hF : f_X5_biasOf N xv nv p1 = some out) : vx_Met l yX5_biasOf (Cond.code yX5_biasOf cX5_biasOf 2 (some .int) :: wT) ({ frames := 7, cells := 1, slots := 6, locals := 103 } : Room) (wRdX z0 dC dI cyI cyO [.ref (x 0), .int p1] (([(cXo x an tr xv), (cH cyO (x 1) (x 2) 2 fl), (cXk cyI x xv), (cH cyO (x 4) (x 5) 6 fs), (cT cyI x (X_text xv)), (cSo an nv), (cG cyI an (S_green nv)), (cV cyI an (S_score nv))] : List va_W).flatten)) (va_Qi (fun (r : Int32) (_ : Unit) => Sum.inr r = out) (fun _ _ => True) wN0) (xcR Int32 out) 1 6 wN0 := by
  refine vx_ofW (cc := cX5_biasOf) (maxL := 2) (ret := (some .int)) (by decide) rfl ?_
  intro p e s m args below meth c s₁ B hml htx hv
  obtain ⟨rfl, hP, hK, hZ⟩ := hv
  have hx := B.exec
  have hb := B.bytes
  have hr := B.returns
  have hts0 := atoms_spec (ws := (Cond.code yX5_biasOf cX5_biasOf 2 (some .int) :: wT)) B.pre
  have hts := fun w h => hts0 w (List.mem_cons_of_mem _ h)
  clear hts0
  have hown : s.vm.findClass RX5 = some m.cls := findClass_of_methodNamed B.named
  have hlocks := B.notSynchronized
  have hAz : ∀ q, wN0 q → z0 ≤ q := fun q h => h.elim
  have hS : va_S wN0 s.heap s.heap [] := va_S.rf
  have hl := lv_entry [.ref (x 0), .int p1] (n := 2) (Nat.le_of_ble_eq_true rfl)
  rw [lg_entry_eq]
  generalize (lg_sl [.ref (x 0), .int p1] ++ List.replicate (2 - (lg_sl [.ref (x 0), .int p1]).length) Slot.unset).toArray = ls at hl ⊢
  have hl : lv_has ls 2 [(0, .ref (x 0)), (1, .int p1)] := hl
  unfold f_X5_biasOf at hF
  refine lv_aload_n hx hb dX5_biasOf_0 rfl (lv_at hl 0 rfl) ?_
  refine lv_iload_n hx hb dX5_biasOf_1 rfl (lv_at hl 1 rfl) ?_
  obtain ⟨o1, h2, hF⟩ := obd hF
  refine wxRVv (As := [.int p1]) (rest := []) (b := (x 0)) ⟨hx, hb, hml, hown, hts⟩ (met_X5_requireBowl l z0 hst dC dI cyI cyO x tr an fl fs N xv nv p1 o1 h2) (cwV 1 hts (gV w_methodLink_X5_217 w_instanceMethod_X5_requireBowl w_selects_X5_requireBowl w_initialized_X5 w_code_X5_requireBowl) rfl rfl rfl (by decide +kernel) ⟨Nat.le_of_ble_eq_true rfl, Nat.le_of_ble_eq_true rfl⟩) (va_recv hK.1 hP (ci := 5) (q0 := 0) rfl rfl) hP hK hZ hAz [0, 1, 2, 3, 4, 5, 6, 7, 8, 9, 10, 11, 12, 13, 14, 15, 16, 17, 18, 19, 20] rfl rfl hl.1 (Nat.le_of_ble_eq_true rfl) dX5_biasOf_2 ⟨Nat.le_of_ble_eq_true rfl, Nat.le_of_ble_eq_true rfl⟩ hS (fun k ce q9 H locs hw hP hS h9 hv9 hc9 => ?_) (fun H locs hw hP hS => ?_)
  · have hw := hw.symm
    subst hw
    have hF := exc_l hF
    exact outR (Option.some.inj hF) htx hlocks hS h9 hv9 hc9 (Nat.le_of_ble_eq_true rfl) (Nat.le_of_ble_eq_true rfl)
  · skip
    have hw := hw.symm
    subst hw
    have hF := exc_r hF
    refine lv_aload_n hx hb dX5_biasOf_5 rfl (lv_at hl 0 rfl) ?_
    refine va_get (D := (dC, dI)) (ci := 5) (v := .ref (an 0)) (C := RX5) (T := TX5) (N := 8) hx hb hts inX5 hown hK.1 hP 0 rfl rfl 0 (by decide) (hts _ w_fieldLink_X5_12) (fun _ h9 => h9) rfl dX5_biasOf_6 ?_
    refine va_get (D := (dC, dI)) (ci := 3) (v := .ref (an 1)) (C := RX3) (T := TX3) (N := 6) hx hb hts inX3 hown hK.1 hP 8 rfl rfl 0 (by decide) (hts _ w_fieldLink_X5_90) (fun _ h9 => h9) rfl dX5_biasOf_9 ?_
    refine va_get (D := (dC, dI)) (ci := 0) (v := .ref (an 6)) (C := RX0) (T := TX0) (N := 9) hx hb hts inX0 hown hK.1 hP 9 rfl rfl 4 (by decide) (hts _ w_fieldLink_X5_252) (fun _ h9 => h9) rfl dX5_biasOf_12 ?_
    refine lv_iload_n hx hb dX5_biasOf_15 rfl (lv_at hl 1 rfl) ?_
    obtain ⟨o3, h4, hF⟩ := obd hF
    refine wcRSi (As := [.ref (an 6), .int p1]) (rest := []) ⟨hx, hb, hml, hown, hts⟩ (met_X5_at l dC dI cyI cyO (an 6) 8 N (G_biases (S_green nv)) p1 o3 h4) (va_cwS 2 hts (gS w_methodLink_X5_195 w_static_X5_at w_initialized_X5 w_code_X5_at) rfl rfl rfl (by decide +kernel) ⟨Nat.le_of_ble_eq_true rfl, Nat.le_of_ble_eq_true rfl⟩) hP hK [14] rfl rfl hl.1 (Nat.le_of_ble_eq_true rfl) dX5_biasOf_16 ⟨Nat.le_of_ble_eq_true rfl, Nat.le_of_ble_eq_true rfl⟩ hS (fun r H locs hw hP hS => ?_)
    have hw := hw.symm
    subst hw
    refine vx_ret ?_
    refine W.widen (k := 1) (n := 6) (Nat.le_of_ble_eq_true rfl) (Nat.le_of_ble_eq_true rfl) ?_
    exact W.iret (v := o3) hx hb hr (fun t ht hW => ⟨⟨_, (), rfl, Option.some.inj hF, trivial⟩, hS.F ht⟩) hS.2.2 dX5_biasOf_19
theorem dX5_leader_0 : decode cX5_leader 0 = .ok (.aload_n 0, 1) := by decide +kernel
theorem dX5_leader_1 : decode cX5_leader 1 = .ok (.getfield 12, 3) := by decide +kernel
theorem dX5_leader_4 : decode cX5_leader 4 = .ok (.getfield 90, 3) := by decide +kernel
theorem dX5_leader_7 : decode cX5_leader 7 = .ok (.invokevirtual 255, 3) := by decide +kernel
theorem dX5_leader_10 : decode cX5_leader 10 = .ok (.istore_n 1, 1) := by decide +kernel
theorem dX5_leader_11 : decode cX5_leader 11 = .ok (.iload_n 1, 1) := by decide +kernel
theorem dX5_leader_12 : decode cX5_leader 12 = .ok (.iconst (-1), 1) := by decide +kernel
theorem dX5_leader_13 : decode cX5_leader 13 = .ok (.if_icmp .ne 14, 3) := by decide +kernel
theorem dX5_leader_16 : decode cX5_leader 16 = .ok (.new 60, 3) := by decide +kernel
theorem dX5_leader_19 : decode cX5_leader 19 = .ok (.dup, 1) := by decide +kernel
theorem dX5_leader_20 : decode cX5_leader 20 = .ok (.ldc_w 258, 3) := by decide +kernel
theorem dX5_leader_23 : decode cX5_leader 23 = .ok (.invokespecial 64, 3) := by decide +kernel
theorem dX5_leader_26 : decode cX5_leader 26 = .ok (.athrow, 1) := by decide +kernel
theorem dX5_leader_27 : decode cX5_leader 27 = .ok (.iload_n 1, 1) := by decide +kernel
theorem dX5_leader_28 : decode cX5_leader 28 = .ok (.ireturn, 1) := by decide +kernel
def f_X5_leader (N : Nat) (xv : XV) (nv : SV) : Option (Nat ⊕ Int32) :=
  (f_X0_scoringSide N (S_green nv)).bind (fun o1 => (if o1 = (-1 : Int32) then some (Sum.inl 1) else some (Sum.inr o1)))
set_option maxHeartbeats 4000000 in
set_option maxRecDepth 100000 in
theorem met_X5_leader (l : Launch) (z0 : Nat) (hst : l.stackTraces = false) (dC : Nat → ClassId) (dI : Nat → Nat → Nat) (cyI cyO : ClassId) (x : Nat → Nat) (tr : Nat → Nat) (an : Nat → Nat) (fl fs : Nat → Option Nat) (N : Nat) (xv : XV) (nv : SV) (out : Nat ⊕ Int32) (hF : f_X5_leader N xv nv = some out) : vx_Met l yX5_leader (Cond.code yX5_leader cX5_leader 2 (some .int) :: wT) ({ frames := 6, cells := 1, slots := 6, locals := 88 } : Room) (wRdX z0 dC dI cyI cyO [.ref (x 0)] (([(cXo x an tr xv), (cH cyO (x 1) (x 2) 2 fl), (cXk cyI x xv), (cH cyO (x 4) (x 5) 6 fs), (cT cyI x (X_text xv)), (cSo an nv), (cG cyI an (S_green nv)), (cV cyI an (S_score nv))] : List va_W).flatten)) (va_Qi (fun (r : Int32) (_ : Unit) => Sum.inr r = out) (fun _ _ => True) wN0) (xcR Int32 out) 1 6 wN0 := by
  refine vx_ofW (cc := cX5_leader) (maxL := 2) (ret := (some .int)) (by decide) rfl ?_
  intro p e s m args below meth c s₁ B hml htx hv
  obtain ⟨rfl, hP, hK, hZ⟩ := hv
  have hx := B.exec
  have hb := B.bytes
  have hr := B.returns
  have hts0 := atoms_spec (ws := (Cond.code yX5_leader cX5_leader 2 (some .int) :: wT)) B.pre
  have hts := fun w h => hts0 w (List.mem_cons_of_mem _ h)
  clear hts0
  have hown : s.vm.findClass RX5 = some m.cls := findClass_of_methodNamed B.named
  have hlocks := B.notSynchronized
  have hAz : ∀ q, wN0 q → z0 ≤ q := fun q h => h.elim
  have hS : va_S wN0 s.heap s.heap [] := va_S.rf
  have hl := lv_entry [.ref (x 0)] (n := 2) (Nat.le_of_ble_eq_true rfl)
  rw [lg_entry_eq]
  generalize (lg_sl [.ref (x 0)] ++ List.replicate (2 - (lg_sl [.ref (x 0)]).length) Slot.unset).toArray = ls at hl ⊢
  have hl : lv_has ls 2 [(0, .ref (x 0))] := hl
  unfold f_X5_leader at hF
  refine lv_aload_n hx hb dX5_leader_0 rfl (lv_at hl 0 rfl) ?_
  refine va_get (D := (dC, dI)) (ci := 5) (v := .ref (an 0)) (C := RX5) (T := TX5) (N := 8) hx hb hts inX5 hown hK.1 hP 0 rfl rfl 0 (by decide) (hts _ w_fieldLink_X5_12) (fun _ h9 => h9) rfl dX5_leader_1 ?_
  refine va_get (D := (dC, dI)) (ci := 3) (v := .ref (an 1)) (C := RX3) (T := TX3) (N := 6) hx hb hts inX3 hown hK.1 hP 8 rfl rfl 0 (by decide) (hts _ w_fieldLink_X5_90) (fun _ h9 => h9) rfl dX5_leader_4 ?_
  obtain ⟨o1, h2, hF⟩ := obd hF
  refine wcRVi (As := []) (rest := []) (b := (an 1)) ⟨hx, hb, hml, hown, hts⟩ (met_X0_scoringSide l dC dI cyI cyO an N (S_green nv)  o1 h2) (cwV 0 hts (gV w_methodLink_X5_255 w_instanceMethod_X0_scoringSide w_selects_X0_scoringSide w_initialized_X0 w_code_X0_scoringSide) rfl rfl rfl (by decide +kernel) ⟨Nat.le_of_ble_eq_true rfl, Nat.le_of_ble_eq_true rfl⟩) (va_recv hK.1 hP (ci := 0) (q0 := 9) rfl rfl) hP hK [9, 10, 11, 12, 13, 14, 15, 16] rfl rfl hl.1 (Nat.le_of_ble_eq_true rfl) dX5_leader_7 ⟨Nat.le_of_ble_eq_true rfl, Nat.le_of_ble_eq_true rfl⟩ hS (fun r H locs hw hP hS => ?_)
  have hw := hw.symm
  subst hw
  refine lv_istore_n (lv' := [(1, .int o1), (0, .ref (x 0))]) hx hb dX5_leader_10 rfl hl (by decide) rfl (fun ls hl => ?_)
  refine lv_iload_n hx hb dX5_leader_11 rfl (lv_at hl 0 rfl) ?_
  refine lv_iconst (v := -1) hx hb dX5_leader_12 (by decide) ?_
  refine lv_icmp_ne (tgt := 27) hx hb dX5_leader_13 (by decide) (fun c3 => ?_) (fun c3 => ?_)
  · have hF := itn c3 hF
    refine lv_iload_n hx hb dX5_leader_27 rfl (lv_at hl 0 rfl) ?_
    refine vx_ret ?_
    refine W.widen (k := 1) (n := 6) (Nat.le_of_ble_eq_true rfl) (Nat.le_of_ble_eq_true rfl) ?_
    exact W.iret (v := o1) hx hb hr (fun t ht hW => ⟨⟨_, (), rfl, Option.some.inj hF, trivial⟩, hS.F ht⟩) hS.2.2 dX5_leader_28
  · have hF := itp c3 hF
    have hF9 : (Sum.inl 1 : Nat ⊕ Int32) = out := Option.some.inj hF
    exact thrRW_1 hF9 hx hb hst (is := 258) (text := "no side would score") hown hts hZ hS (hl.1.trans hml.symm) (by decide) dX5_leader_16 dX5_leader_19 dX5_leader_20 dX5_leader_23 dX5_leader_26 htx (Nat.le_of_ble_eq_true rfl) (Nat.le_of_ble_eq_true rfl) (Nat.le_of_ble_eq_true rfl) (Nat.le_of_ble_eq_true rfl) hlocks (Nat.le_of_ble_eq_true rfl) (Nat.le_of_ble_eq_true rfl)
theorem dX5_pointsByOrder_0 : decode cX5_pointsByOrder 0 = .ok (.aload_n 0, 1) := by decide +kernel
theorem dX5_pointsByOrder_1 : decode cX5_pointsByOrder 1 = .ok (.getfield 12, 3) := by decide +kernel
theorem dX5_pointsByOrder_4 : decode cX5_pointsByOrder 4 = .ok (.getfield 90, 3) := by decide +kernel
theorem dX5_pointsByOrder_7 : decode cX5_pointsByOrder 7 = .ok (.aload_n 0, 1) := by decide +kernel
theorem dX5_pointsByOrder_8 : decode cX5_pointsByOrder 8 = .ok (.getfield 12, 3) := by decide +kernel
theorem dX5_pointsByOrder_11 : decode cX5_pointsByOrder 11 = .ok (.getfield 147, 3) := by decide +kernel
theorem dX5_pointsByOrder_14 : decode cX5_pointsByOrder 14 = .ok (.invokevirtual 260, 3) := by decide +kernel
theorem dX5_pointsByOrder_17 : decode cX5_pointsByOrder 17 = .ok (.ireturn, 1) := by decide +kernel
def f_X5_pointsByOrder (N : Nat) (xv : XV) (nv : SV) : Option (Int32 × (XV × SV)) :=
  (f_X0_orderedPoints N (S_green nv) (S_touchersTwice nv)).bind (fun o1 => some (o1.1, (xv, (S_set_green nv o1.2))))
set_option maxHeartbeats 4000000 in
set_option maxRecDepth 100000 in
theorem met_X5_pointsByOrder (l : Launch) (dC : Nat → ClassId) (dI : Nat → Nat → Nat) (cyI cyO : ClassId) (x : Nat → Nat) (tr : Nat → Nat) (an : Nat → Nat) (fl fs : Nat → Option Nat) (sz : Nat) (N : Nat) (xv : XV) (nv : SV) (out : Int32 × (XV × SV)) (hF : f_X5_pointsByOrder N xv nv = some out) : Met l yX5_pointsByOrder (Cond.code yX5_pointsByOrder cX5_pointsByOrder 1 (some .int) :: wT) ({ frames := 4, cells := 0, slots := 0, locals := 94 } : Room) (wWr dC dI cyI cyO [.ref (x 0)] (([(cXo x an tr xv), (cH cyO (x 1) (x 2) 2 fl), (cXk cyI x xv), (cH cyO (x 4) (x 5) 6 fs), (cT cyI x (X_text xv)), (cSo an nv), (cG cyI an (S_green nv)), (cV cyI an (S_score nv))] : List va_W).flatten) sz) (va_Qi (fun (r : Int32) (u : XV × SV) => (r, u) = out) (fun u t => va_P (dC, dI) vwCl (([(cXo x an tr u.1), (cH cyO (x 1) (x 2) 2 fl), (cXk cyI x u.1), (cH cyO (x 4) (x 5) 6 fs), (cT cyI x (X_text u.1)), (cSo an u.2), (cG cyI an (S_green u.2)), (cV cyI an (S_score u.2))] : List va_W).flatten) t.heap ∧ va_D (va_A (([(cXo x an tr xv), (cH cyO (x 1) (x 2) 2 fl), (cXk cyI x xv), (cH cyO (x 4) (x 5) 6 fs), (cT cyI x (X_text xv)), (cSo an nv), (cG cyI an (S_green nv)), (cV cyI an (S_score nv))] : List va_W).flatten) sz) (([(cXo x an tr u.1), (cH cyO (x 1) (x 2) 2 fl), (cXk cyI x u.1), (cH cyO (x 4) (x 5) 6 fs), (cT cyI x (X_text u.1)), (cSo an u.2), (cG cyI an (S_green u.2)), (cV cyI an (S_score u.2))] : List va_W).flatten)) (va_A (([(cXo x an tr xv), (cH cyO (x 1) (x 2) 2 fl), (cXk cyI x xv), (cH cyO (x 4) (x 5) 6 fs), (cT cyI x (X_text xv)), (cSo an nv), (cG cyI an (S_green nv)), (cV cyI an (S_score nv))] : List va_W).flatten) sz)) 0 0 (va_A (([(cXo x an tr xv), (cH cyO (x 1) (x 2) 2 fl), (cXk cyI x xv), (cH cyO (x 4) (x 5) 6 fs), (cT cyI x (X_text xv)), (cSo an nv), (cG cyI an (S_green nv)), (cV cyI an (S_score nv))] : List va_W).flatten) sz) := by
  refine Met.ofW (cc := cX5_pointsByOrder) (maxL := 1) (ret := (some .int)) (by decide) rfl ?_
  intro p e s m args below meth c s₁ B hml hv
  obtain ⟨rfl, hsz, hP, hK, hD0⟩ := hv
  have hx := B.exec
  have hb := B.bytes
  have hr := B.returns
  have hts0 := atoms_spec (ws := (Cond.code yX5_pointsByOrder cX5_pointsByOrder 1 (some .int) :: wT)) B.pre
  have hts := fun w h => hts0 w (List.mem_cons_of_mem _ h)
  clear hts0
  have hown : s.vm.findClass RX5 = some m.cls := findClass_of_methodNamed B.named
  have hlocks := B.notSynchronized
  subst hsz
  have hD := hD0.self (sz := s.heap.size)
  generalize hAe : va_A (([(cXo x an tr xv), (cH cyO (x 1) (x 2) 2 fl), (cXk cyI x xv), (cH cyO (x 4) (x 5) 6 fs), (cT cyI x (X_text xv)), (cSo an nv), (cG cyI an (S_green nv)), (cV cyI an (S_score nv))] : List va_W).flatten) s.heap.size = A at hD ⊢
  have hA : ∀ q : Nat, s.heap.size ≤ q → A q := fun q h => by rw [← hAe]; exact Or.inr h
  clear hD0
  have hS : va_S A s.heap s.heap [] := va_S.rf
  have hl := lv_entry [.ref (x 0)] (n := 1) (Nat.le_of_ble_eq_true rfl)
  rw [lg_entry_eq]
  generalize (lg_sl [.ref (x 0)] ++ List.replicate (1 - (lg_sl [.ref (x 0)]).length) Slot.unset).toArray = ls at hl ⊢
  have hl : lv_has ls 1 [(0, .ref (x 0))] := hl
  unfold f_X5_pointsByOrder at hF
  refine lv_aload_n hx hb dX5_pointsByOrder_0 rfl (lv_at hl 0 rfl) ?_
  refine va_get (D := (dC, dI)) (ci := 5) (v := .ref (an 0)) (C := RX5) (T := TX5) (N := 8) hx hb hts inX5 hown hK.1 hP 0 rfl rfl 0 (by decide) (hts _ w_fieldLink_X5_12) (fun _ h9 => h9) rfl dX5_pointsByOrder_1 ?_
  refine va_get (D := (dC, dI)) (ci := 3) (v := .ref (an 1)) (C := RX3) (T := TX3) (N := 6) hx hb hts inX3 hown hK.1 hP 8 rfl rfl 0 (by decide) (hts _ w_fieldLink_X5_90) (fun _ h9 => h9) rfl dX5_pointsByOrder_4 ?_
  refine lv_aload_n hx hb dX5_pointsByOrder_7 rfl (lv_at hl 0 rfl) ?_
  refine va_get (D := (dC, dI)) (ci := 5) (v := .ref (an 0)) (C := RX5) (T := TX5) (N := 8) hx hb hts inX5 hown hK.1 hP 0 rfl rfl 0 (by decide) (hts _ w_fieldLink_X5_12) (fun _ h9 => h9) rfl dX5_pointsByOrder_8 ?_
  refine va_get (D := (dC, dI)) (ci := 3) (v := .int (S_touchersTwice nv)) (C := RX3) (T := TX3) (N := 6) hx hb hts inX3 hown hK.1 hP 8 rfl rfl 5 (by decide) (hts _ w_fieldLink_X5_147) (fun _ h9 => h9) rfl dX5_pointsByOrder_11 ?_
  obtain ⟨o1, h2, hF⟩ := obd hF
  refine wcPVi (As := [.int (S_touchersTwice nv)]) (rest := []) (wr := ([(cXo x an tr xv), (cH cyO (x 1) (x 2) 2 fl), (cXk cyI x xv), (cH cyO (x 4) (x 5) 6 fs), (cT cyI x (X_text xv)), (cSo an nv), (cV cyI an (S_score nv))] : List va_W).flatten) (b := (an 1)) ⟨hx, hb, hml, hown, hts⟩ (met_X0_orderedPoints l dC dI cyI cyO an _ N (S_green nv) (S_touchersTwice nv) o1 h2) (cwV 1 hts (gV w_methodLink_X5_260 w_instanceMethod_X0_orderedPoints w_selects_X0_orderedPoints w_initialized_X0 w_code_X0_orderedPoints) rfl rfl rfl (by decide +kernel) ⟨Nat.le_of_ble_eq_true rfl, Nat.le_of_ble_eq_true rfl⟩) (va_recv hK.1 hP (ci := 0) (q0 := 9) rfl rfl) hP hD hK (seg_perm (n := 8) (R := [(cXo x an tr xv), (cH cyO (x 1) (x 2) 2 fl), (cXk cyI x xv), (cH cyO (x 4) (x 5) 6 fs), (cT cyI x (X_text xv)), (cSo an nv), (cV cyI an (S_score nv))]) (C := [(cG cyI an (S_green nv))]) [0, 1, 2, 3, 4, 5, 7] [6] rfl rfl rfl (by decide) rfl) rfl hl.1 (Nat.le_of_ble_eq_true rfl) dX5_pointsByOrder_14 ⟨Nat.le_of_ble_eq_true rfl, Nat.le_of_ble_eq_true rfl⟩ hS hA (fun r u H locs hw hP hD hS => ?_)
  obtain rfl : r = o1.1 := congrArg Prod.fst hw
  obtain rfl : u = o1.2 := congrArg Prod.snd hw
  clear hw
  have hq := seg_permS (segs := [(cXo x an tr xv), (cH cyO (x 1) (x 2) 2 fl), (cXk cyI x xv), (cH cyO (x 4) (x 5) 6 fs), (cT cyI x (X_text xv)), (cSo an (S_set_green nv o1.2)), (cG cyI an (S_green (S_set_green nv o1.2))), (cV cyI an (S_score (S_set_green nv o1.2)))]) (R := [(cXo x an tr xv), (cH cyO (x 1) (x 2) 2 fl), (cXk cyI x xv), (cH cyO (x 4) (x 5) 6 fs), (cT cyI x (X_text xv)), (cSo an nv), (cV cyI an (S_score nv))]) (C := [(cG cyI an (S_green (S_set_green nv o1.2)))]) (n := 8) [0, 1, 2, 3, 4, 5, 7] [6] rfl rfl rfl (by decide)
  have hP : va_P (dC, dI) vwCl (([(cXo x an tr xv), (cH cyO (x 1) (x 2) 2 fl), (cXk cyI x xv), (cH cyO (x 4) (x 5) 6 fs), (cT cyI x (X_text xv)), (cSo an (S_set_green nv o1.2)), (cG cyI an (S_green (S_set_green nv o1.2))), (cV cyI an (S_score (S_set_green nv o1.2)))] : List va_W).flatten) H := hP.perm hq
  have hD : va_D A (([(cXo x an tr xv), (cH cyO (x 1) (x 2) 2 fl), (cXk cyI x xv), (cH cyO (x 4) (x 5) 6 fs), (cT cyI x (X_text xv)), (cSo an (S_set_green nv o1.2)), (cG cyI an (S_green (S_set_green nv o1.2))), (cV cyI an (S_score (S_set_green nv o1.2)))] : List va_W).flatten) := hD.perm hq
  clear hq
  exact W.iret (v := o1.1) hx hb hr (fun t ht hW => ⟨⟨_, (xv, (S_set_green nv o1.2)), rfl, Option.some.inj hF, by rw [ht]; exact hP, hD⟩, hS.F ht⟩) hS.2.2 dX5_pointsByOrder_17
theorem dX5_pointsByPairs_0 : decode cX5_pointsByPairs 0 = .ok (.aload_n 0, 1) := by decide +kernel
theorem dX5_pointsByPairs_1 : decode cX5_pointsByPairs 1 = .ok (.getfield 12, 3) := by decide +kernel
theorem dX5_pointsByPairs_4 : decode cX5_pointsByPairs 4 = .ok (.getfield 90, 3) := by decide +kernel
theorem dX5_pointsByPairs_7 : decode cX5_pointsByPairs 7 = .ok (.aload_n 0, 1) := by decide +kernel
theorem dX5_pointsByPairs_8 : decode cX5_pointsByPairs 8 = .ok (.getfield 12, 3) := by decide +kernel
theorem dX5_pointsByPairs_11 : decode cX5_pointsByPairs 11 = .ok (.getfield 147, 3) := by decide +kernel
theorem dX5_pointsByPairs_14 : decode cX5_pointsByPairs 14 = .ok (.invokevirtual 264, 3) := by decide +kernel
theorem dX5_pointsByPairs_17 : decode cX5_pointsByPairs 17 = .ok (.ireturn, 1) := by decide +kernel
def f_X5_pointsByPairs (N : Nat) (xv : XV) (nv : SV) : Option (Int32) :=
  (f_X0_pairedPoints N (S_green nv) (S_touchersTwice nv)).bind (fun o1 => some o1)
set_option maxHeartbeats 4000000 in
set_option maxRecDepth 100000 in
theorem met_X5_pointsByPairs (l : Launch) (dC : Nat → ClassId) (dI : Nat → Nat → Nat) (cyI cyO : ClassId) (x : Nat → Nat) (tr : Nat → Nat) (an : Nat → Nat) (fl fs : Nat → Option Nat) (N : Nat) (xv : XV) (nv : SV) (out : Int32) (hF : f_X5_pointsByPairs N xv nv = some out) : Met l yX5_pointsByPairs (Cond.code yX5_pointsByPairs cX5_pointsByPairs 1 (some .int) :: wT) ({ frames := 4, cells := 0, slots := 0, locals := 90 } : Room) (wRd dC dI cyI cyO [.ref (x 0)] (([(cXo x an tr xv), (cH cyO (x 1) (x 2) 2 fl), (cXk cyI x xv), (cH cyO (x 4) (x 5) 6 fs), (cT cyI x (X_text xv)), (cSo an nv), (cG cyI an (S_green nv)), (cV cyI an (S_score nv))] : List va_W).flatten)) (va_Qi (fun (r : Int32) (_ : Unit) => r = out) (fun _ _ => True) wN0) 0 0 wN0 := by
  refine Met.ofW (cc := cX5_pointsByPairs) (maxL := 1) (ret := (some .int)) (by decide) rfl ?_
  intro p e s m args below meth c s₁ B hml hv
  obtain ⟨rfl, hP, hK⟩ := hv
  have hx := B.exec
  have hb := B.bytes
  have hr := B.returns
  have hts0 := atoms_spec (ws := (Cond.code yX5_pointsByPairs cX5_pointsByPairs 1 (some .int) :: wT)) B.pre
  have hts := fun w h => hts0 w (List.mem_cons_of_mem _ h)
  clear hts0
  have hown : s.vm.findClass RX5 = some m.cls := findClass_of_methodNamed B.named
  have hlocks := B.notSynchronized
  have hS : va_S wN0 s.heap s.heap [] := va_S.rf
  have hl := lv_entry [.ref (x 0)] (n := 1) (Nat.le_of_ble_eq_true rfl)
  rw [lg_entry_eq]
  generalize (lg_sl [.ref (x 0)] ++ List.replicate (1 - (lg_sl [.ref (x 0)]).length) Slot.unset).toArray = ls at hl ⊢
  have hl : lv_has ls 1 [(0, .ref (x 0))] := hl
  unfold f_X5_pointsByPairs at hF
  refine lv_aload_n hx hb dX5_pointsByPairs_0 rfl (lv_at hl 0 rfl) ?_
  refine va_get (D := (dC, dI)) (ci := 5) (v := .ref (an 0)) (C := RX5) (T := TX5) (N := 8) hx hb hts inX5 hown hK.1 hP 0 rfl rfl 0 (by decide) (hts _ w_fieldLink_X5_12) (fun _ h9 => h9) rfl dX5_pointsByPairs_1 ?_
  refine va_get (D := (dC, dI)) (ci := 3) (v := .ref (an 1)) (C := RX3) (T := TX3) (N := 6) hx hb hts inX3 hown hK.1 hP 8 rfl rfl 0 (by decide) (hts _ w_fieldLink_X5_90) (fun _ h9 => h9) rfl dX5_pointsByPairs_4 ?_
  refine lv_aload_n hx hb dX5_pointsByPairs_7 rfl (lv_at hl 0 rfl) ?_
  refine va_get (D := (dC, dI)) (ci := 5) (v := .ref (an 0)) (C := RX5) (T := TX5) (N := 8) hx hb hts inX5 hown hK.1 hP 0 rfl rfl 0 (by decide) (hts _ w_fieldLink_X5_12) (fun _ h9 => h9) rfl dX5_pointsByPairs_8 ?_
  refine va_get (D := (dC, dI)) (ci := 3) (v := .int (S_touchersTwice nv)) (C := RX3) (T := TX3) (N := 6) hx hb hts inX3 hown hK.1 hP 8 rfl rfl 5 (by decide) (hts _ w_fieldLink_X5_147) (fun _ h9 => h9) rfl dX5_pointsByPairs_11 ?_
  obtain ⟨o1, h2, hF⟩ := obd hF
  refine wcRVi (As := [.int (S_touchersTwice nv)]) (rest := []) (b := (an 1)) ⟨hx, hb, hml, hown, hts⟩ (met_X0_pairedPoints l dC dI cyI cyO an N (S_green nv) (S_touchersTwice nv) o1 h2) (cwV 1 hts (gV w_methodLink_X5_264 w_instanceMethod_X0_pairedPoints w_selects_X0_pairedPoints w_initialized_X0 w_code_X0_pairedPoints) rfl rfl rfl (by decide +kernel) ⟨Nat.le_of_ble_eq_true rfl, Nat.le_of_ble_eq_true rfl⟩) (va_recv hK.1 hP (ci := 0) (q0 := 9) rfl rfl) hP hK [9, 10, 11, 12, 13, 14, 15, 16] rfl rfl hl.1 (Nat.le_of_ble_eq_true rfl) dX5_pointsByPairs_14 ⟨Nat.le_of_ble_eq_true rfl, Nat.le_of_ble_eq_true rfl⟩ hS (fun r H locs hw hP hS => ?_)
  have hw := hw.symm
  subst hw
  exact W.iret (v := o1) hx hb hr (fun t ht hW => ⟨⟨_, (), rfl, Option.some.inj hF, trivial⟩, hS.F ht⟩) hS.2.2 dX5_pointsByPairs_17
theorem dX5_nearest_0 : decode cX5_nearest 0 = .ok (.iload_n 1, 1) := by decide +kernel
theorem dX5_nearest_1 : decode cX5_nearest 1 = .ok (.ifCond .lt 30, 3) := by decide +kernel
theorem dX5_nearest_4 : decode cX5_nearest 4 = .ok (.aload_n 0, 1) := by decide +kernel
theorem dX5_nearest_5 : decode cX5_nearest 5 = .ok (.getfield 12, 3) := by decide +kernel
theorem dX5_nearest_8 : decode cX5_nearest 8 = .ok (.getfield 90, 3) := by decide +kernel
theorem dX5_nearest_11 : decode cX5_nearest 11 = .ok (.invokevirtual 127, 3) := by decide +kernel
theorem dX5_nearest_14 : decode cX5_nearest 14 = .ok (.ifCond .eq 17, 3) := by decide +kernel
theorem dX5_nearest_17 : decode cX5_nearest 17 = .ok (.iload_n 1, 1) := by decide +kernel
theorem dX5_nearest_18 : decode cX5_nearest 18 = .ok (.aload_n 0, 1) := by decide +kernel
theorem dX5_nearest_19 : decode cX5_nearest 19 = .ok (.getfield 12, 3) := by decide +kernel
theorem dX5_nearest_22 : decode cX5_nearest 22 = .ok (.getfield 90, 3) := by decide +kernel
theorem dX5_nearest_25 : decode cX5_nearest 25 = .ok (.invokevirtual 267, 3) := by decide +kernel
theorem dX5_nearest_28 : decode cX5_nearest 28 = .ok (.if_icmp .lt 13, 3) := by decide +kernel
theorem dX5_nearest_31 : decode cX5_nearest 31 = .ok (.new 236, 3) := by decide +kernel
theorem dX5_nearest_34 : decode cX5_nearest 34 = .ok (.dup, 1) := by decide +kernel
theorem dX5_nearest_35 : decode cX5_nearest 35 = .ok (.ldc 238, 2) := by decide +kernel
theorem dX5_nearest_37 : decode cX5_nearest 37 = .ok (.invokespecial 240, 3) := by decide +kernel
theorem dX5_nearest_40 : decode cX5_nearest 40 = .ok (.athrow, 1) := by decide +kernel
theorem dX5_nearest_41 : decode cX5_nearest 41 = .ok (.aload_n 0, 1) := by decide +kernel
theorem dX5_nearest_42 : decode cX5_nearest 42 = .ok (.getfield 12, 3) := by decide +kernel
theorem dX5_nearest_45 : decode cX5_nearest 45 = .ok (.getfield 90, 3) := by decide +kernel
theorem dX5_nearest_48 : decode cX5_nearest 48 = .ok (.getfield 270, 3) := by decide +kernel
theorem dX5_nearest_51 : decode cX5_nearest 51 = .ok (.iload_n 1, 1) := by decide +kernel
theorem dX5_nearest_52 : decode cX5_nearest 52 = .ok (.invokestatic 195, 3) := by decide +kernel
theorem dX5_nearest_55 : decode cX5_nearest 55 = .ok (.ireturn, 1) := by decide +kernel
def f_X5_nearest (N : Nat) (xv : XV) (nv : SV) (p1 : Int32) : Option ((Nat ⊕ Int32) × (XV × SV)) :=
  jn (fun (s31 : XV × SV) => some (Sum.inl 2, (s31.1, s31.2))) (fun (j31 : (XV × SV) → Option ((Nat ⊕ Int32) × (XV × SV))) => (if p1 < 0 then j31 (xv, nv) else (f_X0_hasJack N (S_green nv)).bind (fun o2 => (if o2 = 0 then j31 (xv, nv) else (f_X0_sortByDistance N (S_green nv)).bind (fun o6 => (if p1 < o6.1 then (f_X5_at N 8 (G_order o6.2) p1).bind (fun o9 => some ((Sum.inr o9), (xv, (S_set_green nv o6.2)))) else j31 (xv, (S_set_green nv o6.2))))))))
set_option maxHeartbeats 4000000 in
set_option maxRecDepth 100000 in
theorem met_X5_nearest (l : Launch) (z0 : Nat) (hst : l.stackTraces = false) (dC : Nat → ClassId) (dI : Nat → Nat → Nat) (cyI cyO : ClassId) (x : Nat → Nat) (tr : Nat → Nat) (an : Nat → Nat) (fl fs : Nat → Option Nat) (sz : Nat) (N : Nat) (xv : XV) (nv : SV) (p1 : Int32) (out : (Nat ⊕ Int32) × (XV × SV)) (hF : f_X5_nearest N xv nv p1 = some out) : vx_Met l yX5_nearest (Cond.code yX5_nearest cX5_nearest 2 (some .int) :: wT) ({ frames := 6, cells := 1, slots := 6, locals := 82 } : Room) (wWrX z0 dC dI cyI cyO [.ref (x 0), .int p1] (([(cXo x an tr xv), (cH cyO (x 1) (x 2) 2 fl), (cXk cyI x xv), (cH cyO (x 4) (x 5) 6 fs), (cT cyI x (X_text xv)), (cSo an nv), (cG cyI an (S_green nv)), (cV cyI an (S_score nv))] : List va_W).flatten) sz) (va_Qi (fun (r : Int32) (u : XV × SV) => (Sum.inr r, u) = out) (fun u t => va_P (dC, dI) vwCl (([(cXo x an tr u.1), (cH cyO (x 1) (x 2) 2 fl), (cXk cyI x u.1), (cH cyO (x 4) (x 5) 6 fs), (cT cyI x (X_text u.1)), (cSo an u.2), (cG cyI an (S_green u.2)), (cV cyI an (S_score u.2))] : List va_W).flatten) t.heap ∧ va_D (va_A (([(cXo x an tr xv), (cH cyO (x 1) (x 2) 2 fl), (cXk cyI x xv), (cH cyO (x 4) (x 5) 6 fs), (cT cyI x (X_text xv)), (cSo an nv), (cG cyI an (S_green nv)), (cV cyI an (S_score nv))] : List va_W).flatten) sz) (([(cXo x an tr u.1), (cH cyO (x 1) (x 2) 2 fl), (cXk cyI x u.1), (cH cyO (x 4) (x 5) 6 fs), (cT cyI x (X_text u.1)), (cSo an u.2), (cG cyI an (S_green u.2)), (cV cyI an (S_score u.2))] : List va_W).flatten)) (va_A (([(cXo x an tr xv), (cH cyO (x 1) (x 2) 2 fl), (cXk cyI x xv), (cH cyO (x 4) (x 5) 6 fs), (cT cyI x (X_text xv)), (cSo an nv), (cG cyI an (S_green nv)), (cV cyI an (S_score nv))] : List va_W).flatten) sz)) (xcW dC dI Int32 (fun (u : XV × SV) => (([(cXo x an tr u.1), (cH cyO (x 1) (x 2) 2 fl), (cXk cyI x u.1), (cH cyO (x 4) (x 5) 6 fs), (cT cyI x (X_text u.1)), (cSo an u.2), (cG cyI an (S_green u.2)), (cV cyI an (S_score u.2))] : List va_W).flatten)) (va_A (([(cXo x an tr xv), (cH cyO (x 1) (x 2) 2 fl), (cXk cyI x xv), (cH cyO (x 4) (x 5) 6 fs), (cT cyI x (X_text xv)), (cSo an nv), (cG cyI an (S_green nv)), (cV cyI an (S_score nv))] : List va_W).flatten) sz) out) 1 6 (va_A (([(cXo x an tr xv), (cH cyO (x 1) (x 2) 2 fl), (cXk cyI x xv), (cH cyO (x 4) (x 5) 6 fs), (cT cyI x (X_text xv)), (cSo an nv), (cG cyI an (S_green nv)), (cV cyI an (S_score nv))] : List va_W).flatten) sz) := by
  refine vx_ofW (cc := cX5_nearest) (maxL := 2) (ret := (some .int)) (by decide) rfl ?_
  intro p e s m args below meth c s₁ B hml htx hv
  obtain ⟨rfl, hsz, hP, hK, hD0, hz0, hZ⟩ := hv
  have hx := B.exec
  have hb := B.bytes
  have hr := B.returns
  have hts0 := atoms_spec (ws := (Cond.code yX5_nearest cX5_nearest 2 (some .int) :: wT)) B.pre
  have hts := fun w h => hts0 w (List.mem_cons_of_mem _ h)
  clear hts0
  have hown : s.vm.findClass RX5 = some m.cls := findClass_of_methodNamed B.named
  have hlocks := B.notSynchronized
  subst hsz
  have hD := hD0.self (sz := s.heap.size)
  have hAz := wA_ge hD0 hz0
  generalize hAe : va_A (([(cXo x an tr xv), (cH cyO (x 1) (x 2) 2 fl), (cXk cyI x xv), (cH cyO (x 4) (x 5) 6 fs), (cT cyI x (X_text xv)), (cSo an nv), (cG cyI an (S_green nv)), (cV cyI an (S_score nv))] : List va_W).flatten) s.heap.size = A at hD hAz ⊢
  have hA : ∀ q : Nat, s.heap.size ≤ q → A q := fun q h => by rw [← hAe]; exact Or.inr h
  clear hD0
  have hS : va_S A s.heap s.heap [] := va_S.rf
  have hl := lv_entry [.ref (x 0), .int p1] (n := 2) (Nat.le_of_ble_eq_true rfl)
  rw [lg_entry_eq]
  generalize (lg_sl [.ref (x 0), .int p1] ++ List.replicate (2 - (lg_sl [.ref (x 0), .int p1]).length) Slot.unset).toArray = ls at hl ⊢
  have hl : lv_has ls 2 [(0, .ref (x 0)), (1, .int p1)] := hl
  unfold f_X5_nearest at hF
  refine lv_iload_n hx hb dX5_nearest_0 rfl (lv_at hl 1 rfl) ?_
  obtain ⟨j31, hj31, hF⟩ := jn_use hF
  have hJ31 : ∀ (s31 : XV × SV) (H : Heap) (locs : List Loc) (ls : Array Slot), va_P (dC, dI) vwCl (([(cXo x an tr s31.1), (cH cyO (x 1) (x 2) 2 fl), (cXk cyI x s31.1), (cH cyO (x 4) (x 5) 6 fs), (cT cyI x (X_text s31.1)), (cSo an s31.2), (cG cyI an (S_green s31.2)), (cV cyI an (S_score s31.2))] : List va_W).flatten) H → va_D A (([(cXo x an tr s31.1), (cH cyO (x 1) (x 2) 2 fl), (cXk cyI x s31.1), (cH cyO (x 4) (x 5) 6 fs), (cT cyI x (X_text s31.1)), (cSo an s31.2), (cG cyI an (S_green s31.2)), (cV cyI an (S_score s31.2))] : List va_W).flatten) → va_S A s.heap H locs → lv_has ls 2 [] → j31 s31 = some out → W p l e (headSpec (Cond.code yX5_nearest cX5_nearest 2 (some .int) :: wT) ({ frames := 6, cells := 1, slots := 6, locals := 82 } : Room)).room s m ([.ref (x 0), .int p1] : List Value).toArray below meth c H locs 0 0 (vx_MQ below (va_Qi (fun (r : Int32) (u : XV × SV) => (Sum.inr r, u) = out) (fun u t => va_P (dC, dI) vwCl (([(cXo x an tr u.1), (cH cyO (x 1) (x 2) 2 fl), (cXk cyI x u.1), (cH cyO (x 4) (x 5) 6 fs), (cT cyI x (X_text u.1)), (cSo an u.2), (cG cyI an (S_green u.2)), (cV cyI an (S_score u.2))] : List va_W).flatten) t.heap ∧ va_D A (([(cXo x an tr u.1), (cH cyO (x 1) (x 2) 2 fl), (cXk cyI x u.1), (cH cyO (x 4) (x 5) 6 fs), (cT cyI x (X_text u.1)), (cSo an u.2), (cG cyI an (S_green u.2)), (cV cyI an (S_score u.2))] : List va_W).flatten)) A) (xcW dC dI Int32 (fun (u : XV × SV) => (([(cXo x an tr u.1), (cH cyO (x 1) (x 2) 2 fl), (cXk cyI x u.1), (cH cyO (x 4) (x 5) 6 fs), (cT cyI x (X_text u.1)), (cSo an u.2), (cG cyI an (S_green u.2)), (cV cyI an (S_score u.2))] : List va_W).flatten)) A out) ([.ref (x 0), .int p1] : List Value).toArray s 1 6 A) (F0 m 31 ls []) := by
    intro s31 H locs ls hP hD hS hl hF
    have hF := (congrFun hj31 s31).symm.trans hF
    have hF9 : ((Sum.inl 2 : Nat ⊕ Int32), (s31.1, s31.2)) = out := Option.some.inj hF
    exact thrW_2 (w1 := fun (u : XV × SV) => (([(cXo x an tr u.1), (cH cyO (x 1) (x 2) 2 fl), (cXk cyI x u.1), (cH cyO (x 4) (x 5) 6 fs), (cT cyI x (X_text u.1)), (cSo an u.2), (cG cyI an (S_green u.2)), (cV cyI an (S_score u.2))] : List va_W).flatten)) (v := (s31.1, s31.2)) hF9 hP hD hx hb hst (is := 238) (text := "there is no such place") hown hts hZ hAz hS (hl.1.trans hml.symm) (by decide) dX5_nearest_31 dX5_nearest_34 dX5_nearest_35 dX5_nearest_37 dX5_nearest_40 htx (Nat.le_of_ble_eq_true rfl) (Nat.le_of_ble_eq_true rfl) (Nat.le_of_ble_eq_true rfl) (Nat.le_of_ble_eq_true rfl) hlocks (Nat.le_of_ble_eq_true rfl) (Nat.le_of_ble_eq_true rfl)
  refine lv_if_lt (tgt := 31) hx hb dX5_nearest_1 (by decide) (fun c1 => ?_) (fun c1 => ?_)
  · have hF := itp c1 hF
    exact hJ31 (xv, nv) _ _ _ hP hD hS (lv_sub hl [] rfl) hF
  · have hF := itn c1 hF
    refine lv_aload_n hx hb dX5_nearest_4 rfl (lv_at hl 0 rfl) ?_
    refine va_get (D := (dC, dI)) (ci := 5) (v := .ref (an 0)) (C := RX5) (T := TX5) (N := 8) hx hb hts inX5 hown hK.1 hP 0 rfl rfl 0 (by decide) (hts _ w_fieldLink_X5_12) (fun _ h9 => h9) rfl dX5_nearest_5 ?_
    refine va_get (D := (dC, dI)) (ci := 3) (v := .ref (an 1)) (C := RX3) (T := TX3) (N := 6) hx hb hts inX3 hown hK.1 hP 8 rfl rfl 0 (by decide) (hts _ w_fieldLink_X5_90) (fun _ h9 => h9) rfl dX5_nearest_8 ?_
    obtain ⟨o2, h3, hF⟩ := obd hF
    refine wcRVi (As := []) (rest := []) (b := (an 1)) ⟨hx, hb, hml, hown, hts⟩ (met_X0_hasJack l dC dI cyI cyO an N (S_green nv)  o2 h3) (cwV 0 hts (gV w_methodLink_X5_127 w_instanceMethod_X0_hasJack w_selects_X0_hasJack w_initialized_X0 w_code_X0_hasJack) rfl rfl rfl (by decide +kernel) ⟨Nat.le_of_ble_eq_true rfl, Nat.le_of_ble_eq_true rfl⟩) (va_recv hK.1 hP (ci := 0) (q0 := 9) rfl rfl) hP hK [9, 10, 11, 12, 13, 14, 15, 16] rfl rfl hl.1 (Nat.le_of_ble_eq_true rfl) dX5_nearest_11 ⟨Nat.le_of_ble_eq_true rfl, Nat.le_of_ble_eq_true rfl⟩ hS (fun r H locs hw hP hS => ?_)
    obtain ⟨hw, hz4⟩ := hw
    have hw := hw.symm
    subst hw
    refine lv_if_eq (tgt := 31) hx hb dX5_nearest_14 (by decide) (fun c5 => ?_) (fun c5 => ?_)
    · have hF := itp c5 hF
      exact hJ31 (xv, nv) _ _ _ hP hD hS (lv_sub hl [] rfl) hF
    · have hF := itn c5 hF
      refine lv_iload_n hx hb dX5_nearest_17 rfl (lv_at hl 1 rfl) ?_
      refine lv_aload_n hx hb dX5_nearest_18 rfl (lv_at hl 0 rfl) ?_
      refine va_get (D := (dC, dI)) (ci := 5) (v := .ref (an 0)) (C := RX5) (T := TX5) (N := 8) hx hb hts inX5 hown hK.1 hP 0 rfl rfl 0 (by decide) (hts _ w_fieldLink_X5_12) (fun _ h9 => h9) rfl dX5_nearest_19 ?_
      refine va_get (D := (dC, dI)) (ci := 3) (v := .ref (an 1)) (C := RX3) (T := TX3) (N := 6) hx hb hts inX3 hown hK.1 hP 8 rfl rfl 0 (by decide) (hts _ w_fieldLink_X5_90) (fun _ h9 => h9) rfl dX5_nearest_22 ?_
      obtain ⟨o6, h7, hF⟩ := obd hF
      refine wcPVi (As := []) (rest := [.int p1]) (wr := ([(cXo x an tr xv), (cH cyO (x 1) (x 2) 2 fl), (cXk cyI x xv), (cH cyO (x 4) (x 5) 6 fs), (cT cyI x (X_text xv)), (cSo an nv), (cV cyI an (S_score nv))] : List va_W).flatten) (b := (an 1)) ⟨hx, hb, hml, hown, hts⟩ (met_X0_sortByDistance l dC dI cyI cyO an _ N (S_green nv)  o6 h7) (cwV 0 hts (gV w_methodLink_X5_267 w_instanceMethod_X0_sortByDistance w_selects_X0_sortByDistance w_initialized_X0 w_code_X0_sortByDistance) rfl rfl rfl (by decide +kernel) ⟨Nat.le_of_ble_eq_true rfl, Nat.le_of_ble_eq_true rfl⟩) (va_recv hK.1 hP (ci := 0) (q0 := 9) rfl rfl) hP hD hK (seg_perm (n := 8) (R := [(cXo x an tr xv), (cH cyO (x 1) (x 2) 2 fl), (cXk cyI x xv), (cH cyO (x 4) (x 5) 6 fs), (cT cyI x (X_text xv)), (cSo an nv), (cV cyI an (S_score nv))]) (C := [(cG cyI an (S_green nv))]) [0, 1, 2, 3, 4, 5, 7] [6] rfl rfl rfl (by decide) rfl) rfl hl.1 (Nat.le_of_ble_eq_true rfl) dX5_nearest_25 ⟨Nat.le_of_ble_eq_true rfl, Nat.le_of_ble_eq_true rfl⟩ hS hA (fun r u H locs hw hP hD hS => ?_)
      obtain rfl : r = o6.1 := congrArg Prod.fst hw
      obtain rfl : u = o6.2 := congrArg Prod.snd hw
      clear hw
      have hq := seg_permS (segs := [(cXo x an tr xv), (cH cyO (x 1) (x 2) 2 fl), (cXk cyI x xv), (cH cyO (x 4) (x 5) 6 fs), (cT cyI x (X_text xv)), (cSo an (S_set_green nv o6.2)), (cG cyI an (S_green (S_set_green nv o6.2))), (cV cyI an (S_score (S_set_green nv o6.2)))]) (R := [(cXo x an tr xv), (cH cyO (x 1) (x 2) 2 fl), (cXk cyI x xv), (cH cyO (x 4) (x 5) 6 fs), (cT cyI x (X_text xv)), (cSo an nv), (cV cyI an (S_score nv))]) (C := [(cG cyI an (S_green (S_set_green nv o6.2)))]) (n := 8) [0, 1, 2, 3, 4, 5, 7] [6] rfl rfl rfl (by decide)
      have hP : va_P (dC, dI) vwCl (([(cXo x an tr xv), (cH cyO (x 1) (x 2) 2 fl), (cXk cyI x xv), (cH cyO (x 4) (x 5) 6 fs), (cT cyI x (X_text xv)), (cSo an (S_set_green nv o6.2)), (cG cyI an (S_green (S_set_green nv o6.2))), (cV cyI an (S_score (S_set_green nv o6.2)))] : List va_W).flatten) H := hP.perm hq
      have hD : va_D A (([(cXo x an tr xv), (cH cyO (x 1) (x 2) 2 fl), (cXk cyI x xv), (cH cyO (x 4) (x 5) 6 fs), (cT cyI x (X_text xv)), (cSo an (S_set_green nv o6.2)), (cG cyI an (S_green (S_set_green nv o6.2))), (cV cyI an (S_score (S_set_green nv o6.2)))] : List va_W).flatten) := hD.perm hq
      clear hq
      refine lv_icmp_lt (tgt := 41) hx hb dX5_nearest_28 (by decide) (fun c8 => ?_) (fun c8 => ?_)
      · have hF := itp c8 hF
        refine lv_aload_n hx hb dX5_nearest_41 rfl (lv_at hl 0 rfl) ?_
        refine va_get (D := (dC, dI)) (ci := 5) (v := .ref (an 0)) (C := RX5) (T := TX5) (N := 8) hx hb hts inX5 hown hK.1 hP 0 rfl rfl 0 (by decide) (hts _ w_fieldLink_X5_12) (fun _ h9 => h9) rfl dX5_nearest_42 ?_
        refine va_get (D := (dC, dI)) (ci := 3) (v := .ref (an 1)) (C := RX3) (T := TX3) (N := 6) hx hb hts inX3 hown hK.1 hP 8 rfl rfl 0 (by decide) (hts _ w_fieldLink_X5_90) (fun _ h9 => h9) rfl dX5_nearest_45 ?_
        refine va_get (D := (dC, dI)) (ci := 0) (v := .ref (an 8)) (C := RX0) (T := TX0) (N := 9) hx hb hts inX0 hown hK.1 hP 9 rfl rfl 6 (by decide) (hts _ w_fieldLink_X5_270) (fun _ h9 => h9) rfl dX5_nearest_48 ?_
        refine lv_iload_n hx hb dX5_nearest_51 rfl (lv_at hl 1 rfl) ?_
        obtain ⟨o9, h10, hF⟩ := obd hF
        refine wcRSi (As := [.ref (an 8), .int p1]) (rest := []) ⟨hx, hb, hml, hown, hts⟩ (met_X5_at l dC dI cyI cyO (an 8) 8 N (G_order o6.2) p1 o9 h10) (va_cwS 2 hts (gS w_methodLink_X5_195 w_static_X5_at w_initialized_X5 w_code_X5_at) rfl rfl rfl (by decide +kernel) ⟨Nat.le_of_ble_eq_true rfl, Nat.le_of_ble_eq_true rfl⟩) hP hK [16] rfl rfl hl.1 (Nat.le_of_ble_eq_true rfl) dX5_nearest_52 ⟨Nat.le_of_ble_eq_true rfl, Nat.le_of_ble_eq_true rfl⟩ hS (fun r H locs hw hP hS => ?_)
        have hw := hw.symm
        subst hw
        refine vx_ret ?_
        refine W.widen (k := 1) (n := 6) (Nat.le_of_ble_eq_true rfl) (Nat.le_of_ble_eq_true rfl) ?_
        exact W.iret (v := o9) hx hb hr (fun t ht hW => ⟨⟨_, (xv, (S_set_green nv o6.2)), rfl, Option.some.inj hF, by rw [ht]; exact hP, hD⟩, hS.F ht⟩) hS.2.2 dX5_nearest_55
      · have hF := itn c8 hF
        exact hJ31 (xv, (S_set_green nv o6.2)) _ _ _ hP hD hS (lv_sub hl [] rfl) hF
theorem dX5_aliveOf_0 : decode cX5_aliveOf 0 = .ok (.iload_n 1, 1) := by decide +kernel
theorem dX5_aliveOf_1 : decode cX5_aliveOf 1 = .ok (.invokestatic 273, 3) := by decide +kernel
theorem dX5_aliveOf_4 : decode cX5_aliveOf 4 = .ok (.aload_n 0, 1) := by decide +kernel
theorem dX5_aliveOf_5 : decode cX5_aliveOf 5 = .ok (.getfield 12, 3) := by decide +kernel
theorem dX5_aliveOf_8 : decode cX5_aliveOf 8 = .ok (.getfield 90, 3) := by decide +kernel
theorem dX5_aliveOf_11 : decode cX5_aliveOf 11 = .ok (.iload_n 1, 1) := by decide +kernel
theorem dX5_aliveOf_12 : decode cX5_aliveOf 12 = .ok (.invokevirtual 276, 3) := by decide +kernel
theorem dX5_aliveOf_15 : decode cX5_aliveOf 15 = .ok (.ireturn, 1) := by decide +kernel
def f_X5_aliveOf (N : Nat) (xv : XV) (nv : SV) (p1 : Int32) : Option (Nat ⊕ Int32) :=
  (f_X5_requireSide N p1).bind (fun o1 => exc o1 (fun k => some (Sum.inl k)) (fun (_ : Unit) => (f_X0_aliveCount N (S_green nv) p1).bind (fun o3 => some (Sum.inr o3))))
set_option maxHeartbeats 4000000 in
set_option maxRecDepth 100000 in
theorem met_X5_aliveOf (l : Launch) (z0 : Nat) (hst : l.stackTraces = false) (dC : Nat → ClassId) (dI : Nat → Nat → Nat) (cyI cyO : ClassId) (x : Nat → Nat) (tr : Nat → Nat) (an : Nat → Nat) (fl fs : Nat → Option Nat) (N : Nat) (xv : XV) (nv : SV) (p1 : Int32) (out : Nat ⊕ Int32) (hF : f_X5_aliveOf N xv nv p1 = some out) : vx_Met l yX5_aliveOf (Cond.code yX5_aliveOf cX5_aliveOf 2 (some .int) :: wT) ({ frames := 7, cells := 1, slots := 6, locals := 102 } : Room) (wRdX z0 dC dI cyI cyO [.ref (x 0), .int p1] (([(cXo x an tr xv), (cH cyO (x 1) (x 2) 2 fl), (cXk cyI x xv), (cH cyO (x 4) (x 5) 6 fs), (cT cyI x (X_text xv)), (cSo an nv), (cG cyI an (S_green nv)), (cV cyI an (S_score nv))] : List va_W).flatten)) (va_Qi (fun (r : Int32) (_ : Unit) => Sum.inr r = out) (fun _ _ => True) wN0) (xcR Int32 out) 1 6 wN0 := by
  refine vx_ofW (cc := cX5_aliveOf) (maxL := 2) (ret := (some .int)) (by decide) rfl ?_
  intro p e s m args below meth c s₁ B hml htx hv
  obtain ⟨rfl, hP, hK, hZ⟩ := hv
  have hx := B.exec
  have hb := B.bytes
  have hr := B.returns
  have hts0 := atoms_spec (ws := (Cond.code yX5_aliveOf cX5_aliveOf 2 (some .int) :: wT)) B.pre
  have hts := fun w h => hts0 w (List.mem_cons_of_mem _ h)
  clear hts0
  have hown : s.vm.findClass RX5 = some m.cls := findClass_of_methodNamed B.named
  have hlocks := B.notSynchronized
  have hAz : ∀ q, wN0 q → z0 ≤ q := fun q h => h.elim
  have hS : va_S wN0 s.heap s.heap [] := va_S.rf
  have hl := lv_entry [.ref (x 0), .int p1] (n := 2) (Nat.le_of_ble_eq_true rfl)
  rw [lg_entry_eq]
  generalize (lg_sl [.ref (x 0), .int p1] ++ List.replicate (2 - (lg_sl [.ref (x 0), .int p1]).length) Slot.unset).toArray = ls at hl ⊢
  have hl : lv_has ls 2 [(0, .ref (x 0)), (1, .int p1)] := hl
  unfold f_X5_aliveOf at hF
  refine lv_iload_n hx hb dX5_aliveOf_0 rfl (lv_at hl 1 rfl) ?_
  obtain ⟨o1, h2, hF⟩ := obd hF
  refine wxRSv (As := [.int p1]) (rest := []) ⟨hx, hb, hml, hown, hts⟩ (met_X5_requireSide l z0 hst dC dI cyI cyO  N  p1 o1 h2) (va_cwS 1 hts (gS w_methodLink_X5_273 w_static_X5_requireSide w_initialized_X5 w_code_X5_requireSide) rfl rfl rfl (by decide +kernel) ⟨Nat.le_of_ble_eq_true rfl, Nat.le_of_ble_eq_true rfl⟩) hP hK hZ hAz [] rfl rfl hl.1 (Nat.le_of_ble_eq_true rfl) dX5_aliveOf_1 ⟨Nat.le_of_ble_eq_true rfl, Nat.le_of_ble_eq_true rfl⟩ hS (fun k ce q9 H locs hw hP hS h9 hv9 hc9 => ?_) (fun H locs hw hP hS => ?_)
  · have hw := hw.symm
    subst hw
    have hF := exc_l hF
    exact outR (Option.some.inj hF) htx hlocks hS h9 hv9 hc9 (Nat.le_of_ble_eq_true rfl) (Nat.le_of_ble_eq_true rfl)
  · skip
    have hw := hw.symm
    subst hw
    have hF := exc_r hF
    refine lv_aload_n hx hb dX5_aliveOf_4 rfl (lv_at hl 0 rfl) ?_
    refine va_get (D := (dC, dI)) (ci := 5) (v := .ref (an 0)) (C := RX5) (T := TX5) (N := 8) hx hb hts inX5 hown hK.1 hP 0 rfl rfl 0 (by decide) (hts _ w_fieldLink_X5_12) (fun _ h9 => h9) rfl dX5_aliveOf_5 ?_
    refine va_get (D := (dC, dI)) (ci := 3) (v := .ref (an 1)) (C := RX3) (T := TX3) (N := 6) hx hb hts inX3 hown hK.1 hP 8 rfl rfl 0 (by decide) (hts _ w_fieldLink_X5_90) (fun _ h9 => h9) rfl dX5_aliveOf_8 ?_
    refine lv_iload_n hx hb dX5_aliveOf_11 rfl (lv_at hl 1 rfl) ?_
    obtain ⟨o3, h4, hF⟩ := obd hF
    refine wcRVi (As := [.int p1]) (rest := []) (b := (an 1)) ⟨hx, hb, hml, hown, hts⟩ (met_X0_aliveCount l dC dI cyI cyO an N (S_green nv) p1 o3 h4) (cwV 1 hts (gV w_methodLink_X5_276 w_instanceMethod_X0_aliveCount w_selects_X0_aliveCount w_initialized_X0 w_code_X0_aliveCount) rfl rfl rfl (by decide +kernel) ⟨Nat.le_of_ble_eq_true rfl, Nat.le_of_ble_eq_true rfl⟩) (va_recv hK.1 hP (ci := 0) (q0 := 9) rfl rfl) hP hK [9, 10, 11, 12, 13, 14, 15, 16] rfl rfl hl.1 (Nat.le_of_ble_eq_true rfl) dX5_aliveOf_12 ⟨Nat.le_of_ble_eq_true rfl, Nat.le_of_ble_eq_true rfl⟩ hS (fun r H locs hw hP hS => ?_)
    have hw := hw.symm
    subst hw
    refine vx_ret ?_
    refine W.widen (k := 1) (n := 6) (Nat.le_of_ble_eq_true rfl) (Nat.le_of_ble_eq_true rfl) ?_
    exact W.iret (v := o3) hx hb hr (fun t ht hW => ⟨⟨_, (), rfl, Option.some.inj hF, trivial⟩, hS.F ht⟩) hS.2.2 dX5_aliveOf_15
theorem dX5_gap_0 : decode cX5_gap 0 = .ok (.aload_n 0, 1) := by decide +kernel
theorem dX5_gap_1 : decode cX5_gap 1 = .ok (.getfield 12, 3) := by decide +kernel
theorem dX5_gap_4 : decode cX5_gap 4 = .ok (.getfield 90, 3) := by decide +kernel
theorem dX5_gap_7 : decode cX5_gap 7 = .ok (.invokevirtual 279, 3) := by decide +kernel
theorem dX5_gap_10 : decode cX5_gap 10 = .ok (.istore_n 1, 1) := by decide +kernel
theorem dX5_gap_11 : decode cX5_gap 11 = .ok (.iload_n 1, 1) := by decide +kernel
theorem dX5_gap_12 : decode cX5_gap 12 = .ok (.iconst (-1), 1) := by decide +kernel
theorem dX5_gap_13 : decode cX5_gap 13 = .ok (.if_icmp .ne 14, 3) := by decide +kernel
theorem dX5_gap_16 : decode cX5_gap 16 = .ok (.new 60, 3) := by decide +kernel
theorem dX5_gap_19 : decode cX5_gap 19 = .ok (.dup, 1) := by decide +kernel
theorem dX5_gap_20 : decode cX5_gap 20 = .ok (.ldc_w 282, 3) := by decide +kernel
theorem dX5_gap_23 : decode cX5_gap 23 = .ok (.invokespecial 64, 3) := by decide +kernel
theorem dX5_gap_26 : decode cX5_gap 26 = .ok (.athrow, 1) := by decide +kernel
theorem dX5_gap_27 : decode cX5_gap 27 = .ok (.iload_n 1, 1) := by decide +kernel
theorem dX5_gap_28 : decode cX5_gap 28 = .ok (.ireturn, 1) := by decide +kernel
def f_X5_gap (N : Nat) (xv : XV) (nv : SV) : Option (Nat ⊕ Int32) :=
  (f_X0_gapOfSides N (S_green nv)).bind (fun o1 => (if o1 = (-1 : Int32) then some (Sum.inl 1) else some (Sum.inr o1)))
set_option maxHeartbeats 4000000 in
set_option maxRecDepth 100000 in
theorem met_X5_gap (l : Launch) (z0 : Nat) (hst : l.stackTraces = false) (dC : Nat → ClassId) (dI : Nat → Nat → Nat) (cyI cyO : ClassId) (x : Nat → Nat) (tr : Nat → Nat) (an : Nat → Nat) (fl fs : Nat → Option Nat) (N : Nat) (xv : XV) (nv : SV) (out : Nat ⊕ Int32) (hF : f_X5_gap N xv nv = some out) : vx_Met l yX5_gap (Cond.code yX5_gap cX5_gap 2 (some .int) :: wT) ({ frames := 6, cells := 1, slots := 6, locals := 89 } : Room) (wRdX z0 dC dI cyI cyO [.ref (x 0)] (([(cXo x an tr xv), (cH cyO (x 1) (x 2) 2 fl), (cXk cyI x xv), (cH cyO (x 4) (x 5) 6 fs), (cT cyI x (X_text xv)), (cSo an nv), (cG cyI an (S_green nv)), (cV cyI an (S_score nv))] : List va_W).flatten)) (va_Qi (fun (r : Int32) (_ : Unit) => Sum.inr r = out) (fun _ _ => True) wN0) (xcR Int32 out) 1 6 wN0 := by
  refine vx_ofW (cc := cX5_gap) (maxL := 2) (ret := (some .int)) (by decide) rfl ?_
  intro p e s m args below meth c s₁ B hml htx hv
  obtain ⟨rfl, hP, hK, hZ⟩ := hv
  have hx := B.exec
  have hb := B.bytes
  have hr := B.returns
  have hts0 := atoms_spec (ws := (Cond.code yX5_gap cX5_gap 2 (some .int) :: wT)) B.pre
  have hts := fun w h => hts0 w (List.mem_cons_of_mem _ h)
  clear hts0
  have hown : s.vm.findClass RX5 = some m.cls := findClass_of_methodNamed B.named
  have hlocks := B.notSynchronized
  have hAz : ∀ q, wN0 q → z0 ≤ q := fun q h => h.elim
  have hS : va_S wN0 s.heap s.heap [] := va_S.rf
  have hl := lv_entry [.ref (x 0)] (n := 2) (Nat.le_of_ble_eq_true rfl)
  rw [lg_entry_eq]
  generalize (lg_sl [.ref (x 0)] ++ List.replicate (2 - (lg_sl [.ref (x 0)]).length) Slot.unset).toArray = ls at hl ⊢
  have hl : lv_has ls 2 [(0, .ref (x 0))] := hl
  unfold f_X5_gap at hF
  refine lv_aload_n hx hb dX5_gap_0 rfl (lv_at hl 0 rfl) ?_
  refine va_get (D := (dC, dI)) (ci := 5) (v := .ref (an 0)) (C := RX5) (T := TX5) (N := 8) hx hb hts inX5 hown hK.1 hP 0 rfl rfl 0 (by decide) (hts _ w_fieldLink_X5_12) (fun _ h9 => h9) rfl dX5_gap_1 ?_
  refine va_get (D := (dC, dI)) (ci := 3) (v := .ref (an 1)) (C := RX3) (T := TX3) (N := 6) hx hb hts inX3 hown hK.1 hP 8 rfl rfl 0 (by decide) (hts _ w_fieldLink_X5_90) (fun _ h9 => h9) rfl dX5_gap_4 ?_
  obtain ⟨o1, h2, hF⟩ := obd hF
  refine wcRVi (As := []) (rest := []) (b := (an 1)) ⟨hx, hb, hml, hown, hts⟩ (met_X0_gapOfSides l dC dI cyI cyO an N (S_green nv)  o1 h2) (cwV 0 hts (gV w_methodLink_X5_279 w_instanceMethod_X0_gapOfSides w_selects_X0_gapOfSides w_initialized_X0 w_code_X0_gapOfSides) rfl rfl rfl (by decide +kernel) ⟨Nat.le_of_ble_eq_true rfl, Nat.le_of_ble_eq_true rfl⟩) (va_recv hK.1 hP (ci := 0) (q0 := 9) rfl rfl) hP hK [9, 10, 11, 12, 13, 14, 15, 16] rfl rfl hl.1 (Nat.le_of_ble_eq_true rfl) dX5_gap_7 ⟨Nat.le_of_ble_eq_true rfl, Nat.le_of_ble_eq_true rfl⟩ hS (fun r H locs hw hP hS => ?_)
  have hw := hw.symm
  subst hw
  refine lv_istore_n (lv' := [(1, .int o1), (0, .ref (x 0))]) hx hb dX5_gap_10 rfl hl (by decide) rfl (fun ls hl => ?_)
  refine lv_iload_n hx hb dX5_gap_11 rfl (lv_at hl 0 rfl) ?_
  refine lv_iconst (v := -1) hx hb dX5_gap_12 (by decide) ?_
  refine lv_icmp_ne (tgt := 27) hx hb dX5_gap_13 (by decide) (fun c3 => ?_) (fun c3 => ?_)
  · have hF := itn c3 hF
    refine lv_iload_n hx hb dX5_gap_27 rfl (lv_at hl 0 rfl) ?_
    refine vx_ret ?_
    refine W.widen (k := 1) (n := 6) (Nat.le_of_ble_eq_true rfl) (Nat.le_of_ble_eq_true rfl) ?_
    exact W.iret (v := o1) hx hb hr (fun t ht hW => ⟨⟨_, (), rfl, Option.some.inj hF, trivial⟩, hS.F ht⟩) hS.2.2 dX5_gap_28
  · have hF := itp c3 hF
    have hF9 : (Sum.inl 1 : Nat ⊕ Int32) = out := Option.some.inj hF
    exact thrRW_1 hF9 hx hb hst (is := 282) (text := "the jack does not lie, or a side has no bowl") hown hts hZ hS (hl.1.trans hml.symm) (by decide) dX5_gap_16 dX5_gap_19 dX5_gap_20 dX5_gap_23 dX5_gap_26 htx (Nat.le_of_ble_eq_true rfl) (Nat.le_of_ble_eq_true rfl) (Nat.le_of_ble_eq_true rfl) (Nat.le_of_ble_eq_true rfl) hlocks (Nat.le_of_ble_eq_true rfl) (Nat.le_of_ble_eq_true rfl)
theorem dX5_spread_0 : decode cX5_spread 0 = .ok (.aload_n 0, 1) := by decide +kernel
theorem dX5_spread_1 : decode cX5_spread 1 = .ok (.getfield 12, 3) := by decide +kernel
theorem dX5_spread_4 : decode cX5_spread 4 = .ok (.getfield 90, 3) := by decide +kernel
theorem dX5_spread_7 : decode cX5_spread 7 = .ok (.invokevirtual 284, 3) := by decide +kernel
theorem dX5_spread_10 : decode cX5_spread 10 = .ok (.ireturn, 1) := by decide +kernel
def f_X5_spread (N : Nat) (xv : XV) (nv : SV) : Option (Int32) :=
  (f_X0_farthestApart N (S_green nv)).bind (fun o1 => some o1)
set_option maxHeartbeats 4000000 in
set_option maxRecDepth 100000 in
theorem met_X5_spread (l : Launch) (dC : Nat → ClassId) (dI : Nat → Nat → Nat) (cyI cyO : ClassId) (x : Nat → Nat) (tr : Nat → Nat) (an : Nat → Nat) (fl fs : Nat → Option Nat) (N : Nat) (xv : XV) (nv : SV) (out : Int32) (hF : f_X5_spread N xv nv = some out) : Met l yX5_spread (Cond.code yX5_spread cX5_spread 1 (some .int) :: wT) ({ frames := 3, cells := 0, slots := 0, locals := 65 } : Room) (wRd dC dI cyI cyO [.ref (x 0)] (([(cXo x an tr xv), (cH cyO (x 1) (x 2) 2 fl), (cXk cyI x xv), (cH cyO (x 4) (x 5) 6 fs), (cT cyI x (X_text xv)), (cSo an nv), (cG cyI an (S_green nv)), (cV cyI an (S_score nv))] : List va_W).flatten)) (va_Qi (fun (r : Int32) (_ : Unit) => r = out) (fun _ _ => True) wN0) 0 0 wN0 := by
  refine Met.ofW (cc := cX5_spread) (maxL := 1) (ret := (some .int)) (by decide) rfl ?_
  intro p e s m args below meth c s₁ B hml hv
  obtain ⟨rfl, hP, hK⟩ := hv
  have hx := B.exec
  have hb := B.bytes
  have hr := B.returns
  have hts0 := atoms_spec (ws := (Cond.code yX5_spread cX5_spread 1 (some .int) :: wT)) B.pre
  have hts := fun w h => hts0 w (List.mem_cons_of_mem _ h)
  clear hts0
  have hown : s.vm.findClass RX5 = some m.cls := findClass_of_methodNamed B.named
  have hlocks := B.notSynchronized
  have hS : va_S wN0 s.heap s.heap [] := va_S.rf
  have hl := lv_entry [.ref (x 0)] (n := 1) (Nat.le_of_ble_eq_true rfl)
  rw [lg_entry_eq]
  generalize (lg_sl [.ref (x 0)] ++ List.replicate (1 - (lg_sl [.ref (x 0)]).length) Slot.unset).toArray = ls at hl ⊢
  have hl : lv_has ls 1 [(0, .ref (x 0))] := hl
  unfold f_X5_spread at hF
  refine lv_aload_n hx hb dX5_spread_0 rfl (lv_at hl 0 rfl) ?_
  refine va_get (D := (dC, dI)) (ci := 5) (v := .ref (an 0)) (C := RX5) (T := TX5) (N := 8) hx hb hts inX5 hown hK.1 hP 0 rfl rfl 0 (by decide) (hts _ w_fieldLink_X5_12) (fun _ h9 => h9) rfl dX5_spread_1 ?_
  refine va_get (D := (dC, dI)) (ci := 3) (v := .ref (an 1)) (C := RX3) (T := TX3) (N := 6) hx hb hts inX3 hown hK.1 hP 8 rfl rfl 0 (by decide) (hts _ w_fieldLink_X5_90) (fun _ h9 => h9) rfl dX5_spread_4 ?_
  obtain ⟨o1, h2, hF⟩ := obd hF
  refine wcRVi (As := []) (rest := []) (b := (an 1)) ⟨hx, hb, hml, hown, hts⟩ (met_X0_farthestApart l dC dI cyI cyO an N (S_green nv)  o1 h2) (cwV 0 hts (gV w_methodLink_X5_284 w_instanceMethod_X0_farthestApart w_selects_X0_farthestApart w_initialized_X0 w_code_X0_farthestApart) rfl rfl rfl (by decide +kernel) ⟨Nat.le_of_ble_eq_true rfl, Nat.le_of_ble_eq_true rfl⟩) (va_recv hK.1 hP (ci := 0) (q0 := 9) rfl rfl) hP hK [9, 10, 11, 12, 13, 14, 15, 16] rfl rfl hl.1 (Nat.le_of_ble_eq_true rfl) dX5_spread_7 ⟨Nat.le_of_ble_eq_true rfl, Nat.le_of_ble_eq_true rfl⟩ hS (fun r H locs hw hP hS => ?_)
  have hw := hw.symm
  subst hw
  exact W.iret (v := o1) hx hb hr (fun t ht hW => ⟨⟨_, (), rfl, Option.some.inj hF, trivial⟩, hS.F ht⟩) hS.2.2 dX5_spread_10
theorem dX5_curveBySteps_0 : decode cX5_curveBySteps 0 = .ok (.iload_n 1, 1) := by decide +kernel
theorem dX5_curveBySteps_1 : decode cX5_curveBySteps 1 = .ok (.iload_n 2, 1) := by decide +kernel
theorem dX5_curveBySteps_2 : decode cX5_curveBySteps 2 = .ok (.iload_n 3, 1) := by decide +kernel
theorem dX5_curveBySteps_3 : decode cX5_curveBySteps 3 = .ok (.iload 4, 2) := by decide +kernel
theorem dX5_curveBySteps_5 : decode cX5_curveBySteps 5 = .ok (.invokestatic 287, 3) := by decide +kernel
theorem dX5_curveBySteps_8 : decode cX5_curveBySteps 8 = .ok (.iload_n 1, 1) := by decide +kernel
theorem dX5_curveBySteps_9 : decode cX5_curveBySteps 9 = .ok (.aload_n 0, 1) := by decide +kernel
theorem dX5_curveBySteps_10 : decode cX5_curveBySteps 10 = .ok (.getfield 12, 3) := by decide +kernel
theorem dX5_curveBySteps_13 : decode cX5_curveBySteps 13 = .ok (.getfield 137, 3) := by decide +kernel
theorem dX5_curveBySteps_16 : decode cX5_curveBySteps 16 = .ok (.iadd, 1) := by decide +kernel
theorem dX5_curveBySteps_17 : decode cX5_curveBySteps 17 = .ok (.iload_n 3, 1) := by decide +kernel
theorem dX5_curveBySteps_18 : decode cX5_curveBySteps 18 = .ok (.iload 4, 2) := by decide +kernel
theorem dX5_curveBySteps_20 : decode cX5_curveBySteps 20 = .ok (.invokestatic 291, 3) := by decide +kernel
theorem dX5_curveBySteps_23 : decode cX5_curveBySteps 23 = .ok (.ireturn, 1) := by decide +kernel
def f_X5_curveBySteps (N : Nat) (xv : XV) (nv : SV) (p1 : Int32) (p2 : Int32) (p3 : Int32) (p4 : Int32) : Option (Nat ⊕ Int32) :=
  (f_X5_requireCurve N p1 p2 p3 p4).bind (fun o1 => exc o1 (fun k => some (Sum.inl k)) (fun (_ : Unit) => (f_X5_placeBySteps N (p1 + (S_blowing nv)) p3 p4).bind (fun o3 => some (Sum.inr o3))))
set_option maxHeartbeats 4000000 in
set_option maxRecDepth 100000 in
theorem met_X5_curveBySteps (l : Launch) (z0 : Nat) (hst : l.stackTraces = false) (dC : Nat → ClassId) (dI : Nat → Nat → Nat) (cyI cyO : ClassId) (x : Nat → Nat) (tr : Nat → Nat) (an : Nat → Nat) (fl fs : Nat → Option Nat) (N : Nat) (xv : XV) (nv : SV) (p1 : Int32) (p2 : Int32) (p3 : Int32) (p4 : Int32) (out : Nat ⊕ Int32) (hF : f_X5_curveBySteps N xv nv p1 p2 p3 p4 = some out) : vx_Met l yX5_curveBySteps (Cond.code yX5_curveBySteps cX5_curveBySteps 5 (some .int) :: wT) ({ frames := 7, cells := 1, slots := 6, locals := 105 } : Room) (wRdX z0 dC dI cyI cyO [.ref (x 0), .int p1, .int p2, .int p3, .int p4] (([(cXo x an tr xv), (cH cyO (x 1) (x 2) 2 fl), (cXk cyI x xv), (cH cyO (x 4) (x 5) 6 fs), (cT cyI x (X_text xv)), (cSo an nv), (cG cyI an (S_green nv)), (cV cyI an (S_score nv))] : List va_W).flatten)) (va_Qi (fun (r : Int32) (_ : Unit) => Sum.inr r = out) (fun _ _ => True) wN0) (xcR Int32 out) 1 6 wN0 := by
  refine vx_ofW (cc := cX5_curveBySteps) (maxL := 5) (ret := (some .int)) (by decide) rfl ?_
  intro p e s m args below meth c s₁ B hml htx hv
  obtain ⟨rfl, hP, hK, hZ⟩ := hv
  have hx := B.exec
  have hb := B.bytes
  have hr := B.returns
  have hts0 := atoms_spec (ws := (Cond.code yX5_curveBySteps cX5_curveBySteps 5 (some .int) :: wT)) B.pre
  have hts := fun w h => hts0 w (List.mem_cons_of_mem _ h)
  clear hts0
  have hown : s.vm.findClass RX5 = some m.cls := findClass_of_methodNamed B.named
  have hlocks := B.notSynchronized
  have hAz : ∀ q, wN0 q → z0 ≤ q := fun q h => h.elim
  have hS : va_S wN0 s.heap s.heap [] := va_S.rf
  have hl := lv_entry [.ref (x 0), .int p1, .int p2, .int p3, .int p4] (n := 5) (Nat.le_of_ble_eq_true rfl)
  rw [lg_entry_eq]
  generalize (lg_sl [.ref (x 0), .int p1, .int p2, .int p3, .int p4] ++ List.replicate (5 - (lg_sl [.ref (x 0), .int p1, .int p2, .int p3, .int p4]).length) Slot.unset).toArray = ls at hl ⊢
  have hl : lv_has ls 5 [(0, .ref (x 0)), (1, .int p1), (2, .int p2), (3, .int p3), (4, .int p4)] := hl
  unfold f_X5_curveBySteps at hF
  refine lv_iload_n hx hb dX5_curveBySteps_0 rfl (lv_at hl 1 rfl) ?_
  refine lv_iload_n hx hb dX5_curveBySteps_1 rfl (lv_at hl 2 rfl) ?_
  refine lv_iload_n hx hb dX5_curveBySteps_2 rfl (lv_at hl 3 rfl) ?_
  refine lv_iload hx hb dX5_curveBySteps_3 (lv_at hl 4 rfl) ?_
  obtain ⟨o1, h2, hF⟩ := obd hF
  refine wxRSv (As := [.int p1, .int p2, .int p3, .int p4]) (rest := []) ⟨hx, hb, hml, hown, hts⟩ (met_X5_requireCurve l z0 hst dC dI cyI cyO  N  p1 p2 p3 p4 o1 h2) (va_cwS 4 hts (gS w_methodLink_X5_287 w_static_X5_requireCurve w_initialized_X5 w_code_X5_requireCurve) rfl rfl rfl (by decide +kernel) ⟨Nat.le_of_ble_eq_true rfl, Nat.le_of_ble_eq_true rfl⟩) hP hK hZ hAz [] rfl rfl hl.1 (Nat.le_of_ble_eq_true rfl) dX5_curveBySteps_5 ⟨Nat.le_of_ble_eq_true rfl, Nat.le_of_ble_eq_true rfl⟩ hS (fun k ce q9 H locs hw hP hS h9 hv9 hc9 => ?_) (fun H locs hw hP hS => ?_)
  · have hw := hw.symm
    subst hw
    have hF := exc_l hF
    exact outR (Option.some.inj hF) htx hlocks hS h9 hv9 hc9 (Nat.le_of_ble_eq_true rfl) (Nat.le_of_ble_eq_true rfl)
  · skip
    have hw := hw.symm
    subst hw
    have hF := exc_r hF
    refine lv_iload_n hx hb dX5_curveBySteps_8 rfl (lv_at hl 1 rfl) ?_
    refine lv_aload_n hx hb dX5_curveBySteps_9 rfl (lv_at hl 0 rfl) ?_
    refine va_get (D := (dC, dI)) (ci := 5) (v := .ref (an 0)) (C := RX5) (T := TX5) (N := 8) hx hb hts inX5 hown hK.1 hP 0 rfl rfl 0 (by decide) (hts _ w_fieldLink_X5_12) (fun _ h9 => h9) rfl dX5_curveBySteps_10 ?_
    refine va_get (D := (dC, dI)) (ci := 3) (v := .int (S_blowing nv)) (C := RX3) (T := TX3) (N := 6) hx hb hts inX3 hown hK.1 hP 8 rfl rfl 3 (by decide) (hts _ w_fieldLink_X5_137) (fun _ h9 => h9) rfl dX5_curveBySteps_13 ?_
    refine lv_iadd hx hb dX5_curveBySteps_16 ?_
    refine lv_iload_n hx hb dX5_curveBySteps_17 rfl (lv_at hl 3 rfl) ?_
    refine lv_iload hx hb dX5_curveBySteps_18 (lv_at hl 4 rfl) ?_
    obtain ⟨o3, h4, hF⟩ := obd hF
    refine wcRSi (As := [.int (p1 + (S_blowing nv)), .int p3, .int p4]) (rest := []) ⟨hx, hb, hml, hown, hts⟩ (met_X5_placeBySteps l dC dI cyI cyO  N  (p1 + (S_blowing nv)) p3 p4 o3 h4) (va_cwS 3 hts (gS w_methodLink_X5_291 w_static_X5_placeBySteps w_initialized_X5 w_code_X5_placeBySteps) rfl rfl rfl (by decide +kernel) ⟨Nat.le_of_ble_eq_true rfl, Nat.le_of_ble_eq_true rfl⟩) hP hK [] rfl rfl hl.1 (Nat.le_of_ble_eq_true rfl) dX5_curveBySteps_20 ⟨Nat.le_of_ble_eq_true rfl, Nat.le_of_ble_eq_true rfl⟩ hS (fun r H locs hw hP hS => ?_)
    have hw := hw.symm
    subst hw
    refine vx_ret ?_
    refine W.widen (k := 1) (n := 6) (Nat.le_of_ble_eq_true rfl) (Nat.le_of_ble_eq_true rfl) ?_
    exact W.iret (v := o3) hx hb hr (fun t ht hW => ⟨⟨_, (), rfl, Option.some.inj hF, trivial⟩, hS.F ht⟩) hS.2.2 dX5_curveBySteps_23
theorem dX5_curveByFormula_0 : decode cX5_curveByFormula 0 = .ok (.iload_n 1, 1) := by decide +kernel
theorem dX5_curveByFormula_1 : decode cX5_curveByFormula 1 = .ok (.iload_n 2, 1) := by decide +kernel
theorem dX5_curveByFormula_2 : decode cX5_curveByFormula 2 = .ok (.iload_n 3, 1) := by decide +kernel
theorem dX5_curveByFormula_3 : decode cX5_curveByFormula 3 = .ok (.iload 4, 2) := by decide +kernel
theorem dX5_curveByFormula_5 : decode cX5_curveByFormula 5 = .ok (.invokestatic 287, 3) := by decide +kernel
theorem dX5_curveByFormula_8 : decode cX5_curveByFormula 8 = .ok (.iload_n 1, 1) := by decide +kernel
theorem dX5_curveByFormula_9 : decode cX5_curveByFormula 9 = .ok (.aload_n 0, 1) := by decide +kernel
theorem dX5_curveByFormula_10 : decode cX5_curveByFormula 10 = .ok (.getfield 12, 3) := by decide +kernel
theorem dX5_curveByFormula_13 : decode cX5_curveByFormula 13 = .ok (.getfield 137, 3) := by decide +kernel
theorem dX5_curveByFormula_16 : decode cX5_curveByFormula 16 = .ok (.iadd, 1) := by decide +kernel
theorem dX5_curveByFormula_17 : decode cX5_curveByFormula 17 = .ok (.iload_n 3, 1) := by decide +kernel
theorem dX5_curveByFormula_18 : decode cX5_curveByFormula 18 = .ok (.iload 4, 2) := by decide +kernel
theorem dX5_curveByFormula_20 : decode cX5_curveByFormula 20 = .ok (.invokestatic 294, 3) := by decide +kernel
theorem dX5_curveByFormula_23 : decode cX5_curveByFormula 23 = .ok (.ireturn, 1) := by decide +kernel
def f_X5_curveByFormula (N : Nat) (xv : XV) (nv : SV) (p1 : Int32) (p2 : Int32) (p3 : Int32) (p4 : Int32) : Option (Nat ⊕ Int32) :=
  (f_X5_requireCurve N p1 p2 p3 p4).bind (fun o1 => exc o1 (fun k => some (Sum.inl k)) (fun (_ : Unit) => (f_X5_placeByFormula N (p1 + (S_blowing nv)) p3 p4).bind (fun o3 => some (Sum.inr o3))))
set_option maxHeartbeats 4000000 in
set_option maxRecDepth 100000 in
theorem met_X5_curveByFormula (l : Launch) (z0 : Nat) (hst : l.stackTraces = false) (dC : Nat → ClassId) (dI : Nat → Nat → Nat) (cyI cyO : ClassId) (x : Nat → Nat) (tr : Nat → Nat) (an : Nat → Nat) (fl fs : Nat → Option Nat) (N : Nat) (xv : XV) (nv : SV) (p1 : Int32) (p2 : Int32) (p3 : Int32) (p4 : Int32) (out : Nat ⊕ Int32) (hF : f_X5_curveByFormula N xv nv p1 p2 p3 p4 = some out) : vx_Met l yX5_curveByFormula (Cond.code yX5_curveByFormula cX5_curveByFormula 5 (some .int) :: wT) ({ frames := 7, cells := 1, slots := 6, locals := 105 } : Room) (wRdX z0 dC dI cyI cyO [.ref (x 0), .int p1, .int p2, .int p3, .int p4] (([(cXo x an tr xv), (cH cyO (x 1) (x 2) 2 fl), (cXk cyI x xv), (cH cyO (x 4) (x 5) 6 fs), (cT cyI x (X_text xv)), (cSo an nv), (cG cyI an (S_green nv)), (cV cyI an (S_score nv))] : List va_W).flatten)) (va_Qi (fun (r : Int32) (_ : Unit) => Sum.inr r = out) (fun _ _ => True) wN0) (xcR Int32 out) 1 6 wN0 := by
  refine vx_ofW (cc := cX5_curveByFormula) (maxL := 5) (ret := (some .int)) (by decide) rfl ?_
  intro p e s m args below meth c s₁ B hml htx hv
  obtain ⟨rfl, hP, hK, hZ⟩ := hv
  have hx := B.exec
  have hb := B.bytes
  have hr := B.returns
  have hts0 := atoms_spec (ws := (Cond.code yX5_curveByFormula cX5_curveByFormula 5 (some .int) :: wT)) B.pre
  have hts := fun w h => hts0 w (List.mem_cons_of_mem _ h)
  clear hts0
  have hown : s.vm.findClass RX5 = some m.cls := findClass_of_methodNamed B.named
  have hlocks := B.notSynchronized
  have hAz : ∀ q, wN0 q → z0 ≤ q := fun q h => h.elim
  have hS : va_S wN0 s.heap s.heap [] := va_S.rf
  have hl := lv_entry [.ref (x 0), .int p1, .int p2, .int p3, .int p4] (n := 5) (Nat.le_of_ble_eq_true rfl)
  rw [lg_entry_eq]
  generalize (lg_sl [.ref (x 0), .int p1, .int p2, .int p3, .int p4] ++ List.replicate (5 - (lg_sl [.ref (x 0), .int p1, .int p2, .int p3, .int p4]).length) Slot.unset).toArray = ls at hl ⊢
  have hl : lv_has ls 5 [(0, .ref (x 0)), (1, .int p1), (2, .int p2), (3, .int p3), (4, .int p4)] := hl
  unfold f_X5_curveByFormula at hF
  refine lv_iload_n hx hb dX5_curveByFormula_0 rfl (lv_at hl 1 rfl) ?_
  refine lv_iload_n hx hb dX5_curveByFormula_1 rfl (lv_at hl 2 rfl) ?_
  refine lv_iload_n hx hb dX5_curveByFormula_2 rfl (lv_at hl 3 rfl) ?_
  refine lv_iload hx hb dX5_curveByFormula_3 (lv_at hl 4 rfl) ?_
  obtain ⟨o1, h2, hF⟩ := obd hF
  refine wxRSv (As := [.int p1, .int p2, .int p3, .int p4]) (rest := []) ⟨hx, hb, hml, hown, hts⟩ (met_X5_requireCurve l z0 hst dC dI cyI cyO  N  p1 p2 p3 p4 o1 h2) (va_cwS 4 hts (gS w_methodLink_X5_287 w_static_X5_requireCurve w_initialized_X5 w_code_X5_requireCurve) rfl rfl rfl (by decide +kernel) ⟨Nat.le_of_ble_eq_true rfl, Nat.le_of_ble_eq_true rfl⟩) hP hK hZ hAz [] rfl rfl hl.1 (Nat.le_of_ble_eq_true rfl) dX5_curveByFormula_5 ⟨Nat.le_of_ble_eq_true rfl, Nat.le_of_ble_eq_true rfl⟩ hS (fun k ce q9 H locs hw hP hS h9 hv9 hc9 => ?_) (fun H locs hw hP hS => ?_)
  · have hw := hw.symm
    subst hw
    have hF := exc_l hF
    exact outR (Option.some.inj hF) htx hlocks hS h9 hv9 hc9 (Nat.le_of_ble_eq_true rfl) (Nat.le_of_ble_eq_true rfl)
  · skip
    have hw := hw.symm
    subst hw
    have hF := exc_r hF
    refine lv_iload_n hx hb dX5_curveByFormula_8 rfl (lv_at hl 1 rfl) ?_
    refine lv_aload_n hx hb dX5_curveByFormula_9 rfl (lv_at hl 0 rfl) ?_
    refine va_get (D := (dC, dI)) (ci := 5) (v := .ref (an 0)) (C := RX5) (T := TX5) (N := 8) hx hb hts inX5 hown hK.1 hP 0 rfl rfl 0 (by decide) (hts _ w_fieldLink_X5_12) (fun _ h9 => h9) rfl dX5_curveByFormula_10 ?_
    refine va_get (D := (dC, dI)) (ci := 3) (v := .int (S_blowing nv)) (C := RX3) (T := TX3) (N := 6) hx hb hts inX3 hown hK.1 hP 8 rfl rfl 3 (by decide) (hts _ w_fieldLink_X5_137) (fun _ h9 => h9) rfl dX5_curveByFormula_13 ?_
    refine lv_iadd hx hb dX5_curveByFormula_16 ?_
    refine lv_iload_n hx hb dX5_curveByFormula_17 rfl (lv_at hl 3 rfl) ?_
    refine lv_iload hx hb dX5_curveByFormula_18 (lv_at hl 4 rfl) ?_
    obtain ⟨o3, h4, hF⟩ := obd hF
    refine wcRSi (As := [.int (p1 + (S_blowing nv)), .int p3, .int p4]) (rest := []) ⟨hx, hb, hml, hown, hts⟩ (met_X5_placeByFormula l dC dI cyI cyO  N  (p1 + (S_blowing nv)) p3 p4 o3 h4) (va_cwS 3 hts (gS w_methodLink_X5_294 w_static_X5_placeByFormula w_initialized_X5 w_code_X5_placeByFormula) rfl rfl rfl (by decide +kernel) ⟨Nat.le_of_ble_eq_true rfl, Nat.le_of_ble_eq_true rfl⟩) hP hK [] rfl rfl hl.1 (Nat.le_of_ble_eq_true rfl) dX5_curveByFormula_20 ⟨Nat.le_of_ble_eq_true rfl, Nat.le_of_ble_eq_true rfl⟩ hS (fun r H locs hw hP hS => ?_)
    have hw := hw.symm
    subst hw
    refine vx_ret ?_
    refine W.widen (k := 1) (n := 6) (Nat.le_of_ble_eq_true rfl) (Nat.le_of_ble_eq_true rfl) ?_
    exact W.iret (v := o3) hx hb hr (fun t ht hW => ⟨⟨_, (), rfl, Option.some.inj hF, trivial⟩, hS.F ht⟩) hS.2.2 dX5_curveByFormula_23
theorem dX5_pointsOf_0 : decode cX5_pointsOf 0 = .ok (.iload_n 1, 1) := by decide +kernel
theorem dX5_pointsOf_1 : decode cX5_pointsOf 1 = .ok (.invokestatic 273, 3) := by decide +kernel
theorem dX5_pointsOf_4 : decode cX5_pointsOf 4 = .ok (.aload_n 0, 1) := by decide +kernel
theorem dX5_pointsOf_5 : decode cX5_pointsOf 5 = .ok (.getfield 12, 3) := by decide +kernel
theorem dX5_pointsOf_8 : decode cX5_pointsOf 8 = .ok (.getfield 110, 3) := by decide +kernel
theorem dX5_pointsOf_11 : decode cX5_pointsOf 11 = .ok (.getfield 305, 3) := by decide +kernel
theorem dX5_pointsOf_14 : decode cX5_pointsOf 14 = .ok (.iload_n 1, 1) := by decide +kernel
theorem dX5_pointsOf_15 : decode cX5_pointsOf 15 = .ok (.invokestatic 195, 3) := by decide +kernel
theorem dX5_pointsOf_18 : decode cX5_pointsOf 18 = .ok (.ireturn, 1) := by decide +kernel
def f_X5_pointsOf (N : Nat) (xv : XV) (nv : SV) (p1 : Int32) : Option (Nat ⊕ Int32) :=
  (f_X5_requireSide N p1).bind (fun o1 => exc o1 (fun k => some (Sum.inl k)) (fun (_ : Unit) => (f_X5_at N 2 (V_points (S_score nv)) p1).bind (fun o3 => some (Sum.inr o3))))
set_option maxHeartbeats 4000000 in
set_option maxRecDepth 100000 in
theorem met_X5_pointsOf (l : Launch) (z0 : Nat) (hst : l.stackTraces = false) (dC : Nat → ClassId) (dI : Nat → Nat → Nat) (cyI cyO : ClassId) (x : Nat → Nat) (tr : Nat → Nat) (an : Nat → Nat) (fl fs : Nat → Option Nat) (N : Nat) (xv : XV) (nv : SV) (p1 : Int32) (out : Nat ⊕ Int32) (hF : f_X5_pointsOf N xv nv p1 = some out) : vx_Met l yX5_pointsOf (Cond.code yX5_pointsOf cX5_pointsOf 2 (some .int) :: wT) ({ frames := 7, cells := 1, slots := 6, locals := 102 } : Room) (wRdX z0 dC dI cyI cyO [.ref (x 0), .int p1] (([(cXo x an tr xv), (cH cyO (x 1) (x 2) 2 fl), (cXk cyI x xv), (cH cyO (x 4) (x 5) 6 fs), (cT cyI x (X_text xv)), (cSo an nv), (cG cyI an (S_green nv)), (cV cyI an (S_score nv))] : List va_W).flatten)) (va_Qi (fun (r : Int32) (_ : Unit) => Sum.inr r = out) (fun _ _ => True) wN0) (xcR Int32 out) 1 6 wN0 := by
  refine vx_ofW (cc := cX5_pointsOf) (maxL := 2) (ret := (some .int)) (by decide) rfl ?_
  intro p e s m args below meth c s₁ B hml htx hv
  obtain ⟨rfl, hP, hK, hZ⟩ := hv
  have hx := B.exec
  have hb := B.bytes
  have hr := B.returns
  have hts0 := atoms_spec (ws := (Cond.code yX5_pointsOf cX5_pointsOf 2 (some .int) :: wT)) B.pre
  have hts := fun w h => hts0 w (List.mem_cons_of_mem _ h)
  clear hts0
  have hown : s.vm.findClass RX5 = some m.cls := findClass_of_methodNamed B.named
  have hlocks := B.notSynchronized
  have hAz : ∀ q, wN0 q → z0 ≤ q := fun q h => h.elim
  have hS : va_S wN0 s.heap s.heap [] := va_S.rf
  have hl := lv_entry [.ref (x 0), .int p1] (n := 2) (Nat.le_of_ble_eq_true rfl)
  rw [lg_entry_eq]
  generalize (lg_sl [.ref (x 0), .int p1] ++ List.replicate (2 - (lg_sl [.ref (x 0), .int p1]).length) Slot.unset).toArray = ls at hl ⊢
  have hl : lv_has ls 2 [(0, .ref (x 0)), (1, .int p1)] := hl
  unfold f_X5_pointsOf at hF
  refine lv_iload_n hx hb dX5_pointsOf_0 rfl (lv_at hl 1 rfl) ?_
  obtain ⟨o1, h2, hF⟩ := obd hF
  refine wxRSv (As := [.int p1]) (rest := []) ⟨hx, hb, hml, hown, hts⟩ (met_X5_requireSide l z0 hst dC dI cyI cyO  N  p1 o1 h2) (va_cwS 1 hts (gS w_methodLink_X5_273 w_static_X5_requireSide w_initialized_X5 w_code_X5_requireSide) rfl rfl rfl (by decide +kernel) ⟨Nat.le_of_ble_eq_true rfl, Nat.le_of_ble_eq_true rfl⟩) hP hK hZ hAz [] rfl rfl hl.1 (Nat.le_of_ble_eq_true rfl) dX5_pointsOf_1 ⟨Nat.le_of_ble_eq_true rfl, Nat.le_of_ble_eq_true rfl⟩ hS (fun k ce q9 H locs hw hP hS h9 hv9 hc9 => ?_) (fun H locs hw hP hS => ?_)
  · have hw := hw.symm
    subst hw
    have hF := exc_l hF
    exact outR (Option.some.inj hF) htx hlocks hS h9 hv9 hc9 (Nat.le_of_ble_eq_true rfl) (Nat.le_of_ble_eq_true rfl)
  · skip
    have hw := hw.symm
    subst hw
    have hF := exc_r hF
    refine lv_aload_n hx hb dX5_pointsOf_4 rfl (lv_at hl 0 rfl) ?_
    refine va_get (D := (dC, dI)) (ci := 5) (v := .ref (an 0)) (C := RX5) (T := TX5) (N := 8) hx hb hts inX5 hown hK.1 hP 0 rfl rfl 0 (by decide) (hts _ w_fieldLink_X5_12) (fun _ h9 => h9) rfl dX5_pointsOf_5 ?_
    refine va_get (D := (dC, dI)) (ci := 3) (v := .ref (an 9)) (C := RX3) (T := TX3) (N := 6) hx hb hts inX3 hown hK.1 hP 8 rfl rfl 1 (by decide) (hts _ w_fieldLink_X5_110) (fun _ h9 => h9) rfl dX5_pointsOf_8 ?_
    refine va_get (D := (dC, dI)) (ci := 1) (v := .ref (an 10)) (C := RX1) (T := TX1) (N := 11) hx hb hts inX1 hown hK.1 hP 17 rfl rfl 0 (by decide) (hts _ w_fieldLink_X5_305) (fun _ h9 => h9) rfl dX5_pointsOf_11 ?_
    refine lv_iload_n hx hb dX5_pointsOf_14 rfl (lv_at hl 1 rfl) ?_
    obtain ⟨o3, h4, hF⟩ := obd hF
    refine wcRSi (As := [.ref (an 10), .int p1]) (rest := []) ⟨hx, hb, hml, hown, hts⟩ (met_X5_at l dC dI cyI cyO (an 10) 2 N (V_points (S_score nv)) p1 o3 h4) (va_cwS 2 hts (gS w_methodLink_X5_195 w_static_X5_at w_initialized_X5 w_code_X5_at) rfl rfl rfl (by decide +kernel) ⟨Nat.le_of_ble_eq_true rfl, Nat.le_of_ble_eq_true rfl⟩) hP hK [18] rfl rfl hl.1 (Nat.le_of_ble_eq_true rfl) dX5_pointsOf_15 ⟨Nat.le_of_ble_eq_true rfl, Nat.le_of_ble_eq_true rfl⟩ hS (fun r H locs hw hP hS => ?_)
    have hw := hw.symm
    subst hw
    refine vx_ret ?_
    refine W.widen (k := 1) (n := 6) (Nat.le_of_ble_eq_true rfl) (Nat.le_of_ble_eq_true rfl) ?_
    exact W.iret (v := o3) hx hb hr (fun t ht hW => ⟨⟨_, (), rfl, Option.some.inj hF, trivial⟩, hS.F ht⟩) hS.2.2 dX5_pointsOf_18
theorem dX5_needed_0 : decode cX5_needed 0 = .ok (.aload_n 0, 1) := by decide +kernel
theorem dX5_needed_1 : decode cX5_needed 1 = .ok (.getfield 12, 3) := by decide +kernel
theorem dX5_needed_4 : decode cX5_needed 4 = .ok (.getfield 110, 3) := by decide +kernel
theorem dX5_needed_7 : decode cX5_needed 7 = .ok (.getfield 114, 3) := by decide +kernel
theorem dX5_needed_10 : decode cX5_needed 10 = .ok (.ireturn, 1) := by decide +kernel
def f_X5_needed (N : Nat) (xv : XV) (nv : SV) : Option (Int32) :=
  some (V_pointsNeeded (S_score nv))
set_option maxHeartbeats 4000000 in
set_option maxRecDepth 100000 in
theorem met_X5_needed (l : Launch) (dC : Nat → ClassId) (dI : Nat → Nat → Nat) (cyI cyO : ClassId) (x : Nat → Nat) (tr : Nat → Nat) (an : Nat → Nat) (fl fs : Nat → Option Nat) (N : Nat) (xv : XV) (nv : SV) (out : Int32) (hF : f_X5_needed N xv nv = some out) : Met l yX5_needed (Cond.code yX5_needed cX5_needed 1 (some .int) :: wT) ({ frames := 0, cells := 0, slots := 0, locals := 0 } : Room) (wRd dC dI cyI cyO [.ref (x 0)] (([(cXo x an tr xv), (cH cyO (x 1) (x 2) 2 fl), (cXk cyI x xv), (cH cyO (x 4) (x 5) 6 fs), (cT cyI x (X_text xv)), (cSo an nv), (cG cyI an (S_green nv)), (cV cyI an (S_score nv))] : List va_W).flatten)) (va_Qi (fun (r : Int32) (_ : Unit) => r = out) (fun _ _ => True) wN0) 0 0 wN0 := by
  refine Met.ofW (cc := cX5_needed) (maxL := 1) (ret := (some .int)) (by decide) rfl ?_
  intro p e s m args below meth c s₁ B hml hv
  obtain ⟨rfl, hP, hK⟩ := hv
  have hx := B.exec
  have hb := B.bytes
  have hr := B.returns
  have hts0 := atoms_spec (ws := (Cond.code yX5_needed cX5_needed 1 (some .int) :: wT)) B.pre
  have hts := fun w h => hts0 w (List.mem_cons_of_mem _ h)
  clear hts0
  have hown : s.vm.findClass RX5 = some m.cls := findClass_of_methodNamed B.named
  have hlocks := B.notSynchronized
  have hS : va_S wN0 s.heap s.heap [] := va_S.rf
  have hl := lv_entry [.ref (x 0)] (n := 1) (Nat.le_of_ble_eq_true rfl)
  rw [lg_entry_eq]
  generalize (lg_sl [.ref (x 0)] ++ List.replicate (1 - (lg_sl [.ref (x 0)]).length) Slot.unset).toArray = ls at hl ⊢
  have hl : lv_has ls 1 [(0, .ref (x 0))] := hl
  unfold f_X5_needed at hF
  refine lv_aload_n hx hb dX5_needed_0 rfl (lv_at hl 0 rfl) ?_
  refine va_get (D := (dC, dI)) (ci := 5) (v := .ref (an 0)) (C := RX5) (T := TX5) (N := 8) hx hb hts inX5 hown hK.1 hP 0 rfl rfl 0 (by decide) (hts _ w_fieldLink_X5_12) (fun _ h9 => h9) rfl dX5_needed_1 ?_
  refine va_get (D := (dC, dI)) (ci := 3) (v := .ref (an 9)) (C := RX3) (T := TX3) (N := 6) hx hb hts inX3 hown hK.1 hP 8 rfl rfl 1 (by decide) (hts _ w_fieldLink_X5_110) (fun _ h9 => h9) rfl dX5_needed_4 ?_
  refine va_get (D := (dC, dI)) (ci := 1) (v := .int (V_pointsNeeded (S_score nv))) (C := RX1) (T := TX1) (N := 11) hx hb hts inX1 hown hK.1 hP 17 rfl rfl 3 (by decide) (hts _ w_fieldLink_X5_114) (fun _ h9 => h9) rfl dX5_needed_7 ?_
  exact W.iret (v := (V_pointsNeeded (S_score nv))) hx hb hr (fun t ht hW => ⟨⟨_, (), rfl, Option.some.inj hF, trivial⟩, hS.F ht⟩) hS.2.2 dX5_needed_10
theorem dX5_isOver_0 : decode cX5_isOver 0 = .ok (.aload_n 0, 1) := by decide +kernel
theorem dX5_isOver_1 : decode cX5_isOver 1 = .ok (.getfield 12, 3) := by decide +kernel
theorem dX5_isOver_4 : decode cX5_isOver 4 = .ok (.getfield 110, 3) := by decide +kernel
theorem dX5_isOver_7 : decode cX5_isOver 7 = .ok (.invokevirtual 308, 3) := by decide +kernel
theorem dX5_isOver_10 : decode cX5_isOver 10 = .ok (.ireturn, 1) := by decide +kernel
def f_X5_isOver (N : Nat) (xv : XV) (nv : SV) : Option (Int32) :=
  (f_X1_isWon N (S_score nv)).bind (fun o1 => some o1)
set_option maxHeartbeats 4000000 in
set_option maxRecDepth 100000 in
theorem met_X5_isOver (l : Launch) (dC : Nat → ClassId) (dI : Nat → Nat → Nat) (cyI cyO : ClassId) (x : Nat → Nat) (tr : Nat → Nat) (an : Nat → Nat) (fl fs : Nat → Option Nat) (N : Nat) (xv : XV) (nv : SV) (out : Int32) (hF : f_X5_isOver N xv nv = some out) : Met l yX5_isOver (Cond.code yX5_isOver cX5_isOver 1 (some .boolean) :: wT) ({ frames := 2, cells := 0, slots := 0, locals := 41 } : Room) (wRd dC dI cyI cyO [.ref (x 0)] (([(cXo x an tr xv), (cH cyO (x 1) (x 2) 2 fl), (cXk cyI x xv), (cH cyO (x 4) (x 5) 6 fs), (cT cyI x (X_text xv)), (cSo an nv), (cG cyI an (S_green nv)), (cV cyI an (S_score nv))] : List va_W).flatten)) (va_Qi (fun (r : Int32) (_ : Unit) => r = out ∧ b01 r) (fun _ _ => True) wN0) 0 0 wN0 := by
  refine Met.ofW (cc := cX5_isOver) (maxL := 1) (ret := (some .boolean)) (by decide) rfl ?_
  intro p e s m args below meth c s₁ B hml hv
  obtain ⟨rfl, hP, hK⟩ := hv
  have hx := B.exec
  have hb := B.bytes
  have hr := B.returns
  have hts0 := atoms_spec (ws := (Cond.code yX5_isOver cX5_isOver 1 (some .boolean) :: wT)) B.pre
  have hts := fun w h => hts0 w (List.mem_cons_of_mem _ h)
  clear hts0
  have hown : s.vm.findClass RX5 = some m.cls := findClass_of_methodNamed B.named
  have hlocks := B.notSynchronized
  have hS : va_S wN0 s.heap s.heap [] := va_S.rf
  have hl := lv_entry [.ref (x 0)] (n := 1) (Nat.le_of_ble_eq_true rfl)
  rw [lg_entry_eq]
  generalize (lg_sl [.ref (x 0)] ++ List.replicate (1 - (lg_sl [.ref (x 0)]).length) Slot.unset).toArray = ls at hl ⊢
  have hl : lv_has ls 1 [(0, .ref (x 0))] := hl
  unfold f_X5_isOver at hF
  refine lv_aload_n hx hb dX5_isOver_0 rfl (lv_at hl 0 rfl) ?_
  refine va_get (D := (dC, dI)) (ci := 5) (v := .ref (an 0)) (C := RX5) (T := TX5) (N := 8) hx hb hts inX5 hown hK.1 hP 0 rfl rfl 0 (by decide) (hts _ w_fieldLink_X5_12) (fun _ h9 => h9) rfl dX5_isOver_1 ?_
  refine va_get (D := (dC, dI)) (ci := 3) (v := .ref (an 9)) (C := RX3) (T := TX3) (N := 6) hx hb hts inX3 hown hK.1 hP 8 rfl rfl 1 (by decide) (hts _ w_fieldLink_X5_110) (fun _ h9 => h9) rfl dX5_isOver_4 ?_
  obtain ⟨o1, h2, hF⟩ := obd hF
  refine wcRVi (As := []) (rest := []) (b := (an 9)) ⟨hx, hb, hml, hown, hts⟩ (met_X1_isWon l dC dI cyI cyO an N (S_score nv)  o1 h2) (cwV 0 hts (gV w_methodLink_X5_308 w_instanceMethod_X1_isWon w_selects_X1_isWon w_initialized_X1 w_code_X1_isWon) rfl rfl rfl (by decide +kernel) ⟨Nat.le_of_ble_eq_true rfl, Nat.le_of_ble_eq_true rfl⟩) (va_recv hK.1 hP (ci := 1) (q0 := 17) rfl rfl) hP hK [17, 18, 19, 20] rfl rfl hl.1 (Nat.le_of_ble_eq_true rfl) dX5_isOver_7 ⟨Nat.le_of_ble_eq_true rfl, Nat.le_of_ble_eq_true rfl⟩ hS (fun r H locs hw hP hS => ?_)
  obtain ⟨hw, hz3⟩ := hw
  have hw := hw.symm
  subst hw
  exact W.zret (ty := .boolean) (v := o1) hx hb hr (b01_n hz3) (fun t ht hW => ⟨⟨_, (), rfl, ⟨Option.some.inj hF, hz3⟩, trivial⟩, hS.F ht⟩) hS.2.2 dX5_isOver_10
theorem dX5_ends_0 : decode cX5_ends 0 = .ok (.aload_n 0, 1) := by decide +kernel
theorem dX5_ends_1 : decode cX5_ends 1 = .ok (.getfield 12, 3) := by decide +kernel
theorem dX5_ends_4 : decode cX5_ends 4 = .ok (.getfield 110, 3) := by decide +kernel
theorem dX5_ends_7 : decode cX5_ends 7 = .ok (.getfield 311, 3) := by decide +kernel
theorem dX5_ends_10 : decode cX5_ends 10 = .ok (.ireturn, 1) := by decide +kernel
def f_X5_ends (N : Nat) (xv : XV) (nv : SV) : Option (Int32) :=
  some (V_endCount (S_score nv))
set_option maxHeartbeats 4000000 in
set_option maxRecDepth 100000 in
theorem met_X5_ends (l : Launch) (dC : Nat → ClassId) (dI : Nat → Nat → Nat) (cyI cyO : ClassId) (x : Nat → Nat) (tr : Nat → Nat) (an : Nat → Nat) (fl fs : Nat → Option Nat) (N : Nat) (xv : XV) (nv : SV) (out : Int32) (hF : f_X5_ends N xv nv = some out) : Met l yX5_ends (Cond.code yX5_ends cX5_ends 1 (some .int) :: wT) ({ frames := 0, cells := 0, slots := 0, locals := 0 } : Room) (wRd dC dI cyI cyO [.ref (x 0)] (([(cXo x an tr xv), (cH cyO (x 1) (x 2) 2 fl), (cXk cyI x xv), (cH cyO (x 4) (x 5) 6 fs), (cT cyI x (X_text xv)), (cSo an nv), (cG cyI an (S_green nv)), (cV cyI an (S_score nv))] : List va_W).flatten)) (va_Qi (fun (r : Int32) (_ : Unit) => r = out) (fun _ _ => True) wN0) 0 0 wN0 := by
  refine Met.ofW (cc := cX5_ends) (maxL := 1) (ret := (some .int)) (by decide) rfl ?_
  intro p e s m args below meth c s₁ B hml hv
  obtain ⟨rfl, hP, hK⟩ := hv
  have hx := B.exec
  have hb := B.bytes
  have hr := B.returns
  have hts0 := atoms_spec (ws := (Cond.code yX5_ends cX5_ends 1 (some .int) :: wT)) B.pre
  have hts := fun w h => hts0 w (List.mem_cons_of_mem _ h)
  clear hts0
  have hown : s.vm.findClass RX5 = some m.cls := findClass_of_methodNamed B.named
  have hlocks := B.notSynchronized
  have hS : va_S wN0 s.heap s.heap [] := va_S.rf
  have hl := lv_entry [.ref (x 0)] (n := 1) (Nat.le_of_ble_eq_true rfl)
  rw [lg_entry_eq]
  generalize (lg_sl [.ref (x 0)] ++ List.replicate (1 - (lg_sl [.ref (x 0)]).length) Slot.unset).toArray = ls at hl ⊢
  have hl : lv_has ls 1 [(0, .ref (x 0))] := hl
  unfold f_X5_ends at hF
  refine lv_aload_n hx hb dX5_ends_0 rfl (lv_at hl 0 rfl) ?_
  refine va_get (D := (dC, dI)) (ci := 5) (v := .ref (an 0)) (C := RX5) (T := TX5) (N := 8) hx hb hts inX5 hown hK.1 hP 0 rfl rfl 0 (by decide) (hts _ w_fieldLink_X5_12) (fun _ h9 => h9) rfl dX5_ends_1 ?_
  refine va_get (D := (dC, dI)) (ci := 3) (v := .ref (an 9)) (C := RX3) (T := TX3) (N := 6) hx hb hts inX3 hown hK.1 hP 8 rfl rfl 1 (by decide) (hts _ w_fieldLink_X5_110) (fun _ h9 => h9) rfl dX5_ends_4 ?_
  refine va_get (D := (dC, dI)) (ci := 1) (v := .int (V_endCount (S_score nv))) (C := RX1) (T := TX1) (N := 11) hx hb hts inX1 hown hK.1 hP 17 rfl rfl 4 (by decide) (hts _ w_fieldLink_X5_311) (fun _ h9 => h9) rfl dX5_ends_7 ?_
  exact W.iret (v := (V_endCount (S_score nv))) hx hb hr (fun t ht hW => ⟨⟨_, (), rfl, Option.some.inj hF, trivial⟩, hS.F ht⟩) hS.2.2 dX5_ends_10
theorem dX5_burntEnds_0 : decode cX5_burntEnds 0 = .ok (.aload_n 0, 1) := by decide +kernel
theorem dX5_burntEnds_1 : decode cX5_burntEnds 1 = .ok (.getfield 12, 3) := by decide +kernel
theorem dX5_burntEnds_4 : decode cX5_burntEnds 4 = .ok (.getfield 110, 3) := by decide +kernel
theorem dX5_burntEnds_7 : decode cX5_burntEnds 7 = .ok (.getfield 314, 3) := by decide +kernel
theorem dX5_burntEnds_10 : decode cX5_burntEnds 10 = .ok (.ireturn, 1) := by decide +kernel
def f_X5_burntEnds (N : Nat) (xv : XV) (nv : SV) : Option (Int32) :=
  some (V_burntCount (S_score nv))
set_option maxHeartbeats 4000000 in
set_option maxRecDepth 100000 in
theorem met_X5_burntEnds (l : Launch) (dC : Nat → ClassId) (dI : Nat → Nat → Nat) (cyI cyO : ClassId) (x : Nat → Nat) (tr : Nat → Nat) (an : Nat → Nat) (fl fs : Nat → Option Nat) (N : Nat) (xv : XV) (nv : SV) (out : Int32) (hF : f_X5_burntEnds N xv nv = some out) : Met l yX5_burntEnds (Cond.code yX5_burntEnds cX5_burntEnds 1 (some .int) :: wT) ({ frames := 0, cells := 0, slots := 0, locals := 0 } : Room) (wRd dC dI cyI cyO [.ref (x 0)] (([(cXo x an tr xv), (cH cyO (x 1) (x 2) 2 fl), (cXk cyI x xv), (cH cyO (x 4) (x 5) 6 fs), (cT cyI x (X_text xv)), (cSo an nv), (cG cyI an (S_green nv)), (cV cyI an (S_score nv))] : List va_W).flatten)) (va_Qi (fun (r : Int32) (_ : Unit) => r = out) (fun _ _ => True) wN0) 0 0 wN0 := by
  refine Met.ofW (cc := cX5_burntEnds) (maxL := 1) (ret := (some .int)) (by decide) rfl ?_
  intro p e s m args below meth c s₁ B hml hv
  obtain ⟨rfl, hP, hK⟩ := hv
  have hx := B.exec
  have hb := B.bytes
  have hr := B.returns
  have hts0 := atoms_spec (ws := (Cond.code yX5_burntEnds cX5_burntEnds 1 (some .int) :: wT)) B.pre
  have hts := fun w h => hts0 w (List.mem_cons_of_mem _ h)
  clear hts0
  have hown : s.vm.findClass RX5 = some m.cls := findClass_of_methodNamed B.named
  have hlocks := B.notSynchronized
  have hS : va_S wN0 s.heap s.heap [] := va_S.rf
  have hl := lv_entry [.ref (x 0)] (n := 1) (Nat.le_of_ble_eq_true rfl)
  rw [lg_entry_eq]
  generalize (lg_sl [.ref (x 0)] ++ List.replicate (1 - (lg_sl [.ref (x 0)]).length) Slot.unset).toArray = ls at hl ⊢
  have hl : lv_has ls 1 [(0, .ref (x 0))] := hl
  unfold f_X5_burntEnds at hF
  refine lv_aload_n hx hb dX5_burntEnds_0 rfl (lv_at hl 0 rfl) ?_
  refine va_get (D := (dC, dI)) (ci := 5) (v := .ref (an 0)) (C := RX5) (T := TX5) (N := 8) hx hb hts inX5 hown hK.1 hP 0 rfl rfl 0 (by decide) (hts _ w_fieldLink_X5_12) (fun _ h9 => h9) rfl dX5_burntEnds_1 ?_
  refine va_get (D := (dC, dI)) (ci := 3) (v := .ref (an 9)) (C := RX3) (T := TX3) (N := 6) hx hb hts inX3 hown hK.1 hP 8 rfl rfl 1 (by decide) (hts _ w_fieldLink_X5_110) (fun _ h9 => h9) rfl dX5_burntEnds_4 ?_
  refine va_get (D := (dC, dI)) (ci := 1) (v := .int (V_burntCount (S_score nv))) (C := RX1) (T := TX1) (N := 11) hx hb hts inX1 hown hK.1 hP 17 rfl rfl 5 (by decide) (hts _ w_fieldLink_X5_314) (fun _ h9 => h9) rfl dX5_burntEnds_7 ?_
  exact W.iret (v := (V_burntCount (S_score nv))) hx hb hr (fun t ht hW => ⟨⟨_, (), rfl, Option.some.inj hF, trivial⟩, hS.F ht⟩) hS.2.2 dX5_burntEnds_10
theorem dX5_pointsOfEnd_0 : decode cX5_pointsOfEnd 0 = .ok (.iload_n 1, 1) := by decide +kernel
theorem dX5_pointsOfEnd_1 : decode cX5_pointsOfEnd 1 = .ok (.ifCond .lt 17, 3) := by decide +kernel
theorem dX5_pointsOfEnd_4 : decode cX5_pointsOfEnd 4 = .ok (.iload_n 1, 1) := by decide +kernel
theorem dX5_pointsOfEnd_5 : decode cX5_pointsOfEnd 5 = .ok (.aload_n 0, 1) := by decide +kernel
theorem dX5_pointsOfEnd_6 : decode cX5_pointsOfEnd 6 = .ok (.getfield 12, 3) := by decide +kernel
theorem dX5_pointsOfEnd_9 : decode cX5_pointsOfEnd 9 = .ok (.getfield 110, 3) := by decide +kernel
theorem dX5_pointsOfEnd_12 : decode cX5_pointsOfEnd 12 = .ok (.getfield 317, 3) := by decide +kernel
theorem dX5_pointsOfEnd_15 : decode cX5_pointsOfEnd 15 = .ok (.if_icmp .lt 14, 3) := by decide +kernel
theorem dX5_pointsOfEnd_18 : decode cX5_pointsOfEnd 18 = .ok (.new 236, 3) := by decide +kernel
theorem dX5_pointsOfEnd_21 : decode cX5_pointsOfEnd 21 = .ok (.dup, 1) := by decide +kernel
theorem dX5_pointsOfEnd_22 : decode cX5_pointsOfEnd 22 = .ok (.ldc_w 320, 3) := by decide +kernel
theorem dX5_pointsOfEnd_25 : decode cX5_pointsOfEnd 25 = .ok (.invokespecial 240, 3) := by decide +kernel
theorem dX5_pointsOfEnd_28 : decode cX5_pointsOfEnd 28 = .ok (.athrow, 1) := by decide +kernel
theorem dX5_pointsOfEnd_29 : decode cX5_pointsOfEnd 29 = .ok (.aload_n 0, 1) := by decide +kernel
theorem dX5_pointsOfEnd_30 : decode cX5_pointsOfEnd 30 = .ok (.getfield 12, 3) := by decide +kernel
theorem dX5_pointsOfEnd_33 : decode cX5_pointsOfEnd 33 = .ok (.getfield 110, 3) := by decide +kernel
theorem dX5_pointsOfEnd_36 : decode cX5_pointsOfEnd 36 = .ok (.getfield 322, 3) := by decide +kernel
theorem dX5_pointsOfEnd_39 : decode cX5_pointsOfEnd 39 = .ok (.iload_n 1, 1) := by decide +kernel
theorem dX5_pointsOfEnd_40 : decode cX5_pointsOfEnd 40 = .ok (.invokestatic 195, 3) := by decide +kernel
theorem dX5_pointsOfEnd_43 : decode cX5_pointsOfEnd 43 = .ok (.ireturn, 1) := by decide +kernel
def f_X5_pointsOfEnd (N : Nat) (xv : XV) (nv : SV) (p1 : Int32) : Option (Nat ⊕ Int32) :=
  jn (fun (s18 : Unit) => some (Sum.inl 2)) (fun (j18 : (Unit) → Option (Nat ⊕ Int32)) => (if p1 < 0 then j18 () else (if p1 < (V_latestCount (S_score nv)) then (f_X5_at N 12 (V_latest (S_score nv)) p1).bind (fun o3 => some (Sum.inr o3)) else j18 ())))
set_option maxHeartbeats 4000000 in
set_option maxRecDepth 100000 in
theorem met_X5_pointsOfEnd (l : Launch) (z0 : Nat) (hst : l.stackTraces = false) (dC : Nat → ClassId) (dI : Nat → Nat → Nat) (cyI cyO : ClassId) (x : Nat → Nat) (tr : Nat → Nat) (an : Nat → Nat) (fl fs : Nat → Option Nat) (N : Nat) (xv : XV) (nv : SV) (p1 : Int32) (out : Nat ⊕ Int32) (hF : f_X5_pointsOfEnd N xv nv p1 = some out) : vx_Met l yX5_pointsOfEnd (Cond.code yX5_pointsOfEnd cX5_pointsOfEnd 2 (some .int) :: wT) ({ frames := 6, cells := 1, slots := 6, locals := 82 } : Room) (wRdX z0 dC dI cyI cyO [.ref (x 0), .int p1] (([(cXo x an tr xv), (cH cyO (x 1) (x 2) 2 fl), (cXk cyI x xv), (cH cyO (x 4) (x 5) 6 fs), (cT cyI x (X_text xv)), (cSo an nv), (cG cyI an (S_green nv)), (cV cyI an (S_score nv))] : List va_W).flatten)) (va_Qi (fun (r : Int32) (_ : Unit) => Sum.inr r = out) (fun _ _ => True) wN0) (xcR Int32 out) 1 6 wN0 := by
  refine vx_ofW (cc := cX5_pointsOfEnd) (maxL := 2) (ret := (some .int)) (by decide) rfl ?_
  intro p e s m args below meth c s₁ B hml htx hv
  obtain ⟨rfl, hP, hK, hZ⟩ := hv
  have hx := B.exec
  have hb := B.bytes
  have hr := B.returns
  have hts0 := atoms_spec (ws := (Cond.code yX5_pointsOfEnd cX5_pointsOfEnd 2 (some .int) :: wT)) B.pre
  have hts := fun w h => hts0 w (List.mem_cons_of_mem _ h)
  clear hts0
  have hown : s.vm.findClass RX5 = some m.cls := findClass_of_methodNamed B.named
  have hlocks := B.notSynchronized
  have hAz : ∀ q, wN0 q → z0 ≤ q := fun q h => h.elim
  have hS : va_S wN0 s.heap s.heap [] := va_S.rf
  have hl := lv_entry [.ref (x 0), .int p1] (n := 2) (Nat.le_of_ble_eq_true rfl)
  rw [lg_entry_eq]
  generalize (lg_sl [.ref (x 0), .int p1] ++ List.replicate (2 - (lg_sl [.ref (x 0), .int p1]).length) Slot.unset).toArray = ls at hl ⊢
  have hl : lv_has ls 2 [(0, .ref (x 0)), (1, .int p1)] := hl
  unfold f_X5_pointsOfEnd at hF
  refine lv_iload_n hx hb dX5_pointsOfEnd_0 rfl (lv_at hl 1 rfl) ?_
  obtain ⟨j18, hj18, hF⟩ := jn_use hF
  have hJ18 : ∀ (s18 : Unit) (H : Heap) (locs : List Loc) (ls : Array Slot), va_P (dC, dI) vwCl (([(cXo x an tr xv), (cH cyO (x 1) (x 2) 2 fl), (cXk cyI x xv), (cH cyO (x 4) (x 5) 6 fs), (cT cyI x (X_text xv)), (cSo an nv), (cG cyI an (S_green nv)), (cV cyI an (S_score nv))] : List va_W).flatten) H → va_S wN0 s.heap H locs → lv_has ls 2 [] → j18 s18 = some out → W p l e (headSpec (Cond.code yX5_pointsOfEnd cX5_pointsOfEnd 2 (some .int) :: wT) ({ frames := 6, cells := 1, slots := 6, locals := 82 } : Room)).room s m ([.ref (x 0), .int p1] : List Value).toArray below meth c H locs 0 0 (vx_MQ below (va_Qi (fun (r : Int32) (_ : Unit) => Sum.inr r = out) (fun _ _ => True) wN0) (xcR Int32 out) ([.ref (x 0), .int p1] : List Value).toArray s 1 6 wN0) (F0 m 18 ls []) := by
    intro s18 H locs ls hP hS hl hF
    have hF := (congrFun hj18 s18).symm.trans hF
    have hF9 : (Sum.inl 2 : Nat ⊕ Int32) = out := Option.some.inj hF
    exact thrRW_2 hF9 hx hb hst (is := 320) (text := "there is no such end") hown hts hZ hS (hl.1.trans hml.symm) (by decide) dX5_pointsOfEnd_18 dX5_pointsOfEnd_21 dX5_pointsOfEnd_22 dX5_pointsOfEnd_25 dX5_pointsOfEnd_28 htx (Nat.le_of_ble_eq_true rfl) (Nat.le_of_ble_eq_true rfl) (Nat.le_of_ble_eq_true rfl) (Nat.le_of_ble_eq_true rfl) hlocks (Nat.le_of_ble_eq_true rfl) (Nat.le_of_ble_eq_true rfl)
  refine lv_if_lt (tgt := 18) hx hb dX5_pointsOfEnd_1 (by decide) (fun c1 => ?_) (fun c1 => ?_)
  · have hF := itp c1 hF
    exact hJ18 () _ _ _ hP hS (lv_sub hl [] rfl) hF
  · have hF := itn c1 hF
    refine lv_iload_n hx hb dX5_pointsOfEnd_4 rfl (lv_at hl 1 rfl) ?_
    refine lv_aload_n hx hb dX5_pointsOfEnd_5 rfl (lv_at hl 0 rfl) ?_
    refine va_get (D := (dC, dI)) (ci := 5) (v := .ref (an 0)) (C := RX5) (T := TX5) (N := 8) hx hb hts inX5 hown hK.1 hP 0 rfl rfl 0 (by decide) (hts _ w_fieldLink_X5_12) (fun _ h9 => h9) rfl dX5_pointsOfEnd_6 ?_
    refine va_get (D := (dC, dI)) (ci := 3) (v := .ref (an 9)) (C := RX3) (T := TX3) (N := 6) hx hb hts inX3 hown hK.1 hP 8 rfl rfl 1 (by decide) (hts _ w_fieldLink_X5_110) (fun _ h9 => h9) rfl dX5_pointsOfEnd_9 ?_
    refine va_get (D := (dC, dI)) (ci := 1) (v := .int (V_latestCount (S_score nv))) (C := RX1) (T := TX1) (N := 11) hx hb hts inX1 hown hK.1 hP 17 rfl rfl 6 (by decide) (hts _ w_fieldLink_X5_317) (fun _ h9 => h9) rfl dX5_pointsOfEnd_12 ?_
    refine lv_icmp_lt (tgt := 29) hx hb dX5_pointsOfEnd_15 (by decide) (fun c2 => ?_) (fun c2 => ?_)
    · have hF := itp c2 hF
      refine lv_aload_n hx hb dX5_pointsOfEnd_29 rfl (lv_at hl 0 rfl) ?_
      refine va_get (D := (dC, dI)) (ci := 5) (v := .ref (an 0)) (C := RX5) (T := TX5) (N := 8) hx hb hts inX5 hown hK.1 hP 0 rfl rfl 0 (by decide) (hts _ w_fieldLink_X5_12) (fun _ h9 => h9) rfl dX5_pointsOfEnd_30 ?_
      refine va_get (D := (dC, dI)) (ci := 3) (v := .ref (an 9)) (C := RX3) (T := TX3) (N := 6) hx hb hts inX3 hown hK.1 hP 8 rfl rfl 1 (by decide) (hts _ w_fieldLink_X5_110) (fun _ h9 => h9) rfl dX5_pointsOfEnd_33 ?_
      refine va_get (D := (dC, dI)) (ci := 1) (v := .ref (an 11)) (C := RX1) (T := TX1) (N := 11) hx hb hts inX1 hown hK.1 hP 17 rfl rfl 1 (by decide) (hts _ w_fieldLink_X5_322) (fun _ h9 => h9) rfl dX5_pointsOfEnd_36 ?_
      refine lv_iload_n hx hb dX5_pointsOfEnd_39 rfl (lv_at hl 1 rfl) ?_
      obtain ⟨o3, h4, hF⟩ := obd hF
      refine wcRSi (As := [.ref (an 11), .int p1]) (rest := []) ⟨hx, hb, hml, hown, hts⟩ (met_X5_at l dC dI cyI cyO (an 11) 12 N (V_latest (S_score nv)) p1 o3 h4) (va_cwS 2 hts (gS w_methodLink_X5_195 w_static_X5_at w_initialized_X5 w_code_X5_at) rfl rfl rfl (by decide +kernel) ⟨Nat.le_of_ble_eq_true rfl, Nat.le_of_ble_eq_true rfl⟩) hP hK [19] rfl rfl hl.1 (Nat.le_of_ble_eq_true rfl) dX5_pointsOfEnd_40 ⟨Nat.le_of_ble_eq_true rfl, Nat.le_of_ble_eq_true rfl⟩ hS (fun r H locs hw hP hS => ?_)
      have hw := hw.symm
      subst hw
      refine vx_ret ?_
      refine W.widen (k := 1) (n := 6) (Nat.le_of_ble_eq_true rfl) (Nat.le_of_ble_eq_true rfl) ?_
      exact W.iret (v := o3) hx hb hr (fun t ht hW => ⟨⟨_, (), rfl, Option.some.inj hF, trivial⟩, hS.F ht⟩) hS.2.2 dX5_pointsOfEnd_43
    · have hF := itn c2 hF
      exact hJ18 () _ _ _ hP hS (lv_sub hl [] rfl) hF
theorem dX5_keptEnds_0 : decode cX5_keptEnds 0 = .ok (.aload_n 0, 1) := by decide +kernel
theorem dX5_keptEnds_1 : decode cX5_keptEnds 1 = .ok (.getfield 12, 3) := by decide +kernel
theorem dX5_keptEnds_4 : decode cX5_keptEnds 4 = .ok (.getfield 110, 3) := by decide +kernel
theorem dX5_keptEnds_7 : decode cX5_keptEnds 7 = .ok (.getfield 317, 3) := by decide +kernel
theorem dX5_keptEnds_10 : decode cX5_keptEnds 10 = .ok (.ireturn, 1) := by decide +kernel
def f_X5_keptEnds (N : Nat) (xv : XV) (nv : SV) : Option (Int32) :=
  some (V_latestCount (S_score nv))
set_option maxHeartbeats 4000000 in
set_option maxRecDepth 100000 in
theorem met_X5_keptEnds (l : Launch) (dC : Nat → ClassId) (dI : Nat → Nat → Nat) (cyI cyO : ClassId) (x : Nat → Nat) (tr : Nat → Nat) (an : Nat → Nat) (fl fs : Nat → Option Nat) (N : Nat) (xv : XV) (nv : SV) (out : Int32) (hF : f_X5_keptEnds N xv nv = some out) : Met l yX5_keptEnds (Cond.code yX5_keptEnds cX5_keptEnds 1 (some .int) :: wT) ({ frames := 0, cells := 0, slots := 0, locals := 0 } : Room) (wRd dC dI cyI cyO [.ref (x 0)] (([(cXo x an tr xv), (cH cyO (x 1) (x 2) 2 fl), (cXk cyI x xv), (cH cyO (x 4) (x 5) 6 fs), (cT cyI x (X_text xv)), (cSo an nv), (cG cyI an (S_green nv)), (cV cyI an (S_score nv))] : List va_W).flatten)) (va_Qi (fun (r : Int32) (_ : Unit) => r = out) (fun _ _ => True) wN0) 0 0 wN0 := by
  refine Met.ofW (cc := cX5_keptEnds) (maxL := 1) (ret := (some .int)) (by decide) rfl ?_
  intro p e s m args below meth c s₁ B hml hv
  obtain ⟨rfl, hP, hK⟩ := hv
  have hx := B.exec
  have hb := B.bytes
  have hr := B.returns
  have hts0 := atoms_spec (ws := (Cond.code yX5_keptEnds cX5_keptEnds 1 (some .int) :: wT)) B.pre
  have hts := fun w h => hts0 w (List.mem_cons_of_mem _ h)
  clear hts0
  have hown : s.vm.findClass RX5 = some m.cls := findClass_of_methodNamed B.named
  have hlocks := B.notSynchronized
  have hS : va_S wN0 s.heap s.heap [] := va_S.rf
  have hl := lv_entry [.ref (x 0)] (n := 1) (Nat.le_of_ble_eq_true rfl)
  rw [lg_entry_eq]
  generalize (lg_sl [.ref (x 0)] ++ List.replicate (1 - (lg_sl [.ref (x 0)]).length) Slot.unset).toArray = ls at hl ⊢
  have hl : lv_has ls 1 [(0, .ref (x 0))] := hl
  unfold f_X5_keptEnds at hF
  refine lv_aload_n hx hb dX5_keptEnds_0 rfl (lv_at hl 0 rfl) ?_
  refine va_get (D := (dC, dI)) (ci := 5) (v := .ref (an 0)) (C := RX5) (T := TX5) (N := 8) hx hb hts inX5 hown hK.1 hP 0 rfl rfl 0 (by decide) (hts _ w_fieldLink_X5_12) (fun _ h9 => h9) rfl dX5_keptEnds_1 ?_
  refine va_get (D := (dC, dI)) (ci := 3) (v := .ref (an 9)) (C := RX3) (T := TX3) (N := 6) hx hb hts inX3 hown hK.1 hP 8 rfl rfl 1 (by decide) (hts _ w_fieldLink_X5_110) (fun _ h9 => h9) rfl dX5_keptEnds_4 ?_
  refine va_get (D := (dC, dI)) (ci := 1) (v := .int (V_latestCount (S_score nv))) (C := RX1) (T := TX1) (N := 11) hx hb hts inX1 hown hK.1 hP 17 rfl rfl 6 (by decide) (hts _ w_fieldLink_X5_317) (fun _ h9 => h9) rfl dX5_keptEnds_7 ?_
  exact W.iret (v := (V_latestCount (S_score nv))) hx hb hr (fun t ht hW => ⟨⟨_, (), rfl, Option.some.inj hF, trivial⟩, hS.F ht⟩) hS.2.2 dX5_keptEnds_10
theorem dX5_endsWith_0 : decode cX5_endsWith 0 = .ok (.iload_n 1, 1) := by decide +kernel
theorem dX5_endsWith_1 : decode cX5_endsWith 1 = .ok (.bipush (-8), 2) := by decide +kernel
theorem dX5_endsWith_3 : decode cX5_endsWith 3 = .ok (.if_icmp .lt 9, 3) := by decide +kernel
theorem dX5_endsWith_6 : decode cX5_endsWith 6 = .ok (.iload_n 1, 1) := by decide +kernel
theorem dX5_endsWith_7 : decode cX5_endsWith 7 = .ok (.bipush 8, 2) := by decide +kernel
theorem dX5_endsWith_9 : decode cX5_endsWith 9 = .ok (.if_icmp .le 13, 3) := by decide +kernel
theorem dX5_endsWith_12 : decode cX5_endsWith 12 = .ok (.new 49, 3) := by decide +kernel
theorem dX5_endsWith_15 : decode cX5_endsWith 15 = .ok (.dup, 1) := by decide +kernel
theorem dX5_endsWith_16 : decode cX5_endsWith 16 = .ok (.ldc 108, 2) := by decide +kernel
theorem dX5_endsWith_18 : decode cX5_endsWith 18 = .ok (.invokespecial 53, 3) := by decide +kernel
theorem dX5_endsWith_21 : decode cX5_endsWith 21 = .ok (.athrow, 1) := by decide +kernel
theorem dX5_endsWith_22 : decode cX5_endsWith 22 = .ok (.aload_n 0, 1) := by decide +kernel
theorem dX5_endsWith_23 : decode cX5_endsWith 23 = .ok (.getfield 12, 3) := by decide +kernel
theorem dX5_endsWith_26 : decode cX5_endsWith 26 = .ok (.getfield 110, 3) := by decide +kernel
theorem dX5_endsWith_29 : decode cX5_endsWith 29 = .ok (.getfield 325, 3) := by decide +kernel
theorem dX5_endsWith_32 : decode cX5_endsWith 32 = .ok (.iload_n 1, 1) := by decide +kernel
theorem dX5_endsWith_33 : decode cX5_endsWith 33 = .ok (.bipush 8, 2) := by decide +kernel
theorem dX5_endsWith_35 : decode cX5_endsWith 35 = .ok (.iadd, 1) := by decide +kernel
theorem dX5_endsWith_36 : decode cX5_endsWith 36 = .ok (.invokestatic 195, 3) := by decide +kernel
theorem dX5_endsWith_39 : decode cX5_endsWith 39 = .ok (.ireturn, 1) := by decide +kernel
def f_X5_endsWith (N : Nat) (xv : XV) (nv : SV) (p1 : Int32) : Option (Nat ⊕ Int32) :=
  jn (fun (s12 : Unit) => some (Sum.inl 0)) (fun (j12 : (Unit) → Option (Nat ⊕ Int32)) => (if p1 < (-8 : Int32) then j12 () else (if p1 ≤ (8 : Int32) then (f_X5_at N 17 (V_endsByPoints (S_score nv)) (p1 + (8 : Int32))).bind (fun o3 => some (Sum.inr o3)) else j12 ())))
set_option maxHeartbeats 4000000 in
set_option maxRecDepth 100000 in
theorem met_X5_endsWith (l : Launch) (z0 : Nat) (hst : l.stackTraces = false) (dC : Nat → ClassId) (dI : Nat → Nat → Nat) (cyI cyO : ClassId) (x : Nat → Nat) (tr : Nat → Nat) (an : Nat → Nat) (fl fs : Nat → Option Nat) (N : Nat) (xv : XV) (nv : SV) (p1 : Int32) (out : Nat ⊕ Int32) (hF : f_X5_endsWith N xv nv p1 = some out) : vx_Met l yX5_endsWith (Cond.code yX5_endsWith cX5_endsWith 2 (some .int) :: wT) ({ frames := 6, cells := 1, slots := 6, locals := 82 } : Room) (wRdX z0 dC dI cyI cyO [.ref (x 0), .int p1] (([(cXo x an tr xv), (cH cyO (x 1) (x 2) 2 fl), (cXk cyI x xv), (cH cyO (x 4) (x 5) 6 fs), (cT cyI x (X_text xv)), (cSo an nv), (cG cyI an (S_green nv)), (cV cyI an (S_score nv))] : List va_W).flatten)) (va_Qi (fun (r : Int32) (_ : Unit) => Sum.inr r = out) (fun _ _ => True) wN0) (xcR Int32 out) 1 6 wN0 := by
  refine vx_ofW (cc := cX5_endsWith) (maxL := 2) (ret := (some .int)) (by decide) rfl ?_
  intro p e s m args below meth c s₁ B hml htx hv
  obtain ⟨rfl, hP, hK, hZ⟩ := hv
  have hx := B.exec
  have hb := B.bytes
  have hr := B.returns
  have hts0 := atoms_spec (ws := (Cond.code yX5_endsWith cX5_endsWith 2 (some .int) :: wT)) B.pre
  have hts := fun w h => hts0 w (List.mem_cons_of_mem _ h)
  clear hts0
  have hown : s.vm.findClass RX5 = some m.cls := findClass_of_methodNamed B.named
  have hlocks := B.notSynchronized
  have hAz : ∀ q, wN0 q → z0 ≤ q := fun q h => h.elim
  have hS : va_S wN0 s.heap s.heap [] := va_S.rf
  have hl := lv_entry [.ref (x 0), .int p1] (n := 2) (Nat.le_of_ble_eq_true rfl)
  rw [lg_entry_eq]
  generalize (lg_sl [.ref (x 0), .int p1] ++ List.replicate (2 - (lg_sl [.ref (x 0), .int p1]).length) Slot.unset).toArray = ls at hl ⊢
  have hl : lv_has ls 2 [(0, .ref (x 0)), (1, .int p1)] := hl
  unfold f_X5_endsWith at hF
  refine lv_iload_n hx hb dX5_endsWith_0 rfl (lv_at hl 1 rfl) ?_
  refine lv_bipush (v := -8) hx hb dX5_endsWith_1 (by decide) ?_
  obtain ⟨j12, hj12, hF⟩ := jn_use hF
  have hJ12 : ∀ (s12 : Unit) (H : Heap) (locs : List Loc) (ls : Array Slot), va_P (dC, dI) vwCl (([(cXo x an tr xv), (cH cyO (x 1) (x 2) 2 fl), (cXk cyI x xv), (cH cyO (x 4) (x 5) 6 fs), (cT cyI x (X_text xv)), (cSo an nv), (cG cyI an (S_green nv)), (cV cyI an (S_score nv))] : List va_W).flatten) H → va_S wN0 s.heap H locs → lv_has ls 2 [] → j12 s12 = some out → W p l e (headSpec (Cond.code yX5_endsWith cX5_endsWith 2 (some .int) :: wT) ({ frames := 6, cells := 1, slots := 6, locals := 82 } : Room)).room s m ([.ref (x 0), .int p1] : List Value).toArray below meth c H locs 0 0 (vx_MQ below (va_Qi (fun (r : Int32) (_ : Unit) => Sum.inr r = out) (fun _ _ => True) wN0) (xcR Int32 out) ([.ref (x 0), .int p1] : List Value).toArray s 1 6 wN0) (F0 m 12 ls []) := by
    intro s12 H locs ls hP hS hl hF
    have hF := (congrFun hj12 s12).symm.trans hF
    have hF9 : (Sum.inl 0 : Nat ⊕ Int32) = out := Option.some.inj hF
    exact thrR_0 hF9 hx hb hst (is := 108) (text := "points is out of range") hown hts hZ hS (hl.1.trans hml.symm) (by decide) dX5_endsWith_12 dX5_endsWith_15 dX5_endsWith_16 dX5_endsWith_18 dX5_endsWith_21 htx (Nat.le_of_ble_eq_true rfl) (Nat.le_of_ble_eq_true rfl) (Nat.le_of_ble_eq_true rfl) (Nat.le_of_ble_eq_true rfl) hlocks (Nat.le_of_ble_eq_true rfl) (Nat.le_of_ble_eq_true rfl)
  refine lv_icmp_lt (tgt := 12) hx hb dX5_endsWith_3 (by decide) (fun c1 => ?_) (fun c1 => ?_)
  · have hF := itp c1 hF
    exact hJ12 () _ _ _ hP hS (lv_sub hl [] rfl) hF
  · have hF := itn c1 hF
    refine lv_iload_n hx hb dX5_endsWith_6 rfl (lv_at hl 1 rfl) ?_
    refine lv_bipush (v := 8) hx hb dX5_endsWith_7 (by decide) ?_
    refine lv_icmp_le (tgt := 22) hx hb dX5_endsWith_9 (by decide) (fun c2 => ?_) (fun c2 => ?_)
    · have hF := itp c2 hF
      refine lv_aload_n hx hb dX5_endsWith_22 rfl (lv_at hl 0 rfl) ?_
      refine va_get (D := (dC, dI)) (ci := 5) (v := .ref (an 0)) (C := RX5) (T := TX5) (N := 8) hx hb hts inX5 hown hK.1 hP 0 rfl rfl 0 (by decide) (hts _ w_fieldLink_X5_12) (fun _ h9 => h9) rfl dX5_endsWith_23 ?_
      refine va_get (D := (dC, dI)) (ci := 3) (v := .ref (an 9)) (C := RX3) (T := TX3) (N := 6) hx hb hts inX3 hown hK.1 hP 8 rfl rfl 1 (by decide) (hts _ w_fieldLink_X5_110) (fun _ h9 => h9) rfl dX5_endsWith_26 ?_
      refine va_get (D := (dC, dI)) (ci := 1) (v := .ref (an 12)) (C := RX1) (T := TX1) (N := 11) hx hb hts inX1 hown hK.1 hP 17 rfl rfl 2 (by decide) (hts _ w_fieldLink_X5_325) (fun _ h9 => h9) rfl dX5_endsWith_29 ?_
      refine lv_iload_n hx hb dX5_endsWith_32 rfl (lv_at hl 1 rfl) ?_
      refine lv_bipush (v := 8) hx hb dX5_endsWith_33 (by decide) ?_
      refine lv_iadd hx hb dX5_endsWith_35 ?_
      obtain ⟨o3, h4, hF⟩ := obd hF
      refine wcRSi (As := [.ref (an 12), .int (p1 + (8 : Int32))]) (rest := []) ⟨hx, hb, hml, hown, hts⟩ (met_X5_at l dC dI cyI cyO (an 12) 17 N (V_endsByPoints (S_score nv)) (p1 + (8 : Int32)) o3 h4) (va_cwS 2 hts (gS w_methodLink_X5_195 w_static_X5_at w_initialized_X5 w_code_X5_at) rfl rfl rfl (by decide +kernel) ⟨Nat.le_of_ble_eq_true rfl, Nat.le_of_ble_eq_true rfl⟩) hP hK [20] rfl rfl hl.1 (Nat.le_of_ble_eq_true rfl) dX5_endsWith_36 ⟨Nat.le_of_ble_eq_true rfl, Nat.le_of_ble_eq_true rfl⟩ hS (fun r H locs hw hP hS => ?_)
      have hw := hw.symm
      subst hw
      refine vx_ret ?_
      refine W.widen (k := 1) (n := 6) (Nat.le_of_ble_eq_true rfl) (Nat.le_of_ble_eq_true rfl) ?_
      exact W.iret (v := o3) hx hb hr (fun t ht hW => ⟨⟨_, (), rfl, Option.some.inj hF, trivial⟩, hS.F ht⟩) hS.2.2 dX5_endsWith_39
    · have hF := itn c2 hF
      exact hJ12 () _ _ _ hP hS (lv_sub hl [] rfl) hF
theorem dX5_streak_0 : decode cX5_streak 0 = .ok (.aload_n 0, 1) := by decide +kernel
theorem dX5_streak_1 : decode cX5_streak 1 = .ok (.getfield 12, 3) := by decide +kernel
theorem dX5_streak_4 : decode cX5_streak 4 = .ok (.getfield 110, 3) := by decide +kernel
theorem dX5_streak_7 : decode cX5_streak 7 = .ok (.invokevirtual 328, 3) := by decide +kernel
theorem dX5_streak_10 : decode cX5_streak 10 = .ok (.ireturn, 1) := by decide +kernel
def f_X5_streak (N : Nat) (xv : XV) (nv : SV) : Option (Int32) :=
  (f_X1_latestWins N (S_score nv)).bind (fun o1 => some o1)
set_option maxHeartbeats 4000000 in
set_option maxRecDepth 100000 in
theorem met_X5_streak (l : Launch) (dC : Nat → ClassId) (dI : Nat → Nat → Nat) (cyI cyO : ClassId) (x : Nat → Nat) (tr : Nat → Nat) (an : Nat → Nat) (fl fs : Nat → Option Nat) (N : Nat) (xv : XV) (nv : SV) (out : Int32) (hF : f_X5_streak N xv nv = some out) : Met l yX5_streak (Cond.code yX5_streak cX5_streak 1 (some .int) :: wT) ({ frames := 2, cells := 0, slots := 0, locals := 43 } : Room) (wRd dC dI cyI cyO [.ref (x 0)] (([(cXo x an tr xv), (cH cyO (x 1) (x 2) 2 fl), (cXk cyI x xv), (cH cyO (x 4) (x 5) 6 fs), (cT cyI x (X_text xv)), (cSo an nv), (cG cyI an (S_green nv)), (cV cyI an (S_score nv))] : List va_W).flatten)) (va_Qi (fun (r : Int32) (_ : Unit) => r = out) (fun _ _ => True) wN0) 0 0 wN0 := by
  refine Met.ofW (cc := cX5_streak) (maxL := 1) (ret := (some .int)) (by decide) rfl ?_
  intro p e s m args below meth c s₁ B hml hv
  obtain ⟨rfl, hP, hK⟩ := hv
  have hx := B.exec
  have hb := B.bytes
  have hr := B.returns
  have hts0 := atoms_spec (ws := (Cond.code yX5_streak cX5_streak 1 (some .int) :: wT)) B.pre
  have hts := fun w h => hts0 w (List.mem_cons_of_mem _ h)
  clear hts0
  have hown : s.vm.findClass RX5 = some m.cls := findClass_of_methodNamed B.named
  have hlocks := B.notSynchronized
  have hS : va_S wN0 s.heap s.heap [] := va_S.rf
  have hl := lv_entry [.ref (x 0)] (n := 1) (Nat.le_of_ble_eq_true rfl)
  rw [lg_entry_eq]
  generalize (lg_sl [.ref (x 0)] ++ List.replicate (1 - (lg_sl [.ref (x 0)]).length) Slot.unset).toArray = ls at hl ⊢
  have hl : lv_has ls 1 [(0, .ref (x 0))] := hl
  unfold f_X5_streak at hF
  refine lv_aload_n hx hb dX5_streak_0 rfl (lv_at hl 0 rfl) ?_
  refine va_get (D := (dC, dI)) (ci := 5) (v := .ref (an 0)) (C := RX5) (T := TX5) (N := 8) hx hb hts inX5 hown hK.1 hP 0 rfl rfl 0 (by decide) (hts _ w_fieldLink_X5_12) (fun _ h9 => h9) rfl dX5_streak_1 ?_
  refine va_get (D := (dC, dI)) (ci := 3) (v := .ref (an 9)) (C := RX3) (T := TX3) (N := 6) hx hb hts inX3 hown hK.1 hP 8 rfl rfl 1 (by decide) (hts _ w_fieldLink_X5_110) (fun _ h9 => h9) rfl dX5_streak_4 ?_
  obtain ⟨o1, h2, hF⟩ := obd hF
  refine wcRVi (As := []) (rest := []) (b := (an 9)) ⟨hx, hb, hml, hown, hts⟩ (met_X1_latestWins l dC dI cyI cyO an N (S_score nv)  o1 h2) (cwV 0 hts (gV w_methodLink_X5_328 w_instanceMethod_X1_latestWins w_selects_X1_latestWins w_initialized_X1 w_code_X1_latestWins) rfl rfl rfl (by decide +kernel) ⟨Nat.le_of_ble_eq_true rfl, Nat.le_of_ble_eq_true rfl⟩) (va_recv hK.1 hP (ci := 1) (q0 := 17) rfl rfl) hP hK [17, 18, 19, 20] rfl rfl hl.1 (Nat.le_of_ble_eq_true rfl) dX5_streak_7 ⟨Nat.le_of_ble_eq_true rfl, Nat.le_of_ble_eq_true rfl⟩ hS (fun r H locs hw hP hS => ?_)
  have hw := hw.symm
  subst hw
  exact W.iret (v := o1) hx hb hr (fun t ht hW => ⟨⟨_, (), rfl, Option.some.inj hF, trivial⟩, hS.F ht⟩) hS.2.2 dX5_streak_10
theorem dX5_putBack_0 : decode cX5_putBack 0 = .ok (.aload_n 0, 1) := by decide +kernel
theorem dX5_putBack_1 : decode cX5_putBack 1 = .ok (.getfield 12, 3) := by decide +kernel
theorem dX5_putBack_4 : decode cX5_putBack 4 = .ok (.getfield 110, 3) := by decide +kernel
theorem dX5_putBack_7 : decode cX5_putBack 7 = .ok (.getfield 331, 3) := by decide +kernel
theorem dX5_putBack_10 : decode cX5_putBack 10 = .ok (.ireturn, 1) := by decide +kernel
def f_X5_putBack (N : Nat) (xv : XV) (nv : SV) : Option (Int32) :=
  some (V_backCount (S_score nv))
set_option maxHeartbeats 4000000 in
set_option maxRecDepth 100000 in
theorem met_X5_putBack (l : Launch) (dC : Nat → ClassId) (dI : Nat → Nat → Nat) (cyI cyO : ClassId) (x : Nat → Nat) (tr : Nat → Nat) (an : Nat → Nat) (fl fs : Nat → Option Nat) (N : Nat) (xv : XV) (nv : SV) (out : Int32) (hF : f_X5_putBack N xv nv = some out) : Met l yX5_putBack (Cond.code yX5_putBack cX5_putBack 1 (some .int) :: wT) ({ frames := 0, cells := 0, slots := 0, locals := 0 } : Room) (wRd dC dI cyI cyO [.ref (x 0)] (([(cXo x an tr xv), (cH cyO (x 1) (x 2) 2 fl), (cXk cyI x xv), (cH cyO (x 4) (x 5) 6 fs), (cT cyI x (X_text xv)), (cSo an nv), (cG cyI an (S_green nv)), (cV cyI an (S_score nv))] : List va_W).flatten)) (va_Qi (fun (r : Int32) (_ : Unit) => r = out) (fun _ _ => True) wN0) 0 0 wN0 := by
  refine Met.ofW (cc := cX5_putBack) (maxL := 1) (ret := (some .int)) (by decide) rfl ?_
  intro p e s m args below meth c s₁ B hml hv
  obtain ⟨rfl, hP, hK⟩ := hv
  have hx := B.exec
  have hb := B.bytes
  have hr := B.returns
  have hts0 := atoms_spec (ws := (Cond.code yX5_putBack cX5_putBack 1 (some .int) :: wT)) B.pre
  have hts := fun w h => hts0 w (List.mem_cons_of_mem _ h)
  clear hts0
  have hown : s.vm.findClass RX5 = some m.cls := findClass_of_methodNamed B.named
  have hlocks := B.notSynchronized
  have hS : va_S wN0 s.heap s.heap [] := va_S.rf
  have hl := lv_entry [.ref (x 0)] (n := 1) (Nat.le_of_ble_eq_true rfl)
  rw [lg_entry_eq]
  generalize (lg_sl [.ref (x 0)] ++ List.replicate (1 - (lg_sl [.ref (x 0)]).length) Slot.unset).toArray = ls at hl ⊢
  have hl : lv_has ls 1 [(0, .ref (x 0))] := hl
  unfold f_X5_putBack at hF
  refine lv_aload_n hx hb dX5_putBack_0 rfl (lv_at hl 0 rfl) ?_
  refine va_get (D := (dC, dI)) (ci := 5) (v := .ref (an 0)) (C := RX5) (T := TX5) (N := 8) hx hb hts inX5 hown hK.1 hP 0 rfl rfl 0 (by decide) (hts _ w_fieldLink_X5_12) (fun _ h9 => h9) rfl dX5_putBack_1 ?_
  refine va_get (D := (dC, dI)) (ci := 3) (v := .ref (an 9)) (C := RX3) (T := TX3) (N := 6) hx hb hts inX3 hown hK.1 hP 8 rfl rfl 1 (by decide) (hts _ w_fieldLink_X5_110) (fun _ h9 => h9) rfl dX5_putBack_4 ?_
  refine va_get (D := (dC, dI)) (ci := 1) (v := .int (V_backCount (S_score nv))) (C := RX1) (T := TX1) (N := 11) hx hb hts inX1 hown hK.1 hP 17 rfl rfl 7 (by decide) (hts _ w_fieldLink_X5_331) (fun _ h9 => h9) rfl dX5_putBack_7 ?_
  exact W.iret (v := (V_backCount (S_score nv))) hx hb hr (fun t ht hW => ⟨⟨_, (), rfl, Option.some.inj hF, trivial⟩, hS.F ht⟩) hS.2.2 dX5_putBack_10
theorem dX5_played_0 : decode cX5_played 0 = .ok (.aload_n 0, 1) := by decide +kernel
theorem dX5_played_1 : decode cX5_played 1 = .ok (.getfield 12, 3) := by decide +kernel
theorem dX5_played_4 : decode cX5_played 4 = .ok (.getfield 110, 3) := by decide +kernel
theorem dX5_played_7 : decode cX5_played 7 = .ok (.getfield 334, 3) := by decide +kernel
theorem dX5_played_10 : decode cX5_played 10 = .ok (.ireturn, 1) := by decide +kernel
def f_X5_played (N : Nat) (xv : XV) (nv : SV) : Option (Int32) :=
  some (V_bowlCount (S_score nv))
set_option maxHeartbeats 4000000 in
set_option maxRecDepth 100000 in
theorem met_X5_played (l : Launch) (dC : Nat → ClassId) (dI : Nat → Nat → Nat) (cyI cyO : ClassId) (x : Nat → Nat) (tr : Nat → Nat) (an : Nat → Nat) (fl fs : Nat → Option Nat) (N : Nat) (xv : XV) (nv : SV) (out : Int32) (hF : f_X5_played N xv nv = some out) : Met l yX5_played (Cond.code yX5_played cX5_played 1 (some .int) :: wT) ({ frames := 0, cells := 0, slots := 0, locals := 0 } : Room) (wRd dC dI cyI cyO [.ref (x 0)] (([(cXo x an tr xv), (cH cyO (x 1) (x 2) 2 fl), (cXk cyI x xv), (cH cyO (x 4) (x 5) 6 fs), (cT cyI x (X_text xv)), (cSo an nv), (cG cyI an (S_green nv)), (cV cyI an (S_score nv))] : List va_W).flatten)) (va_Qi (fun (r : Int32) (_ : Unit) => r = out) (fun _ _ => True) wN0) 0 0 wN0 := by
  refine Met.ofW (cc := cX5_played) (maxL := 1) (ret := (some .int)) (by decide) rfl ?_
  intro p e s m args below meth c s₁ B hml hv
  obtain ⟨rfl, hP, hK⟩ := hv
  have hx := B.exec
  have hb := B.bytes
  have hr := B.returns
  have hts0 := atoms_spec (ws := (Cond.code yX5_played cX5_played 1 (some .int) :: wT)) B.pre
  have hts := fun w h => hts0 w (List.mem_cons_of_mem _ h)
  clear hts0
  have hown : s.vm.findClass RX5 = some m.cls := findClass_of_methodNamed B.named
  have hlocks := B.notSynchronized
  have hS : va_S wN0 s.heap s.heap [] := va_S.rf
  have hl := lv_entry [.ref (x 0)] (n := 1) (Nat.le_of_ble_eq_true rfl)
  rw [lg_entry_eq]
  generalize (lg_sl [.ref (x 0)] ++ List.replicate (1 - (lg_sl [.ref (x 0)]).length) Slot.unset).toArray = ls at hl ⊢
  have hl : lv_has ls 1 [(0, .ref (x 0))] := hl
  unfold f_X5_played at hF
  refine lv_aload_n hx hb dX5_played_0 rfl (lv_at hl 0 rfl) ?_
  refine va_get (D := (dC, dI)) (ci := 5) (v := .ref (an 0)) (C := RX5) (T := TX5) (N := 8) hx hb hts inX5 hown hK.1 hP 0 rfl rfl 0 (by decide) (hts _ w_fieldLink_X5_12) (fun _ h9 => h9) rfl dX5_played_1 ?_
  refine va_get (D := (dC, dI)) (ci := 3) (v := .ref (an 9)) (C := RX3) (T := TX3) (N := 6) hx hb hts inX3 hown hK.1 hP 8 rfl rfl 1 (by decide) (hts _ w_fieldLink_X5_110) (fun _ h9 => h9) rfl dX5_played_4 ?_
  refine va_get (D := (dC, dI)) (ci := 1) (v := .int (V_bowlCount (S_score nv))) (C := RX1) (T := TX1) (N := 11) hx hb hts inX1 hown hK.1 hP 17 rfl rfl 8 (by decide) (hts _ w_fieldLink_X5_334) (fun _ h9 => h9) rfl dX5_played_7 ?_
  exact W.iret (v := (V_bowlCount (S_score nv))) hx hb hr (fun t ht hW => ⟨⟨_, (), rfl, Option.some.inj hF, trivial⟩, hS.F ht⟩) hS.2.2 dX5_played_10
theorem dX5_touchers_0 : decode cX5_touchers 0 = .ok (.aload_n 0, 1) := by decide +kernel
theorem dX5_touchers_1 : decode cX5_touchers 1 = .ok (.getfield 12, 3) := by decide +kernel
theorem dX5_touchers_4 : decode cX5_touchers 4 = .ok (.getfield 110, 3) := by decide +kernel
theorem dX5_touchers_7 : decode cX5_touchers 7 = .ok (.getfield 335, 3) := by decide +kernel
theorem dX5_touchers_10 : decode cX5_touchers 10 = .ok (.ireturn, 1) := by decide +kernel
def f_X5_touchers (N : Nat) (xv : XV) (nv : SV) : Option (Int32) :=
  some (V_toucherCount (S_score nv))
set_option maxHeartbeats 4000000 in
set_option maxRecDepth 100000 in
theorem met_X5_touchers (l : Launch) (dC : Nat → ClassId) (dI : Nat → Nat → Nat) (cyI cyO : ClassId) (x : Nat → Nat) (tr : Nat → Nat) (an : Nat → Nat) (fl fs : Nat → Option Nat) (N : Nat) (xv : XV) (nv : SV) (out : Int32) (hF : f_X5_touchers N xv nv = some out) : Met l yX5_touchers (Cond.code yX5_touchers cX5_touchers 1 (some .int) :: wT) ({ frames := 0, cells := 0, slots := 0, locals := 0 } : Room) (wRd dC dI cyI cyO [.ref (x 0)] (([(cXo x an tr xv), (cH cyO (x 1) (x 2) 2 fl), (cXk cyI x xv), (cH cyO (x 4) (x 5) 6 fs), (cT cyI x (X_text xv)), (cSo an nv), (cG cyI an (S_green nv)), (cV cyI an (S_score nv))] : List va_W).flatten)) (va_Qi (fun (r : Int32) (_ : Unit) => r = out) (fun _ _ => True) wN0) 0 0 wN0 := by
  refine Met.ofW (cc := cX5_touchers) (maxL := 1) (ret := (some .int)) (by decide) rfl ?_
  intro p e s m args below meth c s₁ B hml hv
  obtain ⟨rfl, hP, hK⟩ := hv
  have hx := B.exec
  have hb := B.bytes
  have hr := B.returns
  have hts0 := atoms_spec (ws := (Cond.code yX5_touchers cX5_touchers 1 (some .int) :: wT)) B.pre
  have hts := fun w h => hts0 w (List.mem_cons_of_mem _ h)
  clear hts0
  have hown : s.vm.findClass RX5 = some m.cls := findClass_of_methodNamed B.named
  have hlocks := B.notSynchronized
  have hS : va_S wN0 s.heap s.heap [] := va_S.rf
  have hl := lv_entry [.ref (x 0)] (n := 1) (Nat.le_of_ble_eq_true rfl)
  rw [lg_entry_eq]
  generalize (lg_sl [.ref (x 0)] ++ List.replicate (1 - (lg_sl [.ref (x 0)]).length) Slot.unset).toArray = ls at hl ⊢
  have hl : lv_has ls 1 [(0, .ref (x 0))] := hl
  unfold f_X5_touchers at hF
  refine lv_aload_n hx hb dX5_touchers_0 rfl (lv_at hl 0 rfl) ?_
  refine va_get (D := (dC, dI)) (ci := 5) (v := .ref (an 0)) (C := RX5) (T := TX5) (N := 8) hx hb hts inX5 hown hK.1 hP 0 rfl rfl 0 (by decide) (hts _ w_fieldLink_X5_12) (fun _ h9 => h9) rfl dX5_touchers_1 ?_
  refine va_get (D := (dC, dI)) (ci := 3) (v := .ref (an 9)) (C := RX3) (T := TX3) (N := 6) hx hb hts inX3 hown hK.1 hP 8 rfl rfl 1 (by decide) (hts _ w_fieldLink_X5_110) (fun _ h9 => h9) rfl dX5_touchers_4 ?_
  refine va_get (D := (dC, dI)) (ci := 1) (v := .int (V_toucherCount (S_score nv))) (C := RX1) (T := TX1) (N := 11) hx hb hts inX1 hown hK.1 hP 17 rfl rfl 9 (by decide) (hts _ w_fieldLink_X5_335) (fun _ h9 => h9) rfl dX5_touchers_7 ?_
  exact W.iret (v := (V_toucherCount (S_score nv))) hx hb hr (fun t ht hW => ⟨⟨_, (), rfl, Option.some.inj hF, trivial⟩, hS.F ht⟩) hS.2.2 dX5_touchers_10
theorem dX5_first_0 : decode cX5_first 0 = .ok (.aload_n 0, 1) := by decide +kernel
theorem dX5_first_1 : decode cX5_first 1 = .ok (.getfield 12, 3) := by decide +kernel
theorem dX5_first_4 : decode cX5_first 4 = .ok (.getfield 110, 3) := by decide +kernel
theorem dX5_first_7 : decode cX5_first 7 = .ok (.getfield 338, 3) := by decide +kernel
theorem dX5_first_10 : decode cX5_first 10 = .ok (.ireturn, 1) := by decide +kernel
def f_X5_first (N : Nat) (xv : XV) (nv : SV) : Option (Int32) :=
  some (V_firstSide (S_score nv))
set_option maxHeartbeats 4000000 in
set_option maxRecDepth 100000 in
theorem met_X5_first (l : Launch) (dC : Nat → ClassId) (dI : Nat → Nat → Nat) (cyI cyO : ClassId) (x : Nat → Nat) (tr : Nat → Nat) (an : Nat → Nat) (fl fs : Nat → Option Nat) (N : Nat) (xv : XV) (nv : SV) (out : Int32) (hF : f_X5_first N xv nv = some out) : Met l yX5_first (Cond.code yX5_first cX5_first 1 (some .int) :: wT) ({ frames := 0, cells := 0, slots := 0, locals := 0 } : Room) (wRd dC dI cyI cyO [.ref (x 0)] (([(cXo x an tr xv), (cH cyO (x 1) (x 2) 2 fl), (cXk cyI x xv), (cH cyO (x 4) (x 5) 6 fs), (cT cyI x (X_text xv)), (cSo an nv), (cG cyI an (S_green nv)), (cV cyI an (S_score nv))] : List va_W).flatten)) (va_Qi (fun (r : Int32) (_ : Unit) => r = out) (fun _ _ => True) wN0) 0 0 wN0 := by
  refine Met.ofW (cc := cX5_first) (maxL := 1) (ret := (some .int)) (by decide) rfl ?_
  intro p e s m args below meth c s₁ B hml hv
  obtain ⟨rfl, hP, hK⟩ := hv
  have hx := B.exec
  have hb := B.bytes
  have hr := B.returns
  have hts0 := atoms_spec (ws := (Cond.code yX5_first cX5_first 1 (some .int) :: wT)) B.pre
  have hts := fun w h => hts0 w (List.mem_cons_of_mem _ h)
  clear hts0
  have hown : s.vm.findClass RX5 = some m.cls := findClass_of_methodNamed B.named
  have hlocks := B.notSynchronized
  have hS : va_S wN0 s.heap s.heap [] := va_S.rf
  have hl := lv_entry [.ref (x 0)] (n := 1) (Nat.le_of_ble_eq_true rfl)
  rw [lg_entry_eq]
  generalize (lg_sl [.ref (x 0)] ++ List.replicate (1 - (lg_sl [.ref (x 0)]).length) Slot.unset).toArray = ls at hl ⊢
  have hl : lv_has ls 1 [(0, .ref (x 0))] := hl
  unfold f_X5_first at hF
  refine lv_aload_n hx hb dX5_first_0 rfl (lv_at hl 0 rfl) ?_
  refine va_get (D := (dC, dI)) (ci := 5) (v := .ref (an 0)) (C := RX5) (T := TX5) (N := 8) hx hb hts inX5 hown hK.1 hP 0 rfl rfl 0 (by decide) (hts _ w_fieldLink_X5_12) (fun _ h9 => h9) rfl dX5_first_1 ?_
  refine va_get (D := (dC, dI)) (ci := 3) (v := .ref (an 9)) (C := RX3) (T := TX3) (N := 6) hx hb hts inX3 hown hK.1 hP 8 rfl rfl 1 (by decide) (hts _ w_fieldLink_X5_110) (fun _ h9 => h9) rfl dX5_first_4 ?_
  refine va_get (D := (dC, dI)) (ci := 1) (v := .int (V_firstSide (S_score nv))) (C := RX1) (T := TX1) (N := 11) hx hb hts inX1 hown hK.1 hP 17 rfl rfl 10 (by decide) (hts _ w_fieldLink_X5_338) (fun _ h9 => h9) rfl dX5_first_7 ?_
  exact W.iret (v := (V_firstSide (S_score nv))) hx hb hr (fun t ht hW => ⟨⟨_, (), rfl, Option.some.inj hF, trivial⟩, hS.F ht⟩) hS.2.2 dX5_first_10
theorem dX5_wind_0 : decode cX5_wind 0 = .ok (.aload_n 0, 1) := by decide +kernel
theorem dX5_wind_1 : decode cX5_wind 1 = .ok (.getfield 12, 3) := by decide +kernel
theorem dX5_wind_4 : decode cX5_wind 4 = .ok (.getfield 137, 3) := by decide +kernel
theorem dX5_wind_7 : decode cX5_wind 7 = .ok (.ireturn, 1) := by decide +kernel
def f_X5_wind (N : Nat) (xv : XV) (nv : SV) : Option (Int32) :=
  some (S_blowing nv)
set_option maxHeartbeats 4000000 in
set_option maxRecDepth 100000 in
theorem met_X5_wind (l : Launch) (dC : Nat → ClassId) (dI : Nat → Nat → Nat) (cyI cyO : ClassId) (x : Nat → Nat) (tr : Nat → Nat) (an : Nat → Nat) (fl fs : Nat → Option Nat) (N : Nat) (xv : XV) (nv : SV) (out : Int32) (hF : f_X5_wind N xv nv = some out) : Met l yX5_wind (Cond.code yX5_wind cX5_wind 1 (some .int) :: wT) ({ frames := 0, cells := 0, slots := 0, locals := 0 } : Room) (wRd dC dI cyI cyO [.ref (x 0)] (([(cXo x an tr xv), (cH cyO (x 1) (x 2) 2 fl), (cXk cyI x xv), (cH cyO (x 4) (x 5) 6 fs), (cT cyI x (X_text xv)), (cSo an nv), (cG cyI an (S_green nv)), (cV cyI an (S_score nv))] : List va_W).flatten)) (va_Qi (fun (r : Int32) (_ : Unit) => r = out) (fun _ _ => True) wN0) 0 0 wN0 := by
  refine Met.ofW (cc := cX5_wind) (maxL := 1) (ret := (some .int)) (by decide) rfl ?_
  intro p e s m args below meth c s₁ B hml hv
  obtain ⟨rfl, hP, hK⟩ := hv
  have hx := B.exec
  have hb := B.bytes
  have hr := B.returns
  have hts0 := atoms_spec (ws := (Cond.code yX5_wind cX5_wind 1 (some .int) :: wT)) B.pre
  have hts := fun w h => hts0 w (List.mem_cons_of_mem _ h)
  clear hts0
  have hown : s.vm.findClass RX5 = some m.cls := findClass_of_methodNamed B.named
  have hlocks := B.notSynchronized
  have hS : va_S wN0 s.heap s.heap [] := va_S.rf
  have hl := lv_entry [.ref (x 0)] (n := 1) (Nat.le_of_ble_eq_true rfl)
  rw [lg_entry_eq]
  generalize (lg_sl [.ref (x 0)] ++ List.replicate (1 - (lg_sl [.ref (x 0)]).length) Slot.unset).toArray = ls at hl ⊢
  have hl : lv_has ls 1 [(0, .ref (x 0))] := hl
  unfold f_X5_wind at hF
  refine lv_aload_n hx hb dX5_wind_0 rfl (lv_at hl 0 rfl) ?_
  refine va_get (D := (dC, dI)) (ci := 5) (v := .ref (an 0)) (C := RX5) (T := TX5) (N := 8) hx hb hts inX5 hown hK.1 hP 0 rfl rfl 0 (by decide) (hts _ w_fieldLink_X5_12) (fun _ h9 => h9) rfl dX5_wind_1 ?_
  refine va_get (D := (dC, dI)) (ci := 3) (v := .int (S_blowing nv)) (C := RX3) (T := TX3) (N := 6) hx hb hts inX3 hown hK.1 hP 8 rfl rfl 3 (by decide) (hts _ w_fieldLink_X5_137) (fun _ h9 => h9) rfl dX5_wind_4 ?_
  exact W.iret (v := (S_blowing nv)) hx hb hr (fun t ht hW => ⟨⟨_, (), rfl, Option.some.inj hF, trivial⟩, hS.F ht⟩) hS.2.2 dX5_wind_7
theorem dX5_meanPoints_0 : decode cX5_meanPoints 0 = .ok (.aload_n 0, 1) := by decide +kernel
theorem dX5_meanPoints_1 : decode cX5_meanPoints 1 = .ok (.getfield 12, 3) := by decide +kernel
theorem dX5_meanPoints_4 : decode cX5_meanPoints 4 = .ok (.getfield 110, 3) := by decide +kernel
theorem dX5_meanPoints_7 : decode cX5_meanPoints 7 = .ok (.invokevirtual 341, 3) := by decide +kernel
theorem dX5_meanPoints_10 : decode cX5_meanPoints 10 = .ok (.dreturn, 1) := by decide +kernel
def f_X5_meanPoints (N : Nat) (xv : XV) (nv : SV) : Option (UInt64) :=
  (f_X1_mean N (S_score nv)).bind (fun o1 => some o1)
set_option maxHeartbeats 4000000 in
set_option maxRecDepth 100000 in
theorem met_X5_meanPoints (l : Launch) (dC : Nat → ClassId) (dI : Nat → Nat → Nat) (cyI cyO : ClassId) (x : Nat → Nat) (tr : Nat → Nat) (an : Nat → Nat) (fl fs : Nat → Option Nat) (N : Nat) (xv : XV) (nv : SV) (out : UInt64) (hF : f_X5_meanPoints N xv nv = some out) : Met l yX5_meanPoints (Cond.code yX5_meanPoints cX5_meanPoints 1 (some .double) :: wT) ({ frames := 2, cells := 0, slots := 0, locals := 42 } : Room) (wRd dC dI cyI cyO [.ref (x 0)] (([(cXo x an tr xv), (cH cyO (x 1) (x 2) 2 fl), (cXk cyI x xv), (cH cyO (x 4) (x 5) 6 fs), (cT cyI x (X_text xv)), (cSo an nv), (cG cyI an (S_green nv)), (cV cyI an (S_score nv))] : List va_W).flatten)) (va_Qd (fun (r : UInt64) (_ : Unit) => r = out) (fun _ _ => True) wN0) 0 0 wN0 := by
  refine Met.ofW (cc := cX5_meanPoints) (maxL := 1) (ret := (some .double)) (by decide) rfl ?_
  intro p e s m args below meth c s₁ B hml hv
  obtain ⟨rfl, hP, hK⟩ := hv
  have hx := B.exec
  have hb := B.bytes
  have hr := B.returns
  have hts0 := atoms_spec (ws := (Cond.code yX5_meanPoints cX5_meanPoints 1 (some .double) :: wT)) B.pre
  have hts := fun w h => hts0 w (List.mem_cons_of_mem _ h)
  clear hts0
  have hown : s.vm.findClass RX5 = some m.cls := findClass_of_methodNamed B.named
  have hlocks := B.notSynchronized
  have hS : va_S wN0 s.heap s.heap [] := va_S.rf
  have hl := lv_entry [.ref (x 0)] (n := 1) (Nat.le_of_ble_eq_true rfl)
  rw [lg_entry_eq]
  generalize (lg_sl [.ref (x 0)] ++ List.replicate (1 - (lg_sl [.ref (x 0)]).length) Slot.unset).toArray = ls at hl ⊢
  have hl : lv_has ls 1 [(0, .ref (x 0))] := hl
  unfold f_X5_meanPoints at hF
  refine lv_aload_n hx hb dX5_meanPoints_0 rfl (lv_at hl 0 rfl) ?_
  refine va_get (D := (dC, dI)) (ci := 5) (v := .ref (an 0)) (C := RX5) (T := TX5) (N := 8) hx hb hts inX5 hown hK.1 hP 0 rfl rfl 0 (by decide) (hts _ w_fieldLink_X5_12) (fun _ h9 => h9) rfl dX5_meanPoints_1 ?_
  refine va_get (D := (dC, dI)) (ci := 3) (v := .ref (an 9)) (C := RX3) (T := TX3) (N := 6) hx hb hts inX3 hown hK.1 hP 8 rfl rfl 1 (by decide) (hts _ w_fieldLink_X5_110) (fun _ h9 => h9) rfl dX5_meanPoints_4 ?_
  obtain ⟨o1, h2, hF⟩ := obd hF
  refine wcRVd (As := []) (rest := []) (b := (an 9)) ⟨hx, hb, hml, hown, hts⟩ (met_X1_mean l dC dI cyI cyO an N (S_score nv)  o1 h2) (cwV 0 hts (gV w_methodLink_X5_341 w_instanceMethod_X1_mean w_selects_X1_mean w_initialized_X1 w_code_X1_mean) rfl rfl rfl (by decide +kernel) ⟨Nat.le_of_ble_eq_true rfl, Nat.le_of_ble_eq_true rfl⟩) (va_recv hK.1 hP (ci := 1) (q0 := 17) rfl rfl) hP hK [17, 18, 19, 20] rfl rfl hl.1 (Nat.le_of_ble_eq_true rfl) dX5_meanPoints_7 ⟨Nat.le_of_ble_eq_true rfl, Nat.le_of_ble_eq_true rfl⟩ hS (fun r H locs hw hP hS => ?_)
  have hw := hw.symm
  subst hw
  exact W.dret (v := o1) hx hb hr (fun t ht hW => ⟨⟨_, (), rfl, Option.some.inj hF, trivial⟩, hS.F ht⟩) hS.2.2 dX5_meanPoints_10
