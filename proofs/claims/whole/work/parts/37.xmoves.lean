/-! written by program from the bytecode: what each method computes, and its contract -/

theorem dX5_canMove_0 : decode cX5_canMove 0 = .ok (.iload_n 1, 1) := by decide +kernel
theorem dX5_canMove_1 : decode cX5_canMove 1 = .ok (.lookupswitch 50 #[(98, 40), (99, 45), (106, 35)], 35) := by decide +kernel
theorem dX5_canMove_36 : decode cX5_canMove 36 = .ok (.aload_n 0, 1) := by decide +kernel
theorem dX5_canMove_37 : decode cX5_canMove 37 = .ok (.invokevirtual 56, 3) := by decide +kernel
theorem dX5_canMove_40 : decode cX5_canMove 40 = .ok (.ireturn, 1) := by decide +kernel
theorem dX5_canMove_41 : decode cX5_canMove 41 = .ok (.aload_n 0, 1) := by decide +kernel
theorem dX5_canMove_42 : decode cX5_canMove 42 = .ok (.invokevirtual 81, 3) := by decide +kernel
theorem dX5_canMove_45 : decode cX5_canMove 45 = .ok (.ireturn, 1) := by decide +kernel
theorem dX5_canMove_46 : decode cX5_canMove 46 = .ok (.aload_n 0, 1) := by decide +kernel
theorem dX5_canMove_47 : decode cX5_canMove 47 = .ok (.invokevirtual 100, 3) := by decide +kernel
theorem dX5_canMove_50 : decode cX5_canMove 50 = .ok (.ireturn, 1) := by decide +kernel
theorem dX5_canMove_51 : decode cX5_canMove 51 = .ok (.iconst 1, 1) := by decide +kernel
theorem dX5_canMove_52 : decode cX5_canMove 52 = .ok (.ireturn, 1) := by decide +kernel
def f_X5_canMove (N : Nat) (v : SV) (p2 : Int32) : Option (Int32) :=
  (if p2 = (98 : Int32) then (f_X3_canPlay N v).bind (fun o2 => some o2) else (if p2 = (99 : Int32) then (f_X3_canCount N v).bind (fun o6 => some o6) else (if p2 = (106 : Int32) then (f_X3_canRoll N v).bind (fun o10 => some o10) else some (1 : Int32))))
set_option maxHeartbeats 4000000 in
set_option maxRecDepth 100000 in
theorem met_X5_canMove (l : Launch) (dC : Nat → ClassId) (dI : Nat → Nat → Nat) (cyI cyO cyL : ClassId) (a : Nat → Nat) (N : Nat) (v : SV) (p2 : Int32) (out : Int32) (hF : f_X5_canMove N v p2 = some out) : Met l yX5_canMove (Cond.code yX5_canMove cX5_canMove 2 (some .boolean) :: wT) ({ frames := 5, cells := 0, slots := 0, locals := 102 } : Room) (wRd dC dI cyI cyO cyL [.ref (a 0), .int p2] (cS cyI a v)) (va_Qi (fun (r : Int32) (_ : Unit) => r = out ∧ b01 r) (fun _ _ => True) wN0) 0 0 wN0 := by
  refine Met.ofW (cc := cX5_canMove) (maxL := 2) (ret := (some .boolean)) (by decide) rfl ?_
  intro p e s m args below meth c s₁ B hml hv
  obtain ⟨rfl, hP, hK⟩ := hv
  have hx := B.exec
  have hb := B.bytes
  have hr := B.returns
  have hts0 := atoms_spec (ws := (Cond.code yX5_canMove cX5_canMove 2 (some .boolean) :: wT)) B.pre
  have hts := fun w h => hts0 w (List.mem_cons_of_mem _ h)
  clear hts0
  have hown : s.vm.findClass RX5 = some m.cls := findClass_of_methodNamed B.named
  have hlocks := B.notSynchronized
  have hS : va_S wN0 s.heap s.heap [] := va_S.rf
  have hl := lv_entry [.ref (a 0), .int p2] (n := 2) (Nat.le_of_ble_eq_true rfl)
  rw [lg_entry_eq]
  generalize (lg_sl [.ref (a 0), .int p2] ++ List.replicate (2 - (lg_sl [.ref (a 0), .int p2]).length) Slot.unset).toArray = ls at hl ⊢
  have hl : lv_has ls 2 [(0, .ref (a 0)), (1, .int p2)] := hl
  unfold f_X5_canMove at hF
  refine lv_iload_n hx hb dX5_canMove_0 rfl (lv_at hl 1 rfl) ?_
  by_cases c1 : p2 = (98 : Int32)
  · have hF := itp c1 hF
    refine lv_lookup (off := 40) (tgt := 41) hx hb dX5_canMove_1 (by decide) (by rw [c1]; decide) (by decide) ?_
    refine lv_aload_n hx hb dX5_canMove_41 rfl (lv_at hl 0 rfl) ?_
    obtain ⟨o2, h3, hF⟩ := obd hF
    refine wcRVi (As := []) (rest := []) (b := (a 0)) ⟨hx, hb, hml, hown, hts⟩ (met_X3_canPlay l dC dI cyI cyO cyL a N v  o2 h3) (cwV 0 hts (gV w_methodLink_X5_81 w_instanceMethod_X3_canPlay w_selects_X3_canPlay w_initialized_X3 w_code_X3_canPlay) rfl rfl rfl (by decide +kernel) ⟨Nat.le_of_ble_eq_true rfl, Nat.le_of_ble_eq_true rfl⟩) (va_recv hK.1 hP (ci := 3) (q0 := 0) rfl rfl) hP hK [0, 1, 2, 3, 4, 5, 6, 7, 8, 9, 10, 11, 12] rfl rfl hl.1 (Nat.le_of_ble_eq_true rfl) dX5_canMove_42 ⟨Nat.le_of_ble_eq_true rfl, Nat.le_of_ble_eq_true rfl⟩ hS (fun r H locs hw hP hS => ?_)
    obtain ⟨hw, hz4⟩ := hw
    have hw := hw.symm
    subst hw
    exact W.zret (ty := .boolean) (v := o2) hx hb hr (b01_n hz4) (fun t ht hW => ⟨⟨_, (), rfl, ⟨Option.some.inj hF, hz4⟩, trivial⟩, hS.F ht⟩) hS.2.2 dX5_canMove_45
  · have hF := itn c1 hF
    by_cases c5 : p2 = (99 : Int32)
    · have hF := itp c5 hF
      refine lv_lookup (off := 45) (tgt := 46) hx hb dX5_canMove_1 (by decide) (by rw [c5]; decide) (by decide) ?_
      refine lv_aload_n hx hb dX5_canMove_46 rfl (lv_at hl 0 rfl) ?_
      obtain ⟨o6, h7, hF⟩ := obd hF
      refine wcRVi (As := []) (rest := []) (b := (a 0)) ⟨hx, hb, hml, hown, hts⟩ (met_X3_canCount l dC dI cyI cyO cyL a N v  o6 h7) (cwV 0 hts (gV w_methodLink_X5_100 w_instanceMethod_X3_canCount w_selects_X3_canCount w_initialized_X3 w_code_X3_canCount) rfl rfl rfl (by decide +kernel) ⟨Nat.le_of_ble_eq_true rfl, Nat.le_of_ble_eq_true rfl⟩) (va_recv hK.1 hP (ci := 3) (q0 := 0) rfl rfl) hP hK [0, 1, 2, 3, 4, 5, 6, 7, 8, 9, 10, 11, 12] rfl rfl hl.1 (Nat.le_of_ble_eq_true rfl) dX5_canMove_47 ⟨Nat.le_of_ble_eq_true rfl, Nat.le_of_ble_eq_true rfl⟩ hS (fun r H locs hw hP hS => ?_)
      obtain ⟨hw, hz8⟩ := hw
      have hw := hw.symm
      subst hw
      exact W.zret (ty := .boolean) (v := o6) hx hb hr (b01_n hz8) (fun t ht hW => ⟨⟨_, (), rfl, ⟨Option.some.inj hF, hz8⟩, trivial⟩, hS.F ht⟩) hS.2.2 dX5_canMove_50
    · have hF := itn c5 hF
      by_cases c9 : p2 = (106 : Int32)
      · have hF := itp c9 hF
        refine lv_lookup (off := 35) (tgt := 36) hx hb dX5_canMove_1 (by decide) (by rw [c9]; decide) (by decide) ?_
        refine lv_aload_n hx hb dX5_canMove_36 rfl (lv_at hl 0 rfl) ?_
        obtain ⟨o10, h11, hF⟩ := obd hF
        refine wcRVi (As := []) (rest := []) (b := (a 0)) ⟨hx, hb, hml, hown, hts⟩ (met_X3_canRoll l dC dI cyI cyO cyL a N v  o10 h11) (cwV 0 hts (gV w_methodLink_X5_56 w_instanceMethod_X3_canRoll w_selects_X3_canRoll w_initialized_X3 w_code_X3_canRoll) rfl rfl rfl (by decide +kernel) ⟨Nat.le_of_ble_eq_true rfl, Nat.le_of_ble_eq_true rfl⟩) (va_recv hK.1 hP (ci := 3) (q0 := 0) rfl rfl) hP hK [0, 1, 2, 3, 4, 5, 6, 7, 8, 9, 10, 11, 12] rfl rfl hl.1 (Nat.le_of_ble_eq_true rfl) dX5_canMove_37 ⟨Nat.le_of_ble_eq_true rfl, Nat.le_of_ble_eq_true rfl⟩ hS (fun r H locs hw hP hS => ?_)
        obtain ⟨hw, hz12⟩ := hw
        have hw := hw.symm
        subst hw
        exact W.zret (ty := .boolean) (v := o10) hx hb hr (b01_n hz12) (fun t ht hW => ⟨⟨_, (), rfl, ⟨Option.some.inj hF, hz12⟩, trivial⟩, hS.F ht⟩) hS.2.2 dX5_canMove_40
      · have hF := itn c9 hF
        refine lv_lookup (off := 50) (tgt := 51) hx hb dX5_canMove_1 (by decide) (by refine (lv_osw c1 (by decide)).trans ?_; refine (lv_osw c5 (by decide)).trans ?_; refine (lv_osw c9 (by decide)).trans ?_; rfl) (by decide) ?_
        refine lv_iconst (v := 1) hx hb dX5_canMove_51 (by decide) ?_
        exact W.zret (ty := .boolean) (v := (1 : Int32)) hx hb hr (b01_n b01_1) (fun t ht hW => ⟨⟨_, (), rfl, ⟨Option.some.inj hF, b01_1⟩, trivial⟩, hS.F ht⟩) hS.2.2 dX5_canMove_52
theorem dX5_playMove_0 : decode cX5_playMove 0 = .ok (.aload_n 0, 1) := by decide +kernel
theorem dX5_playMove_1 : decode cX5_playMove 1 = .ok (.getfield 45, 3) := by decide +kernel
theorem dX5_playMove_4 : decode cX5_playMove 4 = .ok (.iload_n 2, 1) := by decide +kernel
theorem dX5_playMove_5 : decode cX5_playMove 5 = .ok (.invokevirtual 172, 3) := by decide +kernel
theorem dX5_playMove_8 : decode cX5_playMove 8 = .ok (.lookupswitch 140 #[(98, 61), (99, 115), (106, 44), (119, 123)], 44) := by decide +kernel
theorem dX5_playMove_52 : decode cX5_playMove 52 = .ok (.aload_n 1, 1) := by decide +kernel
theorem dX5_playMove_53 : decode cX5_playMove 53 = .ok (.aload_n 0, 1) := by decide +kernel
theorem dX5_playMove_54 : decode cX5_playMove 54 = .ok (.getfield 45, 3) := by decide +kernel
theorem dX5_playMove_57 : decode cX5_playMove 57 = .ok (.iload_n 2, 1) := by decide +kernel
theorem dX5_playMove_58 : decode cX5_playMove 58 = .ok (.iconst 1, 1) := by decide +kernel
theorem dX5_playMove_59 : decode cX5_playMove 59 = .ok (.iadd, 1) := by decide +kernel
theorem dX5_playMove_60 : decode cX5_playMove 60 = .ok (.invokevirtual 389, 3) := by decide +kernel
theorem dX5_playMove_63 : decode cX5_playMove 63 = .ok (.invokevirtual 68, 3) := by decide +kernel
theorem dX5_playMove_66 : decode cX5_playMove 66 = .ok (.goto 82, 3) := by decide +kernel
theorem dX5_playMove_69 : decode cX5_playMove 69 = .ok (.aload_n 0, 1) := by decide +kernel
theorem dX5_playMove_70 : decode cX5_playMove 70 = .ok (.getfield 45, 3) := by decide +kernel
theorem dX5_playMove_73 : decode cX5_playMove 73 = .ok (.iload_n 2, 1) := by decide +kernel
theorem dX5_playMove_74 : decode cX5_playMove 74 = .ok (.invokevirtual 392, 3) := by decide +kernel
theorem dX5_playMove_77 : decode cX5_playMove 77 = .ok (.istore_n 3, 1) := by decide +kernel
theorem dX5_playMove_78 : decode cX5_playMove 78 = .ok (.aload_n 0, 1) := by decide +kernel
theorem dX5_playMove_79 : decode cX5_playMove 79 = .ok (.getfield 45, 3) := by decide +kernel
theorem dX5_playMove_82 : decode cX5_playMove 82 = .ok (.iload_n 3, 1) := by decide +kernel
theorem dX5_playMove_83 : decode cX5_playMove 83 = .ok (.invokevirtual 389, 3) := by decide +kernel
theorem dX5_playMove_86 : decode cX5_playMove 86 = .ok (.istore 4, 2) := by decide +kernel
theorem dX5_playMove_88 : decode cX5_playMove 88 = .ok (.aload_n 1, 1) := by decide +kernel
theorem dX5_playMove_89 : decode cX5_playMove 89 = .ok (.aload_n 0, 1) := by decide +kernel
theorem dX5_playMove_90 : decode cX5_playMove 90 = .ok (.getfield 45, 3) := by decide +kernel
theorem dX5_playMove_93 : decode cX5_playMove 93 = .ok (.iload_n 2, 1) := by decide +kernel
theorem dX5_playMove_94 : decode cX5_playMove 94 = .ok (.iconst 1, 1) := by decide +kernel
theorem dX5_playMove_95 : decode cX5_playMove 95 = .ok (.iadd, 1) := by decide +kernel
theorem dX5_playMove_96 : decode cX5_playMove 96 = .ok (.invokevirtual 389, 3) := by decide +kernel
theorem dX5_playMove_99 : decode cX5_playMove 99 = .ok (.iload 4, 2) := by decide +kernel
theorem dX5_playMove_101 : decode cX5_playMove 101 = .ok (.aload_n 0, 1) := by decide +kernel
theorem dX5_playMove_102 : decode cX5_playMove 102 = .ok (.getfield 45, 3) := by decide +kernel
theorem dX5_playMove_105 : decode cX5_playMove 105 = .ok (.aload_n 0, 1) := by decide +kernel
theorem dX5_playMove_106 : decode cX5_playMove 106 = .ok (.getfield 45, 3) := by decide +kernel
theorem dX5_playMove_109 : decode cX5_playMove 109 = .ok (.iload_n 3, 1) := by decide +kernel
theorem dX5_playMove_110 : decode cX5_playMove 110 = .ok (.invokevirtual 392, 3) := by decide +kernel
theorem dX5_playMove_113 : decode cX5_playMove 113 = .ok (.invokevirtual 389, 3) := by decide +kernel
theorem dX5_playMove_116 : decode cX5_playMove 116 = .ok (.invokevirtual 86, 3) := by decide +kernel
theorem dX5_playMove_119 : decode cX5_playMove 119 = .ok (.pop, 1) := by decide +kernel
theorem dX5_playMove_120 : decode cX5_playMove 120 = .ok (.goto 28, 3) := by decide +kernel
theorem dX5_playMove_123 : decode cX5_playMove 123 = .ok (.aload_n 1, 1) := by decide +kernel
theorem dX5_playMove_124 : decode cX5_playMove 124 = .ok (.invokevirtual 105, 3) := by decide +kernel
theorem dX5_playMove_127 : decode cX5_playMove 127 = .ok (.pop, 1) := by decide +kernel
theorem dX5_playMove_128 : decode cX5_playMove 128 = .ok (.goto 20, 3) := by decide +kernel
theorem dX5_playMove_131 : decode cX5_playMove 131 = .ok (.aload_n 1, 1) := by decide +kernel
theorem dX5_playMove_132 : decode cX5_playMove 132 = .ok (.aload_n 0, 1) := by decide +kernel
theorem dX5_playMove_133 : decode cX5_playMove 133 = .ok (.getfield 45, 3) := by decide +kernel
theorem dX5_playMove_136 : decode cX5_playMove 136 = .ok (.iload_n 2, 1) := by decide +kernel
theorem dX5_playMove_137 : decode cX5_playMove 137 = .ok (.iconst 1, 1) := by decide +kernel
theorem dX5_playMove_138 : decode cX5_playMove 138 = .ok (.iadd, 1) := by decide +kernel
theorem dX5_playMove_139 : decode cX5_playMove 139 = .ok (.invokevirtual 389, 3) := by decide +kernel
theorem dX5_playMove_142 : decode cX5_playMove 142 = .ok (.putfield 137, 3) := by decide +kernel
theorem dX5_playMove_145 : decode cX5_playMove 145 = .ok (.goto 3, 3) := by decide +kernel
theorem dX5_playMove_148 : decode cX5_playMove 148 = .ok (.return_, 1) := by decide +kernel
def f_X5_playMove (N : Nat) (xv : XV) (tv : SV) (p2 : Int32) : Option (XV × SV) :=
  (f_X4_codeAt N (X_text xv) p2).bind (fun o1 => jn (fun (s148 : XV × SV) => some (s148.1, s148.2)) (fun (j148 : (XV × SV) → Option (XV × SV)) => (if o1 = (98 : Int32) then (f_X4_pastComma N (X_text xv) p2).bind (fun o4 => (f_X4_numberFrom N (X_text xv) o4).bind (fun o6 => (f_X4_numberFrom N (X_text xv) (p2 + (1 : Int32))).bind (fun o8 => (f_X4_pastComma N (X_text xv) o4).bind (fun o10 => (f_X4_numberFrom N (X_text xv) o10).bind (fun o12 => (f_X3_playBowl N tv o8 o6 o12).bind (fun o14 => j148 (xv, o14.2))))))) else (if o1 = (99 : Int32) then (f_X3_countEnd N tv).bind (fun o17 => j148 (xv, o17.2)) else (if o1 = (106 : Int32) then (f_X4_numberFrom N (X_text xv) (p2 + (1 : Int32))).bind (fun o20 => (f_X3_rollJack N tv o20).bind (fun o22 => j148 (xv, o22))) else (if o1 = (119 : Int32) then (f_X4_numberFrom N (X_text xv) (p2 + (1 : Int32))).bind (fun o25 => j148 (xv, (S_set_blowing tv o25))) else j148 (xv, tv)))))))
set_option maxHeartbeats 4000000 in
set_option maxRecDepth 100000 in
theorem met_X5_playMove (l : Launch) (dC : Nat → ClassId) (dI : Nat → Nat → Nat) (cyI cyO cyL : ClassId) (x : Nat → Nat) (an : Nat → Nat) (tr : Nat → Nat) (fl fs : Nat → Option Nat) (sz : Nat) (N : Nat) (xv : XV) (tv : SV) (p2 : Int32) (out : XV × SV) (hF : f_X5_playMove N xv tv p2 = some out) : Met l yX5_playMove (Cond.code yX5_playMove cX5_playMove 5 none :: wT) ({ frames := 5, cells := 0, slots := 0, locals := 112 } : Room) (wWr dC dI cyI cyO cyL [.ref (x 0), .ref (tr 0), .int p2] (([(cXo x an tr xv), (cH cyO (x 1) (x 2) 2 fl), (cXk cyI x xv), (cH cyO (x 4) (x 5) 6 fs), (cT cyI x (X_text xv)), (cSo tr tv), (cG cyI tr (S_green tv)), (cV cyI tr (S_score tv))] : List va_W).flatten) sz) (va_Qv (fun (u : XV × SV) => u = out) (fun u t => va_P (dC, dI) vwCl (([(cXo x an tr u.1), (cH cyO (x 1) (x 2) 2 fl), (cXk cyI x u.1), (cH cyO (x 4) (x 5) 6 fs), (cT cyI x (X_text u.1)), (cSo tr u.2), (cG cyI tr (S_green u.2)), (cV cyI tr (S_score u.2))] : List va_W).flatten) t.heap ∧ va_D (va_A (([(cXo x an tr xv), (cH cyO (x 1) (x 2) 2 fl), (cXk cyI x xv), (cH cyO (x 4) (x 5) 6 fs), (cT cyI x (X_text xv)), (cSo tr tv), (cG cyI tr (S_green tv)), (cV cyI tr (S_score tv))] : List va_W).flatten) sz) (([(cXo x an tr u.1), (cH cyO (x 1) (x 2) 2 fl), (cXk cyI x u.1), (cH cyO (x 4) (x 5) 6 fs), (cT cyI x (X_text u.1)), (cSo tr u.2), (cG cyI tr (S_green u.2)), (cV cyI tr (S_score u.2))] : List va_W).flatten)) (va_A (([(cXo x an tr xv), (cH cyO (x 1) (x 2) 2 fl), (cXk cyI x xv), (cH cyO (x 4) (x 5) 6 fs), (cT cyI x (X_text xv)), (cSo tr tv), (cG cyI tr (S_green tv)), (cV cyI tr (S_score tv))] : List va_W).flatten) sz)) 0 0 (va_A (([(cXo x an tr xv), (cH cyO (x 1) (x 2) 2 fl), (cXk cyI x xv), (cH cyO (x 4) (x 5) 6 fs), (cT cyI x (X_text xv)), (cSo tr tv), (cG cyI tr (S_green tv)), (cV cyI tr (S_score tv))] : List va_W).flatten) sz) := by
  refine Met.ofW (cc := cX5_playMove) (maxL := 5) (ret := none) (by decide) rfl ?_
  intro p e s m args below meth c s₁ B hml hv
  obtain ⟨rfl, hsz, hP, hK, hD0⟩ := hv
  have hx := B.exec
  have hb := B.bytes
  have hr := B.returns
  have hts0 := atoms_spec (ws := (Cond.code yX5_playMove cX5_playMove 5 none :: wT)) B.pre
  have hts := fun w h => hts0 w (List.mem_cons_of_mem _ h)
  clear hts0
  have hown : s.vm.findClass RX5 = some m.cls := findClass_of_methodNamed B.named
  have hlocks := B.notSynchronized
  subst hsz
  have hD := hD0.self (sz := s.heap.size)
  generalize hAe : va_A (([(cXo x an tr xv), (cH cyO (x 1) (x 2) 2 fl), (cXk cyI x xv), (cH cyO (x 4) (x 5) 6 fs), (cT cyI x (X_text xv)), (cSo tr tv), (cG cyI tr (S_green tv)), (cV cyI tr (S_score tv))] : List va_W).flatten) s.heap.size = A at hD ⊢
  have hA : ∀ q : Nat, s.heap.size ≤ q → A q := fun q h => by rw [← hAe]; exact Or.inr h
  clear hD0
  have hS : va_S A s.heap s.heap [] := va_S.rf
  have hl := lv_entry [.ref (x 0), .ref (tr 0), .int p2] (n := 5) (Nat.le_of_ble_eq_true rfl)
  rw [lg_entry_eq]
  generalize (lg_sl [.ref (x 0), .ref (tr 0), .int p2] ++ List.replicate (5 - (lg_sl [.ref (x 0), .ref (tr 0), .int p2]).length) Slot.unset).toArray = ls at hl ⊢
  have hl : lv_has ls 5 [(0, .ref (x 0)), (1, .ref (tr 0)), (2, .int p2)] := hl
  unfold f_X5_playMove at hF
  refine lv_aload_n hx hb dX5_playMove_0 rfl (lv_at hl 0 rfl) ?_
  refine va_get (D := (dC, dI)) (ci := 5) (v := .ref (x 6)) (C := RX5) (T := TX5) (N := 8) hx hb hts inX5 hown hK.1 hP 0 rfl rfl 7 (by decide) (hts _ w_fieldLink_X5_45) (fun _ h9 => h9) rfl dX5_playMove_1 ?_
  refine lv_iload_n hx hb dX5_playMove_4 rfl (lv_at hl 2 rfl) ?_
  obtain ⟨o1, h2, hF⟩ := obd hF
  refine wcRVi (As := [.int p2]) (rest := []) (b := (x 6)) ⟨hx, hb, hml, hown, hts⟩ (met_X4_codeAt l dC dI cyI cyO cyL x N (X_text xv) p2 o1 h2) (cwV 1 hts (gV w_methodLink_X5_172 w_instanceMethod_X4_codeAt w_selects_X4_codeAt w_initialized_X4 w_code_X4_codeAt) rfl rfl rfl (by decide +kernel) ⟨Nat.le_of_ble_eq_true rfl, Nat.le_of_ble_eq_true rfl⟩) (va_recv hK.1 hP (ci := 4) (q0 := 6) rfl rfl) hP hK [6, 7] rfl rfl hl.1 (Nat.le_of_ble_eq_true rfl) dX5_playMove_5 ⟨Nat.le_of_ble_eq_true rfl, Nat.le_of_ble_eq_true rfl⟩ hS (fun r H locs hw hP hS => ?_)
  have hw := hw.symm
  subst hw
  obtain ⟨j148, hj148, hF⟩ := jn_use hF
  have hJ148 : ∀ (s148 : XV × SV) (H : Heap) (locs : List Loc) (ls : Array Slot), va_P (dC, dI) vwCl (([(cXo x an tr s148.1), (cH cyO (x 1) (x 2) 2 fl), (cXk cyI x s148.1), (cH cyO (x 4) (x 5) 6 fs), (cT cyI x (X_text s148.1)), (cSo tr s148.2), (cG cyI tr (S_green s148.2)), (cV cyI tr (S_score s148.2))] : List va_W).flatten) H → va_D A (([(cXo x an tr s148.1), (cH cyO (x 1) (x 2) 2 fl), (cXk cyI x s148.1), (cH cyO (x 4) (x 5) 6 fs), (cT cyI x (X_text s148.1)), (cSo tr s148.2), (cG cyI tr (S_green s148.2)), (cV cyI tr (S_score s148.2))] : List va_W).flatten) → va_S A s.heap H locs → lv_has ls 5 [] → j148 s148 = some out → W p l e (headSpec (Cond.code yX5_playMove cX5_playMove 5 none :: wT) ({ frames := 5, cells := 0, slots := 0, locals := 112 } : Room)).room s m ([.ref (x 0), .ref (tr 0), .int p2] : List Value).toArray below meth c H locs 0 0 (MQ below (va_Qv (fun (u : XV × SV) => u = out) (fun u t => va_P (dC, dI) vwCl (([(cXo x an tr u.1), (cH cyO (x 1) (x 2) 2 fl), (cXk cyI x u.1), (cH cyO (x 4) (x 5) 6 fs), (cT cyI x (X_text u.1)), (cSo tr u.2), (cG cyI tr (S_green u.2)), (cV cyI tr (S_score u.2))] : List va_W).flatten) t.heap ∧ va_D A (([(cXo x an tr u.1), (cH cyO (x 1) (x 2) 2 fl), (cXk cyI x u.1), (cH cyO (x 4) (x 5) 6 fs), (cT cyI x (X_text u.1)), (cSo tr u.2), (cG cyI tr (S_green u.2)), (cV cyI tr (S_score u.2))] : List va_W).flatten)) A) ([.ref (x 0), .ref (tr 0), .int p2] : List Value).toArray s 0 0 A) (F0 m 148 ls []) := by
    intro s148 H locs ls hP hD hS hl hF
    have hF := (congrFun hj148 s148).symm.trans hF
    exact W.vret hx hb hr (fun t ht hW => ⟨⟨_, rfl, Option.some.inj hF, by rw [ht]; exact hP, hD⟩, hS.F ht⟩) hS.2.2 dX5_playMove_148
  by_cases c3 : o1 = (98 : Int32)
  · have hF := itp c3 hF
    refine lv_lookup (off := 61) (tgt := 69) hx hb dX5_playMove_8 (by decide) (by rw [c3]; decide) (by decide) ?_
    refine lv_aload_n hx hb dX5_playMove_69 rfl (lv_at hl 0 rfl) ?_
    refine va_get (D := (dC, dI)) (ci := 5) (v := .ref (x 6)) (C := RX5) (T := TX5) (N := 8) hx hb hts inX5 hown hK.1 hP 0 rfl rfl 7 (by decide) (hts _ w_fieldLink_X5_45) (fun _ h9 => h9) rfl dX5_playMove_70 ?_
    refine lv_iload_n hx hb dX5_playMove_73 rfl (lv_at hl 2 rfl) ?_
    obtain ⟨o4, h5, hF⟩ := obd hF
    refine wcRVi (As := [.int p2]) (rest := []) (b := (x 6)) ⟨hx, hb, hml, hown, hts⟩ (met_X4_pastComma l dC dI cyI cyO cyL x N (X_text xv) p2 o4 h5) (cwV 1 hts (gV w_methodLink_X5_392 w_instanceMethod_X4_pastComma w_selects_X4_pastComma w_initialized_X4 w_code_X4_pastComma) rfl rfl rfl (by decide +kernel) ⟨Nat.le_of_ble_eq_true rfl, Nat.le_of_ble_eq_true rfl⟩) (va_recv hK.1 hP (ci := 4) (q0 := 6) rfl rfl) hP hK [6, 7] rfl rfl hl.1 (Nat.le_of_ble_eq_true rfl) dX5_playMove_74 ⟨Nat.le_of_ble_eq_true rfl, Nat.le_of_ble_eq_true rfl⟩ hS (fun r H locs hw hP hS => ?_)
    have hw := hw.symm
    subst hw
    refine lv_istore_n (lv' := [(3, .int o4), (0, .ref (x 0)), (1, .ref (tr 0)), (2, .int p2)]) hx hb dX5_playMove_77 rfl hl (by decide) rfl (fun ls hl => ?_)
    refine lv_aload_n hx hb dX5_playMove_78 rfl (lv_at hl 1 rfl) ?_
    refine va_get (D := (dC, dI)) (ci := 5) (v := .ref (x 6)) (C := RX5) (T := TX5) (N := 8) hx hb hts inX5 hown hK.1 hP 0 rfl rfl 7 (by decide) (hts _ w_fieldLink_X5_45) (fun _ h9 => h9) rfl dX5_playMove_79 ?_
    refine lv_iload_n hx hb dX5_playMove_82 rfl (lv_at hl 0 rfl) ?_
    obtain ⟨o6, h7, hF⟩ := obd hF
    refine wcRVi (As := [.int o4]) (rest := []) (b := (x 6)) ⟨hx, hb, hml, hown, hts⟩ (met_X4_numberFrom l dC dI cyI cyO cyL x N (X_text xv) o4 o6 h7) (cwV 1 hts (gV w_methodLink_X5_389 w_instanceMethod_X4_numberFrom w_selects_X4_numberFrom w_initialized_X4 w_code_X4_numberFrom) rfl rfl rfl (by decide +kernel) ⟨Nat.le_of_ble_eq_true rfl, Nat.le_of_ble_eq_true rfl⟩) (va_recv hK.1 hP (ci := 4) (q0 := 6) rfl rfl) hP hK [6, 7] rfl rfl hl.1 (Nat.le_of_ble_eq_true rfl) dX5_playMove_83 ⟨Nat.le_of_ble_eq_true rfl, Nat.le_of_ble_eq_true rfl⟩ hS (fun r H locs hw hP hS => ?_)
    have hw := hw.symm
    subst hw
    refine lv_istore (lv' := [(4, .int o6), (3, .int o4), (0, .ref (x 0)), (1, .ref (tr 0)), (2, .int p2)]) hx hb dX5_playMove_86 hl (by decide) rfl (fun ls hl => ?_)
    refine lv_aload_n hx hb dX5_playMove_88 rfl (lv_at hl 3 rfl) ?_
    refine lv_aload_n hx hb dX5_playMove_89 rfl (lv_at hl 2 rfl) ?_
    refine va_get (D := (dC, dI)) (ci := 5) (v := .ref (x 6)) (C := RX5) (T := TX5) (N := 8) hx hb hts inX5 hown hK.1 hP 0 rfl rfl 7 (by decide) (hts _ w_fieldLink_X5_45) (fun _ h9 => h9) rfl dX5_playMove_90 ?_
    refine lv_iload_n hx hb dX5_playMove_93 rfl (lv_at hl 4 rfl) ?_
    refine lv_iconst (v := 1) hx hb dX5_playMove_94 (by decide) ?_
    refine lv_iadd hx hb dX5_playMove_95 ?_
    obtain ⟨o8, h9, hF⟩ := obd hF
    refine wcRVi (As := [.int (p2 + (1 : Int32))]) (rest := [.ref (tr 0)]) (b := (x 6)) ⟨hx, hb, hml, hown, hts⟩ (met_X4_numberFrom l dC dI cyI cyO cyL x N (X_text xv) (p2 + (1 : Int32)) o8 h9) (cwV 1 hts (gV w_methodLink_X5_389 w_instanceMethod_X4_numberFrom w_selects_X4_numberFrom w_initialized_X4 w_code_X4_numberFrom) rfl rfl rfl (by decide +kernel) ⟨Nat.le_of_ble_eq_true rfl, Nat.le_of_ble_eq_true rfl⟩) (va_recv hK.1 hP (ci := 4) (q0 := 6) rfl rfl) hP hK [6, 7] rfl rfl hl.1 (Nat.le_of_ble_eq_true rfl) dX5_playMove_96 ⟨Nat.le_of_ble_eq_true rfl, Nat.le_of_ble_eq_true rfl⟩ hS (fun r H locs hw hP hS => ?_)
    have hw := hw.symm
    subst hw
    refine lv_iload hx hb dX5_playMove_99 (lv_at hl 0 rfl) ?_
    refine lv_aload_n hx hb dX5_playMove_101 rfl (lv_at hl 2 rfl) ?_
    refine va_get (D := (dC, dI)) (ci := 5) (v := .ref (x 6)) (C := RX5) (T := TX5) (N := 8) hx hb hts inX5 hown hK.1 hP 0 rfl rfl 7 (by decide) (hts _ w_fieldLink_X5_45) (fun _ h9 => h9) rfl dX5_playMove_102 ?_
    refine lv_aload_n hx hb dX5_playMove_105 rfl (lv_at hl 2 rfl) ?_
    refine va_get (D := (dC, dI)) (ci := 5) (v := .ref (x 6)) (C := RX5) (T := TX5) (N := 8) hx hb hts inX5 hown hK.1 hP 0 rfl rfl 7 (by decide) (hts _ w_fieldLink_X5_45) (fun _ h9 => h9) rfl dX5_playMove_106 ?_
    refine lv_iload_n hx hb dX5_playMove_109 rfl (lv_at hl 1 rfl) ?_
    obtain ⟨o10, h11, hF⟩ := obd hF
    refine wcRVi (As := [.int o4]) (rest := [.ref (x 6), .int o6, .int o8, .ref (tr 0)]) (b := (x 6)) ⟨hx, hb, hml, hown, hts⟩ (met_X4_pastComma l dC dI cyI cyO cyL x N (X_text xv) o4 o10 h11) (cwV 1 hts (gV w_methodLink_X5_392 w_instanceMethod_X4_pastComma w_selects_X4_pastComma w_initialized_X4 w_code_X4_pastComma) rfl rfl rfl (by decide +kernel) ⟨Nat.le_of_ble_eq_true rfl, Nat.le_of_ble_eq_true rfl⟩) (va_recv hK.1 hP (ci := 4) (q0 := 6) rfl rfl) hP hK [6, 7] rfl rfl hl.1 (Nat.le_of_ble_eq_true rfl) dX5_playMove_110 ⟨Nat.le_of_ble_eq_true rfl, Nat.le_of_ble_eq_true rfl⟩ hS (fun r H locs hw hP hS => ?_)
    have hw := hw.symm
    subst hw
    obtain ⟨o12, h13, hF⟩ := obd hF
    refine wcRVi (As := [.int o10]) (rest := [.int o6, .int o8, .ref (tr 0)]) (b := (x 6)) ⟨hx, hb, hml, hown, hts⟩ (met_X4_numberFrom l dC dI cyI cyO cyL x N (X_text xv) o10 o12 h13) (cwV 1 hts (gV w_methodLink_X5_389 w_instanceMethod_X4_numberFrom w_selects_X4_numberFrom w_initialized_X4 w_code_X4_numberFrom) rfl rfl rfl (by decide +kernel) ⟨Nat.le_of_ble_eq_true rfl, Nat.le_of_ble_eq_true rfl⟩) (va_recv hK.1 hP (ci := 4) (q0 := 6) rfl rfl) hP hK [6, 7] rfl rfl hl.1 (Nat.le_of_ble_eq_true rfl) dX5_playMove_113 ⟨Nat.le_of_ble_eq_true rfl, Nat.le_of_ble_eq_true rfl⟩ hS (fun r H locs hw hP hS => ?_)
    have hw := hw.symm
    subst hw
    obtain ⟨o14, h15, hF⟩ := obd hF
    refine wcPVi (As := [.int o8, .int o6, .int o12]) (rest := []) (wr := ([(cXo x an tr xv), (cH cyO (x 1) (x 2) 2 fl), (cXk cyI x xv), (cH cyO (x 4) (x 5) 6 fs), (cT cyI x (X_text xv))] : List va_W).flatten) (b := (tr 0)) ⟨hx, hb, hml, hown, hts⟩ (met_X3_playBowl l dC dI cyI cyO cyL tr _ N tv o8 o6 o12 o14 h15) (cwV 3 hts (gV w_methodLink_X5_86 w_instanceMethod_X3_playBowl w_selects_X3_playBowl w_initialized_X3 w_code_X3_playBowl) rfl rfl rfl (by decide +kernel) ⟨Nat.le_of_ble_eq_true rfl, Nat.le_of_ble_eq_true rfl⟩) (va_recv hK.1 hP (ci := 3) (q0 := 8) rfl rfl) hP hD hK (seg_perm (n := 8) (R := [(cXo x an tr xv), (cH cyO (x 1) (x 2) 2 fl), (cXk cyI x xv), (cH cyO (x 4) (x 5) 6 fs), (cT cyI x (X_text xv))]) (C := [(cSo tr tv), (cG cyI tr (S_green tv)), (cV cyI tr (S_score tv))]) [0, 1, 2, 3, 4] [5, 6, 7] rfl rfl rfl (by decide) rfl) rfl hl.1 (Nat.le_of_ble_eq_true rfl) dX5_playMove_116 ⟨Nat.le_of_ble_eq_true rfl, Nat.le_of_ble_eq_true rfl⟩ hS hA (fun r u H locs hw hP hD hS => ?_)
    obtain rfl : r = o14.1 := congrArg Prod.fst hw
    obtain rfl : u = o14.2 := congrArg Prod.snd hw
    clear hw
    have hq := seg_permS (segs := [(cXo x an tr xv), (cH cyO (x 1) (x 2) 2 fl), (cXk cyI x xv), (cH cyO (x 4) (x 5) 6 fs), (cT cyI x (X_text xv)), (cSo tr o14.2), (cG cyI tr (S_green o14.2)), (cV cyI tr (S_score o14.2))]) (R := [(cXo x an tr xv), (cH cyO (x 1) (x 2) 2 fl), (cXk cyI x xv), (cH cyO (x 4) (x 5) 6 fs), (cT cyI x (X_text xv))]) (C := [(cSo tr o14.2), (cG cyI tr (S_green o14.2)), (cV cyI tr (S_score o14.2))]) (n := 8) [0, 1, 2, 3, 4] [5, 6, 7] rfl rfl rfl (by decide)
    have hP : va_P (dC, dI) vwCl (([(cXo x an tr xv), (cH cyO (x 1) (x 2) 2 fl), (cXk cyI x xv), (cH cyO (x 4) (x 5) 6 fs), (cT cyI x (X_text xv)), (cSo tr o14.2), (cG cyI tr (S_green o14.2)), (cV cyI tr (S_score o14.2))] : List va_W).flatten) H := hP.perm hq
    have hD : va_D A (([(cXo x an tr xv), (cH cyO (x 1) (x 2) 2 fl), (cXk cyI x xv), (cH cyO (x 4) (x 5) 6 fs), (cT cyI x (X_text xv)), (cSo tr o14.2), (cG cyI tr (S_green o14.2)), (cV cyI tr (S_score o14.2))] : List va_W).flatten) := hD.perm hq
    clear hq
    refine lv_pop hx hb dX5_playMove_119 rfl ?_
    refine lv_goto (tgt := 148) hx hb dX5_playMove_120 (by decide) ?_
    exact hJ148 (xv, o14.2) _ _ _ hP hD hS (lv_sub hl [] rfl) hF
  · have hF := itn c3 hF
    by_cases c16 : o1 = (99 : Int32)
    · have hF := itp c16 hF
      refine lv_lookup (off := 115) (tgt := 123) hx hb dX5_playMove_8 (by decide) (by rw [c16]; decide) (by decide) ?_
      refine lv_aload_n hx hb dX5_playMove_123 rfl (lv_at hl 1 rfl) ?_
      obtain ⟨o17, h18, hF⟩ := obd hF
      refine wcPVi (As := []) (rest := []) (wr := ([(cXo x an tr xv), (cH cyO (x 1) (x 2) 2 fl), (cXk cyI x xv), (cH cyO (x 4) (x 5) 6 fs), (cT cyI x (X_text xv))] : List va_W).flatten) (b := (tr 0)) ⟨hx, hb, hml, hown, hts⟩ (met_X3_countEnd l dC dI cyI cyO cyL tr _ N tv  o17 h18) (cwV 0 hts (gV w_methodLink_X5_105 w_instanceMethod_X3_countEnd w_selects_X3_countEnd w_initialized_X3 w_code_X3_countEnd) rfl rfl rfl (by decide +kernel) ⟨Nat.le_of_ble_eq_true rfl, Nat.le_of_ble_eq_true rfl⟩) (va_recv hK.1 hP (ci := 3) (q0 := 8) rfl rfl) hP hD hK (seg_perm (n := 8) (R := [(cXo x an tr xv), (cH cyO (x 1) (x 2) 2 fl), (cXk cyI x xv), (cH cyO (x 4) (x 5) 6 fs), (cT cyI x (X_text xv))]) (C := [(cSo tr tv), (cG cyI tr (S_green tv)), (cV cyI tr (S_score tv))]) [0, 1, 2, 3, 4] [5, 6, 7] rfl rfl rfl (by decide) rfl) rfl hl.1 (Nat.le_of_ble_eq_true rfl) dX5_playMove_124 ⟨Nat.le_of_ble_eq_true rfl, Nat.le_of_ble_eq_true rfl⟩ hS hA (fun r u H locs hw hP hD hS => ?_)
      obtain rfl : r = o17.1 := congrArg Prod.fst hw
      obtain rfl : u = o17.2 := congrArg Prod.snd hw
      clear hw
      have hq := seg_permS (segs := [(cXo x an tr xv), (cH cyO (x 1) (x 2) 2 fl), (cXk cyI x xv), (cH cyO (x 4) (x 5) 6 fs), (cT cyI x (X_text xv)), (cSo tr o17.2), (cG cyI tr (S_green o17.2)), (cV cyI tr (S_score o17.2))]) (R := [(cXo x an tr xv), (cH cyO (x 1) (x 2) 2 fl), (cXk cyI x xv), (cH cyO (x 4) (x 5) 6 fs), (cT cyI x (X_text xv))]) (C := [(cSo tr o17.2), (cG cyI tr (S_green o17.2)), (cV cyI tr (S_score o17.2))]) (n := 8) [0, 1, 2, 3, 4] [5, 6, 7] rfl rfl rfl (by decide)
      have hP : va_P (dC, dI) vwCl (([(cXo x an tr xv), (cH cyO (x 1) (x 2) 2 fl), (cXk cyI x xv), (cH cyO (x 4) (x 5) 6 fs), (cT cyI x (X_text xv)), (cSo tr o17.2), (cG cyI tr (S_green o17.2)), (cV cyI tr (S_score o17.2))] : List va_W).flatten) H := hP.perm hq
      have hD : va_D A (([(cXo x an tr xv), (cH cyO (x 1) (x 2) 2 fl), (cXk cyI x xv), (cH cyO (x 4) (x 5) 6 fs), (cT cyI x (X_text xv)), (cSo tr o17.2), (cG cyI tr (S_green o17.2)), (cV cyI tr (S_score o17.2))] : List va_W).flatten) := hD.perm hq
      clear hq
      refine lv_pop hx hb dX5_playMove_127 rfl ?_
      refine lv_goto (tgt := 148) hx hb dX5_playMove_128 (by decide) ?_
      exact hJ148 (xv, o17.2) _ _ _ hP hD hS (lv_sub hl [] rfl) hF
    · have hF := itn c16 hF
      by_cases c19 : o1 = (106 : Int32)
      · have hF := itp c19 hF
        refine lv_lookup (off := 44) (tgt := 52) hx hb dX5_playMove_8 (by decide) (by rw [c19]; decide) (by decide) ?_
        refine lv_aload_n hx hb dX5_playMove_52 rfl (lv_at hl 1 rfl) ?_
        refine lv_aload_n hx hb dX5_playMove_53 rfl (lv_at hl 0 rfl) ?_
        refine va_get (D := (dC, dI)) (ci := 5) (v := .ref (x 6)) (C := RX5) (T := TX5) (N := 8) hx hb hts inX5 hown hK.1 hP 0 rfl rfl 7 (by decide) (hts _ w_fieldLink_X5_45) (fun _ h9 => h9) rfl dX5_playMove_54 ?_
        refine lv_iload_n hx hb dX5_playMove_57 rfl (lv_at hl 2 rfl) ?_
        refine lv_iconst (v := 1) hx hb dX5_playMove_58 (by decide) ?_
        refine lv_iadd hx hb dX5_playMove_59 ?_
        obtain ⟨o20, h21, hF⟩ := obd hF
        refine wcRVi (As := [.int (p2 + (1 : Int32))]) (rest := [.ref (tr 0)]) (b := (x 6)) ⟨hx, hb, hml, hown, hts⟩ (met_X4_numberFrom l dC dI cyI cyO cyL x N (X_text xv) (p2 + (1 : Int32)) o20 h21) (cwV 1 hts (gV w_methodLink_X5_389 w_instanceMethod_X4_numberFrom w_selects_X4_numberFrom w_initialized_X4 w_code_X4_numberFrom) rfl rfl rfl (by decide +kernel) ⟨Nat.le_of_ble_eq_true rfl, Nat.le_of_ble_eq_true rfl⟩) (va_recv hK.1 hP (ci := 4) (q0 := 6) rfl rfl) hP hK [6, 7] rfl rfl hl.1 (Nat.le_of_ble_eq_true rfl) dX5_playMove_60 ⟨Nat.le_of_ble_eq_true rfl, Nat.le_of_ble_eq_true rfl⟩ hS (fun r H locs hw hP hS => ?_)
        have hw := hw.symm
        subst hw
        obtain ⟨o22, h23, hF⟩ := obd hF
        refine wcPVv (As := [.int o20]) (rest := []) (wr := ([(cXo x an tr xv), (cH cyO (x 1) (x 2) 2 fl), (cXk cyI x xv), (cH cyO (x 4) (x 5) 6 fs), (cT cyI x (X_text xv))] : List va_W).flatten) (b := (tr 0)) ⟨hx, hb, hml, hown, hts⟩ (met_X3_rollJack l dC dI cyI cyO cyL tr _ N tv o20 o22 h23) (cwV 1 hts (gV w_methodLink_X5_68 w_instanceMethod_X3_rollJack w_selects_X3_rollJack w_initialized_X3 w_code_X3_rollJack) rfl rfl rfl (by decide +kernel) ⟨Nat.le_of_ble_eq_true rfl, Nat.le_of_ble_eq_true rfl⟩) (va_recv hK.1 hP (ci := 3) (q0 := 8) rfl rfl) hP hD hK (seg_perm (n := 8) (R := [(cXo x an tr xv), (cH cyO (x 1) (x 2) 2 fl), (cXk cyI x xv), (cH cyO (x 4) (x 5) 6 fs), (cT cyI x (X_text xv))]) (C := [(cSo tr tv), (cG cyI tr (S_green tv)), (cV cyI tr (S_score tv))]) [0, 1, 2, 3, 4] [5, 6, 7] rfl rfl rfl (by decide) rfl) rfl hl.1 (Nat.le_of_ble_eq_true rfl) dX5_playMove_63 ⟨Nat.le_of_ble_eq_true rfl, Nat.le_of_ble_eq_true rfl⟩ hS hA (fun u H locs hw hP hD hS => ?_)
        have hw := hw.symm
        subst hw
        have hq := seg_permS (segs := [(cXo x an tr xv), (cH cyO (x 1) (x 2) 2 fl), (cXk cyI x xv), (cH cyO (x 4) (x 5) 6 fs), (cT cyI x (X_text xv)), (cSo tr o22), (cG cyI tr (S_green o22)), (cV cyI tr (S_score o22))]) (R := [(cXo x an tr xv), (cH cyO (x 1) (x 2) 2 fl), (cXk cyI x xv), (cH cyO (x 4) (x 5) 6 fs), (cT cyI x (X_text xv))]) (C := [(cSo tr o22), (cG cyI tr (S_green o22)), (cV cyI tr (S_score o22))]) (n := 8) [0, 1, 2, 3, 4] [5, 6, 7] rfl rfl rfl (by decide)
        have hP : va_P (dC, dI) vwCl (([(cXo x an tr xv), (cH cyO (x 1) (x 2) 2 fl), (cXk cyI x xv), (cH cyO (x 4) (x 5) 6 fs), (cT cyI x (X_text xv)), (cSo tr o22), (cG cyI tr (S_green o22)), (cV cyI tr (S_score o22))] : List va_W).flatten) H := hP.perm hq
        have hD : va_D A (([(cXo x an tr xv), (cH cyO (x 1) (x 2) 2 fl), (cXk cyI x xv), (cH cyO (x 4) (x 5) 6 fs), (cT cyI x (X_text xv)), (cSo tr o22), (cG cyI tr (S_green o22)), (cV cyI tr (S_score o22))] : List va_W).flatten) := hD.perm hq
        clear hq
        refine lv_goto (tgt := 148) hx hb dX5_playMove_66 (by decide) ?_
        exact hJ148 (xv, o22) _ _ _ hP hD hS (lv_sub hl [] rfl) hF
      · have hF := itn c19 hF
        by_cases c24 : o1 = (119 : Int32)
        · have hF := itp c24 hF
          refine lv_lookup (off := 123) (tgt := 131) hx hb dX5_playMove_8 (by decide) (by rw [c24]; decide) (by decide) ?_
          refine lv_aload_n hx hb dX5_playMove_131 rfl (lv_at hl 1 rfl) ?_
          refine lv_aload_n hx hb dX5_playMove_132 rfl (lv_at hl 0 rfl) ?_
          refine va_get (D := (dC, dI)) (ci := 5) (v := .ref (x 6)) (C := RX5) (T := TX5) (N := 8) hx hb hts inX5 hown hK.1 hP 0 rfl rfl 7 (by decide) (hts _ w_fieldLink_X5_45) (fun _ h9 => h9) rfl dX5_playMove_133 ?_
          refine lv_iload_n hx hb dX5_playMove_136 rfl (lv_at hl 2 rfl) ?_
          refine lv_iconst (v := 1) hx hb dX5_playMove_137 (by decide) ?_
          refine lv_iadd hx hb dX5_playMove_138 ?_
          obtain ⟨o25, h26, hF⟩ := obd hF
          refine wcRVi (As := [.int (p2 + (1 : Int32))]) (rest := [.ref (tr 0)]) (b := (x 6)) ⟨hx, hb, hml, hown, hts⟩ (met_X4_numberFrom l dC dI cyI cyO cyL x N (X_text xv) (p2 + (1 : Int32)) o25 h26) (cwV 1 hts (gV w_methodLink_X5_389 w_instanceMethod_X4_numberFrom w_selects_X4_numberFrom w_initialized_X4 w_code_X4_numberFrom) rfl rfl rfl (by decide +kernel) ⟨Nat.le_of_ble_eq_true rfl, Nat.le_of_ble_eq_true rfl⟩) (va_recv hK.1 hP (ci := 4) (q0 := 6) rfl rfl) hP hK [6, 7] rfl rfl hl.1 (Nat.le_of_ble_eq_true rfl) dX5_playMove_139 ⟨Nat.le_of_ble_eq_true rfl, Nat.le_of_ble_eq_true rfl⟩ hS (fun r H locs hw hP hS => ?_)
          have hw := hw.symm
          subst hw
          refine va_put (D := (dC, dI)) (ci := 3) (v := .int o25) (ty := .int) (C := RX3) (T := TX3) (N := 6) hx hb hts inX3 tyX3 tyX3_ok nmX3 hown hK.1 hP hD hS 8 rfl rfl 3 (by decide) (hts _ w_fieldLink_X5_137) (fun _ h9 => h9) rfl (by decide +kernel) rfl rfl (Nat.le_of_ble_eq_true rfl) dX5_playMove_142 (fun H locs hP hD hS => ?_)
          have hP : va_P (dC, dI) vwCl (([(cXo x an tr xv), (cH cyO (x 1) (x 2) 2 fl), (cXk cyI x xv), (cH cyO (x 4) (x 5) 6 fs), (cT cyI x (X_text xv)), (cSo tr (S_set_blowing tv o25)), (cG cyI tr (S_green (S_set_blowing tv o25))), (cV cyI tr (S_score (S_set_blowing tv o25)))] : List va_W).flatten) H := hP
          have hD : va_D A (([(cXo x an tr xv), (cH cyO (x 1) (x 2) 2 fl), (cXk cyI x xv), (cH cyO (x 4) (x 5) 6 fs), (cT cyI x (X_text xv)), (cSo tr (S_set_blowing tv o25)), (cG cyI tr (S_green (S_set_blowing tv o25))), (cV cyI tr (S_score (S_set_blowing tv o25)))] : List va_W).flatten) := hD
          refine lv_goto (tgt := 148) hx hb dX5_playMove_145 (by decide) ?_
          exact hJ148 (xv, (S_set_blowing tv o25)) _ _ _ hP hD hS (lv_sub hl [] rfl) hF
        · have hF := itn c24 hF
          refine lv_lookup (off := 140) (tgt := 148) hx hb dX5_playMove_8 (by decide) (by refine (lv_osw c3 (by decide)).trans ?_; refine (lv_osw c16 (by decide)).trans ?_; refine (lv_osw c19 (by decide)).trans ?_; refine (lv_osw c24 (by decide)).trans ?_; rfl) (by decide) ?_
          exact hJ148 (xv, tv) _ _ _ hP hD hS (lv_sub hl [] rfl) hF
theorem dX5_playAll_0 : decode cX5_playAll 0 = .ok (.aload_n 0, 1) := by decide +kernel
theorem dX5_playAll_1 : decode cX5_playAll 1 = .ok (.getfield 45, 3) := by decide +kernel
theorem dX5_playAll_4 : decode cX5_playAll 4 = .ok (.invokevirtual 163, 3) := by decide +kernel
theorem dX5_playAll_7 : decode cX5_playAll 7 = .ok (.ifCond .ne 13, 3) := by decide +kernel
theorem dX5_playAll_10 : decode cX5_playAll 10 = .ok (.new 49, 3) := by decide +kernel
theorem dX5_playAll_13 : decode cX5_playAll 13 = .ok (.dup, 1) := by decide +kernel
theorem dX5_playAll_14 : decode cX5_playAll 14 = .ok (.ldc 166, 2) := by decide +kernel
theorem dX5_playAll_16 : decode cX5_playAll 16 = .ok (.invokespecial 53, 3) := by decide +kernel
theorem dX5_playAll_19 : decode cX5_playAll 19 = .ok (.athrow, 1) := by decide +kernel
theorem dX5_playAll_20 : decode cX5_playAll 20 = .ok (.aload_n 0, 1) := by decide +kernel
theorem dX5_playAll_21 : decode cX5_playAll 21 = .ok (.getfield 16, 3) := by decide +kernel
theorem dX5_playAll_24 : decode cX5_playAll 24 = .ok (.aload_n 0, 1) := by decide +kernel
theorem dX5_playAll_25 : decode cX5_playAll 25 = .ok (.getfield 12, 3) := by decide +kernel
theorem dX5_playAll_28 : decode cX5_playAll 28 = .ok (.invokevirtual 168, 3) := by decide +kernel
theorem dX5_playAll_31 : decode cX5_playAll 31 = .ok (.iconst 0, 1) := by decide +kernel
theorem dX5_playAll_32 : decode cX5_playAll 32 = .ok (.istore_n 1, 1) := by decide +kernel
theorem dX5_playAll_33 : decode cX5_playAll 33 = .ok (.iconst 0, 1) := by decide +kernel
theorem dX5_playAll_34 : decode cX5_playAll 34 = .ok (.istore_n 2, 1) := by decide +kernel
theorem dX5_playAll_35 : decode cX5_playAll 35 = .ok (.iload_n 2, 1) := by decide +kernel
theorem dX5_playAll_36 : decode cX5_playAll 36 = .ok (.aload_n 0, 1) := by decide +kernel
theorem dX5_playAll_37 : decode cX5_playAll 37 = .ok (.getfield 45, 3) := by decide +kernel
theorem dX5_playAll_40 : decode cX5_playAll 40 = .ok (.getfield 152, 3) := by decide +kernel
theorem dX5_playAll_43 : decode cX5_playAll 43 = .ok (.if_icmp .ge 62, 3) := by decide +kernel
theorem dX5_playAll_46 : decode cX5_playAll 46 = .ok (.aload_n 0, 1) := by decide +kernel
theorem dX5_playAll_47 : decode cX5_playAll 47 = .ok (.getfield 16, 3) := by decide +kernel
theorem dX5_playAll_50 : decode cX5_playAll 50 = .ok (.aload_n 0, 1) := by decide +kernel
theorem dX5_playAll_51 : decode cX5_playAll 51 = .ok (.getfield 45, 3) := by decide +kernel
theorem dX5_playAll_54 : decode cX5_playAll 54 = .ok (.iload_n 2, 1) := by decide +kernel
theorem dX5_playAll_55 : decode cX5_playAll 55 = .ok (.invokevirtual 172, 3) := by decide +kernel
theorem dX5_playAll_58 : decode cX5_playAll 58 = .ok (.invokestatic 175, 3) := by decide +kernel
theorem dX5_playAll_61 : decode cX5_playAll 61 = .ok (.ifCond .ne 13, 3) := by decide +kernel
theorem dX5_playAll_64 : decode cX5_playAll 64 = .ok (.new 60, 3) := by decide +kernel
theorem dX5_playAll_67 : decode cX5_playAll 67 = .ok (.dup, 1) := by decide +kernel
theorem dX5_playAll_68 : decode cX5_playAll 68 = .ok (.ldc 179, 2) := by decide +kernel
theorem dX5_playAll_70 : decode cX5_playAll 70 = .ok (.invokespecial 64, 3) := by decide +kernel
theorem dX5_playAll_73 : decode cX5_playAll 73 = .ok (.athrow, 1) := by decide +kernel
theorem dX5_playAll_74 : decode cX5_playAll 74 = .ok (.aload_n 0, 1) := by decide +kernel
theorem dX5_playAll_75 : decode cX5_playAll 75 = .ok (.aload_n 0, 1) := by decide +kernel
theorem dX5_playAll_76 : decode cX5_playAll 76 = .ok (.getfield 16, 3) := by decide +kernel
theorem dX5_playAll_79 : decode cX5_playAll 79 = .ok (.iload_n 2, 1) := by decide +kernel
theorem dX5_playAll_80 : decode cX5_playAll 80 = .ok (.invokevirtual 181, 3) := by decide +kernel
theorem dX5_playAll_83 : decode cX5_playAll 83 = .ok (.aload_n 0, 1) := by decide +kernel
theorem dX5_playAll_84 : decode cX5_playAll 84 = .ok (.getfield 45, 3) := by decide +kernel
theorem dX5_playAll_87 : decode cX5_playAll 87 = .ok (.iload_n 2, 1) := by decide +kernel
theorem dX5_playAll_88 : decode cX5_playAll 88 = .ok (.invokevirtual 172, 3) := by decide +kernel
theorem dX5_playAll_91 : decode cX5_playAll 91 = .ok (.bipush 98, 2) := by decide +kernel
theorem dX5_playAll_93 : decode cX5_playAll 93 = .ok (.if_icmp .ne 6, 3) := by decide +kernel
theorem dX5_playAll_96 : decode cX5_playAll 96 = .ok (.iinc 1 1, 3) := by decide +kernel
theorem dX5_playAll_99 : decode cX5_playAll 99 = .ok (.iinc 2 1, 3) := by decide +kernel
theorem dX5_playAll_102 : decode cX5_playAll 102 = .ok (.goto (-67), 3) := by decide +kernel
theorem dX5_playAll_105 : decode cX5_playAll 105 = .ok (.aload_n 0, 1) := by decide +kernel
theorem dX5_playAll_106 : decode cX5_playAll 106 = .ok (.invokevirtual 65, 3) := by decide +kernel
theorem dX5_playAll_109 : decode cX5_playAll 109 = .ok (.aload_n 0, 1) := by decide +kernel
theorem dX5_playAll_110 : decode cX5_playAll 110 = .ok (.getfield 12, 3) := by decide +kernel
theorem dX5_playAll_113 : decode cX5_playAll 113 = .ok (.aload_n 0, 1) := by decide +kernel
theorem dX5_playAll_114 : decode cX5_playAll 114 = .ok (.getfield 16, 3) := by decide +kernel
theorem dX5_playAll_117 : decode cX5_playAll 117 = .ok (.invokevirtual 168, 3) := by decide +kernel
theorem dX5_playAll_120 : decode cX5_playAll 120 = .ok (.aload_n 0, 1) := by decide +kernel
theorem dX5_playAll_121 : decode cX5_playAll 121 = .ok (.getfield 45, 3) := by decide +kernel
theorem dX5_playAll_124 : decode cX5_playAll 124 = .ok (.iconst 0, 1) := by decide +kernel
theorem dX5_playAll_125 : decode cX5_playAll 125 = .ok (.putfield 152, 3) := by decide +kernel
theorem dX5_playAll_128 : decode cX5_playAll 128 = .ok (.iload_n 1, 1) := by decide +kernel
theorem dX5_playAll_129 : decode cX5_playAll 129 = .ok (.ireturn, 1) := by decide +kernel
def f_X5_playAll (N : Nat) (xv : XV) (nv : SV) (tv : SV) (v0 : SV) (v1 : SV) (v2 : SV) (v3 : SV) (v4 : SV) (v5 : SV) : Option ((Nat ⊕ Int32) × (XV × SV × SV × SV × SV × SV × SV × SV × SV)) :=
  (f_X4_isWhole N (X_text xv)).bind (fun o1 => (if o1 = 0 then some (Sum.inl 0, (xv, nv, tv, v0, v1, v2, v3, v4, v5)) else (f_X3_copyFrom N tv nv).bind (fun o5 => lpN (fun (s35 : Int32 × Int32 × XV × SV × SV × SV × SV × SV × SV × SV × SV) (k35 : (Int32 × Int32 × XV × SV × SV × SV × SV × SV × SV × SV × SV) → Option ((Nat ⊕ Int32) × (XV × SV × SV × SV × SV × SV × SV × SV × SV))) => (if (T_length (X_text s35.2.2.1)) ≤ s35.2.1 then (f_X5_saveState N s35.2.2.1 s35.2.2.2.1 s35.2.2.2.2.2.1 s35.2.2.2.2.2.2.1 s35.2.2.2.2.2.2.2.1 s35.2.2.2.2.2.2.2.2.1 s35.2.2.2.2.2.2.2.2.2.1 s35.2.2.2.2.2.2.2.2.2.2).bind (fun o8 => (f_X3_copyFrom N o8.2.1 s35.2.2.2.2.1).bind (fun o10 => some ((Sum.inr s35.1), ((X_set_text o8.1 (T_set_length (X_text o8.1) (0 : Int32))), o10.1, o10.2, o8.2.2.1, o8.2.2.2.1, o8.2.2.2.2.1, o8.2.2.2.2.2.1, o8.2.2.2.2.2.2.1, o8.2.2.2.2.2.2.2)))) else (f_X4_codeAt N (X_text s35.2.2.1) s35.2.1).bind (fun o12 => (f_X5_canMove N s35.2.2.2.2.1 o12).bind (fun o14 => (if o14 = 0 then some (Sum.inl 1, (s35.2.2.1, s35.2.2.2.1, s35.2.2.2.2.1, s35.2.2.2.2.2.1, s35.2.2.2.2.2.2.1, s35.2.2.2.2.2.2.2.1, s35.2.2.2.2.2.2.2.2.1, s35.2.2.2.2.2.2.2.2.2.1, s35.2.2.2.2.2.2.2.2.2.2)) else (f_X5_playMove N s35.2.2.1 s35.2.2.2.2.1 s35.2.1).bind (fun o18 => (f_X4_codeAt N (X_text o18.1) s35.2.1).bind (fun o20 => jn (fun (s99 : Int32) => k35 (s99, (s35.2.1 + (1 : Int32)), o18.1, s35.2.2.2.1, o18.2, s35.2.2.2.2.2.1, s35.2.2.2.2.2.2.1, s35.2.2.2.2.2.2.2.1, s35.2.2.2.2.2.2.2.2.1, s35.2.2.2.2.2.2.2.2.2.1, s35.2.2.2.2.2.2.2.2.2.2)) (fun (j99 : (Int32) → Option ((Nat ⊕ Int32) × (XV × SV × SV × SV × SV × SV × SV × SV × SV))) => (if o20 = (98 : Int32) then j99 (s35.1 + (1 : Int32)) else j99 s35.1))))))))) N ((0 : Int32), (0 : Int32), xv, o5.2, o5.1, v0, v1, v2, v3, v4, v5))))
set_option maxHeartbeats 4000000 in
set_option maxRecDepth 100000 in
theorem met_X5_playAll (l : Launch) (z0 : Nat) (hst : l.stackTraces = false) (dC : Nat → ClassId) (dI : Nat → Nat → Nat) (cyI cyO cyL : ClassId) (x : Nat → Nat) (an : Nat → Nat) (tr : Nat → Nat) (b0 : Nat → Nat) (b1 : Nat → Nat) (b2 : Nat → Nat) (b3 : Nat → Nat) (b4 : Nat → Nat) (b5 : Nat → Nat) (fl fs : Nat → Option Nat) (sz : Nat) (N : Nat) (xv : XV) (nv : SV) (tv : SV) (v0 : SV) (v1 : SV) (v2 : SV) (v3 : SV) (v4 : SV) (v5 : SV) (hs0 : fs 0 = some (b0 0)) (hs1 : fs 1 = some (b1 0)) (hs2 : fs 2 = some (b2 0)) (hs3 : fs 3 = some (b3 0)) (hs4 : fs 4 = some (b4 0)) (hs5 : fs 5 = some (b5 0)) (out : (Nat ⊕ Int32) × (XV × SV × SV × SV × SV × SV × SV × SV × SV)) (hF : f_X5_playAll N xv nv tv v0 v1 v2 v3 v4 v5 = some out) : vx_Met l yX5_playAll (Cond.code yX5_playAll cX5_playAll 3 (some .int) :: wT) ({ frames := 6, cells := 1, slots := 6, locals := 136 } : Room) (wWrX z0 dC dI cyI cyO cyL [.ref (x 0)] (([(cXo x an tr xv), (cH cyO (x 1) (x 2) 2 fl), (cXk cyI x xv), (cH cyO (x 4) (x 5) 6 fs), (cT cyI x (X_text xv)), (cSo an nv), (cG cyI an (S_green nv)), (cV cyI an (S_score nv)), (cSo tr tv), (cG cyI tr (S_green tv)), (cV cyI tr (S_score tv)), (cS cyI b0 v0), (cS cyI b1 v1), (cS cyI b2 v2), (cS cyI b3 v3), (cS cyI b4 v4), (cS cyI b5 v5)] : List va_W).flatten) sz) (va_Qi (fun (r : Int32) (u : XV × SV × SV × SV × SV × SV × SV × SV × SV) => (Sum.inr r, u) = out) (fun u t => va_P (dC, dI) vwCl (([(cXo x an tr u.1), (cH cyO (x 1) (x 2) 2 fl), (cXk cyI x u.1), (cH cyO (x 4) (x 5) 6 fs), (cT cyI x (X_text u.1)), (cSo an u.2.1), (cG cyI an (S_green u.2.1)), (cV cyI an (S_score u.2.1)), (cSo tr u.2.2.1), (cG cyI tr (S_green u.2.2.1)), (cV cyI tr (S_score u.2.2.1)), (cS cyI b0 u.2.2.2.1), (cS cyI b1 u.2.2.2.2.1), (cS cyI b2 u.2.2.2.2.2.1), (cS cyI b3 u.2.2.2.2.2.2.1), (cS cyI b4 u.2.2.2.2.2.2.2.1), (cS cyI b5 u.2.2.2.2.2.2.2.2)] : List va_W).flatten) t.heap ∧ va_D (va_A (([(cXo x an tr xv), (cH cyO (x 1) (x 2) 2 fl), (cXk cyI x xv), (cH cyO (x 4) (x 5) 6 fs), (cT cyI x (X_text xv)), (cSo an nv), (cG cyI an (S_green nv)), (cV cyI an (S_score nv)), (cSo tr tv), (cG cyI tr (S_green tv)), (cV cyI tr (S_score tv)), (cS cyI b0 v0), (cS cyI b1 v1), (cS cyI b2 v2), (cS cyI b3 v3), (cS cyI b4 v4), (cS cyI b5 v5)] : List va_W).flatten) sz) (([(cXo x an tr u.1), (cH cyO (x 1) (x 2) 2 fl), (cXk cyI x u.1), (cH cyO (x 4) (x 5) 6 fs), (cT cyI x (X_text u.1)), (cSo an u.2.1), (cG cyI an (S_green u.2.1)), (cV cyI an (S_score u.2.1)), (cSo tr u.2.2.1), (cG cyI tr (S_green u.2.2.1)), (cV cyI tr (S_score u.2.2.1)), (cS cyI b0 u.2.2.2.1), (cS cyI b1 u.2.2.2.2.1), (cS cyI b2 u.2.2.2.2.2.1), (cS cyI b3 u.2.2.2.2.2.2.1), (cS cyI b4 u.2.2.2.2.2.2.2.1), (cS cyI b5 u.2.2.2.2.2.2.2.2)] : List va_W).flatten)) (va_A (([(cXo x an tr xv), (cH cyO (x 1) (x 2) 2 fl), (cXk cyI x xv), (cH cyO (x 4) (x 5) 6 fs), (cT cyI x (X_text xv)), (cSo an nv), (cG cyI an (S_green nv)), (cV cyI an (S_score nv)), (cSo tr tv), (cG cyI tr (S_green tv)), (cV cyI tr (S_score tv)), (cS cyI b0 v0), (cS cyI b1 v1), (cS cyI b2 v2), (cS cyI b3 v3), (cS cyI b4 v4), (cS cyI b5 v5)] : List va_W).flatten) sz)) (xcW dC dI Int32 (fun (u : XV × SV × SV × SV × SV × SV × SV × SV × SV) => (([(cXo x an tr u.1), (cH cyO (x 1) (x 2) 2 fl), (cXk cyI x u.1), (cH cyO (x 4) (x 5) 6 fs), (cT cyI x (X_text u.1)), (cSo an u.2.1), (cG cyI an (S_green u.2.1)), (cV cyI an (S_score u.2.1)), (cSo tr u.2.2.1), (cG cyI tr (S_green u.2.2.1)), (cV cyI tr (S_score u.2.2.1)), (cS cyI b0 u.2.2.2.1), (cS cyI b1 u.2.2.2.2.1), (cS cyI b2 u.2.2.2.2.2.1), (cS cyI b3 u.2.2.2.2.2.2.1), (cS cyI b4 u.2.2.2.2.2.2.2.1), (cS cyI b5 u.2.2.2.2.2.2.2.2)] : List va_W).flatten)) (va_A (([(cXo x an tr xv), (cH cyO (x 1) (x 2) 2 fl), (cXk cyI x xv), (cH cyO (x 4) (x 5) 6 fs), (cT cyI x (X_text xv)), (cSo an nv), (cG cyI an (S_green nv)), (cV cyI an (S_score nv)), (cSo tr tv), (cG cyI tr (S_green tv)), (cV cyI tr (S_score tv)), (cS cyI b0 v0), (cS cyI b1 v1), (cS cyI b2 v2), (cS cyI b3 v3), (cS cyI b4 v4), (cS cyI b5 v5)] : List va_W).flatten) sz) out) 1 6 (va_A (([(cXo x an tr xv), (cH cyO (x 1) (x 2) 2 fl), (cXk cyI x xv), (cH cyO (x 4) (x 5) 6 fs), (cT cyI x (X_text xv)), (cSo an nv), (cG cyI an (S_green nv)), (cV cyI an (S_score nv)), (cSo tr tv), (cG cyI tr (S_green tv)), (cV cyI tr (S_score tv)), (cS cyI b0 v0), (cS cyI b1 v1), (cS cyI b2 v2), (cS cyI b3 v3), (cS cyI b4 v4), (cS cyI b5 v5)] : List va_W).flatten) sz) := by
  refine vx_ofW (cc := cX5_playAll) (maxL := 3) (ret := (some .int)) (by decide) rfl ?_
  intro p e s m args below meth c s₁ B hml htx hv
  obtain ⟨rfl, hsz, hP, hK, hD0, hz0, hZ⟩ := hv
  have hx := B.exec
  have hb := B.bytes
  have hr := B.returns
  have hts0 := atoms_spec (ws := (Cond.code yX5_playAll cX5_playAll 3 (some .int) :: wT)) B.pre
  have hts := fun w h => hts0 w (List.mem_cons_of_mem _ h)
  clear hts0
  have hown : s.vm.findClass RX5 = some m.cls := findClass_of_methodNamed B.named
  have hlocks := B.notSynchronized
  subst hsz
  have hD := hD0.self (sz := s.heap.size)
  have hAz := wA_ge hD0 hz0
  generalize hAe : va_A (([(cXo x an tr xv), (cH cyO (x 1) (x 2) 2 fl), (cXk cyI x xv), (cH cyO (x 4) (x 5) 6 fs), (cT cyI x (X_text xv)), (cSo an nv), (cG cyI an (S_green nv)), (cV cyI an (S_score nv)), (cSo tr tv), (cG cyI tr (S_green tv)), (cV cyI tr (S_score tv)), (cS cyI b0 v0), (cS cyI b1 v1), (cS cyI b2 v2), (cS cyI b3 v3), (cS cyI b4 v4), (cS cyI b5 v5)] : List va_W).flatten) s.heap.size = A at hD hAz ⊢
  have hA : ∀ q : Nat, s.heap.size ≤ q → A q := fun q h => by rw [← hAe]; exact Or.inr h
  clear hD0
  have hS : va_S A s.heap s.heap [] := va_S.rf
  have hl := lv_entry [.ref (x 0)] (n := 3) (Nat.le_of_ble_eq_true rfl)
  rw [lg_entry_eq]
  generalize (lg_sl [.ref (x 0)] ++ List.replicate (3 - (lg_sl [.ref (x 0)]).length) Slot.unset).toArray = ls at hl ⊢
  have hl : lv_has ls 3 [(0, .ref (x 0))] := hl
  unfold f_X5_playAll at hF
  refine lv_aload_n hx hb dX5_playAll_0 rfl (lv_at hl 0 rfl) ?_
  refine va_get (D := (dC, dI)) (ci := 5) (v := .ref (x 6)) (C := RX5) (T := TX5) (N := 8) hx hb hts inX5 hown hK.1 hP 0 rfl rfl 7 (by decide) (hts _ w_fieldLink_X5_45) (fun _ h9 => h9) rfl dX5_playAll_1 ?_
  obtain ⟨o1, h2, hF⟩ := obd hF
  refine wcRVi (As := []) (rest := []) (b := (x 6)) ⟨hx, hb, hml, hown, hts⟩ (met_X4_isWhole l dC dI cyI cyO cyL x N (X_text xv)  o1 h2) (cwV 0 hts (gV w_methodLink_X5_163 w_instanceMethod_X4_isWhole w_selects_X4_isWhole w_initialized_X4 w_code_X4_isWhole) rfl rfl rfl (by decide +kernel) ⟨Nat.le_of_ble_eq_true rfl, Nat.le_of_ble_eq_true rfl⟩) (va_recv hK.1 hP (ci := 4) (q0 := 6) rfl rfl) hP hK [6, 7] rfl rfl hl.1 (Nat.le_of_ble_eq_true rfl) dX5_playAll_4 ⟨Nat.le_of_ble_eq_true rfl, Nat.le_of_ble_eq_true rfl⟩ hS (fun r H locs hw hP hS => ?_)
  obtain ⟨hw, hz3⟩ := hw
  have hw := hw.symm
  subst hw
  refine lv_if_ne (tgt := 20) hx hb dX5_playAll_7 (by decide) (fun c4 => ?_) (fun c4 => ?_)
  · have hF := itn c4 hF
    refine lv_aload_n hx hb dX5_playAll_20 rfl (lv_at hl 0 rfl) ?_
    refine va_get (D := (dC, dI)) (ci := 5) (v := .ref (tr 0)) (C := RX5) (T := TX5) (N := 8) hx hb hts inX5 hown hK.1 hP 0 rfl rfl 1 (by decide) (hts _ w_fieldLink_X5_16) (fun _ h9 => h9) rfl dX5_playAll_21 ?_
    refine lv_aload_n hx hb dX5_playAll_24 rfl (lv_at hl 0 rfl) ?_
    refine va_get (D := (dC, dI)) (ci := 5) (v := .ref (an 0)) (C := RX5) (T := TX5) (N := 8) hx hb hts inX5 hown hK.1 hP 0 rfl rfl 0 (by decide) (hts _ w_fieldLink_X5_12) (fun _ h9 => h9) rfl dX5_playAll_25 ?_
    obtain ⟨o5, h6, hF⟩ := obd hF
    refine wcPVv (As := [.ref (an 0)]) (rest := []) (wr := ([(cXo x an tr xv), (cH cyO (x 1) (x 2) 2 fl), (cXk cyI x xv), (cH cyO (x 4) (x 5) 6 fs), (cT cyI x (X_text xv)), (cS cyI b0 v0), (cS cyI b1 v1), (cS cyI b2 v2), (cS cyI b3 v3), (cS cyI b4 v4), (cS cyI b5 v5)] : List va_W).flatten) (b := (tr 0)) ⟨hx, hb, hml, hown, hts⟩ (met_X3_copyFrom l dC dI cyI cyO cyL tr an _ N tv nv  o5 h6) (cwV 1 hts (gV w_methodLink_X5_168 w_instanceMethod_X3_copyFrom w_selects_X3_copyFrom w_initialized_X3 w_code_X3_copyFrom) rfl rfl rfl (by decide +kernel) ⟨Nat.le_of_ble_eq_true rfl, Nat.le_of_ble_eq_true rfl⟩) (va_recv hK.1 hP (ci := 3) (q0 := 21) rfl rfl) hP hD hK (seg_perm (n := 17) (R := [(cXo x an tr xv), (cH cyO (x 1) (x 2) 2 fl), (cXk cyI x xv), (cH cyO (x 4) (x 5) 6 fs), (cT cyI x (X_text xv)), (cS cyI b0 v0), (cS cyI b1 v1), (cS cyI b2 v2), (cS cyI b3 v3), (cS cyI b4 v4), (cS cyI b5 v5)]) (C := [(cSo tr tv), (cG cyI tr (S_green tv)), (cV cyI tr (S_score tv)), (cSo an nv), (cG cyI an (S_green nv)), (cV cyI an (S_score nv))]) [0, 1, 2, 3, 4, 11, 12, 13, 14, 15, 16] [8, 9, 10, 5, 6, 7] rfl rfl rfl (by decide) rfl) rfl hl.1 (Nat.le_of_ble_eq_true rfl) dX5_playAll_28 ⟨Nat.le_of_ble_eq_true rfl, Nat.le_of_ble_eq_true rfl⟩ hS hA (fun u H locs hw hP hD hS => ?_)
    have hw := hw.symm
    subst hw
    have hq := seg_permS (segs := [(cXo x an tr xv), (cH cyO (x 1) (x 2) 2 fl), (cXk cyI x xv), (cH cyO (x 4) (x 5) 6 fs), (cT cyI x (X_text xv)), (cSo an o5.2), (cG cyI an (S_green o5.2)), (cV cyI an (S_score o5.2)), (cSo tr o5.1), (cG cyI tr (S_green o5.1)), (cV cyI tr (S_score o5.1)), (cS cyI b0 v0), (cS cyI b1 v1), (cS cyI b2 v2), (cS cyI b3 v3), (cS cyI b4 v4), (cS cyI b5 v5)]) (R := [(cXo x an tr xv), (cH cyO (x 1) (x 2) 2 fl), (cXk cyI x xv), (cH cyO (x 4) (x 5) 6 fs), (cT cyI x (X_text xv)), (cS cyI b0 v0), (cS cyI b1 v1), (cS cyI b2 v2), (cS cyI b3 v3), (cS cyI b4 v4), (cS cyI b5 v5)]) (C := [(cSo tr o5.1), (cG cyI tr (S_green o5.1)), (cV cyI tr (S_score o5.1)), (cSo an o5.2), (cG cyI an (S_green o5.2)), (cV cyI an (S_score o5.2))]) (n := 17) [0, 1, 2, 3, 4, 11, 12, 13, 14, 15, 16] [8, 9, 10, 5, 6, 7] rfl rfl rfl (by decide)
    have hP : va_P (dC, dI) vwCl (([(cXo x an tr xv), (cH cyO (x 1) (x 2) 2 fl), (cXk cyI x xv), (cH cyO (x 4) (x 5) 6 fs), (cT cyI x (X_text xv)), (cSo an o5.2), (cG cyI an (S_green o5.2)), (cV cyI an (S_score o5.2)), (cSo tr o5.1), (cG cyI tr (S_green o5.1)), (cV cyI tr (S_score o5.1)), (cS cyI b0 v0), (cS cyI b1 v1), (cS cyI b2 v2), (cS cyI b3 v3), (cS cyI b4 v4), (cS cyI b5 v5)] : List va_W).flatten) H := hP.perm hq
    have hD : va_D A (([(cXo x an tr xv), (cH cyO (x 1) (x 2) 2 fl), (cXk cyI x xv), (cH cyO (x 4) (x 5) 6 fs), (cT cyI x (X_text xv)), (cSo an o5.2), (cG cyI an (S_green o5.2)), (cV cyI an (S_score o5.2)), (cSo tr o5.1), (cG cyI tr (S_green o5.1)), (cV cyI tr (S_score o5.1)), (cS cyI b0 v0), (cS cyI b1 v1), (cS cyI b2 v2), (cS cyI b3 v3), (cS cyI b4 v4), (cS cyI b5 v5)] : List va_W).flatten) := hD.perm hq
    clear hq
    refine lv_iconst (v := 0) hx hb dX5_playAll_31 (by decide) ?_
    refine lv_istore_n (lv' := [(1, .int (0 : Int32)), (0, .ref (x 0))]) hx hb dX5_playAll_32 rfl hl (by decide) rfl (fun ls hl => ?_)
    refine lv_iconst (v := 0) hx hb dX5_playAll_33 (by decide) ?_
    refine lv_istore_n (lv' := [(2, .int (0 : Int32)), (1, .int (0 : Int32)), (0, .ref (x 0))]) hx hb dX5_playAll_34 rfl hl (by decide) rfl (fun ls hl => ?_)
    obtain ⟨st35, hst35, hF⟩ := lpN_use hF
    have hL35 : ∀ (n : Nat) (s35 : Int32 × Int32 × XV × SV × SV × SV × SV × SV × SV × SV × SV) (H : Heap) (locs : List Loc) (ls : Array Slot), va_P (dC, dI) vwCl (([(cXo x an tr s35.2.2.1), (cH cyO (x 1) (x 2) 2 fl), (cXk cyI x s35.2.2.1), (cH cyO (x 4) (x 5) 6 fs), (cT cyI x (X_text s35.2.2.1)), (cSo an s35.2.2.2.1), (cG cyI an (S_green s35.2.2.2.1)), (cV cyI an (S_score s35.2.2.2.1)), (cSo tr s35.2.2.2.2.1), (cG cyI tr (S_green s35.2.2.2.2.1)), (cV cyI tr (S_score s35.2.2.2.2.1)), (cS cyI b0 s35.2.2.2.2.2.1), (cS cyI b1 s35.2.2.2.2.2.2.1), (cS cyI b2 s35.2.2.2.2.2.2.2.1), (cS cyI b3 s35.2.2.2.2.2.2.2.2.1), (cS cyI b4 s35.2.2.2.2.2.2.2.2.2.1), (cS cyI b5 s35.2.2.2.2.2.2.2.2.2.2)] : List va_W).flatten) H → va_D A (([(cXo x an tr s35.2.2.1), (cH cyO (x 1) (x 2) 2 fl), (cXk cyI x s35.2.2.1), (cH cyO (x 4) (x 5) 6 fs), (cT cyI x (X_text s35.2.2.1)), (cSo an s35.2.2.2.1), (cG cyI an (S_green s35.2.2.2.1)), (cV cyI an (S_score s35.2.2.2.1)), (cSo tr s35.2.2.2.2.1), (cG cyI tr (S_green s35.2.2.2.2.1)), (cV cyI tr (S_score s35.2.2.2.2.1)), (cS cyI b0 s35.2.2.2.2.2.1), (cS cyI b1 s35.2.2.2.2.2.2.1), (cS cyI b2 s35.2.2.2.2.2.2.2.1), (cS cyI b3 s35.2.2.2.2.2.2.2.2.1), (cS cyI b4 s35.2.2.2.2.2.2.2.2.2.1), (cS cyI b5 s35.2.2.2.2.2.2.2.2.2.2)] : List va_W).flatten) → va_S A s.heap H locs → lv_has ls 3 [(0, .ref (x 0)), (1, .int s35.1), (2, .int s35.2.1)] → lpN st35 n s35 = some out → W p l e (headSpec (Cond.code yX5_playAll cX5_playAll 3 (some .int) :: wT) ({ frames := 6, cells := 1, slots := 6, locals := 136 } : Room)).room s m ([.ref (x 0)] : List Value).toArray below meth c H locs 0 0 (vx_MQ below (va_Qi (fun (r : Int32) (u : XV × SV × SV × SV × SV × SV × SV × SV × SV) => (Sum.inr r, u) = out) (fun u t => va_P (dC, dI) vwCl (([(cXo x an tr u.1), (cH cyO (x 1) (x 2) 2 fl), (cXk cyI x u.1), (cH cyO (x 4) (x 5) 6 fs), (cT cyI x (X_text u.1)), (cSo an u.2.1), (cG cyI an (S_green u.2.1)), (cV cyI an (S_score u.2.1)), (cSo tr u.2.2.1), (cG cyI tr (S_green u.2.2.1)), (cV cyI tr (S_score u.2.2.1)), (cS cyI b0 u.2.2.2.1), (cS cyI b1 u.2.2.2.2.1), (cS cyI b2 u.2.2.2.2.2.1), (cS cyI b3 u.2.2.2.2.2.2.1), (cS cyI b4 u.2.2.2.2.2.2.2.1), (cS cyI b5 u.2.2.2.2.2.2.2.2)] : List va_W).flatten) t.heap ∧ va_D A (([(cXo x an tr u.1), (cH cyO (x 1) (x 2) 2 fl), (cXk cyI x u.1), (cH cyO (x 4) (x 5) 6 fs), (cT cyI x (X_text u.1)), (cSo an u.2.1), (cG cyI an (S_green u.2.1)), (cV cyI an (S_score u.2.1)), (cSo tr u.2.2.1), (cG cyI tr (S_green u.2.2.1)), (cV cyI tr (S_score u.2.2.1)), (cS cyI b0 u.2.2.2.1), (cS cyI b1 u.2.2.2.2.1), (cS cyI b2 u.2.2.2.2.2.1), (cS cyI b3 u.2.2.2.2.2.2.1), (cS cyI b4 u.2.2.2.2.2.2.2.1), (cS cyI b5 u.2.2.2.2.2.2.2.2)] : List va_W).flatten)) A) (xcW dC dI Int32 (fun (u : XV × SV × SV × SV × SV × SV × SV × SV × SV) => (([(cXo x an tr u.1), (cH cyO (x 1) (x 2) 2 fl), (cXk cyI x u.1), (cH cyO (x 4) (x 5) 6 fs), (cT cyI x (X_text u.1)), (cSo an u.2.1), (cG cyI an (S_green u.2.1)), (cV cyI an (S_score u.2.1)), (cSo tr u.2.2.1), (cG cyI tr (S_green u.2.2.1)), (cV cyI tr (S_score u.2.2.1)), (cS cyI b0 u.2.2.2.1), (cS cyI b1 u.2.2.2.2.1), (cS cyI b2 u.2.2.2.2.2.1), (cS cyI b3 u.2.2.2.2.2.2.1), (cS cyI b4 u.2.2.2.2.2.2.2.1), (cS cyI b5 u.2.2.2.2.2.2.2.2)] : List va_W).flatten)) A out) ([.ref (x 0)] : List Value).toArray s 1 6 A) (F0 m 35 ls []) := by
      intro n
      induction n with
      | zero => intro s35 H locs ls hP hD hS hl hF; exact lpN_0 hF
      | succ n ih35 =>
        intro s35 H locs ls hP hD hS hl hF
        have hF := (congrFun (congrFun hst35 s35) (lpN st35 n)).symm.trans (lpN_s hF)
        refine lv_iload_n hx hb dX5_playAll_35 rfl (lv_at hl 2 rfl) ?_
        refine lv_aload_n hx hb dX5_playAll_36 rfl (lv_at hl 0 rfl) ?_
        refine va_get (D := (dC, dI)) (ci := 5) (v := .ref (x 6)) (C := RX5) (T := TX5) (N := 8) hx hb hts inX5 hown hK.1 hP 0 rfl rfl 7 (by decide) (hts _ w_fieldLink_X5_45) (fun _ h9 => h9) rfl dX5_playAll_37 ?_
        refine va_get (D := (dC, dI)) (ci := 4) (v := .int (T_length (X_text s35.2.2.1))) (C := RX4) (T := TX4) (N := 2) hx hb hts inX4 hown hK.1 hP 6 rfl rfl 1 (by decide) (hts _ w_fieldLink_X5_152) (fun _ h9 => h9) rfl dX5_playAll_40 ?_
        refine lv_icmp_ge (tgt := 105) hx hb dX5_playAll_43 (by decide) (fun c7 => ?_) (fun c7 => ?_)
        · have hF := itp c7 hF
          refine lv_aload_n hx hb dX5_playAll_105 rfl (lv_at hl 0 rfl) ?_
          obtain ⟨o8, h9, hF⟩ := obd hF
          refine wcPVv (As := []) (rest := []) (wr := ([(cSo tr s35.2.2.2.2.1), (cG cyI tr (S_green s35.2.2.2.2.1)), (cV cyI tr (S_score s35.2.2.2.2.1))] : List va_W).flatten) (b := (x 0)) ⟨hx, hb, hml, hown, hts⟩ (met_X5_saveState l dC dI cyI cyO cyL x tr an b0 b1 b2 b3 b4 b5 fl fs _ N s35.2.2.1 s35.2.2.2.1 s35.2.2.2.2.2.1 s35.2.2.2.2.2.2.1 s35.2.2.2.2.2.2.2.1 s35.2.2.2.2.2.2.2.2.1 s35.2.2.2.2.2.2.2.2.2.1 s35.2.2.2.2.2.2.2.2.2.2 hs0 hs1 hs2 hs3 hs4 hs5 o8 h9) (cwV 0 hts (gV w_methodLink_X5_65 w_instanceMethod_X5_saveState w_selects_X5_saveState w_initialized_X5 w_code_X5_saveState) rfl rfl rfl (by decide +kernel) ⟨Nat.le_of_ble_eq_true rfl, Nat.le_of_ble_eq_true rfl⟩) (va_recv hK.1 hP (ci := 5) (q0 := 0) rfl rfl) hP hD hK (seg_perm (n := 17) (R := [(cSo tr s35.2.2.2.2.1), (cG cyI tr (S_green s35.2.2.2.2.1)), (cV cyI tr (S_score s35.2.2.2.2.1))]) (C := [(cXo x an tr s35.2.2.1), (cH cyO (x 1) (x 2) 2 fl), (cXk cyI x s35.2.2.1), (cH cyO (x 4) (x 5) 6 fs), (cT cyI x (X_text s35.2.2.1)), (cSo an s35.2.2.2.1), (cG cyI an (S_green s35.2.2.2.1)), (cV cyI an (S_score s35.2.2.2.1)), (cS cyI b0 s35.2.2.2.2.2.1), (cS cyI b1 s35.2.2.2.2.2.2.1), (cS cyI b2 s35.2.2.2.2.2.2.2.1), (cS cyI b3 s35.2.2.2.2.2.2.2.2.1), (cS cyI b4 s35.2.2.2.2.2.2.2.2.2.1), (cS cyI b5 s35.2.2.2.2.2.2.2.2.2.2)]) [8, 9, 10] [0, 1, 2, 3, 4, 5, 6, 7, 11, 12, 13, 14, 15, 16] rfl rfl rfl (by decide) rfl) rfl hl.1 (Nat.le_of_ble_eq_true rfl) dX5_playAll_106 ⟨Nat.le_of_ble_eq_true rfl, Nat.le_of_ble_eq_true rfl⟩ hS hA (fun u H locs hw hP hD hS => ?_)
          have hw := hw.symm
          subst hw
          have hq := seg_permS (segs := [(cXo x an tr o8.1), (cH cyO (x 1) (x 2) 2 fl), (cXk cyI x o8.1), (cH cyO (x 4) (x 5) 6 fs), (cT cyI x (X_text o8.1)), (cSo an o8.2.1), (cG cyI an (S_green o8.2.1)), (cV cyI an (S_score o8.2.1)), (cSo tr s35.2.2.2.2.1), (cG cyI tr (S_green s35.2.2.2.2.1)), (cV cyI tr (S_score s35.2.2.2.2.1)), (cS cyI b0 o8.2.2.1), (cS cyI b1 o8.2.2.2.1), (cS cyI b2 o8.2.2.2.2.1), (cS cyI b3 o8.2.2.2.2.2.1), (cS cyI b4 o8.2.2.2.2.2.2.1), (cS cyI b5 o8.2.2.2.2.2.2.2)]) (R := [(cSo tr s35.2.2.2.2.1), (cG cyI tr (S_green s35.2.2.2.2.1)), (cV cyI tr (S_score s35.2.2.2.2.1))]) (C := [(cXo x an tr o8.1), (cH cyO (x 1) (x 2) 2 fl), (cXk cyI x o8.1), (cH cyO (x 4) (x 5) 6 fs), (cT cyI x (X_text o8.1)), (cSo an o8.2.1), (cG cyI an (S_green o8.2.1)), (cV cyI an (S_score o8.2.1)), (cS cyI b0 o8.2.2.1), (cS cyI b1 o8.2.2.2.1), (cS cyI b2 o8.2.2.2.2.1), (cS cyI b3 o8.2.2.2.2.2.1), (cS cyI b4 o8.2.2.2.2.2.2.1), (cS cyI b5 o8.2.2.2.2.2.2.2)]) (n := 17) [8, 9, 10] [0, 1, 2, 3, 4, 5, 6, 7, 11, 12, 13, 14, 15, 16] rfl rfl rfl (by decide)
          have hP : va_P (dC, dI) vwCl (([(cXo x an tr o8.1), (cH cyO (x 1) (x 2) 2 fl), (cXk cyI x o8.1), (cH cyO (x 4) (x 5) 6 fs), (cT cyI x (X_text o8.1)), (cSo an o8.2.1), (cG cyI an (S_green o8.2.1)), (cV cyI an (S_score o8.2.1)), (cSo tr s35.2.2.2.2.1), (cG cyI tr (S_green s35.2.2.2.2.1)), (cV cyI tr (S_score s35.2.2.2.2.1)), (cS cyI b0 o8.2.2.1), (cS cyI b1 o8.2.2.2.1), (cS cyI b2 o8.2.2.2.2.1), (cS cyI b3 o8.2.2.2.2.2.1), (cS cyI b4 o8.2.2.2.2.2.2.1), (cS cyI b5 o8.2.2.2.2.2.2.2)] : List va_W).flatten) H := hP.perm hq
          have hD : va_D A (([(cXo x an tr o8.1), (cH cyO (x 1) (x 2) 2 fl), (cXk cyI x o8.1), (cH cyO (x 4) (x 5) 6 fs), (cT cyI x (X_text o8.1)), (cSo an o8.2.1), (cG cyI an (S_green o8.2.1)), (cV cyI an (S_score o8.2.1)), (cSo tr s35.2.2.2.2.1), (cG cyI tr (S_green s35.2.2.2.2.1)), (cV cyI tr (S_score s35.2.2.2.2.1)), (cS cyI b0 o8.2.2.1), (cS cyI b1 o8.2.2.2.1), (cS cyI b2 o8.2.2.2.2.1), (cS cyI b3 o8.2.2.2.2.2.1), (cS cyI b4 o8.2.2.2.2.2.2.1), (cS cyI b5 o8.2.2.2.2.2.2.2)] : List va_W).flatten) := hD.perm hq
          clear hq
          refine lv_aload_n hx hb dX5_playAll_109 rfl (lv_at hl 0 rfl) ?_
          refine va_get (D := (dC, dI)) (ci := 5) (v := .ref (an 0)) (C := RX5) (T := TX5) (N := 8) hx hb hts inX5 hown hK.1 hP 0 rfl rfl 0 (by decide) (hts _ w_fieldLink_X5_12) (fun _ h9 => h9) rfl dX5_playAll_110 ?_
          refine lv_aload_n hx hb dX5_playAll_113 rfl (lv_at hl 0 rfl) ?_
          refine va_get (D := (dC, dI)) (ci := 5) (v := .ref (tr 0)) (C := RX5) (T := TX5) (N := 8) hx hb hts inX5 hown hK.1 hP 0 rfl rfl 1 (by decide) (hts _ w_fieldLink_X5_16) (fun _ h9 => h9) rfl dX5_playAll_114 ?_
          obtain ⟨o10, h11, hF⟩ := obd hF
          refine wcPVv (As := [.ref (tr 0)]) (rest := []) (wr := ([(cXo x an tr o8.1), (cH cyO (x 1) (x 2) 2 fl), (cXk cyI x o8.1), (cH cyO (x 4) (x 5) 6 fs), (cT cyI x (X_text o8.1)), (cS cyI b0 o8.2.2.1), (cS cyI b1 o8.2.2.2.1), (cS cyI b2 o8.2.2.2.2.1), (cS cyI b3 o8.2.2.2.2.2.1), (cS cyI b4 o8.2.2.2.2.2.2.1), (cS cyI b5 o8.2.2.2.2.2.2.2)] : List va_W).flatten) (b := (an 0)) ⟨hx, hb, hml, hown, hts⟩ (met_X3_copyFrom l dC dI cyI cyO cyL an tr _ N o8.2.1 s35.2.2.2.2.1  o10 h11) (cwV 1 hts (gV w_methodLink_X5_168 w_instanceMethod_X3_copyFrom w_selects_X3_copyFrom w_initialized_X3 w_code_X3_copyFrom) rfl rfl rfl (by decide +kernel) ⟨Nat.le_of_ble_eq_true rfl, Nat.le_of_ble_eq_true rfl⟩) (va_recv hK.1 hP (ci := 3) (q0 := 8) rfl rfl) hP hD hK (seg_perm (n := 17) (R := [(cXo x an tr o8.1), (cH cyO (x 1) (x 2) 2 fl), (cXk cyI x o8.1), (cH cyO (x 4) (x 5) 6 fs), (cT cyI x (X_text o8.1)), (cS cyI b0 o8.2.2.1), (cS cyI b1 o8.2.2.2.1), (cS cyI b2 o8.2.2.2.2.1), (cS cyI b3 o8.2.2.2.2.2.1), (cS cyI b4 o8.2.2.2.2.2.2.1), (cS cyI b5 o8.2.2.2.2.2.2.2)]) (C := [(cSo an o8.2.1), (cG cyI an (S_green o8.2.1)), (cV cyI an (S_score o8.2.1)), (cSo tr s35.2.2.2.2.1), (cG cyI tr (S_green s35.2.2.2.2.1)), (cV cyI tr (S_score s35.2.2.2.2.1))]) [0, 1, 2, 3, 4, 11, 12, 13, 14, 15, 16] [5, 6, 7, 8, 9, 10] rfl rfl rfl (by decide) rfl) rfl hl.1 (Nat.le_of_ble_eq_true rfl) dX5_playAll_117 ⟨Nat.le_of_ble_eq_true rfl, Nat.le_of_ble_eq_true rfl⟩ hS hA (fun u H locs hw hP hD hS => ?_)
          have hw := hw.symm
          subst hw
          have hq := seg_permS (segs := [(cXo x an tr o8.1), (cH cyO (x 1) (x 2) 2 fl), (cXk cyI x o8.1), (cH cyO (x 4) (x 5) 6 fs), (cT cyI x (X_text o8.1)), (cSo an o10.1), (cG cyI an (S_green o10.1)), (cV cyI an (S_score o10.1)), (cSo tr o10.2), (cG cyI tr (S_green o10.2)), (cV cyI tr (S_score o10.2)), (cS cyI b0 o8.2.2.1), (cS cyI b1 o8.2.2.2.1), (cS cyI b2 o8.2.2.2.2.1), (cS cyI b3 o8.2.2.2.2.2.1), (cS cyI b4 o8.2.2.2.2.2.2.1), (cS cyI b5 o8.2.2.2.2.2.2.2)]) (R := [(cXo x an tr o8.1), (cH cyO (x 1) (x 2) 2 fl), (cXk cyI x o8.1), (cH cyO (x 4) (x 5) 6 fs), (cT cyI x (X_text o8.1)), (cS cyI b0 o8.2.2.1), (cS cyI b1 o8.2.2.2.1), (cS cyI b2 o8.2.2.2.2.1), (cS cyI b3 o8.2.2.2.2.2.1), (cS cyI b4 o8.2.2.2.2.2.2.1), (cS cyI b5 o8.2.2.2.2.2.2.2)]) (C := [(cSo an o10.1), (cG cyI an (S_green o10.1)), (cV cyI an (S_score o10.1)), (cSo tr o10.2), (cG cyI tr (S_green o10.2)), (cV cyI tr (S_score o10.2))]) (n := 17) [0, 1, 2, 3, 4, 11, 12, 13, 14, 15, 16] [5, 6, 7, 8, 9, 10] rfl rfl rfl (by decide)
          have hP : va_P (dC, dI) vwCl (([(cXo x an tr o8.1), (cH cyO (x 1) (x 2) 2 fl), (cXk cyI x o8.1), (cH cyO (x 4) (x 5) 6 fs), (cT cyI x (X_text o8.1)), (cSo an o10.1), (cG cyI an (S_green o10.1)), (cV cyI an (S_score o10.1)), (cSo tr o10.2), (cG cyI tr (S_green o10.2)), (cV cyI tr (S_score o10.2)), (cS cyI b0 o8.2.2.1), (cS cyI b1 o8.2.2.2.1), (cS cyI b2 o8.2.2.2.2.1), (cS cyI b3 o8.2.2.2.2.2.1), (cS cyI b4 o8.2.2.2.2.2.2.1), (cS cyI b5 o8.2.2.2.2.2.2.2)] : List va_W).flatten) H := hP.perm hq
          have hD : va_D A (([(cXo x an tr o8.1), (cH cyO (x 1) (x 2) 2 fl), (cXk cyI x o8.1), (cH cyO (x 4) (x 5) 6 fs), (cT cyI x (X_text o8.1)), (cSo an o10.1), (cG cyI an (S_green o10.1)), (cV cyI an (S_score o10.1)), (cSo tr o10.2), (cG cyI tr (S_green o10.2)), (cV cyI tr (S_score o10.2)), (cS cyI b0 o8.2.2.1), (cS cyI b1 o8.2.2.2.1), (cS cyI b2 o8.2.2.2.2.1), (cS cyI b3 o8.2.2.2.2.2.1), (cS cyI b4 o8.2.2.2.2.2.2.1), (cS cyI b5 o8.2.2.2.2.2.2.2)] : List va_W).flatten) := hD.perm hq
          clear hq
          refine lv_aload_n hx hb dX5_playAll_120 rfl (lv_at hl 0 rfl) ?_
          refine va_get (D := (dC, dI)) (ci := 5) (v := .ref (x 6)) (C := RX5) (T := TX5) (N := 8) hx hb hts inX5 hown hK.1 hP 0 rfl rfl 7 (by decide) (hts _ w_fieldLink_X5_45) (fun _ h9 => h9) rfl dX5_playAll_121 ?_
          refine lv_iconst (v := 0) hx hb dX5_playAll_124 (by decide) ?_
          refine va_put (D := (dC, dI)) (ci := 4) (v := .int (0 : Int32)) (ty := .int) (C := RX4) (T := TX4) (N := 2) hx hb hts inX4 tyX4 tyX4_ok nmX4 hown hK.1 hP hD hS 6 rfl rfl 1 (by decide) (hts _ w_fieldLink_X5_152) (fun _ h9 => h9) rfl (by decide +kernel) rfl rfl (Nat.le_of_ble_eq_true rfl) dX5_playAll_125 (fun H locs hP hD hS => ?_)
          have hP : va_P (dC, dI) vwCl (([(cXo x an tr (X_set_text o8.1 (T_set_length (X_text o8.1) (0 : Int32)))), (cH cyO (x 1) (x 2) 2 fl), (cXk cyI x (X_set_text o8.1 (T_set_length (X_text o8.1) (0 : Int32)))), (cH cyO (x 4) (x 5) 6 fs), (cT cyI x (X_text (X_set_text o8.1 (T_set_length (X_text o8.1) (0 : Int32))))), (cSo an o10.1), (cG cyI an (S_green o10.1)), (cV cyI an (S_score o10.1)), (cSo tr o10.2), (cG cyI tr (S_green o10.2)), (cV cyI tr (S_score o10.2)), (cS cyI b0 o8.2.2.1), (cS cyI b1 o8.2.2.2.1), (cS cyI b2 o8.2.2.2.2.1), (cS cyI b3 o8.2.2.2.2.2.1), (cS cyI b4 o8.2.2.2.2.2.2.1), (cS cyI b5 o8.2.2.2.2.2.2.2)] : List va_W).flatten) H := hP
          have hD : va_D A (([(cXo x an tr (X_set_text o8.1 (T_set_length (X_text o8.1) (0 : Int32)))), (cH cyO (x 1) (x 2) 2 fl), (cXk cyI x (X_set_text o8.1 (T_set_length (X_text o8.1) (0 : Int32)))), (cH cyO (x 4) (x 5) 6 fs), (cT cyI x (X_text (X_set_text o8.1 (T_set_length (X_text o8.1) (0 : Int32))))), (cSo an o10.1), (cG cyI an (S_green o10.1)), (cV cyI an (S_score o10.1)), (cSo tr o10.2), (cG cyI tr (S_green o10.2)), (cV cyI tr (S_score o10.2)), (cS cyI b0 o8.2.2.1), (cS cyI b1 o8.2.2.2.1), (cS cyI b2 o8.2.2.2.2.1), (cS cyI b3 o8.2.2.2.2.2.1), (cS cyI b4 o8.2.2.2.2.2.2.1), (cS cyI b5 o8.2.2.2.2.2.2.2)] : List va_W).flatten) := hD
          refine lv_iload_n hx hb dX5_playAll_128 rfl (lv_at hl 1 rfl) ?_
          refine vx_ret ?_
          refine W.widen (k := 1) (n := 6) (Nat.le_of_ble_eq_true rfl) (Nat.le_of_ble_eq_true rfl) ?_
          exact W.iret (v := s35.1) hx hb hr (fun t ht hW => ⟨⟨_, ((X_set_text o8.1 (T_set_length (X_text o8.1) (0 : Int32))), o10.1, o10.2, o8.2.2.1, o8.2.2.2.1, o8.2.2.2.2.1, o8.2.2.2.2.2.1, o8.2.2.2.2.2.2.1, o8.2.2.2.2.2.2.2), rfl, Option.some.inj hF, by rw [ht]; exact hP, hD⟩, hS.F ht⟩) hS.2.2 dX5_playAll_129
        · have hF := itn c7 hF
          refine lv_aload_n hx hb dX5_playAll_46 rfl (lv_at hl 0 rfl) ?_
          refine va_get (D := (dC, dI)) (ci := 5) (v := .ref (tr 0)) (C := RX5) (T := TX5) (N := 8) hx hb hts inX5 hown hK.1 hP 0 rfl rfl 1 (by decide) (hts _ w_fieldLink_X5_16) (fun _ h9 => h9) rfl dX5_playAll_47 ?_
          refine lv_aload_n hx hb dX5_playAll_50 rfl (lv_at hl 0 rfl) ?_
          refine va_get (D := (dC, dI)) (ci := 5) (v := .ref (x 6)) (C := RX5) (T := TX5) (N := 8) hx hb hts inX5 hown hK.1 hP 0 rfl rfl 7 (by decide) (hts _ w_fieldLink_X5_45) (fun _ h9 => h9) rfl dX5_playAll_51 ?_
          refine lv_iload_n hx hb dX5_playAll_54 rfl (lv_at hl 2 rfl) ?_
          obtain ⟨o12, h13, hF⟩ := obd hF
          refine wcRVi (As := [.int s35.2.1]) (rest := [.ref (tr 0)]) (b := (x 6)) ⟨hx, hb, hml, hown, hts⟩ (met_X4_codeAt l dC dI cyI cyO cyL x N (X_text s35.2.2.1) s35.2.1 o12 h13) (cwV 1 hts (gV w_methodLink_X5_172 w_instanceMethod_X4_codeAt w_selects_X4_codeAt w_initialized_X4 w_code_X4_codeAt) rfl rfl rfl (by decide +kernel) ⟨Nat.le_of_ble_eq_true rfl, Nat.le_of_ble_eq_true rfl⟩) (va_recv hK.1 hP (ci := 4) (q0 := 6) rfl rfl) hP hK [6, 7] rfl rfl hl.1 (Nat.le_of_ble_eq_true rfl) dX5_playAll_55 ⟨Nat.le_of_ble_eq_true rfl, Nat.le_of_ble_eq_true rfl⟩ hS (fun r H locs hw hP hS => ?_)
          have hw := hw.symm
          subst hw
          obtain ⟨o14, h15, hF⟩ := obd hF
          refine wcRSi (As := [.ref (tr 0), .int o12]) (rest := []) ⟨hx, hb, hml, hown, hts⟩ (met_X5_canMove l dC dI cyI cyO cyL tr N s35.2.2.2.2.1 o12 o14 h15) (va_cwS 2 hts (gS w_methodLink_X5_175 w_static_X5_canMove w_initialized_X5 w_code_X5_canMove) rfl rfl rfl (by decide +kernel) ⟨Nat.le_of_ble_eq_true rfl, Nat.le_of_ble_eq_true rfl⟩) hP hK [21, 22, 23, 24, 25, 26, 27, 28, 29, 30, 31, 32, 33] rfl rfl hl.1 (Nat.le_of_ble_eq_true rfl) dX5_playAll_58 ⟨Nat.le_of_ble_eq_true rfl, Nat.le_of_ble_eq_true rfl⟩ hS (fun r H locs hw hP hS => ?_)
          obtain ⟨hw, hz16⟩ := hw
          have hw := hw.symm
          subst hw
          refine lv_if_ne (tgt := 74) hx hb dX5_playAll_61 (by decide) (fun c17 => ?_) (fun c17 => ?_)
          · have hF := itn c17 hF
            refine lv_aload_n hx hb dX5_playAll_74 rfl (lv_at hl 0 rfl) ?_
            refine lv_aload_n hx hb dX5_playAll_75 rfl (lv_at hl 0 rfl) ?_
            refine va_get (D := (dC, dI)) (ci := 5) (v := .ref (tr 0)) (C := RX5) (T := TX5) (N := 8) hx hb hts inX5 hown hK.1 hP 0 rfl rfl 1 (by decide) (hts _ w_fieldLink_X5_16) (fun _ h9 => h9) rfl dX5_playAll_76 ?_
            refine lv_iload_n hx hb dX5_playAll_79 rfl (lv_at hl 2 rfl) ?_
            obtain ⟨o18, h19, hF⟩ := obd hF
            refine wcPVv (As := [.ref (tr 0), .int s35.2.1]) (rest := []) (wr := ([(cSo an s35.2.2.2.1), (cG cyI an (S_green s35.2.2.2.1)), (cV cyI an (S_score s35.2.2.2.1)), (cS cyI b0 s35.2.2.2.2.2.1), (cS cyI b1 s35.2.2.2.2.2.2.1), (cS cyI b2 s35.2.2.2.2.2.2.2.1), (cS cyI b3 s35.2.2.2.2.2.2.2.2.1), (cS cyI b4 s35.2.2.2.2.2.2.2.2.2.1), (cS cyI b5 s35.2.2.2.2.2.2.2.2.2.2)] : List va_W).flatten) (b := (x 0)) ⟨hx, hb, hml, hown, hts⟩ (met_X5_playMove l dC dI cyI cyO cyL x an tr fl fs _ N s35.2.2.1 s35.2.2.2.2.1 s35.2.1 o18 h19) (cwV 2 hts (gV w_methodLink_X5_181 w_instanceMethod_X5_playMove w_selects_X5_playMove w_initialized_X5 w_code_X5_playMove) rfl rfl rfl (by decide +kernel) ⟨Nat.le_of_ble_eq_true rfl, Nat.le_of_ble_eq_true rfl⟩) (va_recv hK.1 hP (ci := 5) (q0 := 0) rfl rfl) hP hD hK (seg_perm (n := 17) (R := [(cSo an s35.2.2.2.1), (cG cyI an (S_green s35.2.2.2.1)), (cV cyI an (S_score s35.2.2.2.1)), (cS cyI b0 s35.2.2.2.2.2.1), (cS cyI b1 s35.2.2.2.2.2.2.1), (cS cyI b2 s35.2.2.2.2.2.2.2.1), (cS cyI b3 s35.2.2.2.2.2.2.2.2.1), (cS cyI b4 s35.2.2.2.2.2.2.2.2.2.1), (cS cyI b5 s35.2.2.2.2.2.2.2.2.2.2)]) (C := [(cXo x an tr s35.2.2.1), (cH cyO (x 1) (x 2) 2 fl), (cXk cyI x s35.2.2.1), (cH cyO (x 4) (x 5) 6 fs), (cT cyI x (X_text s35.2.2.1)), (cSo tr s35.2.2.2.2.1), (cG cyI tr (S_green s35.2.2.2.2.1)), (cV cyI tr (S_score s35.2.2.2.2.1))]) [5, 6, 7, 11, 12, 13, 14, 15, 16] [0, 1, 2, 3, 4, 8, 9, 10] rfl rfl rfl (by decide) rfl) rfl hl.1 (Nat.le_of_ble_eq_true rfl) dX5_playAll_80 ⟨Nat.le_of_ble_eq_true rfl, Nat.le_of_ble_eq_true rfl⟩ hS hA (fun u H locs hw hP hD hS => ?_)
            have hw := hw.symm
            subst hw
            have hq := seg_permS (segs := [(cXo x an tr o18.1), (cH cyO (x 1) (x 2) 2 fl), (cXk cyI x o18.1), (cH cyO (x 4) (x 5) 6 fs), (cT cyI x (X_text o18.1)), (cSo an s35.2.2.2.1), (cG cyI an (S_green s35.2.2.2.1)), (cV cyI an (S_score s35.2.2.2.1)), (cSo tr o18.2), (cG cyI tr (S_green o18.2)), (cV cyI tr (S_score o18.2)), (cS cyI b0 s35.2.2.2.2.2.1), (cS cyI b1 s35.2.2.2.2.2.2.1), (cS cyI b2 s35.2.2.2.2.2.2.2.1), (cS cyI b3 s35.2.2.2.2.2.2.2.2.1), (cS cyI b4 s35.2.2.2.2.2.2.2.2.2.1), (cS cyI b5 s35.2.2.2.2.2.2.2.2.2.2)]) (R := [(cSo an s35.2.2.2.1), (cG cyI an (S_green s35.2.2.2.1)), (cV cyI an (S_score s35.2.2.2.1)), (cS cyI b0 s35.2.2.2.2.2.1), (cS cyI b1 s35.2.2.2.2.2.2.1), (cS cyI b2 s35.2.2.2.2.2.2.2.1), (cS cyI b3 s35.2.2.2.2.2.2.2.2.1), (cS cyI b4 s35.2.2.2.2.2.2.2.2.2.1), (cS cyI b5 s35.2.2.2.2.2.2.2.2.2.2)]) (C := [(cXo x an tr o18.1), (cH cyO (x 1) (x 2) 2 fl), (cXk cyI x o18.1), (cH cyO (x 4) (x 5) 6 fs), (cT cyI x (X_text o18.1)), (cSo tr o18.2), (cG cyI tr (S_green o18.2)), (cV cyI tr (S_score o18.2))]) (n := 17) [5, 6, 7, 11, 12, 13, 14, 15, 16] [0, 1, 2, 3, 4, 8, 9, 10] rfl rfl rfl (by decide)
            have hP : va_P (dC, dI) vwCl (([(cXo x an tr o18.1), (cH cyO (x 1) (x 2) 2 fl), (cXk cyI x o18.1), (cH cyO (x 4) (x 5) 6 fs), (cT cyI x (X_text o18.1)), (cSo an s35.2.2.2.1), (cG cyI an (S_green s35.2.2.2.1)), (cV cyI an (S_score s35.2.2.2.1)), (cSo tr o18.2), (cG cyI tr (S_green o18.2)), (cV cyI tr (S_score o18.2)), (cS cyI b0 s35.2.2.2.2.2.1), (cS cyI b1 s35.2.2.2.2.2.2.1), (cS cyI b2 s35.2.2.2.2.2.2.2.1), (cS cyI b3 s35.2.2.2.2.2.2.2.2.1), (cS cyI b4 s35.2.2.2.2.2.2.2.2.2.1), (cS cyI b5 s35.2.2.2.2.2.2.2.2.2.2)] : List va_W).flatten) H := hP.perm hq
            have hD : va_D A (([(cXo x an tr o18.1), (cH cyO (x 1) (x 2) 2 fl), (cXk cyI x o18.1), (cH cyO (x 4) (x 5) 6 fs), (cT cyI x (X_text o18.1)), (cSo an s35.2.2.2.1), (cG cyI an (S_green s35.2.2.2.1)), (cV cyI an (S_score s35.2.2.2.1)), (cSo tr o18.2), (cG cyI tr (S_green o18.2)), (cV cyI tr (S_score o18.2)), (cS cyI b0 s35.2.2.2.2.2.1), (cS cyI b1 s35.2.2.2.2.2.2.1), (cS cyI b2 s35.2.2.2.2.2.2.2.1), (cS cyI b3 s35.2.2.2.2.2.2.2.2.1), (cS cyI b4 s35.2.2.2.2.2.2.2.2.2.1), (cS cyI b5 s35.2.2.2.2.2.2.2.2.2.2)] : List va_W).flatten) := hD.perm hq
            clear hq
            refine lv_aload_n hx hb dX5_playAll_83 rfl (lv_at hl 0 rfl) ?_
            refine va_get (D := (dC, dI)) (ci := 5) (v := .ref (x 6)) (C := RX5) (T := TX5) (N := 8) hx hb hts inX5 hown hK.1 hP 0 rfl rfl 7 (by decide) (hts _ w_fieldLink_X5_45) (fun _ h9 => h9) rfl dX5_playAll_84 ?_
            refine lv_iload_n hx hb dX5_playAll_87 rfl (lv_at hl 2 rfl) ?_
            obtain ⟨o20, h21, hF⟩ := obd hF
            refine wcRVi (As := [.int s35.2.1]) (rest := []) (b := (x 6)) ⟨hx, hb, hml, hown, hts⟩ (met_X4_codeAt l dC dI cyI cyO cyL x N (X_text o18.1) s35.2.1 o20 h21) (cwV 1 hts (gV w_methodLink_X5_172 w_instanceMethod_X4_codeAt w_selects_X4_codeAt w_initialized_X4 w_code_X4_codeAt) rfl rfl rfl (by decide +kernel) ⟨Nat.le_of_ble_eq_true rfl, Nat.le_of_ble_eq_true rfl⟩) (va_recv hK.1 hP (ci := 4) (q0 := 6) rfl rfl) hP hK [6, 7] rfl rfl hl.1 (Nat.le_of_ble_eq_true rfl) dX5_playAll_88 ⟨Nat.le_of_ble_eq_true rfl, Nat.le_of_ble_eq_true rfl⟩ hS (fun r H locs hw hP hS => ?_)
            have hw := hw.symm
            subst hw
            refine lv_bipush (v := 98) hx hb dX5_playAll_91 (by decide) ?_
            obtain ⟨j99, hj99, hF⟩ := jn_use hF
            have hJ99 : ∀ (s99 : Int32) (H : Heap) (locs : List Loc) (ls : Array Slot), va_P (dC, dI) vwCl (([(cXo x an tr o18.1), (cH cyO (x 1) (x 2) 2 fl), (cXk cyI x o18.1), (cH cyO (x 4) (x 5) 6 fs), (cT cyI x (X_text o18.1)), (cSo an s35.2.2.2.1), (cG cyI an (S_green s35.2.2.2.1)), (cV cyI an (S_score s35.2.2.2.1)), (cSo tr o18.2), (cG cyI tr (S_green o18.2)), (cV cyI tr (S_score o18.2)), (cS cyI b0 s35.2.2.2.2.2.1), (cS cyI b1 s35.2.2.2.2.2.2.1), (cS cyI b2 s35.2.2.2.2.2.2.2.1), (cS cyI b3 s35.2.2.2.2.2.2.2.2.1), (cS cyI b4 s35.2.2.2.2.2.2.2.2.2.1), (cS cyI b5 s35.2.2.2.2.2.2.2.2.2.2)] : List va_W).flatten) H → va_D A (([(cXo x an tr o18.1), (cH cyO (x 1) (x 2) 2 fl), (cXk cyI x o18.1), (cH cyO (x 4) (x 5) 6 fs), (cT cyI x (X_text o18.1)), (cSo an s35.2.2.2.1), (cG cyI an (S_green s35.2.2.2.1)), (cV cyI an (S_score s35.2.2.2.1)), (cSo tr o18.2), (cG cyI tr (S_green o18.2)), (cV cyI tr (S_score o18.2)), (cS cyI b0 s35.2.2.2.2.2.1), (cS cyI b1 s35.2.2.2.2.2.2.1), (cS cyI b2 s35.2.2.2.2.2.2.2.1), (cS cyI b3 s35.2.2.2.2.2.2.2.2.1), (cS cyI b4 s35.2.2.2.2.2.2.2.2.2.1), (cS cyI b5 s35.2.2.2.2.2.2.2.2.2.2)] : List va_W).flatten) → va_S A s.heap H locs → lv_has ls 3 [(0, .ref (x 0)), (1, .int s99), (2, .int s35.2.1)] → j99 s99 = some out → W p l e (headSpec (Cond.code yX5_playAll cX5_playAll 3 (some .int) :: wT) ({ frames := 6, cells := 1, slots := 6, locals := 136 } : Room)).room s m ([.ref (x 0)] : List Value).toArray below meth c H locs 0 0 (vx_MQ below (va_Qi (fun (r : Int32) (u : XV × SV × SV × SV × SV × SV × SV × SV × SV) => (Sum.inr r, u) = out) (fun u t => va_P (dC, dI) vwCl (([(cXo x an tr u.1), (cH cyO (x 1) (x 2) 2 fl), (cXk cyI x u.1), (cH cyO (x 4) (x 5) 6 fs), (cT cyI x (X_text u.1)), (cSo an u.2.1), (cG cyI an (S_green u.2.1)), (cV cyI an (S_score u.2.1)), (cSo tr u.2.2.1), (cG cyI tr (S_green u.2.2.1)), (cV cyI tr (S_score u.2.2.1)), (cS cyI b0 u.2.2.2.1), (cS cyI b1 u.2.2.2.2.1), (cS cyI b2 u.2.2.2.2.2.1), (cS cyI b3 u.2.2.2.2.2.2.1), (cS cyI b4 u.2.2.2.2.2.2.2.1), (cS cyI b5 u.2.2.2.2.2.2.2.2)] : List va_W).flatten) t.heap ∧ va_D A (([(cXo x an tr u.1), (cH cyO (x 1) (x 2) 2 fl), (cXk cyI x u.1), (cH cyO (x 4) (x 5) 6 fs), (cT cyI x (X_text u.1)), (cSo an u.2.1), (cG cyI an (S_green u.2.1)), (cV cyI an (S_score u.2.1)), (cSo tr u.2.2.1), (cG cyI tr (S_green u.2.2.1)), (cV cyI tr (S_score u.2.2.1)), (cS cyI b0 u.2.2.2.1), (cS cyI b1 u.2.2.2.2.1), (cS cyI b2 u.2.2.2.2.2.1), (cS cyI b3 u.2.2.2.2.2.2.1), (cS cyI b4 u.2.2.2.2.2.2.2.1), (cS cyI b5 u.2.2.2.2.2.2.2.2)] : List va_W).flatten)) A) (xcW dC dI Int32 (fun (u : XV × SV × SV × SV × SV × SV × SV × SV × SV) => (([(cXo x an tr u.1), (cH cyO (x 1) (x 2) 2 fl), (cXk cyI x u.1), (cH cyO (x 4) (x 5) 6 fs), (cT cyI x (X_text u.1)), (cSo an u.2.1), (cG cyI an (S_green u.2.1)), (cV cyI an (S_score u.2.1)), (cSo tr u.2.2.1), (cG cyI tr (S_green u.2.2.1)), (cV cyI tr (S_score u.2.2.1)), (cS cyI b0 u.2.2.2.1), (cS cyI b1 u.2.2.2.2.1), (cS cyI b2 u.2.2.2.2.2.1), (cS cyI b3 u.2.2.2.2.2.2.1), (cS cyI b4 u.2.2.2.2.2.2.2.1), (cS cyI b5 u.2.2.2.2.2.2.2.2)] : List va_W).flatten)) A out) ([.ref (x 0)] : List Value).toArray s 1 6 A) (F0 m 99 ls []) := by
              intro s99 H locs ls hP hD hS hl hF
              have hF := (congrFun hj99 s99).symm.trans hF
              refine lv_iinc (v := (s35.2.1 + (1 : Int32))) (lv' := [(2, .int (s35.2.1 + (1 : Int32))), (0, .ref (x 0)), (1, .int s99)]) hx hb dX5_playAll_99 hl (k := 2) rfl rfl (by decide) rfl (fun ls hl => ?_)
              refine lv_goto (tgt := 35) hx hb dX5_playAll_102 (by decide) ?_
              exact ih35 (s99, (s35.2.1 + (1 : Int32)), o18.1, s35.2.2.2.1, o18.2, s35.2.2.2.2.2.1, s35.2.2.2.2.2.2.1, s35.2.2.2.2.2.2.2.1, s35.2.2.2.2.2.2.2.2.1, s35.2.2.2.2.2.2.2.2.2.1, s35.2.2.2.2.2.2.2.2.2.2) _ _ _ hP hD hS (lv_sub hl [1, 2, 0] rfl) hF
            refine lv_icmp_ne (tgt := 99) hx hb dX5_playAll_93 (by decide) (fun c22 => ?_) (fun c22 => ?_)
            · have hF := itn c22 hF
              exact hJ99 s35.1 _ _ _ hP hD hS (lv_sub hl [0, 1, 2] rfl) hF
            · have hF := itp c22 hF
              refine lv_iinc (v := (s35.1 + (1 : Int32))) (lv' := [(1, .int (s35.1 + (1 : Int32))), (0, .ref (x 0)), (2, .int s35.2.1)]) hx hb dX5_playAll_96 hl (k := 1) rfl rfl (by decide) rfl (fun ls hl => ?_)
              exact hJ99 (s35.1 + (1 : Int32)) _ _ _ hP hD hS (lv_sub hl [1, 0, 2] rfl) hF
          · have hF := itp c17 hF
            have hF9 : ((Sum.inl 1 : Nat ⊕ Int32), (s35.2.2.1, s35.2.2.2.1, s35.2.2.2.2.1, s35.2.2.2.2.2.1, s35.2.2.2.2.2.2.1, s35.2.2.2.2.2.2.2.1, s35.2.2.2.2.2.2.2.2.1, s35.2.2.2.2.2.2.2.2.2.1, s35.2.2.2.2.2.2.2.2.2.2)) = out := Option.some.inj hF
            exact thrW_1 (w1 := fun (u : XV × SV × SV × SV × SV × SV × SV × SV × SV) => (([(cXo x an tr u.1), (cH cyO (x 1) (x 2) 2 fl), (cXk cyI x u.1), (cH cyO (x 4) (x 5) 6 fs), (cT cyI x (X_text u.1)), (cSo an u.2.1), (cG cyI an (S_green u.2.1)), (cV cyI an (S_score u.2.1)), (cSo tr u.2.2.1), (cG cyI tr (S_green u.2.2.1)), (cV cyI tr (S_score u.2.2.1)), (cS cyI b0 u.2.2.2.1), (cS cyI b1 u.2.2.2.2.1), (cS cyI b2 u.2.2.2.2.2.1), (cS cyI b3 u.2.2.2.2.2.2.1), (cS cyI b4 u.2.2.2.2.2.2.2.1), (cS cyI b5 u.2.2.2.2.2.2.2.2)] : List va_W).flatten)) (v := (s35.2.2.1, s35.2.2.2.1, s35.2.2.2.2.1, s35.2.2.2.2.2.1, s35.2.2.2.2.2.2.1, s35.2.2.2.2.2.2.2.1, s35.2.2.2.2.2.2.2.2.1, s35.2.2.2.2.2.2.2.2.2.1, s35.2.2.2.2.2.2.2.2.2.2)) hF9 hP hD hx hb hst (is := 179) (text := "a move of the buffer can not be made") hown hts hZ hAz hS (hl.1.trans hml.symm) (by decide) dX5_playAll_64 dX5_playAll_67 dX5_playAll_68 dX5_playAll_70 dX5_playAll_73 htx (Nat.le_of_ble_eq_true rfl) (Nat.le_of_ble_eq_true rfl) (Nat.le_of_ble_eq_true rfl) (Nat.le_of_ble_eq_true rfl) hlocks (Nat.le_of_ble_eq_true rfl) (Nat.le_of_ble_eq_true rfl)
    exact hL35 N ((0 : Int32), (0 : Int32), xv, o5.2, o5.1, v0, v1, v2, v3, v4, v5) _ _ _ hP hD hS (lv_sub hl [2, 1, 0] rfl) hF
  · have hF := itp c4 hF
    have hF9 : ((Sum.inl 0 : Nat ⊕ Int32), (xv, nv, tv, v0, v1, v2, v3, v4, v5)) = out := Option.some.inj hF
    exact thrW_0 (w1 := fun (u : XV × SV × SV × SV × SV × SV × SV × SV × SV) => (([(cXo x an tr u.1), (cH cyO (x 1) (x 2) 2 fl), (cXk cyI x u.1), (cH cyO (x 4) (x 5) 6 fs), (cT cyI x (X_text u.1)), (cSo an u.2.1), (cG cyI an (S_green u.2.1)), (cV cyI an (S_score u.2.1)), (cSo tr u.2.2.1), (cG cyI tr (S_green u.2.2.1)), (cV cyI tr (S_score u.2.2.1)), (cS cyI b0 u.2.2.2.1), (cS cyI b1 u.2.2.2.2.1), (cS cyI b2 u.2.2.2.2.2.1), (cS cyI b3 u.2.2.2.2.2.2.1), (cS cyI b4 u.2.2.2.2.2.2.2.1), (cS cyI b5 u.2.2.2.2.2.2.2.2)] : List va_W).flatten)) (v := (xv, nv, tv, v0, v1, v2, v3, v4, v5)) hF9 hP hD hx hb hst (is := 166) (text := "the buffer does not tell moves") hown hts hZ hAz hS (hl.1.trans hml.symm) (by decide) dX5_playAll_10 dX5_playAll_13 dX5_playAll_14 dX5_playAll_16 dX5_playAll_19 htx (Nat.le_of_ble_eq_true rfl) (Nat.le_of_ble_eq_true rfl) (Nat.le_of_ble_eq_true rfl) (Nat.le_of_ble_eq_true rfl) hlocks (Nat.le_of_ble_eq_true rfl) (Nat.le_of_ble_eq_true rfl)
theorem dX5_undo_0 : decode cX5_undo 0 = .ok (.aload_n 0, 1) := by decide +kernel
theorem dX5_undo_1 : decode cX5_undo 1 = .ok (.getfield 39, 3) := by decide +kernel
theorem dX5_undo_4 : decode cX5_undo 4 = .ok (.ifCond .gt 13, 3) := by decide +kernel
theorem dX5_undo_7 : decode cX5_undo 7 = .ok (.new 60, 3) := by decide +kernel
theorem dX5_undo_10 : decode cX5_undo 10 = .ok (.dup, 1) := by decide +kernel
theorem dX5_undo_11 : decode cX5_undo 11 = .ok (.ldc 204, 2) := by decide +kernel
theorem dX5_undo_13 : decode cX5_undo 13 = .ok (.invokespecial 64, 3) := by decide +kernel
theorem dX5_undo_16 : decode cX5_undo 16 = .ok (.athrow, 1) := by decide +kernel
theorem dX5_undo_17 : decode cX5_undo 17 = .ok (.aload_n 0, 1) := by decide +kernel
theorem dX5_undo_18 : decode cX5_undo 18 = .ok (.dup, 1) := by decide +kernel
theorem dX5_undo_19 : decode cX5_undo 19 = .ok (.getfield 39, 3) := by decide +kernel
theorem dX5_undo_22 : decode cX5_undo 22 = .ok (.iconst 1, 1) := by decide +kernel
theorem dX5_undo_23 : decode cX5_undo 23 = .ok (.isub, 1) := by decide +kernel
theorem dX5_undo_24 : decode cX5_undo 24 = .ok (.putfield 39, 3) := by decide +kernel
theorem dX5_undo_27 : decode cX5_undo 27 = .ok (.aload_n 0, 1) := by decide +kernel
theorem dX5_undo_28 : decode cX5_undo 28 = .ok (.getfield 32, 3) := by decide +kernel
theorem dX5_undo_31 : decode cX5_undo 31 = .ok (.aload_n 0, 1) := by decide +kernel
theorem dX5_undo_32 : decode cX5_undo 32 = .ok (.getfield 35, 3) := by decide +kernel
theorem dX5_undo_35 : decode cX5_undo 35 = .ok (.aload_n 0, 1) := by decide +kernel
theorem dX5_undo_36 : decode cX5_undo 36 = .ok (.getfield 39, 3) := by decide +kernel
theorem dX5_undo_39 : decode cX5_undo 39 = .ok (.iadd, 1) := by decide +kernel
theorem dX5_undo_40 : decode cX5_undo 40 = .ok (.bipush 6, 2) := by decide +kernel
theorem dX5_undo_42 : decode cX5_undo 42 = .ok (.irem, 1) := by decide +kernel
theorem dX5_undo_43 : decode cX5_undo 43 = .ok (.aload_n 0, 1) := by decide +kernel
theorem dX5_undo_44 : decode cX5_undo 44 = .ok (.getfield 12, 3) := by decide +kernel
theorem dX5_undo_47 : decode cX5_undo 47 = .ok (.invokevirtual 201, 3) := by decide +kernel
theorem dX5_undo_50 : decode cX5_undo 50 = .ok (.return_, 1) := by decide +kernel
def f_X5_undo (N : Nat) (xv : XV) (nv : SV) (v0 : SV) (v1 : SV) (v2 : SV) (v3 : SV) (v4 : SV) (v5 : SV) : Option ((Nat ⊕ Unit) × (XV × SV × SV × SV × SV × SV × SV × SV)) :=
  (if 0 < (X_savedCount xv) then (f_X2_read6 N nv v0 v1 v2 v3 v4 v5 (((X_oldestSaved xv) + ((X_savedCount xv) - (1 : Int32))) - ((X_oldestSaved xv) + ((X_savedCount xv) - (1 : Int32))) / (6 : Int32) * (6 : Int32))).bind (fun o2 => some (Sum.inr (), ((X_set_savedCount xv ((X_savedCount xv) - (1 : Int32))), o2.1, o2.2.1, o2.2.2.1, o2.2.2.2.1, o2.2.2.2.2.1, o2.2.2.2.2.2.1, o2.2.2.2.2.2.2))) else some (Sum.inl 1, (xv, nv, v0, v1, v2, v3, v4, v5)))
set_option maxHeartbeats 4000000 in
set_option maxRecDepth 100000 in
theorem met_X5_undo (l : Launch) (z0 : Nat) (hst : l.stackTraces = false) (dC : Nat → ClassId) (dI : Nat → Nat → Nat) (cyI cyO cyL : ClassId) (x : Nat → Nat) (tr : Nat → Nat) (an : Nat → Nat) (b0 : Nat → Nat) (b1 : Nat → Nat) (b2 : Nat → Nat) (b3 : Nat → Nat) (b4 : Nat → Nat) (b5 : Nat → Nat) (fl fs : Nat → Option Nat) (sz : Nat) (N : Nat) (xv : XV) (nv : SV) (v0 : SV) (v1 : SV) (v2 : SV) (v3 : SV) (v4 : SV) (v5 : SV) (hs0 : fs 0 = some (b0 0)) (hs1 : fs 1 = some (b1 0)) (hs2 : fs 2 = some (b2 0)) (hs3 : fs 3 = some (b3 0)) (hs4 : fs 4 = some (b4 0)) (hs5 : fs 5 = some (b5 0)) (out : (Nat ⊕ Unit) × (XV × SV × SV × SV × SV × SV × SV × SV)) (hF : f_X5_undo N xv nv v0 v1 v2 v3 v4 v5 = some out) : vx_Met l yX5_undo (Cond.code yX5_undo cX5_undo 1 none :: wT) ({ frames := 6, cells := 1, slots := 6, locals := 87 } : Room) (wWrX z0 dC dI cyI cyO cyL [.ref (x 0)] (([(cXo x an tr xv), (cH cyO (x 1) (x 2) 2 fl), (cXk cyI x xv), (cH cyO (x 4) (x 5) 6 fs), (cT cyI x (X_text xv)), (cSo an nv), (cG cyI an (S_green nv)), (cV cyI an (S_score nv)), (cS cyI b0 v0), (cS cyI b1 v1), (cS cyI b2 v2), (cS cyI b3 v3), (cS cyI b4 v4), (cS cyI b5 v5)] : List va_W).flatten) sz) (va_Qv (fun (u : XV × SV × SV × SV × SV × SV × SV × SV) => ((Sum.inr () : Nat ⊕ Unit), u) = out) (fun u t => va_P (dC, dI) vwCl (([(cXo x an tr u.1), (cH cyO (x 1) (x 2) 2 fl), (cXk cyI x u.1), (cH cyO (x 4) (x 5) 6 fs), (cT cyI x (X_text u.1)), (cSo an u.2.1), (cG cyI an (S_green u.2.1)), (cV cyI an (S_score u.2.1)), (cS cyI b0 u.2.2.1), (cS cyI b1 u.2.2.2.1), (cS cyI b2 u.2.2.2.2.1), (cS cyI b3 u.2.2.2.2.2.1), (cS cyI b4 u.2.2.2.2.2.2.1), (cS cyI b5 u.2.2.2.2.2.2.2)] : List va_W).flatten) t.heap ∧ va_D (va_A (([(cXo x an tr xv), (cH cyO (x 1) (x 2) 2 fl), (cXk cyI x xv), (cH cyO (x 4) (x 5) 6 fs), (cT cyI x (X_text xv)), (cSo an nv), (cG cyI an (S_green nv)), (cV cyI an (S_score nv)), (cS cyI b0 v0), (cS cyI b1 v1), (cS cyI b2 v2), (cS cyI b3 v3), (cS cyI b4 v4), (cS cyI b5 v5)] : List va_W).flatten) sz) (([(cXo x an tr u.1), (cH cyO (x 1) (x 2) 2 fl), (cXk cyI x u.1), (cH cyO (x 4) (x 5) 6 fs), (cT cyI x (X_text u.1)), (cSo an u.2.1), (cG cyI an (S_green u.2.1)), (cV cyI an (S_score u.2.1)), (cS cyI b0 u.2.2.1), (cS cyI b1 u.2.2.2.1), (cS cyI b2 u.2.2.2.2.1), (cS cyI b3 u.2.2.2.2.2.1), (cS cyI b4 u.2.2.2.2.2.2.1), (cS cyI b5 u.2.2.2.2.2.2.2)] : List va_W).flatten)) (va_A (([(cXo x an tr xv), (cH cyO (x 1) (x 2) 2 fl), (cXk cyI x xv), (cH cyO (x 4) (x 5) 6 fs), (cT cyI x (X_text xv)), (cSo an nv), (cG cyI an (S_green nv)), (cV cyI an (S_score nv)), (cS cyI b0 v0), (cS cyI b1 v1), (cS cyI b2 v2), (cS cyI b3 v3), (cS cyI b4 v4), (cS cyI b5 v5)] : List va_W).flatten) sz)) (xcW dC dI Unit (fun (u : XV × SV × SV × SV × SV × SV × SV × SV) => (([(cXo x an tr u.1), (cH cyO (x 1) (x 2) 2 fl), (cXk cyI x u.1), (cH cyO (x 4) (x 5) 6 fs), (cT cyI x (X_text u.1)), (cSo an u.2.1), (cG cyI an (S_green u.2.1)), (cV cyI an (S_score u.2.1)), (cS cyI b0 u.2.2.1), (cS cyI b1 u.2.2.2.1), (cS cyI b2 u.2.2.2.2.1), (cS cyI b3 u.2.2.2.2.2.1), (cS cyI b4 u.2.2.2.2.2.2.1), (cS cyI b5 u.2.2.2.2.2.2.2)] : List va_W).flatten)) (va_A (([(cXo x an tr xv), (cH cyO (x 1) (x 2) 2 fl), (cXk cyI x xv), (cH cyO (x 4) (x 5) 6 fs), (cT cyI x (X_text xv)), (cSo an nv), (cG cyI an (S_green nv)), (cV cyI an (S_score nv)), (cS cyI b0 v0), (cS cyI b1 v1), (cS cyI b2 v2), (cS cyI b3 v3), (cS cyI b4 v4), (cS cyI b5 v5)] : List va_W).flatten) sz) out) 1 6 (va_A (([(cXo x an tr xv), (cH cyO (x 1) (x 2) 2 fl), (cXk cyI x xv), (cH cyO (x 4) (x 5) 6 fs), (cT cyI x (X_text xv)), (cSo an nv), (cG cyI an (S_green nv)), (cV cyI an (S_score nv)), (cS cyI b0 v0), (cS cyI b1 v1), (cS cyI b2 v2), (cS cyI b3 v3), (cS cyI b4 v4), (cS cyI b5 v5)] : List va_W).flatten) sz) := by
  refine vx_ofW (cc := cX5_undo) (maxL := 1) (ret := none) (by decide) rfl ?_
  intro p e s m args below meth c s₁ B hml htx hv
  obtain ⟨rfl, hsz, hP, hK, hD0, hz0, hZ⟩ := hv
  have hx := B.exec
  have hb := B.bytes
  have hr := B.returns
  have hts0 := atoms_spec (ws := (Cond.code yX5_undo cX5_undo 1 none :: wT)) B.pre
  have hts := fun w h => hts0 w (List.mem_cons_of_mem _ h)
  clear hts0
  have hown : s.vm.findClass RX5 = some m.cls := findClass_of_methodNamed B.named
  have hlocks := B.notSynchronized
  subst hsz
  have hD := hD0.self (sz := s.heap.size)
  have hAz := wA_ge hD0 hz0
  generalize hAe : va_A (([(cXo x an tr xv), (cH cyO (x 1) (x 2) 2 fl), (cXk cyI x xv), (cH cyO (x 4) (x 5) 6 fs), (cT cyI x (X_text xv)), (cSo an nv), (cG cyI an (S_green nv)), (cV cyI an (S_score nv)), (cS cyI b0 v0), (cS cyI b1 v1), (cS cyI b2 v2), (cS cyI b3 v3), (cS cyI b4 v4), (cS cyI b5 v5)] : List va_W).flatten) s.heap.size = A at hD hAz ⊢
  have hA : ∀ q : Nat, s.heap.size ≤ q → A q := fun q h => by rw [← hAe]; exact Or.inr h
  clear hD0
  have hS : va_S A s.heap s.heap [] := va_S.rf
  have hl := lv_entry [.ref (x 0)] (n := 1) (Nat.le_of_ble_eq_true rfl)
  rw [lg_entry_eq]
  generalize (lg_sl [.ref (x 0)] ++ List.replicate (1 - (lg_sl [.ref (x 0)]).length) Slot.unset).toArray = ls at hl ⊢
  have hl : lv_has ls 1 [(0, .ref (x 0))] := hl
  unfold f_X5_undo at hF
  refine lv_aload_n hx hb dX5_undo_0 rfl (lv_at hl 0 rfl) ?_
  refine va_get (D := (dC, dI)) (ci := 5) (v := .int (X_savedCount xv)) (C := RX5) (T := TX5) (N := 8) hx hb hts inX5 hown hK.1 hP 0 rfl rfl 6 (by decide) (hts _ w_fieldLink_X5_39) (fun _ h9 => h9) rfl dX5_undo_1 ?_
  refine lv_if_gt (tgt := 17) hx hb dX5_undo_4 (by decide) (fun c1 => ?_) (fun c1 => ?_)
  · have hF := itp c1 hF
    refine lv_aload_n hx hb dX5_undo_17 rfl (lv_at hl 0 rfl) ?_
    refine lv_dup hx hb dX5_undo_18 rfl ?_
    refine va_get (D := (dC, dI)) (ci := 5) (v := .int (X_savedCount xv)) (C := RX5) (T := TX5) (N := 8) hx hb hts inX5 hown hK.1 hP 0 rfl rfl 6 (by decide) (hts _ w_fieldLink_X5_39) (fun _ h9 => h9) rfl dX5_undo_19 ?_
    refine lv_iconst (v := 1) hx hb dX5_undo_22 (by decide) ?_
    refine lv_isub hx hb dX5_undo_23 ?_
    refine va_put (D := (dC, dI)) (ci := 5) (v := .int ((X_savedCount xv) - (1 : Int32))) (ty := .int) (C := RX5) (T := TX5) (N := 8) hx hb hts inX5 tyX5 tyX5_ok nmX5 hown hK.1 hP hD hS 0 rfl rfl 6 (by decide) (hts _ w_fieldLink_X5_39) (fun _ h9 => h9) rfl (by decide +kernel) rfl rfl (Nat.le_of_ble_eq_true rfl) dX5_undo_24 (fun H locs hP hD hS => ?_)
    have hP : va_P (dC, dI) vwCl (([(cXo x an tr (X_set_savedCount xv ((X_savedCount xv) - (1 : Int32)))), (cH cyO (x 1) (x 2) 2 fl), (cXk cyI x (X_set_savedCount xv ((X_savedCount xv) - (1 : Int32)))), (cH cyO (x 4) (x 5) 6 fs), (cT cyI x (X_text (X_set_savedCount xv ((X_savedCount xv) - (1 : Int32))))), (cSo an nv), (cG cyI an (S_green nv)), (cV cyI an (S_score nv)), (cS cyI b0 v0), (cS cyI b1 v1), (cS cyI b2 v2), (cS cyI b3 v3), (cS cyI b4 v4), (cS cyI b5 v5)] : List va_W).flatten) H := hP
    have hD : va_D A (([(cXo x an tr (X_set_savedCount xv ((X_savedCount xv) - (1 : Int32)))), (cH cyO (x 1) (x 2) 2 fl), (cXk cyI x (X_set_savedCount xv ((X_savedCount xv) - (1 : Int32)))), (cH cyO (x 4) (x 5) 6 fs), (cT cyI x (X_text (X_set_savedCount xv ((X_savedCount xv) - (1 : Int32))))), (cSo an nv), (cG cyI an (S_green nv)), (cV cyI an (S_score nv)), (cS cyI b0 v0), (cS cyI b1 v1), (cS cyI b2 v2), (cS cyI b3 v3), (cS cyI b4 v4), (cS cyI b5 v5)] : List va_W).flatten) := hD
    refine lv_aload_n hx hb dX5_undo_27 rfl (lv_at hl 0 rfl) ?_
    refine va_get (D := (dC, dI)) (ci := 5) (v := .ref (x 4)) (C := RX5) (T := TX5) (N := 8) hx hb hts inX5 hown hK.1 hP 0 rfl rfl 4 (by decide) (hts _ w_fieldLink_X5_32) (fun _ h9 => h9) rfl dX5_undo_28 ?_
    refine lv_aload_n hx hb dX5_undo_31 rfl (lv_at hl 0 rfl) ?_
    refine va_get (D := (dC, dI)) (ci := 5) (v := .int (X_oldestSaved xv)) (C := RX5) (T := TX5) (N := 8) hx hb hts inX5 hown hK.1 hP 0 rfl rfl 5 (by decide) (hts _ w_fieldLink_X5_35) (fun _ h9 => h9) rfl dX5_undo_32 ?_
    refine lv_aload_n hx hb dX5_undo_35 rfl (lv_at hl 0 rfl) ?_
    refine va_get (D := (dC, dI)) (ci := 5) (v := .int ((X_savedCount xv) - (1 : Int32))) (C := RX5) (T := TX5) (N := 8) hx hb hts inX5 hown hK.1 hP 0 rfl rfl 6 (by decide) (hts _ w_fieldLink_X5_39) (fun _ h9 => h9) rfl dX5_undo_36 ?_
    refine lv_iadd hx hb dX5_undo_39 ?_
    refine lv_bipush (v := 6) hx hb dX5_undo_40 (by decide) ?_
    refine lv_irem hx hb dX5_undo_42 (by decide) ?_
    refine lv_aload_n hx hb dX5_undo_43 rfl (lv_at hl 0 rfl) ?_
    refine va_get (D := (dC, dI)) (ci := 5) (v := .ref (an 0)) (C := RX5) (T := TX5) (N := 8) hx hb hts inX5 hown hK.1 hP 0 rfl rfl 0 (by decide) (hts _ w_fieldLink_X5_12) (fun _ h9 => h9) rfl dX5_undo_44 ?_
    obtain ⟨o2, h3, hF⟩ := obd hF
    refine wcPVv (As := [.int (((X_oldestSaved xv) + ((X_savedCount xv) - (1 : Int32))) - ((X_oldestSaved xv) + ((X_savedCount xv) - (1 : Int32))) / (6 : Int32) * (6 : Int32)), .ref (an 0)]) (rest := []) (wr := ([(cXo x an tr (X_set_savedCount xv ((X_savedCount xv) - (1 : Int32)))), (cH cyO (x 1) (x 2) 2 fl), (cXk cyI x (X_set_savedCount xv ((X_savedCount xv) - (1 : Int32)))), (cT cyI x (X_text (X_set_savedCount xv ((X_savedCount xv) - (1 : Int32)))))] : List va_W).flatten) (b := (x 4)) ⟨hx, hb, hml, hown, hts⟩ (met_X2_read6 l dC dI cyI cyO cyL (x 4) (x 5) fs an b0 b1 b2 b3 b4 b5 _ N nv v0 v1 v2 v3 v4 v5 (((X_oldestSaved xv) + ((X_savedCount xv) - (1 : Int32))) - ((X_oldestSaved xv) + ((X_savedCount xv) - (1 : Int32))) / (6 : Int32) * (6 : Int32)) hs0 hs1 hs2 hs3 hs4 hs5 o2 h3) (cwV 2 hts (gV w_methodLink_X5_201 w_instanceMethod_X2_read w_selects_X2_read w_initialized_X2 w_code_X2_read) rfl rfl rfl (by decide +kernel) ⟨Nat.le_of_ble_eq_true rfl, Nat.le_of_ble_eq_true rfl⟩) (va_recv hK.1 hP (ci := 2) (q0 := 4) rfl rfl) hP hD hK (seg_perm (n := 14) (R := [(cXo x an tr (X_set_savedCount xv ((X_savedCount xv) - (1 : Int32)))), (cH cyO (x 1) (x 2) 2 fl), (cXk cyI x (X_set_savedCount xv ((X_savedCount xv) - (1 : Int32)))), (cT cyI x (X_text (X_set_savedCount xv ((X_savedCount xv) - (1 : Int32)))))]) (C := [(cH cyO (x 4) (x 5) 6 fs), (cSo an nv), (cG cyI an (S_green nv)), (cV cyI an (S_score nv)), (cS cyI b0 v0), (cS cyI b1 v1), (cS cyI b2 v2), (cS cyI b3 v3), (cS cyI b4 v4), (cS cyI b5 v5)]) [0, 1, 2, 4] [3, 5, 6, 7, 8, 9, 10, 11, 12, 13] rfl rfl rfl (by decide) rfl) rfl hl.1 (Nat.le_of_ble_eq_true rfl) dX5_undo_47 ⟨Nat.le_of_ble_eq_true rfl, Nat.le_of_ble_eq_true rfl⟩ hS hA (fun u H locs hw hP hD hS => ?_)
    have hw := hw.symm
    subst hw
    have hq := seg_permS (segs := [(cXo x an tr (X_set_savedCount xv ((X_savedCount xv) - (1 : Int32)))), (cH cyO (x 1) (x 2) 2 fl), (cXk cyI x (X_set_savedCount xv ((X_savedCount xv) - (1 : Int32)))), (cH cyO (x 4) (x 5) 6 fs), (cT cyI x (X_text (X_set_savedCount xv ((X_savedCount xv) - (1 : Int32))))), (cSo an o2.1), (cG cyI an (S_green o2.1)), (cV cyI an (S_score o2.1)), (cS cyI b0 o2.2.1), (cS cyI b1 o2.2.2.1), (cS cyI b2 o2.2.2.2.1), (cS cyI b3 o2.2.2.2.2.1), (cS cyI b4 o2.2.2.2.2.2.1), (cS cyI b5 o2.2.2.2.2.2.2)]) (R := [(cXo x an tr (X_set_savedCount xv ((X_savedCount xv) - (1 : Int32)))), (cH cyO (x 1) (x 2) 2 fl), (cXk cyI x (X_set_savedCount xv ((X_savedCount xv) - (1 : Int32)))), (cT cyI x (X_text (X_set_savedCount xv ((X_savedCount xv) - (1 : Int32)))))]) (C := [(cH cyO (x 4) (x 5) 6 fs), (cSo an o2.1), (cG cyI an (S_green o2.1)), (cV cyI an (S_score o2.1)), (cS cyI b0 o2.2.1), (cS cyI b1 o2.2.2.1), (cS cyI b2 o2.2.2.2.1), (cS cyI b3 o2.2.2.2.2.1), (cS cyI b4 o2.2.2.2.2.2.1), (cS cyI b5 o2.2.2.2.2.2.2)]) (n := 14) [0, 1, 2, 4] [3, 5, 6, 7, 8, 9, 10, 11, 12, 13] rfl rfl rfl (by decide)
    have hP : va_P (dC, dI) vwCl (([(cXo x an tr (X_set_savedCount xv ((X_savedCount xv) - (1 : Int32)))), (cH cyO (x 1) (x 2) 2 fl), (cXk cyI x (X_set_savedCount xv ((X_savedCount xv) - (1 : Int32)))), (cH cyO (x 4) (x 5) 6 fs), (cT cyI x (X_text (X_set_savedCount xv ((X_savedCount xv) - (1 : Int32))))), (cSo an o2.1), (cG cyI an (S_green o2.1)), (cV cyI an (S_score o2.1)), (cS cyI b0 o2.2.1), (cS cyI b1 o2.2.2.1), (cS cyI b2 o2.2.2.2.1), (cS cyI b3 o2.2.2.2.2.1), (cS cyI b4 o2.2.2.2.2.2.1), (cS cyI b5 o2.2.2.2.2.2.2)] : List va_W).flatten) H := hP.perm hq
    have hD : va_D A (([(cXo x an tr (X_set_savedCount xv ((X_savedCount xv) - (1 : Int32)))), (cH cyO (x 1) (x 2) 2 fl), (cXk cyI x (X_set_savedCount xv ((X_savedCount xv) - (1 : Int32)))), (cH cyO (x 4) (x 5) 6 fs), (cT cyI x (X_text (X_set_savedCount xv ((X_savedCount xv) - (1 : Int32))))), (cSo an o2.1), (cG cyI an (S_green o2.1)), (cV cyI an (S_score o2.1)), (cS cyI b0 o2.2.1), (cS cyI b1 o2.2.2.1), (cS cyI b2 o2.2.2.2.1), (cS cyI b3 o2.2.2.2.2.1), (cS cyI b4 o2.2.2.2.2.2.1), (cS cyI b5 o2.2.2.2.2.2.2)] : List va_W).flatten) := hD.perm hq
    clear hq
    refine vx_ret ?_
    refine W.widen (k := 1) (n := 6) (Nat.le_of_ble_eq_true rfl) (Nat.le_of_ble_eq_true rfl) ?_
    exact W.vret hx hb hr (fun t ht hW => ⟨⟨_, rfl, Option.some.inj hF, by rw [ht]; exact hP, hD⟩, hS.F ht⟩) hS.2.2 dX5_undo_50
  · have hF := itn c1 hF
    have hF9 : ((Sum.inl 1 : Nat ⊕ Unit), (xv, nv, v0, v1, v2, v3, v4, v5)) = out := Option.some.inj hF
    exact thrW_1 (w1 := fun (u : XV × SV × SV × SV × SV × SV × SV × SV) => (([(cXo x an tr u.1), (cH cyO (x 1) (x 2) 2 fl), (cXk cyI x u.1), (cH cyO (x 4) (x 5) 6 fs), (cT cyI x (X_text u.1)), (cSo an u.2.1), (cG cyI an (S_green u.2.1)), (cV cyI an (S_score u.2.1)), (cS cyI b0 u.2.2.1), (cS cyI b1 u.2.2.2.1), (cS cyI b2 u.2.2.2.2.1), (cS cyI b3 u.2.2.2.2.2.1), (cS cyI b4 u.2.2.2.2.2.2.1), (cS cyI b5 u.2.2.2.2.2.2.2)] : List va_W).flatten)) (v := (xv, nv, v0, v1, v2, v3, v4, v5)) hF9 hP hD hx hb hst (is := 204) (text := "no state is saved") hown hts hZ hAz hS (hl.1.trans hml.symm) (by decide) dX5_undo_7 dX5_undo_10 dX5_undo_11 dX5_undo_13 dX5_undo_16 htx (Nat.le_of_ble_eq_true rfl) (Nat.le_of_ble_eq_true rfl) (Nat.le_of_ble_eq_true rfl) (Nat.le_of_ble_eq_true rfl) hlocks (Nat.le_of_ble_eq_true rfl) (Nat.le_of_ble_eq_true rfl)
theorem dX5_keep_0 : decode cX5_keep 0 = .ok (.iload_n 1, 1) := by decide +kernel
theorem dX5_keep_1 : decode cX5_keep 1 = .ok (.ifCond .lt 8, 3) := by decide +kernel
theorem dX5_keep_4 : decode cX5_keep 4 = .ok (.iload_n 1, 1) := by decide +kernel
theorem dX5_keep_5 : decode cX5_keep 5 = .ok (.iconst 2, 1) := by decide +kernel
theorem dX5_keep_6 : decode cX5_keep 6 = .ok (.if_icmp .lt 13, 3) := by decide +kernel
theorem dX5_keep_9 : decode cX5_keep 9 = .ok (.new 49, 3) := by decide +kernel
theorem dX5_keep_12 : decode cX5_keep 12 = .ok (.dup, 1) := by decide +kernel
theorem dX5_keep_13 : decode cX5_keep 13 = .ok (.ldc 185, 2) := by decide +kernel
theorem dX5_keep_15 : decode cX5_keep 15 = .ok (.invokespecial 53, 3) := by decide +kernel
theorem dX5_keep_18 : decode cX5_keep 18 = .ok (.athrow, 1) := by decide +kernel
theorem dX5_keep_19 : decode cX5_keep 19 = .ok (.aload_n 0, 1) := by decide +kernel
theorem dX5_keep_20 : decode cX5_keep 20 = .ok (.getfield 24, 3) := by decide +kernel
theorem dX5_keep_23 : decode cX5_keep 23 = .ok (.iload_n 1, 1) := by decide +kernel
theorem dX5_keep_24 : decode cX5_keep 24 = .ok (.aload_n 0, 1) := by decide +kernel
theorem dX5_keep_25 : decode cX5_keep 25 = .ok (.getfield 12, 3) := by decide +kernel
theorem dX5_keep_28 : decode cX5_keep 28 = .ok (.invokevirtual 187, 3) := by decide +kernel
theorem dX5_keep_31 : decode cX5_keep 31 = .ok (.aload_n 0, 1) := by decide +kernel
theorem dX5_keep_32 : decode cX5_keep 32 = .ok (.getfield 28, 3) := by decide +kernel
theorem dX5_keep_35 : decode cX5_keep 35 = .ok (.iload_n 1, 1) := by decide +kernel
theorem dX5_keep_36 : decode cX5_keep 36 = .ok (.iconst 1, 1) := by decide +kernel
theorem dX5_keep_37 : decode cX5_keep 37 = .ok (.invokestatic 191, 3) := by decide +kernel
theorem dX5_keep_40 : decode cX5_keep 40 = .ok (.return_, 1) := by decide +kernel
def f_X5_keep (N : Nat) (xv : XV) (nv : SV) (w0 : SV) (w1 : SV) (p1 : Int32) : Option ((Nat ⊕ Unit) × (XV × SV × SV × SV)) :=
  jn (fun (s9 : Unit) => some (Sum.inl 0, (xv, nv, w0, w1))) (fun (j9 : (Unit) → Option ((Nat ⊕ Unit) × (XV × SV × SV × SV))) => (if p1 < 0 then j9 () else (if p1 < (2 : Int32) then (f_X2_write2 N nv w0 w1 p1).bind (fun o3 => (f_X5_put N 2 (X_slotsTaken xv) p1 (1 : Int32)).bind (fun o5 => some (Sum.inr (), ((X_set_slotsTaken xv o5), o3.1, o3.2.1, o3.2.2)))) else j9 ())))
set_option maxHeartbeats 4000000 in
set_option maxRecDepth 100000 in
theorem met_X5_keep (l : Launch) (z0 : Nat) (hst : l.stackTraces = false) (dC : Nat → ClassId) (dI : Nat → Nat → Nat) (cyI cyO cyL : ClassId) (x : Nat → Nat) (tr : Nat → Nat) (an : Nat → Nat) (k0 : Nat → Nat) (k1 : Nat → Nat) (fl fs : Nat → Option Nat) (sz : Nat) (N : Nat) (xv : XV) (nv : SV) (w0 : SV) (w1 : SV) (p1 : Int32) (hl0 : fl 0 = some (k0 0)) (hl1 : fl 1 = some (k1 0)) (out : (Nat ⊕ Unit) × (XV × SV × SV × SV)) (hF : f_X5_keep N xv nv w0 w1 p1 = some out) : vx_Met l yX5_keep (Cond.code yX5_keep cX5_keep 2 none :: wT) ({ frames := 6, cells := 1, slots := 6, locals := 87 } : Room) (wWrX z0 dC dI cyI cyO cyL [.ref (x 0), .int p1] (([(cXo x an tr xv), (cH cyO (x 1) (x 2) 2 fl), (cXk cyI x xv), (cH cyO (x 4) (x 5) 6 fs), (cT cyI x (X_text xv)), (cSo an nv), (cG cyI an (S_green nv)), (cV cyI an (S_score nv)), (cS cyI k0 w0), (cS cyI k1 w1)] : List va_W).flatten) sz) (va_Qv (fun (u : XV × SV × SV × SV) => ((Sum.inr () : Nat ⊕ Unit), u) = out) (fun u t => va_P (dC, dI) vwCl (([(cXo x an tr u.1), (cH cyO (x 1) (x 2) 2 fl), (cXk cyI x u.1), (cH cyO (x 4) (x 5) 6 fs), (cT cyI x (X_text u.1)), (cSo an u.2.1), (cG cyI an (S_green u.2.1)), (cV cyI an (S_score u.2.1)), (cS cyI k0 u.2.2.1), (cS cyI k1 u.2.2.2)] : List va_W).flatten) t.heap ∧ va_D (va_A (([(cXo x an tr xv), (cH cyO (x 1) (x 2) 2 fl), (cXk cyI x xv), (cH cyO (x 4) (x 5) 6 fs), (cT cyI x (X_text xv)), (cSo an nv), (cG cyI an (S_green nv)), (cV cyI an (S_score nv)), (cS cyI k0 w0), (cS cyI k1 w1)] : List va_W).flatten) sz) (([(cXo x an tr u.1), (cH cyO (x 1) (x 2) 2 fl), (cXk cyI x u.1), (cH cyO (x 4) (x 5) 6 fs), (cT cyI x (X_text u.1)), (cSo an u.2.1), (cG cyI an (S_green u.2.1)), (cV cyI an (S_score u.2.1)), (cS cyI k0 u.2.2.1), (cS cyI k1 u.2.2.2)] : List va_W).flatten)) (va_A (([(cXo x an tr xv), (cH cyO (x 1) (x 2) 2 fl), (cXk cyI x xv), (cH cyO (x 4) (x 5) 6 fs), (cT cyI x (X_text xv)), (cSo an nv), (cG cyI an (S_green nv)), (cV cyI an (S_score nv)), (cS cyI k0 w0), (cS cyI k1 w1)] : List va_W).flatten) sz)) (xcW dC dI Unit (fun (u : XV × SV × SV × SV) => (([(cXo x an tr u.1), (cH cyO (x 1) (x 2) 2 fl), (cXk cyI x u.1), (cH cyO (x 4) (x 5) 6 fs), (cT cyI x (X_text u.1)), (cSo an u.2.1), (cG cyI an (S_green u.2.1)), (cV cyI an (S_score u.2.1)), (cS cyI k0 u.2.2.1), (cS cyI k1 u.2.2.2)] : List va_W).flatten)) (va_A (([(cXo x an tr xv), (cH cyO (x 1) (x 2) 2 fl), (cXk cyI x xv), (cH cyO (x 4) (x 5) 6 fs), (cT cyI x (X_text xv)), (cSo an nv), (cG cyI an (S_green nv)), (cV cyI an (S_score nv)), (cS cyI k0 w0), (cS cyI k1 w1)] : List va_W).flatten) sz) out) 1 6 (va_A (([(cXo x an tr xv), (cH cyO (x 1) (x 2) 2 fl), (cXk cyI x xv), (cH cyO (x 4) (x 5) 6 fs), (cT cyI x (X_text xv)), (cSo an nv), (cG cyI an (S_green nv)), (cV cyI an (S_score nv)), (cS cyI k0 w0), (cS cyI k1 w1)] : List va_W).flatten) sz) := by
  refine vx_ofW (cc := cX5_keep) (maxL := 2) (ret := none) (by decide) rfl ?_
  intro p e s m args below meth c s₁ B hml htx hv
  obtain ⟨rfl, hsz, hP, hK, hD0, hz0, hZ⟩ := hv
  have hx := B.exec
  have hb := B.bytes
  have hr := B.returns
  have hts0 := atoms_spec (ws := (Cond.code yX5_keep cX5_keep 2 none :: wT)) B.pre
  have hts := fun w h => hts0 w (List.mem_cons_of_mem _ h)
  clear hts0
  have hown : s.vm.findClass RX5 = some m.cls := findClass_of_methodNamed B.named
  have hlocks := B.notSynchronized
  subst hsz
  have hD := hD0.self (sz := s.heap.size)
  have hAz := wA_ge hD0 hz0
  generalize hAe : va_A (([(cXo x an tr xv), (cH cyO (x 1) (x 2) 2 fl), (cXk cyI x xv), (cH cyO (x 4) (x 5) 6 fs), (cT cyI x (X_text xv)), (cSo an nv), (cG cyI an (S_green nv)), (cV cyI an (S_score nv)), (cS cyI k0 w0), (cS cyI k1 w1)] : List va_W).flatten) s.heap.size = A at hD hAz ⊢
  have hA : ∀ q : Nat, s.heap.size ≤ q → A q := fun q h => by rw [← hAe]; exact Or.inr h
  clear hD0
  have hS : va_S A s.heap s.heap [] := va_S.rf
  have hl := lv_entry [.ref (x 0), .int p1] (n := 2) (Nat.le_of_ble_eq_true rfl)
  rw [lg_entry_eq]
  generalize (lg_sl [.ref (x 0), .int p1] ++ List.replicate (2 - (lg_sl [.ref (x 0), .int p1]).length) Slot.unset).toArray = ls at hl ⊢
  have hl : lv_has ls 2 [(0, .ref (x 0)), (1, .int p1)] := hl
  unfold f_X5_keep at hF
  refine lv_iload_n hx hb dX5_keep_0 rfl (lv_at hl 1 rfl) ?_
  obtain ⟨j9, hj9, hF⟩ := jn_use hF
  have hJ9 : ∀ (s9 : Unit) (H : Heap) (locs : List Loc) (ls : Array Slot), va_P (dC, dI) vwCl (([(cXo x an tr xv), (cH cyO (x 1) (x 2) 2 fl), (cXk cyI x xv), (cH cyO (x 4) (x 5) 6 fs), (cT cyI x (X_text xv)), (cSo an nv), (cG cyI an (S_green nv)), (cV cyI an (S_score nv)), (cS cyI k0 w0), (cS cyI k1 w1)] : List va_W).flatten) H → va_D A (([(cXo x an tr xv), (cH cyO (x 1) (x 2) 2 fl), (cXk cyI x xv), (cH cyO (x 4) (x 5) 6 fs), (cT cyI x (X_text xv)), (cSo an nv), (cG cyI an (S_green nv)), (cV cyI an (S_score nv)), (cS cyI k0 w0), (cS cyI k1 w1)] : List va_W).flatten) → va_S A s.heap H locs → lv_has ls 2 [] → j9 s9 = some out → W p l e (headSpec (Cond.code yX5_keep cX5_keep 2 none :: wT) ({ frames := 6, cells := 1, slots := 6, locals := 87 } : Room)).room s m ([.ref (x 0), .int p1] : List Value).toArray below meth c H locs 0 0 (vx_MQ below (va_Qv (fun (u : XV × SV × SV × SV) => ((Sum.inr () : Nat ⊕ Unit), u) = out) (fun u t => va_P (dC, dI) vwCl (([(cXo x an tr u.1), (cH cyO (x 1) (x 2) 2 fl), (cXk cyI x u.1), (cH cyO (x 4) (x 5) 6 fs), (cT cyI x (X_text u.1)), (cSo an u.2.1), (cG cyI an (S_green u.2.1)), (cV cyI an (S_score u.2.1)), (cS cyI k0 u.2.2.1), (cS cyI k1 u.2.2.2)] : List va_W).flatten) t.heap ∧ va_D A (([(cXo x an tr u.1), (cH cyO (x 1) (x 2) 2 fl), (cXk cyI x u.1), (cH cyO (x 4) (x 5) 6 fs), (cT cyI x (X_text u.1)), (cSo an u.2.1), (cG cyI an (S_green u.2.1)), (cV cyI an (S_score u.2.1)), (cS cyI k0 u.2.2.1), (cS cyI k1 u.2.2.2)] : List va_W).flatten)) A) (xcW dC dI Unit (fun (u : XV × SV × SV × SV) => (([(cXo x an tr u.1), (cH cyO (x 1) (x 2) 2 fl), (cXk cyI x u.1), (cH cyO (x 4) (x 5) 6 fs), (cT cyI x (X_text u.1)), (cSo an u.2.1), (cG cyI an (S_green u.2.1)), (cV cyI an (S_score u.2.1)), (cS cyI k0 u.2.2.1), (cS cyI k1 u.2.2.2)] : List va_W).flatten)) A out) ([.ref (x 0), .int p1] : List Value).toArray s 1 6 A) (F0 m 9 ls []) := by
    intro s9 H locs ls hP hD hS hl hF
    have hF := (congrFun hj9 s9).symm.trans hF
    have hF9 : ((Sum.inl 0 : Nat ⊕ Unit), (xv, nv, w0, w1)) = out := Option.some.inj hF
    exact thrW_0 (w1 := fun (u : XV × SV × SV × SV) => (([(cXo x an tr u.1), (cH cyO (x 1) (x 2) 2 fl), (cXk cyI x u.1), (cH cyO (x 4) (x 5) 6 fs), (cT cyI x (X_text u.1)), (cSo an u.2.1), (cG cyI an (S_green u.2.1)), (cV cyI an (S_score u.2.1)), (cS cyI k0 u.2.2.1), (cS cyI k1 u.2.2.2)] : List va_W).flatten)) (v := (xv, nv, w0, w1)) hF9 hP hD hx hb hst (is := 185) (text := "slot is out of range") hown hts hZ hAz hS (hl.1.trans hml.symm) (by decide) dX5_keep_9 dX5_keep_12 dX5_keep_13 dX5_keep_15 dX5_keep_18 htx (Nat.le_of_ble_eq_true rfl) (Nat.le_of_ble_eq_true rfl) (Nat.le_of_ble_eq_true rfl) (Nat.le_of_ble_eq_true rfl) hlocks (Nat.le_of_ble_eq_true rfl) (Nat.le_of_ble_eq_true rfl)
  refine lv_if_lt (tgt := 9) hx hb dX5_keep_1 (by decide) (fun c1 => ?_) (fun c1 => ?_)
  · have hF := itp c1 hF
    exact hJ9 () _ _ _ hP hD hS (lv_sub hl [] rfl) hF
  · have hF := itn c1 hF
    refine lv_iload_n hx hb dX5_keep_4 rfl (lv_at hl 1 rfl) ?_
    refine lv_iconst (v := 2) hx hb dX5_keep_5 (by decide) ?_
    refine lv_icmp_lt (tgt := 19) hx hb dX5_keep_6 (by decide) (fun c2 => ?_) (fun c2 => ?_)
    · have hF := itp c2 hF
      refine lv_aload_n hx hb dX5_keep_19 rfl (lv_at hl 0 rfl) ?_
      refine va_get (D := (dC, dI)) (ci := 5) (v := .ref (x 1)) (C := RX5) (T := TX5) (N := 8) hx hb hts inX5 hown hK.1 hP 0 rfl rfl 2 (by decide) (hts _ w_fieldLink_X5_24) (fun _ h9 => h9) rfl dX5_keep_20 ?_
      refine lv_iload_n hx hb dX5_keep_23 rfl (lv_at hl 1 rfl) ?_
      refine lv_aload_n hx hb dX5_keep_24 rfl (lv_at hl 0 rfl) ?_
      refine va_get (D := (dC, dI)) (ci := 5) (v := .ref (an 0)) (C := RX5) (T := TX5) (N := 8) hx hb hts inX5 hown hK.1 hP 0 rfl rfl 0 (by decide) (hts _ w_fieldLink_X5_12) (fun _ h9 => h9) rfl dX5_keep_25 ?_
      obtain ⟨o3, h4, hF⟩ := obd hF
      refine wcPVv (As := [.int p1, .ref (an 0)]) (rest := []) (wr := ([(cXo x an tr xv), (cXk cyI x xv), (cH cyO (x 4) (x 5) 6 fs), (cT cyI x (X_text xv))] : List va_W).flatten) (b := (x 1)) ⟨hx, hb, hml, hown, hts⟩ (met_X2_write2 l dC dI cyI cyO cyL (x 1) (x 2) fl an k0 k1 _ N nv w0 w1 p1 hl0 hl1 o3 h4) (cwV 2 hts (gV w_methodLink_X5_187 w_instanceMethod_X2_write w_selects_X2_write w_initialized_X2 w_code_X2_write) rfl rfl rfl (by decide +kernel) ⟨Nat.le_of_ble_eq_true rfl, Nat.le_of_ble_eq_true rfl⟩) (va_recv hK.1 hP (ci := 2) (q0 := 1) rfl rfl) hP hD hK (seg_perm (n := 10) (R := [(cXo x an tr xv), (cXk cyI x xv), (cH cyO (x 4) (x 5) 6 fs), (cT cyI x (X_text xv))]) (C := [(cH cyO (x 1) (x 2) 2 fl), (cSo an nv), (cG cyI an (S_green nv)), (cV cyI an (S_score nv)), (cS cyI k0 w0), (cS cyI k1 w1)]) [0, 2, 3, 4] [1, 5, 6, 7, 8, 9] rfl rfl rfl (by decide) rfl) rfl hl.1 (Nat.le_of_ble_eq_true rfl) dX5_keep_28 ⟨Nat.le_of_ble_eq_true rfl, Nat.le_of_ble_eq_true rfl⟩ hS hA (fun u H locs hw hP hD hS => ?_)
      have hw := hw.symm
      subst hw
      have hq := seg_permS (segs := [(cXo x an tr xv), (cH cyO (x 1) (x 2) 2 fl), (cXk cyI x xv), (cH cyO (x 4) (x 5) 6 fs), (cT cyI x (X_text xv)), (cSo an o3.1), (cG cyI an (S_green o3.1)), (cV cyI an (S_score o3.1)), (cS cyI k0 o3.2.1), (cS cyI k1 o3.2.2)]) (R := [(cXo x an tr xv), (cXk cyI x xv), (cH cyO (x 4) (x 5) 6 fs), (cT cyI x (X_text xv))]) (C := [(cH cyO (x 1) (x 2) 2 fl), (cSo an o3.1), (cG cyI an (S_green o3.1)), (cV cyI an (S_score o3.1)), (cS cyI k0 o3.2.1), (cS cyI k1 o3.2.2)]) (n := 10) [0, 2, 3, 4] [1, 5, 6, 7, 8, 9] rfl rfl rfl (by decide)
      have hP : va_P (dC, dI) vwCl (([(cXo x an tr xv), (cH cyO (x 1) (x 2) 2 fl), (cXk cyI x xv), (cH cyO (x 4) (x 5) 6 fs), (cT cyI x (X_text xv)), (cSo an o3.1), (cG cyI an (S_green o3.1)), (cV cyI an (S_score o3.1)), (cS cyI k0 o3.2.1), (cS cyI k1 o3.2.2)] : List va_W).flatten) H := hP.perm hq
      have hD : va_D A (([(cXo x an tr xv), (cH cyO (x 1) (x 2) 2 fl), (cXk cyI x xv), (cH cyO (x 4) (x 5) 6 fs), (cT cyI x (X_text xv)), (cSo an o3.1), (cG cyI an (S_green o3.1)), (cV cyI an (S_score o3.1)), (cS cyI k0 o3.2.1), (cS cyI k1 o3.2.2)] : List va_W).flatten) := hD.perm hq
      clear hq
      refine lv_aload_n hx hb dX5_keep_31 rfl (lv_at hl 0 rfl) ?_
      refine va_get (D := (dC, dI)) (ci := 5) (v := .ref (x 3)) (C := RX5) (T := TX5) (N := 8) hx hb hts inX5 hown hK.1 hP 0 rfl rfl 3 (by decide) (hts _ w_fieldLink_X5_28) (fun _ h9 => h9) rfl dX5_keep_32 ?_
      refine lv_iload_n hx hb dX5_keep_35 rfl (lv_at hl 1 rfl) ?_
      refine lv_iconst (v := 1) hx hb dX5_keep_36 (by decide) ?_
      obtain ⟨o5, h6, hF⟩ := obd hF
      refine wcPSv (As := [.ref (x 3), .int p1, .int (1 : Int32)]) (rest := []) (wr := ([(cXo x an tr xv), (cH cyO (x 1) (x 2) 2 fl), (cH cyO (x 4) (x 5) 6 fs), (cT cyI x (X_text xv)), (cSo an o3.1), (cG cyI an (S_green o3.1)), (cV cyI an (S_score o3.1)), (cS cyI k0 o3.2.1), (cS cyI k1 o3.2.2)] : List va_W).flatten) ⟨hx, hb, hml, hown, hts⟩ (met_X5_put l dC dI cyI cyO cyL (x 3) 2 _ N (X_slotsTaken xv) p1 (1 : Int32) o5 h6) (va_cwS 3 hts (gS w_methodLink_X5_191 w_static_X5_put w_initialized_X5 w_code_X5_put) rfl rfl rfl (by decide +kernel) ⟨Nat.le_of_ble_eq_true rfl, Nat.le_of_ble_eq_true rfl⟩) hP hD hK (seg_perm (n := 10) (R := [(cXo x an tr xv), (cH cyO (x 1) (x 2) 2 fl), (cH cyO (x 4) (x 5) 6 fs), (cT cyI x (X_text xv)), (cSo an o3.1), (cG cyI an (S_green o3.1)), (cV cyI an (S_score o3.1)), (cS cyI k0 o3.2.1), (cS cyI k1 o3.2.2)]) (C := [(cXk cyI x xv)]) [0, 1, 3, 4, 5, 6, 7, 8, 9] [2] rfl rfl rfl (by decide) rfl) rfl hl.1 (Nat.le_of_ble_eq_true rfl) dX5_keep_37 ⟨Nat.le_of_ble_eq_true rfl, Nat.le_of_ble_eq_true rfl⟩ hS hA (fun u H locs hw hP hD hS => ?_)
      have hw := hw.symm
      subst hw
      have hq := seg_permS (segs := [(cXo x an tr (X_set_slotsTaken xv o5)), (cH cyO (x 1) (x 2) 2 fl), (cXk cyI x (X_set_slotsTaken xv o5)), (cH cyO (x 4) (x 5) 6 fs), (cT cyI x (X_text (X_set_slotsTaken xv o5))), (cSo an o3.1), (cG cyI an (S_green o3.1)), (cV cyI an (S_score o3.1)), (cS cyI k0 o3.2.1), (cS cyI k1 o3.2.2)]) (R := [(cXo x an tr xv), (cH cyO (x 1) (x 2) 2 fl), (cH cyO (x 4) (x 5) 6 fs), (cT cyI x (X_text xv)), (cSo an o3.1), (cG cyI an (S_green o3.1)), (cV cyI an (S_score o3.1)), (cS cyI k0 o3.2.1), (cS cyI k1 o3.2.2)]) (C := [(cXk cyI x (X_set_slotsTaken xv o5))]) (n := 10) [0, 1, 3, 4, 5, 6, 7, 8, 9] [2] rfl rfl rfl (by decide)
      have hP : va_P (dC, dI) vwCl (([(cXo x an tr (X_set_slotsTaken xv o5)), (cH cyO (x 1) (x 2) 2 fl), (cXk cyI x (X_set_slotsTaken xv o5)), (cH cyO (x 4) (x 5) 6 fs), (cT cyI x (X_text (X_set_slotsTaken xv o5))), (cSo an o3.1), (cG cyI an (S_green o3.1)), (cV cyI an (S_score o3.1)), (cS cyI k0 o3.2.1), (cS cyI k1 o3.2.2)] : List va_W).flatten) H := hP.perm hq
      have hD : va_D A (([(cXo x an tr (X_set_slotsTaken xv o5)), (cH cyO (x 1) (x 2) 2 fl), (cXk cyI x (X_set_slotsTaken xv o5)), (cH cyO (x 4) (x 5) 6 fs), (cT cyI x (X_text (X_set_slotsTaken xv o5))), (cSo an o3.1), (cG cyI an (S_green o3.1)), (cV cyI an (S_score o3.1)), (cS cyI k0 o3.2.1), (cS cyI k1 o3.2.2)] : List va_W).flatten) := hD.perm hq
      clear hq
      refine vx_ret ?_
      refine W.widen (k := 1) (n := 6) (Nat.le_of_ble_eq_true rfl) (Nat.le_of_ble_eq_true rfl) ?_
      exact W.vret hx hb hr (fun t ht hW => ⟨⟨_, rfl, Option.some.inj hF, by rw [ht]; exact hP, hD⟩, hS.F ht⟩) hS.2.2 dX5_keep_40
    · have hF := itn c2 hF
      exact hJ9 () _ _ _ hP hD hS (lv_sub hl [] rfl) hF
theorem dX5_goBack_0 : decode cX5_goBack 0 = .ok (.iload_n 1, 1) := by decide +kernel
theorem dX5_goBack_1 : decode cX5_goBack 1 = .ok (.ifCond .lt 8, 3) := by decide +kernel
theorem dX5_goBack_4 : decode cX5_goBack 4 = .ok (.iload_n 1, 1) := by decide +kernel
theorem dX5_goBack_5 : decode cX5_goBack 5 = .ok (.iconst 2, 1) := by decide +kernel
theorem dX5_goBack_6 : decode cX5_goBack 6 = .ok (.if_icmp .lt 13, 3) := by decide +kernel
theorem dX5_goBack_9 : decode cX5_goBack 9 = .ok (.new 49, 3) := by decide +kernel
theorem dX5_goBack_12 : decode cX5_goBack 12 = .ok (.dup, 1) := by decide +kernel
theorem dX5_goBack_13 : decode cX5_goBack 13 = .ok (.ldc 185, 2) := by decide +kernel
theorem dX5_goBack_15 : decode cX5_goBack 15 = .ok (.invokespecial 53, 3) := by decide +kernel
theorem dX5_goBack_18 : decode cX5_goBack 18 = .ok (.athrow, 1) := by decide +kernel
theorem dX5_goBack_19 : decode cX5_goBack 19 = .ok (.aload_n 0, 1) := by decide +kernel
theorem dX5_goBack_20 : decode cX5_goBack 20 = .ok (.getfield 28, 3) := by decide +kernel
theorem dX5_goBack_23 : decode cX5_goBack 23 = .ok (.iload_n 1, 1) := by decide +kernel
theorem dX5_goBack_24 : decode cX5_goBack 24 = .ok (.invokestatic 195, 3) := by decide +kernel
theorem dX5_goBack_27 : decode cX5_goBack 27 = .ok (.ifCond .ne 13, 3) := by decide +kernel
theorem dX5_goBack_30 : decode cX5_goBack 30 = .ok (.new 60, 3) := by decide +kernel
theorem dX5_goBack_33 : decode cX5_goBack 33 = .ok (.dup, 1) := by decide +kernel
theorem dX5_goBack_34 : decode cX5_goBack 34 = .ok (.ldc 199, 2) := by decide +kernel
theorem dX5_goBack_36 : decode cX5_goBack 36 = .ok (.invokespecial 64, 3) := by decide +kernel
theorem dX5_goBack_39 : decode cX5_goBack 39 = .ok (.athrow, 1) := by decide +kernel
theorem dX5_goBack_40 : decode cX5_goBack 40 = .ok (.aload_n 0, 1) := by decide +kernel
theorem dX5_goBack_41 : decode cX5_goBack 41 = .ok (.invokevirtual 65, 3) := by decide +kernel
theorem dX5_goBack_44 : decode cX5_goBack 44 = .ok (.aload_n 0, 1) := by decide +kernel
theorem dX5_goBack_45 : decode cX5_goBack 45 = .ok (.getfield 24, 3) := by decide +kernel
theorem dX5_goBack_48 : decode cX5_goBack 48 = .ok (.iload_n 1, 1) := by decide +kernel
theorem dX5_goBack_49 : decode cX5_goBack 49 = .ok (.aload_n 0, 1) := by decide +kernel
theorem dX5_goBack_50 : decode cX5_goBack 50 = .ok (.getfield 12, 3) := by decide +kernel
theorem dX5_goBack_53 : decode cX5_goBack 53 = .ok (.invokevirtual 201, 3) := by decide +kernel
theorem dX5_goBack_56 : decode cX5_goBack 56 = .ok (.return_, 1) := by decide +kernel
def f_X5_goBack (N : Nat) (xv : XV) (nv : SV) (w0 : SV) (w1 : SV) (v0 : SV) (v1 : SV) (v2 : SV) (v3 : SV) (v4 : SV) (v5 : SV) (p1 : Int32) : Option ((Nat ⊕ Unit) × (XV × SV × SV × SV × SV × SV × SV × SV × SV × SV)) :=
  jn (fun (s9 : Unit) => some (Sum.inl 0, (xv, nv, w0, w1, v0, v1, v2, v3, v4, v5))) (fun (j9 : (Unit) → Option ((Nat ⊕ Unit) × (XV × SV × SV × SV × SV × SV × SV × SV × SV × SV))) => (if p1 < 0 then j9 () else (if p1 < (2 : Int32) then (f_X5_at N 2 (X_slotsTaken xv) p1).bind (fun o3 => (if o3 = 0 then some (Sum.inl 1, (xv, nv, w0, w1, v0, v1, v2, v3, v4, v5)) else (f_X5_saveState N xv nv v0 v1 v2 v3 v4 v5).bind (fun o6 => (f_X2_read2 N o6.2.1 w0 w1 p1).bind (fun o8 => some (Sum.inr (), (o6.1, o8.1, o8.2.1, o8.2.2, o6.2.2.1, o6.2.2.2.1, o6.2.2.2.2.1, o6.2.2.2.2.2.1, o6.2.2.2.2.2.2.1, o6.2.2.2.2.2.2.2)))))) else j9 ())))
set_option maxHeartbeats 4000000 in
set_option maxRecDepth 100000 in
theorem met_X5_goBack (l : Launch) (z0 : Nat) (hst : l.stackTraces = false) (dC : Nat → ClassId) (dI : Nat → Nat → Nat) (cyI cyO cyL : ClassId) (x : Nat → Nat) (tr : Nat → Nat) (an : Nat → Nat) (k0 : Nat → Nat) (k1 : Nat → Nat) (b0 : Nat → Nat) (b1 : Nat → Nat) (b2 : Nat → Nat) (b3 : Nat → Nat) (b4 : Nat → Nat) (b5 : Nat → Nat) (fl fs : Nat → Option Nat) (sz : Nat) (N : Nat) (xv : XV) (nv : SV) (w0 : SV) (w1 : SV) (v0 : SV) (v1 : SV) (v2 : SV) (v3 : SV) (v4 : SV) (v5 : SV) (p1 : Int32) (hl0 : fl 0 = some (k0 0)) (hl1 : fl 1 = some (k1 0)) (hs0 : fs 0 = some (b0 0)) (hs1 : fs 1 = some (b1 0)) (hs2 : fs 2 = some (b2 0)) (hs3 : fs 3 = some (b3 0)) (hs4 : fs 4 = some (b4 0)) (hs5 : fs 5 = some (b5 0)) (out : (Nat ⊕ Unit) × (XV × SV × SV × SV × SV × SV × SV × SV × SV × SV)) (hF : f_X5_goBack N xv nv w0 w1 v0 v1 v2 v3 v4 v5 p1 = some out) : vx_Met l yX5_goBack (Cond.code yX5_goBack cX5_goBack 2 none :: wT) ({ frames := 6, cells := 1, slots := 6, locals := 107 } : Room) (wWrX z0 dC dI cyI cyO cyL [.ref (x 0), .int p1] (([(cXo x an tr xv), (cH cyO (x 1) (x 2) 2 fl), (cXk cyI x xv), (cH cyO (x 4) (x 5) 6 fs), (cT cyI x (X_text xv)), (cSo an nv), (cG cyI an (S_green nv)), (cV cyI an (S_score nv)), (cS cyI k0 w0), (cS cyI k1 w1), (cS cyI b0 v0), (cS cyI b1 v1), (cS cyI b2 v2), (cS cyI b3 v3), (cS cyI b4 v4), (cS cyI b5 v5)] : List va_W).flatten) sz) (va_Qv (fun (u : XV × SV × SV × SV × SV × SV × SV × SV × SV × SV) => ((Sum.inr () : Nat ⊕ Unit), u) = out) (fun u t => va_P (dC, dI) vwCl (([(cXo x an tr u.1), (cH cyO (x 1) (x 2) 2 fl), (cXk cyI x u.1), (cH cyO (x 4) (x 5) 6 fs), (cT cyI x (X_text u.1)), (cSo an u.2.1), (cG cyI an (S_green u.2.1)), (cV cyI an (S_score u.2.1)), (cS cyI k0 u.2.2.1), (cS cyI k1 u.2.2.2.1), (cS cyI b0 u.2.2.2.2.1), (cS cyI b1 u.2.2.2.2.2.1), (cS cyI b2 u.2.2.2.2.2.2.1), (cS cyI b3 u.2.2.2.2.2.2.2.1), (cS cyI b4 u.2.2.2.2.2.2.2.2.1), (cS cyI b5 u.2.2.2.2.2.2.2.2.2)] : List va_W).flatten) t.heap ∧ va_D (va_A (([(cXo x an tr xv), (cH cyO (x 1) (x 2) 2 fl), (cXk cyI x xv), (cH cyO (x 4) (x 5) 6 fs), (cT cyI x (X_text xv)), (cSo an nv), (cG cyI an (S_green nv)), (cV cyI an (S_score nv)), (cS cyI k0 w0), (cS cyI k1 w1), (cS cyI b0 v0), (cS cyI b1 v1), (cS cyI b2 v2), (cS cyI b3 v3), (cS cyI b4 v4), (cS cyI b5 v5)] : List va_W).flatten) sz) (([(cXo x an tr u.1), (cH cyO (x 1) (x 2) 2 fl), (cXk cyI x u.1), (cH cyO (x 4) (x 5) 6 fs), (cT cyI x (X_text u.1)), (cSo an u.2.1), (cG cyI an (S_green u.2.1)), (cV cyI an (S_score u.2.1)), (cS cyI k0 u.2.2.1), (cS cyI k1 u.2.2.2.1), (cS cyI b0 u.2.2.2.2.1), (cS cyI b1 u.2.2.2.2.2.1), (cS cyI b2 u.2.2.2.2.2.2.1), (cS cyI b3 u.2.2.2.2.2.2.2.1), (cS cyI b4 u.2.2.2.2.2.2.2.2.1), (cS cyI b5 u.2.2.2.2.2.2.2.2.2)] : List va_W).flatten)) (va_A (([(cXo x an tr xv), (cH cyO (x 1) (x 2) 2 fl), (cXk cyI x xv), (cH cyO (x 4) (x 5) 6 fs), (cT cyI x (X_text xv)), (cSo an nv), (cG cyI an (S_green nv)), (cV cyI an (S_score nv)), (cS cyI k0 w0), (cS cyI k1 w1), (cS cyI b0 v0), (cS cyI b1 v1), (cS cyI b2 v2), (cS cyI b3 v3), (cS cyI b4 v4), (cS cyI b5 v5)] : List va_W).flatten) sz)) (xcW dC dI Unit (fun (u : XV × SV × SV × SV × SV × SV × SV × SV × SV × SV) => (([(cXo x an tr u.1), (cH cyO (x 1) (x 2) 2 fl), (cXk cyI x u.1), (cH cyO (x 4) (x 5) 6 fs), (cT cyI x (X_text u.1)), (cSo an u.2.1), (cG cyI an (S_green u.2.1)), (cV cyI an (S_score u.2.1)), (cS cyI k0 u.2.2.1), (cS cyI k1 u.2.2.2.1), (cS cyI b0 u.2.2.2.2.1), (cS cyI b1 u.2.2.2.2.2.1), (cS cyI b2 u.2.2.2.2.2.2.1), (cS cyI b3 u.2.2.2.2.2.2.2.1), (cS cyI b4 u.2.2.2.2.2.2.2.2.1), (cS cyI b5 u.2.2.2.2.2.2.2.2.2)] : List va_W).flatten)) (va_A (([(cXo x an tr xv), (cH cyO (x 1) (x 2) 2 fl), (cXk cyI x xv), (cH cyO (x 4) (x 5) 6 fs), (cT cyI x (X_text xv)), (cSo an nv), (cG cyI an (S_green nv)), (cV cyI an (S_score nv)), (cS cyI k0 w0), (cS cyI k1 w1), (cS cyI b0 v0), (cS cyI b1 v1), (cS cyI b2 v2), (cS cyI b3 v3), (cS cyI b4 v4), (cS cyI b5 v5)] : List va_W).flatten) sz) out) 1 6 (va_A (([(cXo x an tr xv), (cH cyO (x 1) (x 2) 2 fl), (cXk cyI x xv), (cH cyO (x 4) (x 5) 6 fs), (cT cyI x (X_text xv)), (cSo an nv), (cG cyI an (S_green nv)), (cV cyI an (S_score nv)), (cS cyI k0 w0), (cS cyI k1 w1), (cS cyI b0 v0), (cS cyI b1 v1), (cS cyI b2 v2), (cS cyI b3 v3), (cS cyI b4 v4), (cS cyI b5 v5)] : List va_W).flatten) sz) := by
  refine vx_ofW (cc := cX5_goBack) (maxL := 2) (ret := none) (by decide) rfl ?_
  intro p e s m args below meth c s₁ B hml htx hv
  obtain ⟨rfl, hsz, hP, hK, hD0, hz0, hZ⟩ := hv
  have hx := B.exec
  have hb := B.bytes
  have hr := B.returns
  have hts0 := atoms_spec (ws := (Cond.code yX5_goBack cX5_goBack 2 none :: wT)) B.pre
  have hts := fun w h => hts0 w (List.mem_cons_of_mem _ h)
  clear hts0
  have hown : s.vm.findClass RX5 = some m.cls := findClass_of_methodNamed B.named
  have hlocks := B.notSynchronized
  subst hsz
  have hD := hD0.self (sz := s.heap.size)
  have hAz := wA_ge hD0 hz0
  generalize hAe : va_A (([(cXo x an tr xv), (cH cyO (x 1) (x 2) 2 fl), (cXk cyI x xv), (cH cyO (x 4) (x 5) 6 fs), (cT cyI x (X_text xv)), (cSo an nv), (cG cyI an (S_green nv)), (cV cyI an (S_score nv)), (cS cyI k0 w0), (cS cyI k1 w1), (cS cyI b0 v0), (cS cyI b1 v1), (cS cyI b2 v2), (cS cyI b3 v3), (cS cyI b4 v4), (cS cyI b5 v5)] : List va_W).flatten) s.heap.size = A at hD hAz ⊢
  have hA : ∀ q : Nat, s.heap.size ≤ q → A q := fun q h => by rw [← hAe]; exact Or.inr h
  clear hD0
  have hS : va_S A s.heap s.heap [] := va_S.rf
  have hl := lv_entry [.ref (x 0), .int p1] (n := 2) (Nat.le_of_ble_eq_true rfl)
  rw [lg_entry_eq]
  generalize (lg_sl [.ref (x 0), .int p1] ++ List.replicate (2 - (lg_sl [.ref (x 0), .int p1]).length) Slot.unset).toArray = ls at hl ⊢
  have hl : lv_has ls 2 [(0, .ref (x 0)), (1, .int p1)] := hl
  unfold f_X5_goBack at hF
  refine lv_iload_n hx hb dX5_goBack_0 rfl (lv_at hl 1 rfl) ?_
  obtain ⟨j9, hj9, hF⟩ := jn_use hF
  have hJ9 : ∀ (s9 : Unit) (H : Heap) (locs : List Loc) (ls : Array Slot), va_P (dC, dI) vwCl (([(cXo x an tr xv), (cH cyO (x 1) (x 2) 2 fl), (cXk cyI x xv), (cH cyO (x 4) (x 5) 6 fs), (cT cyI x (X_text xv)), (cSo an nv), (cG cyI an (S_green nv)), (cV cyI an (S_score nv)), (cS cyI k0 w0), (cS cyI k1 w1), (cS cyI b0 v0), (cS cyI b1 v1), (cS cyI b2 v2), (cS cyI b3 v3), (cS cyI b4 v4), (cS cyI b5 v5)] : List va_W).flatten) H → va_D A (([(cXo x an tr xv), (cH cyO (x 1) (x 2) 2 fl), (cXk cyI x xv), (cH cyO (x 4) (x 5) 6 fs), (cT cyI x (X_text xv)), (cSo an nv), (cG cyI an (S_green nv)), (cV cyI an (S_score nv)), (cS cyI k0 w0), (cS cyI k1 w1), (cS cyI b0 v0), (cS cyI b1 v1), (cS cyI b2 v2), (cS cyI b3 v3), (cS cyI b4 v4), (cS cyI b5 v5)] : List va_W).flatten) → va_S A s.heap H locs → lv_has ls 2 [] → j9 s9 = some out → W p l e (headSpec (Cond.code yX5_goBack cX5_goBack 2 none :: wT) ({ frames := 6, cells := 1, slots := 6, locals := 107 } : Room)).room s m ([.ref (x 0), .int p1] : List Value).toArray below meth c H locs 0 0 (vx_MQ below (va_Qv (fun (u : XV × SV × SV × SV × SV × SV × SV × SV × SV × SV) => ((Sum.inr () : Nat ⊕ Unit), u) = out) (fun u t => va_P (dC, dI) vwCl (([(cXo x an tr u.1), (cH cyO (x 1) (x 2) 2 fl), (cXk cyI x u.1), (cH cyO (x 4) (x 5) 6 fs), (cT cyI x (X_text u.1)), (cSo an u.2.1), (cG cyI an (S_green u.2.1)), (cV cyI an (S_score u.2.1)), (cS cyI k0 u.2.2.1), (cS cyI k1 u.2.2.2.1), (cS cyI b0 u.2.2.2.2.1), (cS cyI b1 u.2.2.2.2.2.1), (cS cyI b2 u.2.2.2.2.2.2.1), (cS cyI b3 u.2.2.2.2.2.2.2.1), (cS cyI b4 u.2.2.2.2.2.2.2.2.1), (cS cyI b5 u.2.2.2.2.2.2.2.2.2)] : List va_W).flatten) t.heap ∧ va_D A (([(cXo x an tr u.1), (cH cyO (x 1) (x 2) 2 fl), (cXk cyI x u.1), (cH cyO (x 4) (x 5) 6 fs), (cT cyI x (X_text u.1)), (cSo an u.2.1), (cG cyI an (S_green u.2.1)), (cV cyI an (S_score u.2.1)), (cS cyI k0 u.2.2.1), (cS cyI k1 u.2.2.2.1), (cS cyI b0 u.2.2.2.2.1), (cS cyI b1 u.2.2.2.2.2.1), (cS cyI b2 u.2.2.2.2.2.2.1), (cS cyI b3 u.2.2.2.2.2.2.2.1), (cS cyI b4 u.2.2.2.2.2.2.2.2.1), (cS cyI b5 u.2.2.2.2.2.2.2.2.2)] : List va_W).flatten)) A) (xcW dC dI Unit (fun (u : XV × SV × SV × SV × SV × SV × SV × SV × SV × SV) => (([(cXo x an tr u.1), (cH cyO (x 1) (x 2) 2 fl), (cXk cyI x u.1), (cH cyO (x 4) (x 5) 6 fs), (cT cyI x (X_text u.1)), (cSo an u.2.1), (cG cyI an (S_green u.2.1)), (cV cyI an (S_score u.2.1)), (cS cyI k0 u.2.2.1), (cS cyI k1 u.2.2.2.1), (cS cyI b0 u.2.2.2.2.1), (cS cyI b1 u.2.2.2.2.2.1), (cS cyI b2 u.2.2.2.2.2.2.1), (cS cyI b3 u.2.2.2.2.2.2.2.1), (cS cyI b4 u.2.2.2.2.2.2.2.2.1), (cS cyI b5 u.2.2.2.2.2.2.2.2.2)] : List va_W).flatten)) A out) ([.ref (x 0), .int p1] : List Value).toArray s 1 6 A) (F0 m 9 ls []) := by
    intro s9 H locs ls hP hD hS hl hF
    have hF := (congrFun hj9 s9).symm.trans hF
    have hF9 : ((Sum.inl 0 : Nat ⊕ Unit), (xv, nv, w0, w1, v0, v1, v2, v3, v4, v5)) = out := Option.some.inj hF
    exact thrW_0 (w1 := fun (u : XV × SV × SV × SV × SV × SV × SV × SV × SV × SV) => (([(cXo x an tr u.1), (cH cyO (x 1) (x 2) 2 fl), (cXk cyI x u.1), (cH cyO (x 4) (x 5) 6 fs), (cT cyI x (X_text u.1)), (cSo an u.2.1), (cG cyI an (S_green u.2.1)), (cV cyI an (S_score u.2.1)), (cS cyI k0 u.2.2.1), (cS cyI k1 u.2.2.2.1), (cS cyI b0 u.2.2.2.2.1), (cS cyI b1 u.2.2.2.2.2.1), (cS cyI b2 u.2.2.2.2.2.2.1), (cS cyI b3 u.2.2.2.2.2.2.2.1), (cS cyI b4 u.2.2.2.2.2.2.2.2.1), (cS cyI b5 u.2.2.2.2.2.2.2.2.2)] : List va_W).flatten)) (v := (xv, nv, w0, w1, v0, v1, v2, v3, v4, v5)) hF9 hP hD hx hb hst (is := 185) (text := "slot is out of range") hown hts hZ hAz hS (hl.1.trans hml.symm) (by decide) dX5_goBack_9 dX5_goBack_12 dX5_goBack_13 dX5_goBack_15 dX5_goBack_18 htx (Nat.le_of_ble_eq_true rfl) (Nat.le_of_ble_eq_true rfl) (Nat.le_of_ble_eq_true rfl) (Nat.le_of_ble_eq_true rfl) hlocks (Nat.le_of_ble_eq_true rfl) (Nat.le_of_ble_eq_true rfl)
  refine lv_if_lt (tgt := 9) hx hb dX5_goBack_1 (by decide) (fun c1 => ?_) (fun c1 => ?_)
  · have hF := itp c1 hF
    exact hJ9 () _ _ _ hP hD hS (lv_sub hl [] rfl) hF
  · have hF := itn c1 hF
    refine lv_iload_n hx hb dX5_goBack_4 rfl (lv_at hl 1 rfl) ?_
    refine lv_iconst (v := 2) hx hb dX5_goBack_5 (by decide) ?_
    refine lv_icmp_lt (tgt := 19) hx hb dX5_goBack_6 (by decide) (fun c2 => ?_) (fun c2 => ?_)
    · have hF := itp c2 hF
      refine lv_aload_n hx hb dX5_goBack_19 rfl (lv_at hl 0 rfl) ?_
      refine va_get (D := (dC, dI)) (ci := 5) (v := .ref (x 3)) (C := RX5) (T := TX5) (N := 8) hx hb hts inX5 hown hK.1 hP 0 rfl rfl 3 (by decide) (hts _ w_fieldLink_X5_28) (fun _ h9 => h9) rfl dX5_goBack_20 ?_
      refine lv_iload_n hx hb dX5_goBack_23 rfl (lv_at hl 1 rfl) ?_
      obtain ⟨o3, h4, hF⟩ := obd hF
      refine wcRSi (As := [.ref (x 3), .int p1]) (rest := []) ⟨hx, hb, hml, hown, hts⟩ (met_X5_at l dC dI cyI cyO cyL (x 3) 2 N (X_slotsTaken xv) p1 o3 h4) (va_cwS 2 hts (gS w_methodLink_X5_195 w_static_X5_at w_initialized_X5 w_code_X5_at) rfl rfl rfl (by decide +kernel) ⟨Nat.le_of_ble_eq_true rfl, Nat.le_of_ble_eq_true rfl⟩) hP hK [3] rfl rfl hl.1 (Nat.le_of_ble_eq_true rfl) dX5_goBack_24 ⟨Nat.le_of_ble_eq_true rfl, Nat.le_of_ble_eq_true rfl⟩ hS (fun r H locs hw hP hS => ?_)
      have hw := hw.symm
      subst hw
      refine lv_if_ne (tgt := 40) hx hb dX5_goBack_27 (by decide) (fun c5 => ?_) (fun c5 => ?_)
      · have hF := itn c5 hF
        refine lv_aload_n hx hb dX5_goBack_40 rfl (lv_at hl 0 rfl) ?_
        obtain ⟨o6, h7, hF⟩ := obd hF
        refine wcPVv (As := []) (rest := []) (wr := ([(cS cyI k0 w0), (cS cyI k1 w1)] : List va_W).flatten) (b := (x 0)) ⟨hx, hb, hml, hown, hts⟩ (met_X5_saveState l dC dI cyI cyO cyL x tr an b0 b1 b2 b3 b4 b5 fl fs _ N xv nv v0 v1 v2 v3 v4 v5 hs0 hs1 hs2 hs3 hs4 hs5 o6 h7) (cwV 0 hts (gV w_methodLink_X5_65 w_instanceMethod_X5_saveState w_selects_X5_saveState w_initialized_X5 w_code_X5_saveState) rfl rfl rfl (by decide +kernel) ⟨Nat.le_of_ble_eq_true rfl, Nat.le_of_ble_eq_true rfl⟩) (va_recv hK.1 hP (ci := 5) (q0 := 0) rfl rfl) hP hD hK (seg_perm (n := 16) (R := [(cS cyI k0 w0), (cS cyI k1 w1)]) (C := [(cXo x an tr xv), (cH cyO (x 1) (x 2) 2 fl), (cXk cyI x xv), (cH cyO (x 4) (x 5) 6 fs), (cT cyI x (X_text xv)), (cSo an nv), (cG cyI an (S_green nv)), (cV cyI an (S_score nv)), (cS cyI b0 v0), (cS cyI b1 v1), (cS cyI b2 v2), (cS cyI b3 v3), (cS cyI b4 v4), (cS cyI b5 v5)]) [8, 9] [0, 1, 2, 3, 4, 5, 6, 7, 10, 11, 12, 13, 14, 15] rfl rfl rfl (by decide) rfl) rfl hl.1 (Nat.le_of_ble_eq_true rfl) dX5_goBack_41 ⟨Nat.le_of_ble_eq_true rfl, Nat.le_of_ble_eq_true rfl⟩ hS hA (fun u H locs hw hP hD hS => ?_)
        have hw := hw.symm
        subst hw
        have hq := seg_permS (segs := [(cXo x an tr o6.1), (cH cyO (x 1) (x 2) 2 fl), (cXk cyI x o6.1), (cH cyO (x 4) (x 5) 6 fs), (cT cyI x (X_text o6.1)), (cSo an o6.2.1), (cG cyI an (S_green o6.2.1)), (cV cyI an (S_score o6.2.1)), (cS cyI k0 w0), (cS cyI k1 w1), (cS cyI b0 o6.2.2.1), (cS cyI b1 o6.2.2.2.1), (cS cyI b2 o6.2.2.2.2.1), (cS cyI b3 o6.2.2.2.2.2.1), (cS cyI b4 o6.2.2.2.2.2.2.1), (cS cyI b5 o6.2.2.2.2.2.2.2)]) (R := [(cS cyI k0 w0), (cS cyI k1 w1)]) (C := [(cXo x an tr o6.1), (cH cyO (x 1) (x 2) 2 fl), (cXk cyI x o6.1), (cH cyO (x 4) (x 5) 6 fs), (cT cyI x (X_text o6.1)), (cSo an o6.2.1), (cG cyI an (S_green o6.2.1)), (cV cyI an (S_score o6.2.1)), (cS cyI b0 o6.2.2.1), (cS cyI b1 o6.2.2.2.1), (cS cyI b2 o6.2.2.2.2.1), (cS cyI b3 o6.2.2.2.2.2.1), (cS cyI b4 o6.2.2.2.2.2.2.1), (cS cyI b5 o6.2.2.2.2.2.2.2)]) (n := 16) [8, 9] [0, 1, 2, 3, 4, 5, 6, 7, 10, 11, 12, 13, 14, 15] rfl rfl rfl (by decide)
        have hP : va_P (dC, dI) vwCl (([(cXo x an tr o6.1), (cH cyO (x 1) (x 2) 2 fl), (cXk cyI x o6.1), (cH cyO (x 4) (x 5) 6 fs), (cT cyI x (X_text o6.1)), (cSo an o6.2.1), (cG cyI an (S_green o6.2.1)), (cV cyI an (S_score o6.2.1)), (cS cyI k0 w0), (cS cyI k1 w1), (cS cyI b0 o6.2.2.1), (cS cyI b1 o6.2.2.2.1), (cS cyI b2 o6.2.2.2.2.1), (cS cyI b3 o6.2.2.2.2.2.1), (cS cyI b4 o6.2.2.2.2.2.2.1), (cS cyI b5 o6.2.2.2.2.2.2.2)] : List va_W).flatten) H := hP.perm hq
        have hD : va_D A (([(cXo x an tr o6.1), (cH cyO (x 1) (x 2) 2 fl), (cXk cyI x o6.1), (cH cyO (x 4) (x 5) 6 fs), (cT cyI x (X_text o6.1)), (cSo an o6.2.1), (cG cyI an (S_green o6.2.1)), (cV cyI an (S_score o6.2.1)), (cS cyI k0 w0), (cS cyI k1 w1), (cS cyI b0 o6.2.2.1), (cS cyI b1 o6.2.2.2.1), (cS cyI b2 o6.2.2.2.2.1), (cS cyI b3 o6.2.2.2.2.2.1), (cS cyI b4 o6.2.2.2.2.2.2.1), (cS cyI b5 o6.2.2.2.2.2.2.2)] : List va_W).flatten) := hD.perm hq
        clear hq
        refine lv_aload_n hx hb dX5_goBack_44 rfl (lv_at hl 0 rfl) ?_
        refine va_get (D := (dC, dI)) (ci := 5) (v := .ref (x 1)) (C := RX5) (T := TX5) (N := 8) hx hb hts inX5 hown hK.1 hP 0 rfl rfl 2 (by decide) (hts _ w_fieldLink_X5_24) (fun _ h9 => h9) rfl dX5_goBack_45 ?_
        refine lv_iload_n hx hb dX5_goBack_48 rfl (lv_at hl 1 rfl) ?_
        refine lv_aload_n hx hb dX5_goBack_49 rfl (lv_at hl 0 rfl) ?_
        refine va_get (D := (dC, dI)) (ci := 5) (v := .ref (an 0)) (C := RX5) (T := TX5) (N := 8) hx hb hts inX5 hown hK.1 hP 0 rfl rfl 0 (by decide) (hts _ w_fieldLink_X5_12) (fun _ h9 => h9) rfl dX5_goBack_50 ?_
        obtain ⟨o8, h9, hF⟩ := obd hF
        refine wcPVv (As := [.int p1, .ref (an 0)]) (rest := []) (wr := ([(cXo x an tr o6.1), (cXk cyI x o6.1), (cH cyO (x 4) (x 5) 6 fs), (cT cyI x (X_text o6.1)), (cS cyI b0 o6.2.2.1), (cS cyI b1 o6.2.2.2.1), (cS cyI b2 o6.2.2.2.2.1), (cS cyI b3 o6.2.2.2.2.2.1), (cS cyI b4 o6.2.2.2.2.2.2.1), (cS cyI b5 o6.2.2.2.2.2.2.2)] : List va_W).flatten) (b := (x 1)) ⟨hx, hb, hml, hown, hts⟩ (met_X2_read2 l dC dI cyI cyO cyL (x 1) (x 2) fl an k0 k1 _ N o6.2.1 w0 w1 p1 hl0 hl1 o8 h9) (cwV 2 hts (gV w_methodLink_X5_201 w_instanceMethod_X2_read w_selects_X2_read w_initialized_X2 w_code_X2_read) rfl rfl rfl (by decide +kernel) ⟨Nat.le_of_ble_eq_true rfl, Nat.le_of_ble_eq_true rfl⟩) (va_recv hK.1 hP (ci := 2) (q0 := 1) rfl rfl) hP hD hK (seg_perm (n := 16) (R := [(cXo x an tr o6.1), (cXk cyI x o6.1), (cH cyO (x 4) (x 5) 6 fs), (cT cyI x (X_text o6.1)), (cS cyI b0 o6.2.2.1), (cS cyI b1 o6.2.2.2.1), (cS cyI b2 o6.2.2.2.2.1), (cS cyI b3 o6.2.2.2.2.2.1), (cS cyI b4 o6.2.2.2.2.2.2.1), (cS cyI b5 o6.2.2.2.2.2.2.2)]) (C := [(cH cyO (x 1) (x 2) 2 fl), (cSo an o6.2.1), (cG cyI an (S_green o6.2.1)), (cV cyI an (S_score o6.2.1)), (cS cyI k0 w0), (cS cyI k1 w1)]) [0, 2, 3, 4, 10, 11, 12, 13, 14, 15] [1, 5, 6, 7, 8, 9] rfl rfl rfl (by decide) rfl) rfl hl.1 (Nat.le_of_ble_eq_true rfl) dX5_goBack_53 ⟨Nat.le_of_ble_eq_true rfl, Nat.le_of_ble_eq_true rfl⟩ hS hA (fun u H locs hw hP hD hS => ?_)
        have hw := hw.symm
        subst hw
        have hq := seg_permS (segs := [(cXo x an tr o6.1), (cH cyO (x 1) (x 2) 2 fl), (cXk cyI x o6.1), (cH cyO (x 4) (x 5) 6 fs), (cT cyI x (X_text o6.1)), (cSo an o8.1), (cG cyI an (S_green o8.1)), (cV cyI an (S_score o8.1)), (cS cyI k0 o8.2.1), (cS cyI k1 o8.2.2), (cS cyI b0 o6.2.2.1), (cS cyI b1 o6.2.2.2.1), (cS cyI b2 o6.2.2.2.2.1), (cS cyI b3 o6.2.2.2.2.2.1), (cS cyI b4 o6.2.2.2.2.2.2.1), (cS cyI b5 o6.2.2.2.2.2.2.2)]) (R := [(cXo x an tr o6.1), (cXk cyI x o6.1), (cH cyO (x 4) (x 5) 6 fs), (cT cyI x (X_text o6.1)), (cS cyI b0 o6.2.2.1), (cS cyI b1 o6.2.2.2.1), (cS cyI b2 o6.2.2.2.2.1), (cS cyI b3 o6.2.2.2.2.2.1), (cS cyI b4 o6.2.2.2.2.2.2.1), (cS cyI b5 o6.2.2.2.2.2.2.2)]) (C := [(cH cyO (x 1) (x 2) 2 fl), (cSo an o8.1), (cG cyI an (S_green o8.1)), (cV cyI an (S_score o8.1)), (cS cyI k0 o8.2.1), (cS cyI k1 o8.2.2)]) (n := 16) [0, 2, 3, 4, 10, 11, 12, 13, 14, 15] [1, 5, 6, 7, 8, 9] rfl rfl rfl (by decide)
        have hP : va_P (dC, dI) vwCl (([(cXo x an tr o6.1), (cH cyO (x 1) (x 2) 2 fl), (cXk cyI x o6.1), (cH cyO (x 4) (x 5) 6 fs), (cT cyI x (X_text o6.1)), (cSo an o8.1), (cG cyI an (S_green o8.1)), (cV cyI an (S_score o8.1)), (cS cyI k0 o8.2.1), (cS cyI k1 o8.2.2), (cS cyI b0 o6.2.2.1), (cS cyI b1 o6.2.2.2.1), (cS cyI b2 o6.2.2.2.2.1), (cS cyI b3 o6.2.2.2.2.2.1), (cS cyI b4 o6.2.2.2.2.2.2.1), (cS cyI b5 o6.2.2.2.2.2.2.2)] : List va_W).flatten) H := hP.perm hq
        have hD : va_D A (([(cXo x an tr o6.1), (cH cyO (x 1) (x 2) 2 fl), (cXk cyI x o6.1), (cH cyO (x 4) (x 5) 6 fs), (cT cyI x (X_text o6.1)), (cSo an o8.1), (cG cyI an (S_green o8.1)), (cV cyI an (S_score o8.1)), (cS cyI k0 o8.2.1), (cS cyI k1 o8.2.2), (cS cyI b0 o6.2.2.1), (cS cyI b1 o6.2.2.2.1), (cS cyI b2 o6.2.2.2.2.1), (cS cyI b3 o6.2.2.2.2.2.1), (cS cyI b4 o6.2.2.2.2.2.2.1), (cS cyI b5 o6.2.2.2.2.2.2.2)] : List va_W).flatten) := hD.perm hq
        clear hq
        refine vx_ret ?_
        refine W.widen (k := 1) (n := 6) (Nat.le_of_ble_eq_true rfl) (Nat.le_of_ble_eq_true rfl) ?_
        exact W.vret hx hb hr (fun t ht hW => ⟨⟨_, rfl, Option.some.inj hF, by rw [ht]; exact hP, hD⟩, hS.F ht⟩) hS.2.2 dX5_goBack_56
      · have hF := itp c5 hF
        have hF9 : ((Sum.inl 1 : Nat ⊕ Unit), (xv, nv, w0, w1, v0, v1, v2, v3, v4, v5)) = out := Option.some.inj hF
        exact thrW_1 (w1 := fun (u : XV × SV × SV × SV × SV × SV × SV × SV × SV × SV) => (([(cXo x an tr u.1), (cH cyO (x 1) (x 2) 2 fl), (cXk cyI x u.1), (cH cyO (x 4) (x 5) 6 fs), (cT cyI x (X_text u.1)), (cSo an u.2.1), (cG cyI an (S_green u.2.1)), (cV cyI an (S_score u.2.1)), (cS cyI k0 u.2.2.1), (cS cyI k1 u.2.2.2.1), (cS cyI b0 u.2.2.2.2.1), (cS cyI b1 u.2.2.2.2.2.1), (cS cyI b2 u.2.2.2.2.2.2.1), (cS cyI b3 u.2.2.2.2.2.2.2.1), (cS cyI b4 u.2.2.2.2.2.2.2.2.1), (cS cyI b5 u.2.2.2.2.2.2.2.2.2)] : List va_W).flatten)) (v := (xv, nv, w0, w1, v0, v1, v2, v3, v4, v5)) hF9 hP hD hx hb hst (is := 199) (text := "there is no snapshot in the slot") hown hts hZ hAz hS (hl.1.trans hml.symm) (by decide) dX5_goBack_30 dX5_goBack_33 dX5_goBack_34 dX5_goBack_36 dX5_goBack_39 htx (Nat.le_of_ble_eq_true rfl) (Nat.le_of_ble_eq_true rfl) (Nat.le_of_ble_eq_true rfl) (Nat.le_of_ble_eq_true rfl) hlocks (Nat.le_of_ble_eq_true rfl) (Nat.le_of_ble_eq_true rfl)
    · have hF := itn c2 hF
      exact hJ9 () _ _ _ hP hD hS (lv_sub hl [] rfl) hF
