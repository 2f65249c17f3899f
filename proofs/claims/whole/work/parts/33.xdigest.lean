/-! written by program from the bytecode: what each method computes, and its contract -/

theorem dX5_mixEnd_0 : decode cX5_mixEnd 0 = .ok (.aload_n 0, 1) := by decide +kernel
theorem dX5_mixEnd_1 : decode cX5_mixEnd 1 = .ok (.getfield 12, 3) := by decide +kernel
theorem dX5_mixEnd_4 : decode cX5_mixEnd 4 = .ok (.getfield 90, 3) := by decide +kernel
theorem dX5_mixEnd_7 : decode cX5_mixEnd 7 = .ok (.astore_n 3, 1) := by decide +kernel
theorem dX5_mixEnd_8 : decode cX5_mixEnd 8 = .ok (.lload_n 1, 1) := by decide +kernel
theorem dX5_mixEnd_9 : decode cX5_mixEnd 9 = .ok (.aload_n 3, 1) := by decide +kernel
theorem dX5_mixEnd_10 : decode cX5_mixEnd 10 = .ok (.invokevirtual 127, 3) := by decide +kernel
theorem dX5_mixEnd_13 : decode cX5_mixEnd 13 = .ok (.ifCond .eq 7, 3) := by decide +kernel
theorem dX5_mixEnd_16 : decode cX5_mixEnd 16 = .ok (.lconst 1, 1) := by decide +kernel
theorem dX5_mixEnd_17 : decode cX5_mixEnd 17 = .ok (.goto 4, 3) := by decide +kernel
theorem dX5_mixEnd_20 : decode cX5_mixEnd 20 = .ok (.lconst 0, 1) := by decide +kernel
theorem dX5_mixEnd_21 : decode cX5_mixEnd 21 = .ok (.invokestatic 363, 3) := by decide +kernel
theorem dX5_mixEnd_24 : decode cX5_mixEnd 24 = .ok (.lstore 4, 2) := by decide +kernel
theorem dX5_mixEnd_26 : decode cX5_mixEnd 26 = .ok (.lload 4, 2) := by decide +kernel
theorem dX5_mixEnd_28 : decode cX5_mixEnd 28 = .ok (.aload_n 3, 1) := by decide +kernel
theorem dX5_mixEnd_29 : decode cX5_mixEnd 29 = .ok (.bipush 8, 2) := by decide +kernel
theorem dX5_mixEnd_31 : decode cX5_mixEnd 31 = .ok (.invokevirtual 208, 3) := by decide +kernel
theorem dX5_mixEnd_34 : decode cX5_mixEnd 34 = .ok (.iconst 1, 1) := by decide +kernel
theorem dX5_mixEnd_35 : decode cX5_mixEnd 35 = .ok (.iadd, 1) := by decide +kernel
theorem dX5_mixEnd_36 : decode cX5_mixEnd 36 = .ok (.i2l, 1) := by decide +kernel
theorem dX5_mixEnd_37 : decode cX5_mixEnd 37 = .ok (.invokestatic 363, 3) := by decide +kernel
theorem dX5_mixEnd_40 : decode cX5_mixEnd 40 = .ok (.lstore 4, 2) := by decide +kernel
theorem dX5_mixEnd_42 : decode cX5_mixEnd 42 = .ok (.lload 4, 2) := by decide +kernel
theorem dX5_mixEnd_44 : decode cX5_mixEnd 44 = .ok (.aload_n 3, 1) := by decide +kernel
theorem dX5_mixEnd_45 : decode cX5_mixEnd 45 = .ok (.invokevirtual 211, 3) := by decide +kernel
theorem dX5_mixEnd_48 : decode cX5_mixEnd 48 = .ok (.ifCond .eq 7, 3) := by decide +kernel
theorem dX5_mixEnd_51 : decode cX5_mixEnd 51 = .ok (.lconst 1, 1) := by decide +kernel
theorem dX5_mixEnd_52 : decode cX5_mixEnd 52 = .ok (.goto 4, 3) := by decide +kernel
theorem dX5_mixEnd_55 : decode cX5_mixEnd 55 = .ok (.lconst 0, 1) := by decide +kernel
theorem dX5_mixEnd_56 : decode cX5_mixEnd 56 = .ok (.invokestatic 363, 3) := by decide +kernel
theorem dX5_mixEnd_59 : decode cX5_mixEnd 59 = .ok (.lstore 4, 2) := by decide +kernel
theorem dX5_mixEnd_61 : decode cX5_mixEnd 61 = .ok (.lload 4, 2) := by decide +kernel
theorem dX5_mixEnd_63 : decode cX5_mixEnd 63 = .ok (.aload_n 3, 1) := by decide +kernel
theorem dX5_mixEnd_64 : decode cX5_mixEnd 64 = .ok (.getfield 214, 3) := by decide +kernel
theorem dX5_mixEnd_67 : decode cX5_mixEnd 67 = .ok (.i2l, 1) := by decide +kernel
theorem dX5_mixEnd_68 : decode cX5_mixEnd 68 = .ok (.invokestatic 363, 3) := by decide +kernel
theorem dX5_mixEnd_71 : decode cX5_mixEnd 71 = .ok (.lstore 4, 2) := by decide +kernel
theorem dX5_mixEnd_73 : decode cX5_mixEnd 73 = .ok (.lload 4, 2) := by decide +kernel
theorem dX5_mixEnd_75 : decode cX5_mixEnd 75 = .ok (.aload_n 0, 1) := by decide +kernel
theorem dX5_mixEnd_76 : decode cX5_mixEnd 76 = .ok (.getfield 12, 3) := by decide +kernel
theorem dX5_mixEnd_79 : decode cX5_mixEnd 79 = .ok (.getfield 132, 3) := by decide +kernel
theorem dX5_mixEnd_82 : decode cX5_mixEnd 82 = .ok (.i2l, 1) := by decide +kernel
theorem dX5_mixEnd_83 : decode cX5_mixEnd 83 = .ok (.invokestatic 363, 3) := by decide +kernel
theorem dX5_mixEnd_86 : decode cX5_mixEnd 86 = .ok (.lstore 4, 2) := by decide +kernel
theorem dX5_mixEnd_88 : decode cX5_mixEnd 88 = .ok (.lload 4, 2) := by decide +kernel
theorem dX5_mixEnd_90 : decode cX5_mixEnd 90 = .ok (.aload_n 0, 1) := by decide +kernel
theorem dX5_mixEnd_91 : decode cX5_mixEnd 91 = .ok (.getfield 12, 3) := by decide +kernel
theorem dX5_mixEnd_94 : decode cX5_mixEnd 94 = .ok (.invokevirtual 81, 3) := by decide +kernel
theorem dX5_mixEnd_97 : decode cX5_mixEnd 97 = .ok (.ifCond .eq 16, 3) := by decide +kernel
theorem dX5_mixEnd_100 : decode cX5_mixEnd 100 = .ok (.aload_n 0, 1) := by decide +kernel
theorem dX5_mixEnd_101 : decode cX5_mixEnd 101 = .ok (.getfield 12, 3) := by decide +kernel
theorem dX5_mixEnd_104 : decode cX5_mixEnd 104 = .ok (.invokevirtual 71, 3) := by decide +kernel
theorem dX5_mixEnd_107 : decode cX5_mixEnd 107 = .ok (.iconst 1, 1) := by decide +kernel
theorem dX5_mixEnd_108 : decode cX5_mixEnd 108 = .ok (.iadd, 1) := by decide +kernel
theorem dX5_mixEnd_109 : decode cX5_mixEnd 109 = .ok (.i2l, 1) := by decide +kernel
theorem dX5_mixEnd_110 : decode cX5_mixEnd 110 = .ok (.goto 4, 3) := by decide +kernel
theorem dX5_mixEnd_113 : decode cX5_mixEnd 113 = .ok (.lconst 0, 1) := by decide +kernel
theorem dX5_mixEnd_114 : decode cX5_mixEnd 114 = .ok (.invokestatic 363, 3) := by decide +kernel
theorem dX5_mixEnd_117 : decode cX5_mixEnd 117 = .ok (.lreturn, 1) := by decide +kernel
def f_X5_mixEnd (N : Nat) (xv : XV) (nv : SV) (p1 : Int64) : Option (Int64) :=
  (f_X0_hasJack N (S_green nv)).bind (fun o1 => jn (fun (s21 : Int64) => (f_X5_mix N p1 s21).bind (fun o4 => (f_X0_placeOf N (S_green nv) (8 : Int32)).bind (fun o6 => (f_X5_mix N o4 ((o6 + (1 : Int32)).toInt64)).bind (fun o8 => (f_X0_isJackLost N (S_green nv)).bind (fun o10 => jn (fun (s56 : Int64) => (f_X5_mix N o8 s56).bind (fun o13 => (f_X5_mix N o13 ((G_bowlCount (S_green nv)).toInt64)).bind (fun o15 => (f_X5_mix N o15 ((S_bowlsEach nv).toInt64)).bind (fun o17 => (f_X3_canPlay N nv).bind (fun o19 => jn (fun (s114 : Int64) => (f_X5_mix N o17 s114).bind (fun o22 => some o22)) (fun (j114 : (Int64) → Option (Int64)) => (if o19 = 0 then j114 (0 : Int64) else (f_X3_nextSide N nv).bind (fun o25 => j114 ((o25 + (1 : Int32)).toInt64))))))))) (fun (j56 : (Int64) → Option (Int64)) => (if o10 = 0 then j56 (0 : Int64) else j56 (1 : Int64)))))))) (fun (j21 : (Int64) → Option (Int64)) => (if o1 = 0 then j21 (0 : Int64) else j21 (1 : Int64))))
set_option maxHeartbeats 4000000 in
set_option maxRecDepth 100000 in
theorem met_X5_mixEnd (l : Launch) (dC : Nat → ClassId) (dI : Nat → Nat → Nat) (cyI cyO cyL : ClassId) (x : Nat → Nat) (tr : Nat → Nat) (an : Nat → Nat) (fl fs : Nat → Option Nat) (N : Nat) (xv : XV) (nv : SV) (p1 : Int64) (out : Int64) (hF : f_X5_mixEnd N xv nv p1 = some out) : Met l yX5_mixEnd (Cond.code yX5_mixEnd cX5_mixEnd 6 (some .long) :: wT) ({ frames := 4, cells := 0, slots := 0, locals := 82 } : Room) (wRd dC dI cyI cyO cyL [.ref (x 0), .long p1] (([(cXo x an tr xv), (cH cyO (x 1) (x 2) 2 fl), (cXk cyI x xv), (cH cyO (x 4) (x 5) 6 fs), (cT cyI x (X_text xv)), (cSo an nv), (cG cyI an (S_green nv)), (cV cyI an (S_score nv))] : List va_W).flatten)) (va_Ql (fun (r : Int64) (_ : Unit) => r = out) (fun _ _ => True) wN0) 0 0 wN0 := by
  refine Met.ofW (cc := cX5_mixEnd) (maxL := 6) (ret := (some .long)) (by decide) rfl ?_
  intro p e s m args below meth c s₁ B hml hv
  obtain ⟨rfl, hP, hK⟩ := hv
  have hx := B.exec
  have hb := B.bytes
  have hr := B.returns
  have hts0 := atoms_spec (ws := (Cond.code yX5_mixEnd cX5_mixEnd 6 (some .long) :: wT)) B.pre
  have hts := fun w h => hts0 w (List.mem_cons_of_mem _ h)
  clear hts0
  have hown : s.vm.findClass RX5 = some m.cls := findClass_of_methodNamed B.named
  have hlocks := B.notSynchronized
  have hS : va_S wN0 s.heap s.heap [] := va_S.rf
  have hl := lv_entry [.ref (x 0), .long p1] (n := 6) (Nat.le_of_ble_eq_true rfl)
  rw [lg_entry_eq]
  generalize (lg_sl [.ref (x 0), .long p1] ++ List.replicate (6 - (lg_sl [.ref (x 0), .long p1]).length) Slot.unset).toArray = ls at hl ⊢
  have hl : lv_has ls 6 [(0, .ref (x 0)), (1, .long p1)] := hl
  unfold f_X5_mixEnd at hF
  refine lv_aload_n hx hb dX5_mixEnd_0 rfl (lv_at hl 0 rfl) ?_
  refine va_get (D := (dC, dI)) (ci := 5) (v := .ref (an 0)) (C := RX5) (T := TX5) (N := 8) hx hb hts inX5 hown hK.1 hP 0 rfl rfl 0 (by decide) (hts _ w_fieldLink_X5_12) (fun _ h9 => h9) rfl dX5_mixEnd_1 ?_
  refine va_get (D := (dC, dI)) (ci := 3) (v := .ref (an 1)) (C := RX3) (T := TX3) (N := 6) hx hb hts inX3 hown hK.1 hP 8 rfl rfl 0 (by decide) (hts _ w_fieldLink_X5_90) (fun _ h9 => h9) rfl dX5_mixEnd_4 ?_
  refine lv_astore_n (lv' := [(3, .ref (an 1)), (0, .ref (x 0)), (1, .long p1)]) hx hb dX5_mixEnd_7 rfl hl (by decide) rfl (fun ls hl => ?_)
  refine lv_lload_n hx hb dX5_mixEnd_8 rfl (lv_at hl 2 rfl) ?_
  refine lv_aload_n hx hb dX5_mixEnd_9 rfl (lv_at hl 0 rfl) ?_
  obtain ⟨o1, h2, hF⟩ := obd hF
  refine wcRVi (As := []) (rest := [.long p1]) (b := (an 1)) ⟨hx, hb, hml, hown, hts⟩ (met_X0_hasJack l dC dI cyI cyO cyL an N (S_green nv)  o1 h2) (cwV 0 hts (gV w_methodLink_X5_127 w_instanceMethod_X0_hasJack w_selects_X0_hasJack w_initialized_X0 w_code_X0_hasJack) rfl rfl rfl (by decide +kernel) ⟨Nat.le_of_ble_eq_true rfl, Nat.le_of_ble_eq_true rfl⟩) (va_recv hK.1 hP (ci := 0) (q0 := 9) rfl rfl) hP hK [9, 10, 11, 12, 13, 14, 15, 16] rfl rfl hl.1 (Nat.le_of_ble_eq_true rfl) dX5_mixEnd_10 ⟨Nat.le_of_ble_eq_true rfl, Nat.le_of_ble_eq_true rfl⟩ hS (fun r H locs hw hP hS => ?_)
  obtain ⟨hw, hz3⟩ := hw
  have hw := hw.symm
  subst hw
  obtain ⟨j21, hj21, hF⟩ := jn_use hF
  have hJ21 : ∀ (s21 : Int64) (H : Heap) (locs : List Loc) (ls : Array Slot), va_P (dC, dI) vwCl (([(cXo x an tr xv), (cH cyO (x 1) (x 2) 2 fl), (cXk cyI x xv), (cH cyO (x 4) (x 5) 6 fs), (cT cyI x (X_text xv)), (cSo an nv), (cG cyI an (S_green nv)), (cV cyI an (S_score nv))] : List va_W).flatten) H → va_S wN0 s.heap H locs → lv_has ls 6 [(0, .ref (x 0)), (3, .ref (an 1))] → j21 s21 = some out → W p l e (headSpec (Cond.code yX5_mixEnd cX5_mixEnd 6 (some .long) :: wT) ({ frames := 4, cells := 0, slots := 0, locals := 82 } : Room)).room s m ([.ref (x 0), .long p1] : List Value).toArray below meth c H locs 0 0 (MQ below (va_Ql (fun (r : Int64) (_ : Unit) => r = out) (fun _ _ => True) wN0) ([.ref (x 0), .long p1] : List Value).toArray s 0 0 wN0) (F0 m 21 ls [.long s21, .long p1]) := by
    intro s21 H locs ls hP hS hl hF
    have hF := (congrFun hj21 s21).symm.trans hF
    obtain ⟨o4, h5, hF⟩ := obd hF
    refine wcRSl (As := [.long p1, .long s21]) (rest := []) ⟨hx, hb, hml, hown, hts⟩ (met_X5_mix l dC dI cyI cyO cyL  N  p1 s21 o4 h5) (va_cwS 2 hts (gS w_methodLink_X5_363 w_static_X5_mix w_initialized_X5 w_code_X5_mix) rfl rfl rfl (by decide +kernel) ⟨Nat.le_of_ble_eq_true rfl, Nat.le_of_ble_eq_true rfl⟩) hP hK [] rfl rfl hl.1 (Nat.le_of_ble_eq_true rfl) dX5_mixEnd_21 ⟨Nat.le_of_ble_eq_true rfl, Nat.le_of_ble_eq_true rfl⟩ hS (fun r H locs hw hP hS => ?_)
    have hw := hw.symm
    subst hw
    refine lv_lstore (lv' := [(4, .long o4), (0, .ref (x 0)), (3, .ref (an 1))]) hx hb dX5_mixEnd_24 hl (by decide) rfl (fun ls hl => ?_)
    refine lv_lload hx hb dX5_mixEnd_26 (lv_at hl 0 rfl) ?_
    refine lv_aload_n hx hb dX5_mixEnd_28 rfl (lv_at hl 2 rfl) ?_
    refine lv_bipush (v := 8) hx hb dX5_mixEnd_29 (by decide) ?_
    obtain ⟨o6, h7, hF⟩ := obd hF
    refine wcRVi (As := [.int (8 : Int32)]) (rest := [.long o4]) (b := (an 1)) ⟨hx, hb, hml, hown, hts⟩ (met_X0_placeOf l dC dI cyI cyO cyL an N (S_green nv) (8 : Int32) o6 h7) (cwV 1 hts (gV w_methodLink_X5_208 w_instanceMethod_X0_placeOf w_selects_X0_placeOf w_initialized_X0 w_code_X0_placeOf) rfl rfl rfl (by decide +kernel) ⟨Nat.le_of_ble_eq_true rfl, Nat.le_of_ble_eq_true rfl⟩) (va_recv hK.1 hP (ci := 0) (q0 := 9) rfl rfl) hP hK [9, 10, 11, 12, 13, 14, 15, 16] rfl rfl hl.1 (Nat.le_of_ble_eq_true rfl) dX5_mixEnd_31 ⟨Nat.le_of_ble_eq_true rfl, Nat.le_of_ble_eq_true rfl⟩ hS (fun r H locs hw hP hS => ?_)
    have hw := hw.symm
    subst hw
    refine lv_iconst (v := 1) hx hb dX5_mixEnd_34 (by decide) ?_
    refine lv_iadd hx hb dX5_mixEnd_35 ?_
    refine lv_i2l (v := (o6 + (1 : Int32)).toInt64) hx hb dX5_mixEnd_36 rfl ?_
    obtain ⟨o8, h9, hF⟩ := obd hF
    refine wcRSl (As := [.long o4, .long ((o6 + (1 : Int32)).toInt64)]) (rest := []) ⟨hx, hb, hml, hown, hts⟩ (met_X5_mix l dC dI cyI cyO cyL  N  o4 ((o6 + (1 : Int32)).toInt64) o8 h9) (va_cwS 2 hts (gS w_methodLink_X5_363 w_static_X5_mix w_initialized_X5 w_code_X5_mix) rfl rfl rfl (by decide +kernel) ⟨Nat.le_of_ble_eq_true rfl, Nat.le_of_ble_eq_true rfl⟩) hP hK [] rfl rfl hl.1 (Nat.le_of_ble_eq_true rfl) dX5_mixEnd_37 ⟨Nat.le_of_ble_eq_true rfl, Nat.le_of_ble_eq_true rfl⟩ hS (fun r H locs hw hP hS => ?_)
    have hw := hw.symm
    subst hw
    refine lv_lstore (lv' := [(4, .long o8), (0, .ref (x 0)), (3, .ref (an 1))]) hx hb dX5_mixEnd_40 hl (by decide) rfl (fun ls hl => ?_)
    refine lv_lload hx hb dX5_mixEnd_42 (lv_at hl 0 rfl) ?_
    refine lv_aload_n hx hb dX5_mixEnd_44 rfl (lv_at hl 2 rfl) ?_
    obtain ⟨o10, h11, hF⟩ := obd hF
    refine wcRVi (As := []) (rest := [.long o8]) (b := (an 1)) ⟨hx, hb, hml, hown, hts⟩ (met_X0_isJackLost l dC dI cyI cyO cyL an N (S_green nv)  o10 h11) (cwV 0 hts (gV w_methodLink_X5_211 w_instanceMethod_X0_isJackLost w_selects_X0_isJackLost w_initialized_X0 w_code_X0_isJackLost) rfl rfl rfl (by decide +kernel) ⟨Nat.le_of_ble_eq_true rfl, Nat.le_of_ble_eq_true rfl⟩) (va_recv hK.1 hP (ci := 0) (q0 := 9) rfl rfl) hP hK [9, 10, 11, 12, 13, 14, 15, 16] rfl rfl hl.1 (Nat.le_of_ble_eq_true rfl) dX5_mixEnd_45 ⟨Nat.le_of_ble_eq_true rfl, Nat.le_of_ble_eq_true rfl⟩ hS (fun r H locs hw hP hS => ?_)
    obtain ⟨hw, hz12⟩ := hw
    have hw := hw.symm
    subst hw
    obtain ⟨j56, hj56, hF⟩ := jn_use hF
    have hJ56 : ∀ (s56 : Int64) (H : Heap) (locs : List Loc) (ls : Array Slot), va_P (dC, dI) vwCl (([(cXo x an tr xv), (cH cyO (x 1) (x 2) 2 fl), (cXk cyI x xv), (cH cyO (x 4) (x 5) 6 fs), (cT cyI x (X_text xv)), (cSo an nv), (cG cyI an (S_green nv)), (cV cyI an (S_score nv))] : List va_W).flatten) H → va_S wN0 s.heap H locs → lv_has ls 6 [(0, .ref (x 0)), (3, .ref (an 1))] → j56 s56 = some out → W p l e (headSpec (Cond.code yX5_mixEnd cX5_mixEnd 6 (some .long) :: wT) ({ frames := 4, cells := 0, slots := 0, locals := 82 } : Room)).room s m ([.ref (x 0), .long p1] : List Value).toArray below meth c H locs 0 0 (MQ below (va_Ql (fun (r : Int64) (_ : Unit) => r = out) (fun _ _ => True) wN0) ([.ref (x 0), .long p1] : List Value).toArray s 0 0 wN0) (F0 m 56 ls [.long s56, .long o8]) := by
      intro s56 H locs ls hP hS hl hF
      have hF := (congrFun hj56 s56).symm.trans hF
      obtain ⟨o13, h14, hF⟩ := obd hF
      refine wcRSl (As := [.long o8, .long s56]) (rest := []) ⟨hx, hb, hml, hown, hts⟩ (met_X5_mix l dC dI cyI cyO cyL  N  o8 s56 o13 h14) (va_cwS 2 hts (gS w_methodLink_X5_363 w_static_X5_mix w_initialized_X5 w_code_X5_mix) rfl rfl rfl (by decide +kernel) ⟨Nat.le_of_ble_eq_true rfl, Nat.le_of_ble_eq_true rfl⟩) hP hK [] rfl rfl hl.1 (Nat.le_of_ble_eq_true rfl) dX5_mixEnd_56 ⟨Nat.le_of_ble_eq_true rfl, Nat.le_of_ble_eq_true rfl⟩ hS (fun r H locs hw hP hS => ?_)
      have hw := hw.symm
      subst hw
      refine lv_lstore (lv' := [(4, .long o13), (0, .ref (x 0)), (3, .ref (an 1))]) hx hb dX5_mixEnd_59 hl (by decide) rfl (fun ls hl => ?_)
      refine lv_lload hx hb dX5_mixEnd_61 (lv_at hl 0 rfl) ?_
      refine lv_aload_n hx hb dX5_mixEnd_63 rfl (lv_at hl 2 rfl) ?_
      refine va_get (D := (dC, dI)) (ci := 0) (v := .int (G_bowlCount (S_green nv))) (C := RX0) (T := TX0) (N := 9) hx hb hts inX0 hown hK.1 hP 9 rfl rfl 7 (by decide) (hts _ w_fieldLink_X5_214) (fun _ h9 => h9) rfl dX5_mixEnd_64 ?_
      refine lv_i2l (v := (G_bowlCount (S_green nv)).toInt64) hx hb dX5_mixEnd_67 rfl ?_
      obtain ⟨o15, h16, hF⟩ := obd hF
      refine wcRSl (As := [.long o13, .long ((G_bowlCount (S_green nv)).toInt64)]) (rest := []) ⟨hx, hb, hml, hown, hts⟩ (met_X5_mix l dC dI cyI cyO cyL  N  o13 ((G_bowlCount (S_green nv)).toInt64) o15 h16) (va_cwS 2 hts (gS w_methodLink_X5_363 w_static_X5_mix w_initialized_X5 w_code_X5_mix) rfl rfl rfl (by decide +kernel) ⟨Nat.le_of_ble_eq_true rfl, Nat.le_of_ble_eq_true rfl⟩) hP hK [] rfl rfl hl.1 (Nat.le_of_ble_eq_true rfl) dX5_mixEnd_68 ⟨Nat.le_of_ble_eq_true rfl, Nat.le_of_ble_eq_true rfl⟩ hS (fun r H locs hw hP hS => ?_)
      have hw := hw.symm
      subst hw
      refine lv_lstore (lv' := [(4, .long o15), (0, .ref (x 0)), (3, .ref (an 1))]) hx hb dX5_mixEnd_71 hl (by decide) rfl (fun ls hl => ?_)
      refine lv_lload hx hb dX5_mixEnd_73 (lv_at hl 0 rfl) ?_
      refine lv_aload_n hx hb dX5_mixEnd_75 rfl (lv_at hl 1 rfl) ?_
      refine va_get (D := (dC, dI)) (ci := 5) (v := .ref (an 0)) (C := RX5) (T := TX5) (N := 8) hx hb hts inX5 hown hK.1 hP 0 rfl rfl 0 (by decide) (hts _ w_fieldLink_X5_12) (fun _ h9 => h9) rfl dX5_mixEnd_76 ?_
      refine va_get (D := (dC, dI)) (ci := 3) (v := .int (S_bowlsEach nv)) (C := RX3) (T := TX3) (N := 6) hx hb hts inX3 hown hK.1 hP 8 rfl rfl 2 (by decide) (hts _ w_fieldLink_X5_132) (fun _ h9 => h9) rfl dX5_mixEnd_79 ?_
      refine lv_i2l (v := (S_bowlsEach nv).toInt64) hx hb dX5_mixEnd_82 rfl ?_
      obtain ⟨o17, h18, hF⟩ := obd hF
      refine wcRSl (As := [.long o15, .long ((S_bowlsEach nv).toInt64)]) (rest := []) ⟨hx, hb, hml, hown, hts⟩ (met_X5_mix l dC dI cyI cyO cyL  N  o15 ((S_bowlsEach nv).toInt64) o17 h18) (va_cwS 2 hts (gS w_methodLink_X5_363 w_static_X5_mix w_initialized_X5 w_code_X5_mix) rfl rfl rfl (by decide +kernel) ⟨Nat.le_of_ble_eq_true rfl, Nat.le_of_ble_eq_true rfl⟩) hP hK [] rfl rfl hl.1 (Nat.le_of_ble_eq_true rfl) dX5_mixEnd_83 ⟨Nat.le_of_ble_eq_true rfl, Nat.le_of_ble_eq_true rfl⟩ hS (fun r H locs hw hP hS => ?_)
      have hw := hw.symm
      subst hw
      refine lv_lstore (lv' := [(4, .long o17), (0, .ref (x 0)), (3, .ref (an 1))]) hx hb dX5_mixEnd_86 hl (by decide) rfl (fun ls hl => ?_)
      refine lv_lload hx hb dX5_mixEnd_88 (lv_at hl 0 rfl) ?_
      refine lv_aload_n hx hb dX5_mixEnd_90 rfl (lv_at hl 1 rfl) ?_
      refine va_get (D := (dC, dI)) (ci := 5) (v := .ref (an 0)) (C := RX5) (T := TX5) (N := 8) hx hb hts inX5 hown hK.1 hP 0 rfl rfl 0 (by decide) (hts _ w_fieldLink_X5_12) (fun _ h9 => h9) rfl dX5_mixEnd_91 ?_
      obtain ⟨o19, h20, hF⟩ := obd hF
      refine wcRVi (As := []) (rest := [.long o17]) (b := (an 0)) ⟨hx, hb, hml, hown, hts⟩ (met_X3_canPlay l dC dI cyI cyO cyL an N nv  o19 h20) (cwV 0 hts (gV w_methodLink_X5_81 w_instanceMethod_X3_canPlay w_selects_X3_canPlay w_initialized_X3 w_code_X3_canPlay) rfl rfl rfl (by decide +kernel) ⟨Nat.le_of_ble_eq_true rfl, Nat.le_of_ble_eq_true rfl⟩) (va_recv hK.1 hP (ci := 3) (q0 := 8) rfl rfl) hP hK [8, 9, 10, 11, 12, 13, 14, 15, 16, 17, 18, 19, 20] rfl rfl hl.1 (Nat.le_of_ble_eq_true rfl) dX5_mixEnd_94 ⟨Nat.le_of_ble_eq_true rfl, Nat.le_of_ble_eq_true rfl⟩ hS (fun r H locs hw hP hS => ?_)
      obtain ⟨hw, hz21⟩ := hw
      have hw := hw.symm
      subst hw
      obtain ⟨j114, hj114, hF⟩ := jn_use hF
      have hJ114 : ∀ (s114 : Int64) (H : Heap) (locs : List Loc) (ls : Array Slot), va_P (dC, dI) vwCl (([(cXo x an tr xv), (cH cyO (x 1) (x 2) 2 fl), (cXk cyI x xv), (cH cyO (x 4) (x 5) 6 fs), (cT cyI x (X_text xv)), (cSo an nv), (cG cyI an (S_green nv)), (cV cyI an (S_score nv))] : List va_W).flatten) H → va_S wN0 s.heap H locs → lv_has ls 6 [] → j114 s114 = some out → W p l e (headSpec (Cond.code yX5_mixEnd cX5_mixEnd 6 (some .long) :: wT) ({ frames := 4, cells := 0, slots := 0, locals := 82 } : Room)).room s m ([.ref (x 0), .long p1] : List Value).toArray below meth c H locs 0 0 (MQ below (va_Ql (fun (r : Int64) (_ : Unit) => r = out) (fun _ _ => True) wN0) ([.ref (x 0), .long p1] : List Value).toArray s 0 0 wN0) (F0 m 114 ls [.long s114, .long o17]) := by
        intro s114 H locs ls hP hS hl hF
        have hF := (congrFun hj114 s114).symm.trans hF
        obtain ⟨o22, h23, hF⟩ := obd hF
        refine wcRSl (As := [.long o17, .long s114]) (rest := []) ⟨hx, hb, hml, hown, hts⟩ (met_X5_mix l dC dI cyI cyO cyL  N  o17 s114 o22 h23) (va_cwS 2 hts (gS w_methodLink_X5_363 w_static_X5_mix w_initialized_X5 w_code_X5_mix) rfl rfl rfl (by decide +kernel) ⟨Nat.le_of_ble_eq_true rfl, Nat.le_of_ble_eq_true rfl⟩) hP hK [] rfl rfl hl.1 (Nat.le_of_ble_eq_true rfl) dX5_mixEnd_114 ⟨Nat.le_of_ble_eq_true rfl, Nat.le_of_ble_eq_true rfl⟩ hS (fun r H locs hw hP hS => ?_)
        have hw := hw.symm
        subst hw
        exact W.lret (v := o22) hx hb hr (fun t ht hW => ⟨⟨_, (), rfl, Option.some.inj hF, trivial⟩, hS.F ht⟩) hS.2.2 dX5_mixEnd_117
      refine lv_if_eq (tgt := 113) hx hb dX5_mixEnd_97 (by decide) (fun c24 => ?_) (fun c24 => ?_)
      · have hF := itp c24 hF
        refine lv_lconst (v := 0) hx hb dX5_mixEnd_113 (by decide) ?_
        exact hJ114 (0 : Int64) _ _ _ hP hS (lv_sub hl [] rfl) hF
      · have hF := itn c24 hF
        refine lv_aload_n hx hb dX5_mixEnd_100 rfl (lv_at hl 1 rfl) ?_
        refine va_get (D := (dC, dI)) (ci := 5) (v := .ref (an 0)) (C := RX5) (T := TX5) (N := 8) hx hb hts inX5 hown hK.1 hP 0 rfl rfl 0 (by decide) (hts _ w_fieldLink_X5_12) (fun _ h9 => h9) rfl dX5_mixEnd_101 ?_
        obtain ⟨o25, h26, hF⟩ := obd hF
        refine wcRVi (As := []) (rest := [.long o17]) (b := (an 0)) ⟨hx, hb, hml, hown, hts⟩ (met_X3_nextSide l dC dI cyI cyO cyL an N nv  o25 h26) (cwV 0 hts (gV w_methodLink_X5_71 w_instanceMethod_X3_nextSide w_selects_X3_nextSide w_initialized_X3 w_code_X3_nextSide) rfl rfl rfl (by decide +kernel) ⟨Nat.le_of_ble_eq_true rfl, Nat.le_of_ble_eq_true rfl⟩) (va_recv hK.1 hP (ci := 3) (q0 := 8) rfl rfl) hP hK [8, 9, 10, 11, 12, 13, 14, 15, 16, 17, 18, 19, 20] rfl rfl hl.1 (Nat.le_of_ble_eq_true rfl) dX5_mixEnd_104 ⟨Nat.le_of_ble_eq_true rfl, Nat.le_of_ble_eq_true rfl⟩ hS (fun r H locs hw hP hS => ?_)
        have hw := hw.symm
        subst hw
        refine lv_iconst (v := 1) hx hb dX5_mixEnd_107 (by decide) ?_
        refine lv_iadd hx hb dX5_mixEnd_108 ?_
        refine lv_i2l (v := (o25 + (1 : Int32)).toInt64) hx hb dX5_mixEnd_109 rfl ?_
        refine lv_goto (tgt := 114) hx hb dX5_mixEnd_110 (by decide) ?_
        exact hJ114 ((o25 + (1 : Int32)).toInt64) _ _ _ hP hS (lv_sub hl [] rfl) hF
    refine lv_if_eq (tgt := 55) hx hb dX5_mixEnd_48 (by decide) (fun c27 => ?_) (fun c27 => ?_)
    · have hF := itp c27 hF
      refine lv_lconst (v := 0) hx hb dX5_mixEnd_55 (by decide) ?_
      exact hJ56 (0 : Int64) _ _ _ hP hS (lv_sub hl [1, 2] rfl) hF
    · have hF := itn c27 hF
      refine lv_lconst (v := 1) hx hb dX5_mixEnd_51 (by decide) ?_
      refine lv_goto (tgt := 56) hx hb dX5_mixEnd_52 (by decide) ?_
      exact hJ56 (1 : Int64) _ _ _ hP hS (lv_sub hl [1, 2] rfl) hF
  refine lv_if_eq (tgt := 20) hx hb dX5_mixEnd_13 (by decide) (fun c28 => ?_) (fun c28 => ?_)
  · have hF := itp c28 hF
    refine lv_lconst (v := 0) hx hb dX5_mixEnd_20 (by decide) ?_
    exact hJ21 (0 : Int64) _ _ _ hP hS (lv_sub hl [1, 0] rfl) hF
  · have hF := itn c28 hF
    refine lv_lconst (v := 1) hx hb dX5_mixEnd_16 (by decide) ?_
    refine lv_goto (tgt := 21) hx hb dX5_mixEnd_17 (by decide) ?_
    exact hJ21 (1 : Int64) _ _ _ hP hS (lv_sub hl [1, 0] rfl) hF
theorem dX5_mixBowls_0 : decode cX5_mixBowls 0 = .ok (.aload_n 0, 1) := by decide +kernel
theorem dX5_mixBowls_1 : decode cX5_mixBowls 1 = .ok (.getfield 12, 3) := by decide +kernel
theorem dX5_mixBowls_4 : decode cX5_mixBowls 4 = .ok (.getfield 90, 3) := by decide +kernel
theorem dX5_mixBowls_7 : decode cX5_mixBowls 7 = .ok (.astore_n 3, 1) := by decide +kernel
theorem dX5_mixBowls_8 : decode cX5_mixBowls 8 = .ok (.lload_n 1, 1) := by decide +kernel
theorem dX5_mixBowls_9 : decode cX5_mixBowls 9 = .ok (.lstore 4, 2) := by decide +kernel
theorem dX5_mixBowls_11 : decode cX5_mixBowls 11 = .ok (.iconst 0, 1) := by decide +kernel
theorem dX5_mixBowls_12 : decode cX5_mixBowls 12 = .ok (.istore 6, 2) := by decide +kernel
theorem dX5_mixBowls_14 : decode cX5_mixBowls 14 = .ok (.iload 6, 2) := by decide +kernel
theorem dX5_mixBowls_16 : decode cX5_mixBowls 16 = .ok (.aload_n 3, 1) := by decide +kernel
theorem dX5_mixBowls_17 : decode cX5_mixBowls 17 = .ok (.getfield 214, 3) := by decide +kernel
theorem dX5_mixBowls_20 : decode cX5_mixBowls 20 = .ok (.if_icmp .ge 153, 3) := by decide +kernel
theorem dX5_mixBowls_23 : decode cX5_mixBowls 23 = .ok (.lload 4, 2) := by decide +kernel
theorem dX5_mixBowls_25 : decode cX5_mixBowls 25 = .ok (.aload_n 3, 1) := by decide +kernel
theorem dX5_mixBowls_26 : decode cX5_mixBowls 26 = .ok (.getfield 220, 3) := by decide +kernel
theorem dX5_mixBowls_29 : decode cX5_mixBowls 29 = .ok (.iload 6, 2) := by decide +kernel
theorem dX5_mixBowls_31 : decode cX5_mixBowls 31 = .ok (.invokestatic 195, 3) := by decide +kernel
theorem dX5_mixBowls_34 : decode cX5_mixBowls 34 = .ok (.i2l, 1) := by decide +kernel
theorem dX5_mixBowls_35 : decode cX5_mixBowls 35 = .ok (.invokestatic 363, 3) := by decide +kernel
theorem dX5_mixBowls_38 : decode cX5_mixBowls 38 = .ok (.lstore 4, 2) := by decide +kernel
theorem dX5_mixBowls_40 : decode cX5_mixBowls 40 = .ok (.lload 4, 2) := by decide +kernel
theorem dX5_mixBowls_42 : decode cX5_mixBowls 42 = .ok (.aload_n 3, 1) := by decide +kernel
theorem dX5_mixBowls_43 : decode cX5_mixBowls 43 = .ok (.iload 6, 2) := by decide +kernel
theorem dX5_mixBowls_45 : decode cX5_mixBowls 45 = .ok (.invokevirtual 94, 3) := by decide +kernel
theorem dX5_mixBowls_48 : decode cX5_mixBowls 48 = .ok (.i2l, 1) := by decide +kernel
theorem dX5_mixBowls_49 : decode cX5_mixBowls 49 = .ok (.invokestatic 363, 3) := by decide +kernel
theorem dX5_mixBowls_52 : decode cX5_mixBowls 52 = .ok (.lstore 4, 2) := by decide +kernel
theorem dX5_mixBowls_54 : decode cX5_mixBowls 54 = .ok (.lload 4, 2) := by decide +kernel
theorem dX5_mixBowls_56 : decode cX5_mixBowls 56 = .ok (.aload_n 3, 1) := by decide +kernel
theorem dX5_mixBowls_57 : decode cX5_mixBowls 57 = .ok (.iload 6, 2) := by decide +kernel
theorem dX5_mixBowls_59 : decode cX5_mixBowls 59 = .ok (.invokevirtual 208, 3) := by decide +kernel
theorem dX5_mixBowls_62 : decode cX5_mixBowls 62 = .ok (.iconst 1, 1) := by decide +kernel
theorem dX5_mixBowls_63 : decode cX5_mixBowls 63 = .ok (.iadd, 1) := by decide +kernel
theorem dX5_mixBowls_64 : decode cX5_mixBowls 64 = .ok (.i2l, 1) := by decide +kernel
theorem dX5_mixBowls_65 : decode cX5_mixBowls 65 = .ok (.invokestatic 363, 3) := by decide +kernel
theorem dX5_mixBowls_68 : decode cX5_mixBowls 68 = .ok (.lstore 4, 2) := by decide +kernel
theorem dX5_mixBowls_70 : decode cX5_mixBowls 70 = .ok (.lload 4, 2) := by decide +kernel
theorem dX5_mixBowls_72 : decode cX5_mixBowls 72 = .ok (.aload_n 3, 1) := by decide +kernel
theorem dX5_mixBowls_73 : decode cX5_mixBowls 73 = .ok (.getfield 226, 3) := by decide +kernel
theorem dX5_mixBowls_76 : decode cX5_mixBowls 76 = .ok (.iload 6, 2) := by decide +kernel
theorem dX5_mixBowls_78 : decode cX5_mixBowls 78 = .ok (.invokestatic 195, 3) := by decide +kernel
theorem dX5_mixBowls_81 : decode cX5_mixBowls 81 = .ok (.i2l, 1) := by decide +kernel
theorem dX5_mixBowls_82 : decode cX5_mixBowls 82 = .ok (.invokestatic 363, 3) := by decide +kernel
theorem dX5_mixBowls_85 : decode cX5_mixBowls 85 = .ok (.lstore 4, 2) := by decide +kernel
theorem dX5_mixBowls_87 : decode cX5_mixBowls 87 = .ok (.lload 4, 2) := by decide +kernel
theorem dX5_mixBowls_89 : decode cX5_mixBowls 89 = .ok (.aload_n 3, 1) := by decide +kernel
theorem dX5_mixBowls_90 : decode cX5_mixBowls 90 = .ok (.iload 6, 2) := by decide +kernel
theorem dX5_mixBowls_92 : decode cX5_mixBowls 92 = .ok (.invokevirtual 367, 3) := by decide +kernel
theorem dX5_mixBowls_95 : decode cX5_mixBowls 95 = .ok (.ifCond .eq 15, 3) := by decide +kernel
theorem dX5_mixBowls_98 : decode cX5_mixBowls 98 = .ok (.aload_n 3, 1) := by decide +kernel
theorem dX5_mixBowls_99 : decode cX5_mixBowls 99 = .ok (.iload 6, 2) := by decide +kernel
theorem dX5_mixBowls_101 : decode cX5_mixBowls 101 = .ok (.invokevirtual 229, 3) := by decide +kernel
theorem dX5_mixBowls_104 : decode cX5_mixBowls 104 = .ok (.iconst 1, 1) := by decide +kernel
theorem dX5_mixBowls_105 : decode cX5_mixBowls 105 = .ok (.iadd, 1) := by decide +kernel
theorem dX5_mixBowls_106 : decode cX5_mixBowls 106 = .ok (.i2l, 1) := by decide +kernel
theorem dX5_mixBowls_107 : decode cX5_mixBowls 107 = .ok (.goto 4, 3) := by decide +kernel
theorem dX5_mixBowls_110 : decode cX5_mixBowls 110 = .ok (.lconst 0, 1) := by decide +kernel
theorem dX5_mixBowls_111 : decode cX5_mixBowls 111 = .ok (.invokestatic 363, 3) := by decide +kernel
theorem dX5_mixBowls_114 : decode cX5_mixBowls 114 = .ok (.lstore 4, 2) := by decide +kernel
theorem dX5_mixBowls_116 : decode cX5_mixBowls 116 = .ok (.lload 4, 2) := by decide +kernel
theorem dX5_mixBowls_118 : decode cX5_mixBowls 118 = .ok (.aload_n 3, 1) := by decide +kernel
theorem dX5_mixBowls_119 : decode cX5_mixBowls 119 = .ok (.getfield 246, 3) := by decide +kernel
theorem dX5_mixBowls_122 : decode cX5_mixBowls 122 = .ok (.iload 6, 2) := by decide +kernel
theorem dX5_mixBowls_124 : decode cX5_mixBowls 124 = .ok (.invokestatic 195, 3) := by decide +kernel
theorem dX5_mixBowls_127 : decode cX5_mixBowls 127 = .ok (.i2l, 1) := by decide +kernel
theorem dX5_mixBowls_128 : decode cX5_mixBowls 128 = .ok (.invokestatic 363, 3) := by decide +kernel
theorem dX5_mixBowls_131 : decode cX5_mixBowls 131 = .ok (.lstore 4, 2) := by decide +kernel
theorem dX5_mixBowls_133 : decode cX5_mixBowls 133 = .ok (.lload 4, 2) := by decide +kernel
theorem dX5_mixBowls_135 : decode cX5_mixBowls 135 = .ok (.aload_n 3, 1) := by decide +kernel
theorem dX5_mixBowls_136 : decode cX5_mixBowls 136 = .ok (.getfield 249, 3) := by decide +kernel
theorem dX5_mixBowls_139 : decode cX5_mixBowls 139 = .ok (.iload 6, 2) := by decide +kernel
theorem dX5_mixBowls_141 : decode cX5_mixBowls 141 = .ok (.invokestatic 195, 3) := by decide +kernel
theorem dX5_mixBowls_144 : decode cX5_mixBowls 144 = .ok (.i2l, 1) := by decide +kernel
theorem dX5_mixBowls_145 : decode cX5_mixBowls 145 = .ok (.invokestatic 363, 3) := by decide +kernel
theorem dX5_mixBowls_148 : decode cX5_mixBowls 148 = .ok (.lstore 4, 2) := by decide +kernel
theorem dX5_mixBowls_150 : decode cX5_mixBowls 150 = .ok (.lload 4, 2) := by decide +kernel
theorem dX5_mixBowls_152 : decode cX5_mixBowls 152 = .ok (.aload_n 3, 1) := by decide +kernel
theorem dX5_mixBowls_153 : decode cX5_mixBowls 153 = .ok (.getfield 252, 3) := by decide +kernel
theorem dX5_mixBowls_156 : decode cX5_mixBowls 156 = .ok (.iload 6, 2) := by decide +kernel
theorem dX5_mixBowls_158 : decode cX5_mixBowls 158 = .ok (.invokestatic 195, 3) := by decide +kernel
theorem dX5_mixBowls_161 : decode cX5_mixBowls 161 = .ok (.i2l, 1) := by decide +kernel
theorem dX5_mixBowls_162 : decode cX5_mixBowls 162 = .ok (.invokestatic 363, 3) := by decide +kernel
theorem dX5_mixBowls_165 : decode cX5_mixBowls 165 = .ok (.lstore 4, 2) := by decide +kernel
theorem dX5_mixBowls_167 : decode cX5_mixBowls 167 = .ok (.iinc 6 1, 3) := by decide +kernel
theorem dX5_mixBowls_170 : decode cX5_mixBowls 170 = .ok (.goto (-156), 3) := by decide +kernel
theorem dX5_mixBowls_173 : decode cX5_mixBowls 173 = .ok (.lload 4, 2) := by decide +kernel
theorem dX5_mixBowls_175 : decode cX5_mixBowls 175 = .ok (.lreturn, 1) := by decide +kernel
def f_X5_mixBowls (N : Nat) (xv : XV) (nv : SV) (p1 : Int64) : Option (Int64) :=
  lpN (fun (s14 : Int64 × Int32) (k14 : (Int64 × Int32) → Option (Int64)) => (if (G_bowlCount (S_green nv)) ≤ s14.2 then some s14.1 else (f_X5_at N 8 (G_sides (S_green nv)) s14.2).bind (fun o2 => (f_X5_mix N s14.1 ((o2).toInt64)).bind (fun o4 => (f_X0_fateOf N (S_green nv) s14.2).bind (fun o6 => (f_X5_mix N o4 ((o6).toInt64)).bind (fun o8 => (f_X0_placeOf N (S_green nv) s14.2).bind (fun o10 => (f_X5_mix N o8 ((o10 + (1 : Int32)).toInt64)).bind (fun o12 => (f_X5_at N 8 (G_touched (S_green nv)) s14.2).bind (fun o14 => (f_X5_mix N o12 ((o14).toInt64)).bind (fun o16 => (f_X0_isAlive N (S_green nv) s14.2).bind (fun o18 => jn (fun (s111 : Int64) => (f_X5_mix N o16 s111).bind (fun o21 => (f_X5_at N 8 (G_aims (S_green nv)) s14.2).bind (fun o23 => (f_X5_mix N o21 ((o23).toInt64)).bind (fun o25 => (f_X5_at N 8 (G_weights (S_green nv)) s14.2).bind (fun o27 => (f_X5_mix N o25 ((o27).toInt64)).bind (fun o29 => (f_X5_at N 8 (G_biases (S_green nv)) s14.2).bind (fun o31 => (f_X5_mix N o29 ((o31).toInt64)).bind (fun o33 => k14 (o33, (s14.2 + (1 : Int32))))))))))) (fun (j111 : (Int64) → Option (Int64)) => (if o18 = 0 then j111 (0 : Int64) else (f_X0_distance N (S_green nv) s14.2).bind (fun o36 => j111 ((o36 + (1 : Int32)).toInt64))))))))))))))) N (p1, (0 : Int32))
set_option maxHeartbeats 4000000 in
set_option maxRecDepth 100000 in
theorem met_X5_mixBowls (l : Launch) (dC : Nat → ClassId) (dI : Nat → Nat → Nat) (cyI cyO cyL : ClassId) (x : Nat → Nat) (tr : Nat → Nat) (an : Nat → Nat) (fl fs : Nat → Option Nat) (N : Nat) (xv : XV) (nv : SV) (p1 : Int64) (out : Int64) (hF : f_X5_mixBowls N xv nv p1 = some out) : Met l yX5_mixBowls (Cond.code yX5_mixBowls cX5_mixBowls 7 (some .long) :: wT) ({ frames := 2, cells := 0, slots := 0, locals := 44 } : Room) (wRd dC dI cyI cyO cyL [.ref (x 0), .long p1] (([(cXo x an tr xv), (cH cyO (x 1) (x 2) 2 fl), (cXk cyI x xv), (cH cyO (x 4) (x 5) 6 fs), (cT cyI x (X_text xv)), (cSo an nv), (cG cyI an (S_green nv)), (cV cyI an (S_score nv))] : List va_W).flatten)) (va_Ql (fun (r : Int64) (_ : Unit) => r = out) (fun _ _ => True) wN0) 0 0 wN0 := by
  refine Met.ofW (cc := cX5_mixBowls) (maxL := 7) (ret := (some .long)) (by decide) rfl ?_
  intro p e s m args below meth c s₁ B hml hv
  obtain ⟨rfl, hP, hK⟩ := hv
  have hx := B.exec
  have hb := B.bytes
  have hr := B.returns
  have hts0 := atoms_spec (ws := (Cond.code yX5_mixBowls cX5_mixBowls 7 (some .long) :: wT)) B.pre
  have hts := fun w h => hts0 w (List.mem_cons_of_mem _ h)
  clear hts0
  have hown : s.vm.findClass RX5 = some m.cls := findClass_of_methodNamed B.named
  have hlocks := B.notSynchronized
  have hS : va_S wN0 s.heap s.heap [] := va_S.rf
  have hl := lv_entry [.ref (x 0), .long p1] (n := 7) (Nat.le_of_ble_eq_true rfl)
  rw [lg_entry_eq]
  generalize (lg_sl [.ref (x 0), .long p1] ++ List.replicate (7 - (lg_sl [.ref (x 0), .long p1]).length) Slot.unset).toArray = ls at hl ⊢
  have hl : lv_has ls 7 [(0, .ref (x 0)), (1, .long p1)] := hl
  unfold f_X5_mixBowls at hF
  refine lv_aload_n hx hb dX5_mixBowls_0 rfl (lv_at hl 0 rfl) ?_
  refine va_get (D := (dC, dI)) (ci := 5) (v := .ref (an 0)) (C := RX5) (T := TX5) (N := 8) hx hb hts inX5 hown hK.1 hP 0 rfl rfl 0 (by decide) (hts _ w_fieldLink_X5_12) (fun _ h9 => h9) rfl dX5_mixBowls_1 ?_
  refine va_get (D := (dC, dI)) (ci := 3) (v := .ref (an 1)) (C := RX3) (T := TX3) (N := 6) hx hb hts inX3 hown hK.1 hP 8 rfl rfl 0 (by decide) (hts _ w_fieldLink_X5_90) (fun _ h9 => h9) rfl dX5_mixBowls_4 ?_
  refine lv_astore_n (lv' := [(3, .ref (an 1)), (0, .ref (x 0)), (1, .long p1)]) hx hb dX5_mixBowls_7 rfl hl (by decide) rfl (fun ls hl => ?_)
  refine lv_lload_n hx hb dX5_mixBowls_8 rfl (lv_at hl 2 rfl) ?_
  refine lv_lstore (lv' := [(4, .long p1), (3, .ref (an 1)), (0, .ref (x 0)), (1, .long p1)]) hx hb dX5_mixBowls_9 hl (by decide) rfl (fun ls hl => ?_)
  refine lv_iconst (v := 0) hx hb dX5_mixBowls_11 (by decide) ?_
  refine lv_istore (lv' := [(6, .int (0 : Int32)), (4, .long p1), (3, .ref (an 1)), (0, .ref (x 0)), (1, .long p1)]) hx hb dX5_mixBowls_12 hl (by decide) rfl (fun ls hl => ?_)
  obtain ⟨st14, hst14, hF⟩ := lpN_use hF
  have hL14 : ∀ (n : Nat) (s14 : Int64 × Int32) (H : Heap) (locs : List Loc) (ls : Array Slot), va_P (dC, dI) vwCl (([(cXo x an tr xv), (cH cyO (x 1) (x 2) 2 fl), (cXk cyI x xv), (cH cyO (x 4) (x 5) 6 fs), (cT cyI x (X_text xv)), (cSo an nv), (cG cyI an (S_green nv)), (cV cyI an (S_score nv))] : List va_W).flatten) H → va_S wN0 s.heap H locs → lv_has ls 7 [(3, .ref (an 1)), (4, .long s14.1), (6, .int s14.2)] → lpN st14 n s14 = some out → W p l e (headSpec (Cond.code yX5_mixBowls cX5_mixBowls 7 (some .long) :: wT) ({ frames := 2, cells := 0, slots := 0, locals := 44 } : Room)).room s m ([.ref (x 0), .long p1] : List Value).toArray below meth c H locs 0 0 (MQ below (va_Ql (fun (r : Int64) (_ : Unit) => r = out) (fun _ _ => True) wN0) ([.ref (x 0), .long p1] : List Value).toArray s 0 0 wN0) (F0 m 14 ls []) := by
    intro n
    induction n with
    | zero => intro s14 H locs ls hP hS hl hF; exact lpN_0 hF
    | succ n ih14 =>
      intro s14 H locs ls hP hS hl hF
      have hF := (congrFun (congrFun hst14 s14) (lpN st14 n)).symm.trans (lpN_s hF)
      refine lv_iload hx hb dX5_mixBowls_14 (lv_at hl 2 rfl) ?_
      refine lv_aload_n hx hb dX5_mixBowls_16 rfl (lv_at hl 0 rfl) ?_
      refine va_get (D := (dC, dI)) (ci := 0) (v := .int (G_bowlCount (S_green nv))) (C := RX0) (T := TX0) (N := 9) hx hb hts inX0 hown hK.1 hP 9 rfl rfl 7 (by decide) (hts _ w_fieldLink_X5_214) (fun _ h9 => h9) rfl dX5_mixBowls_17 ?_
      refine lv_icmp_ge (tgt := 173) hx hb dX5_mixBowls_20 (by decide) (fun c1 => ?_) (fun c1 => ?_)
      · have hF := itp c1 hF
        refine lv_lload hx hb dX5_mixBowls_173 (lv_at hl 1 rfl) ?_
        exact W.lret (v := s14.1) hx hb hr (fun t ht hW => ⟨⟨_, (), rfl, Option.some.inj hF, trivial⟩, hS.F ht⟩) hS.2.2 dX5_mixBowls_175
      · have hF := itn c1 hF
        refine lv_lload hx hb dX5_mixBowls_23 (lv_at hl 1 rfl) ?_
        refine lv_aload_n hx hb dX5_mixBowls_25 rfl (lv_at hl 0 rfl) ?_
        refine va_get (D := (dC, dI)) (ci := 0) (v := .ref (an 3)) (C := RX0) (T := TX0) (N := 9) hx hb hts inX0 hown hK.1 hP 9 rfl rfl 1 (by decide) (hts _ w_fieldLink_X5_220) (fun _ h9 => h9) rfl dX5_mixBowls_26 ?_
        refine lv_iload hx hb dX5_mixBowls_29 (lv_at hl 2 rfl) ?_
        obtain ⟨o2, h3, hF⟩ := obd hF
        refine wcRSi (As := [.ref (an 3), .int s14.2]) (rest := [.long s14.1]) ⟨hx, hb, hml, hown, hts⟩ (met_X5_at l dC dI cyI cyO cyL (an 3) 8 N (G_sides (S_green nv)) s14.2 o2 h3) (va_cwS 2 hts (gS w_methodLink_X5_195 w_static_X5_at w_initialized_X5 w_code_X5_at) rfl rfl rfl (by decide +kernel) ⟨Nat.le_of_ble_eq_true rfl, Nat.le_of_ble_eq_true rfl⟩) hP hK [11] rfl rfl hl.1 (Nat.le_of_ble_eq_true rfl) dX5_mixBowls_31 ⟨Nat.le_of_ble_eq_true rfl, Nat.le_of_ble_eq_true rfl⟩ hS (fun r H locs hw hP hS => ?_)
        have hw := hw.symm
        subst hw
        refine lv_i2l (v := (o2).toInt64) hx hb dX5_mixBowls_34 rfl ?_
        obtain ⟨o4, h5, hF⟩ := obd hF
        refine wcRSl (As := [.long s14.1, .long ((o2).toInt64)]) (rest := []) ⟨hx, hb, hml, hown, hts⟩ (met_X5_mix l dC dI cyI cyO cyL  N  s14.1 ((o2).toInt64) o4 h5) (va_cwS 2 hts (gS w_methodLink_X5_363 w_static_X5_mix w_initialized_X5 w_code_X5_mix) rfl rfl rfl (by decide +kernel) ⟨Nat.le_of_ble_eq_true rfl, Nat.le_of_ble_eq_true rfl⟩) hP hK [] rfl rfl hl.1 (Nat.le_of_ble_eq_true rfl) dX5_mixBowls_35 ⟨Nat.le_of_ble_eq_true rfl, Nat.le_of_ble_eq_true rfl⟩ hS (fun r H locs hw hP hS => ?_)
        have hw := hw.symm
        subst hw
        refine lv_lstore (lv' := [(4, .long o4), (3, .ref (an 1)), (6, .int s14.2)]) hx hb dX5_mixBowls_38 hl (by decide) rfl (fun ls hl => ?_)
        refine lv_lload hx hb dX5_mixBowls_40 (lv_at hl 0 rfl) ?_
        refine lv_aload_n hx hb dX5_mixBowls_42 rfl (lv_at hl 1 rfl) ?_
        refine lv_iload hx hb dX5_mixBowls_43 (lv_at hl 2 rfl) ?_
        obtain ⟨o6, h7, hF⟩ := obd hF
        refine wcRVi (As := [.int s14.2]) (rest := [.long o4]) (b := (an 1)) ⟨hx, hb, hml, hown, hts⟩ (met_X0_fateOf l dC dI cyI cyO cyL an N (S_green nv) s14.2 o6 h7) (cwV 1 hts (gV w_methodLink_X5_94 w_instanceMethod_X0_fateOf w_selects_X0_fateOf w_initialized_X0 w_code_X0_fateOf) rfl rfl rfl (by decide +kernel) ⟨Nat.le_of_ble_eq_true rfl, Nat.le_of_ble_eq_true rfl⟩) (va_recv hK.1 hP (ci := 0) (q0 := 9) rfl rfl) hP hK [9, 10, 11, 12, 13, 14, 15, 16] rfl rfl hl.1 (Nat.le_of_ble_eq_true rfl) dX5_mixBowls_45 ⟨Nat.le_of_ble_eq_true rfl, Nat.le_of_ble_eq_true rfl⟩ hS (fun r H locs hw hP hS => ?_)
        have hw := hw.symm
        subst hw
        refine lv_i2l (v := (o6).toInt64) hx hb dX5_mixBowls_48 rfl ?_
        obtain ⟨o8, h9, hF⟩ := obd hF
        refine wcRSl (As := [.long o4, .long ((o6).toInt64)]) (rest := []) ⟨hx, hb, hml, hown, hts⟩ (met_X5_mix l dC dI cyI cyO cyL  N  o4 ((o6).toInt64) o8 h9) (va_cwS 2 hts (gS w_methodLink_X5_363 w_static_X5_mix w_initialized_X5 w_code_X5_mix) rfl rfl rfl (by decide +kernel) ⟨Nat.le_of_ble_eq_true rfl, Nat.le_of_ble_eq_true rfl⟩) hP hK [] rfl rfl hl.1 (Nat.le_of_ble_eq_true rfl) dX5_mixBowls_49 ⟨Nat.le_of_ble_eq_true rfl, Nat.le_of_ble_eq_true rfl⟩ hS (fun r H locs hw hP hS => ?_)
        have hw := hw.symm
        subst hw
        refine lv_lstore (lv' := [(4, .long o8), (3, .ref (an 1)), (6, .int s14.2)]) hx hb dX5_mixBowls_52 hl (by decide) rfl (fun ls hl => ?_)
        refine lv_lload hx hb dX5_mixBowls_54 (lv_at hl 0 rfl) ?_
        refine lv_aload_n hx hb dX5_mixBowls_56 rfl (lv_at hl 1 rfl) ?_
        refine lv_iload hx hb dX5_mixBowls_57 (lv_at hl 2 rfl) ?_
        obtain ⟨o10, h11, hF⟩ := obd hF
        refine wcRVi (As := [.int s14.2]) (rest := [.long o8]) (b := (an 1)) ⟨hx, hb, hml, hown, hts⟩ (met_X0_placeOf l dC dI cyI cyO cyL an N (S_green nv) s14.2 o10 h11) (cwV 1 hts (gV w_methodLink_X5_208 w_instanceMethod_X0_placeOf w_selects_X0_placeOf w_initialized_X0 w_code_X0_placeOf) rfl rfl rfl (by decide +kernel) ⟨Nat.le_of_ble_eq_true rfl, Nat.le_of_ble_eq_true rfl⟩) (va_recv hK.1 hP (ci := 0) (q0 := 9) rfl rfl) hP hK [9, 10, 11, 12, 13, 14, 15, 16] rfl rfl hl.1 (Nat.le_of_ble_eq_true rfl) dX5_mixBowls_59 ⟨Nat.le_of_ble_eq_true rfl, Nat.le_of_ble_eq_true rfl⟩ hS (fun r H locs hw hP hS => ?_)
        have hw := hw.symm
        subst hw
        refine lv_iconst (v := 1) hx hb dX5_mixBowls_62 (by decide) ?_
        refine lv_iadd hx hb dX5_mixBowls_63 ?_
        refine lv_i2l (v := (o10 + (1 : Int32)).toInt64) hx hb dX5_mixBowls_64 rfl ?_
        obtain ⟨o12, h13, hF⟩ := obd hF
        refine wcRSl (As := [.long o8, .long ((o10 + (1 : Int32)).toInt64)]) (rest := []) ⟨hx, hb, hml, hown, hts⟩ (met_X5_mix l dC dI cyI cyO cyL  N  o8 ((o10 + (1 : Int32)).toInt64) o12 h13) (va_cwS 2 hts (gS w_methodLink_X5_363 w_static_X5_mix w_initialized_X5 w_code_X5_mix) rfl rfl rfl (by decide +kernel) ⟨Nat.le_of_ble_eq_true rfl, Nat.le_of_ble_eq_true rfl⟩) hP hK [] rfl rfl hl.1 (Nat.le_of_ble_eq_true rfl) dX5_mixBowls_65 ⟨Nat.le_of_ble_eq_true rfl, Nat.le_of_ble_eq_true rfl⟩ hS (fun r H locs hw hP hS => ?_)
        have hw := hw.symm
        subst hw
        refine lv_lstore (lv' := [(4, .long o12), (3, .ref (an 1)), (6, .int s14.2)]) hx hb dX5_mixBowls_68 hl (by decide) rfl (fun ls hl => ?_)
        refine lv_lload hx hb dX5_mixBowls_70 (lv_at hl 0 rfl) ?_
        refine lv_aload_n hx hb dX5_mixBowls_72 rfl (lv_at hl 1 rfl) ?_
        refine va_get (D := (dC, dI)) (ci := 0) (v := .ref (an 7)) (C := RX0) (T := TX0) (N := 9) hx hb hts inX0 hown hK.1 hP 9 rfl rfl 5 (by decide) (hts _ w_fieldLink_X5_226) (fun _ h9 => h9) rfl dX5_mixBowls_73 ?_
        refine lv_iload hx hb dX5_mixBowls_76 (lv_at hl 2 rfl) ?_
        obtain ⟨o14, h15, hF⟩ := obd hF
        refine wcRSi (As := [.ref (an 7), .int s14.2]) (rest := [.long o12]) ⟨hx, hb, hml, hown, hts⟩ (met_X5_at l dC dI cyI cyO cyL (an 7) 8 N (G_touched (S_green nv)) s14.2 o14 h15) (va_cwS 2 hts (gS w_methodLink_X5_195 w_static_X5_at w_initialized_X5 w_code_X5_at) rfl rfl rfl (by decide +kernel) ⟨Nat.le_of_ble_eq_true rfl, Nat.le_of_ble_eq_true rfl⟩) hP hK [15] rfl rfl hl.1 (Nat.le_of_ble_eq_true rfl) dX5_mixBowls_78 ⟨Nat.le_of_ble_eq_true rfl, Nat.le_of_ble_eq_true rfl⟩ hS (fun r H locs hw hP hS => ?_)
        have hw := hw.symm
        subst hw
        refine lv_i2l (v := (o14).toInt64) hx hb dX5_mixBowls_81 rfl ?_
        obtain ⟨o16, h17, hF⟩ := obd hF
        refine wcRSl (As := [.long o12, .long ((o14).toInt64)]) (rest := []) ⟨hx, hb, hml, hown, hts⟩ (met_X5_mix l dC dI cyI cyO cyL  N  o12 ((o14).toInt64) o16 h17) (va_cwS 2 hts (gS w_methodLink_X5_363 w_static_X5_mix w_initialized_X5 w_code_X5_mix) rfl rfl rfl (by decide +kernel) ⟨Nat.le_of_ble_eq_true rfl, Nat.le_of_ble_eq_true rfl⟩) hP hK [] rfl rfl hl.1 (Nat.le_of_ble_eq_true rfl) dX5_mixBowls_82 ⟨Nat.le_of_ble_eq_true rfl, Nat.le_of_ble_eq_true rfl⟩ hS (fun r H locs hw hP hS => ?_)
        have hw := hw.symm
        subst hw
        refine lv_lstore (lv' := [(4, .long o16), (3, .ref (an 1)), (6, .int s14.2)]) hx hb dX5_mixBowls_85 hl (by decide) rfl (fun ls hl => ?_)
        refine lv_lload hx hb dX5_mixBowls_87 (lv_at hl 0 rfl) ?_
        refine lv_aload_n hx hb dX5_mixBowls_89 rfl (lv_at hl 1 rfl) ?_
        refine lv_iload hx hb dX5_mixBowls_90 (lv_at hl 2 rfl) ?_
        obtain ⟨o18, h19, hF⟩ := obd hF
        refine wcRVi (As := [.int s14.2]) (rest := [.long o16]) (b := (an 1)) ⟨hx, hb, hml, hown, hts⟩ (met_X0_isAlive l dC dI cyI cyO cyL an N (S_green nv) s14.2 o18 h19) (cwV 1 hts (gV w_methodLink_X5_367 w_instanceMethod_X0_isAlive w_selects_X0_isAlive w_initialized_X0 w_code_X0_isAlive) rfl rfl rfl (by decide +kernel) ⟨Nat.le_of_ble_eq_true rfl, Nat.le_of_ble_eq_true rfl⟩) (va_recv hK.1 hP (ci := 0) (q0 := 9) rfl rfl) hP hK [9, 10, 11, 12, 13, 14, 15, 16] rfl rfl hl.1 (Nat.le_of_ble_eq_true rfl) dX5_mixBowls_92 ⟨Nat.le_of_ble_eq_true rfl, Nat.le_of_ble_eq_true rfl⟩ hS (fun r H locs hw hP hS => ?_)
        obtain ⟨hw, hz20⟩ := hw
        have hw := hw.symm
        subst hw
        obtain ⟨j111, hj111, hF⟩ := jn_use hF
        have hJ111 : ∀ (s111 : Int64) (H : Heap) (locs : List Loc) (ls : Array Slot), va_P (dC, dI) vwCl (([(cXo x an tr xv), (cH cyO (x 1) (x 2) 2 fl), (cXk cyI x xv), (cH cyO (x 4) (x 5) 6 fs), (cT cyI x (X_text xv)), (cSo an nv), (cG cyI an (S_green nv)), (cV cyI an (S_score nv))] : List va_W).flatten) H → va_S wN0 s.heap H locs → lv_has ls 7 [(3, .ref (an 1)), (6, .int s14.2)] → j111 s111 = some out → W p l e (headSpec (Cond.code yX5_mixBowls cX5_mixBowls 7 (some .long) :: wT) ({ frames := 2, cells := 0, slots := 0, locals := 44 } : Room)).room s m ([.ref (x 0), .long p1] : List Value).toArray below meth c H locs 0 0 (MQ below (va_Ql (fun (r : Int64) (_ : Unit) => r = out) (fun _ _ => True) wN0) ([.ref (x 0), .long p1] : List Value).toArray s 0 0 wN0) (F0 m 111 ls [.long s111, .long o16]) := by
          intro s111 H locs ls hP hS hl hF
          have hF := (congrFun hj111 s111).symm.trans hF
          obtain ⟨o21, h22, hF⟩ := obd hF
          refine wcRSl (As := [.long o16, .long s111]) (rest := []) ⟨hx, hb, hml, hown, hts⟩ (met_X5_mix l dC dI cyI cyO cyL  N  o16 s111 o21 h22) (va_cwS 2 hts (gS w_methodLink_X5_363 w_static_X5_mix w_initialized_X5 w_code_X5_mix) rfl rfl rfl (by decide +kernel) ⟨Nat.le_of_ble_eq_true rfl, Nat.le_of_ble_eq_true rfl⟩) hP hK [] rfl rfl hl.1 (Nat.le_of_ble_eq_true rfl) dX5_mixBowls_111 ⟨Nat.le_of_ble_eq_true rfl, Nat.le_of_ble_eq_true rfl⟩ hS (fun r H locs hw hP hS => ?_)
          have hw := hw.symm
          subst hw
          refine lv_lstore (lv' := [(4, .long o21), (3, .ref (an 1)), (6, .int s14.2)]) hx hb dX5_mixBowls_114 hl (by decide) rfl (fun ls hl => ?_)
          refine lv_lload hx hb dX5_mixBowls_116 (lv_at hl 0 rfl) ?_
          refine lv_aload_n hx hb dX5_mixBowls_118 rfl (lv_at hl 1 rfl) ?_
          refine va_get (D := (dC, dI)) (ci := 0) (v := .ref (an 4)) (C := RX0) (T := TX0) (N := 9) hx hb hts inX0 hown hK.1 hP 9 rfl rfl 2 (by decide) (hts _ w_fieldLink_X5_246) (fun _ h9 => h9) rfl dX5_mixBowls_119 ?_
          refine lv_iload hx hb dX5_mixBowls_122 (lv_at hl 2 rfl) ?_
          obtain ⟨o23, h24, hF⟩ := obd hF
          refine wcRSi (As := [.ref (an 4), .int s14.2]) (rest := [.long o21]) ⟨hx, hb, hml, hown, hts⟩ (met_X5_at l dC dI cyI cyO cyL (an 4) 8 N (G_aims (S_green nv)) s14.2 o23 h24) (va_cwS 2 hts (gS w_methodLink_X5_195 w_static_X5_at w_initialized_X5 w_code_X5_at) rfl rfl rfl (by decide +kernel) ⟨Nat.le_of_ble_eq_true rfl, Nat.le_of_ble_eq_true rfl⟩) hP hK [12] rfl rfl hl.1 (Nat.le_of_ble_eq_true rfl) dX5_mixBowls_124 ⟨Nat.le_of_ble_eq_true rfl, Nat.le_of_ble_eq_true rfl⟩ hS (fun r H locs hw hP hS => ?_)
          have hw := hw.symm
          subst hw
          refine lv_i2l (v := (o23).toInt64) hx hb dX5_mixBowls_127 rfl ?_
          obtain ⟨o25, h26, hF⟩ := obd hF
          refine wcRSl (As := [.long o21, .long ((o23).toInt64)]) (rest := []) ⟨hx, hb, hml, hown, hts⟩ (met_X5_mix l dC dI cyI cyO cyL  N  o21 ((o23).toInt64) o25 h26) (va_cwS 2 hts (gS w_methodLink_X5_363 w_static_X5_mix w_initialized_X5 w_code_X5_mix) rfl rfl rfl (by decide +kernel) ⟨Nat.le_of_ble_eq_true rfl, Nat.le_of_ble_eq_true rfl⟩) hP hK [] rfl rfl hl.1 (Nat.le_of_ble_eq_true rfl) dX5_mixBowls_128 ⟨Nat.le_of_ble_eq_true rfl, Nat.le_of_ble_eq_true rfl⟩ hS (fun r H locs hw hP hS => ?_)
          have hw := hw.symm
          subst hw
          refine lv_lstore (lv' := [(4, .long o25), (3, .ref (an 1)), (6, .int s14.2)]) hx hb dX5_mixBowls_131 hl (by decide) rfl (fun ls hl => ?_)
          refine lv_lload hx hb dX5_mixBowls_133 (lv_at hl 0 rfl) ?_
          refine lv_aload_n hx hb dX5_mixBowls_135 rfl (lv_at hl 1 rfl) ?_
          refine va_get (D := (dC, dI)) (ci := 0) (v := .ref (an 5)) (C := RX0) (T := TX0) (N := 9) hx hb hts inX0 hown hK.1 hP 9 rfl rfl 3 (by decide) (hts _ w_fieldLink_X5_249) (fun _ h9 => h9) rfl dX5_mixBowls_136 ?_
          refine lv_iload hx hb dX5_mixBowls_139 (lv_at hl 2 rfl) ?_
          obtain ⟨o27, h28, hF⟩ := obd hF
          refine wcRSi (As := [.ref (an 5), .int s14.2]) (rest := [.long o25]) ⟨hx, hb, hml, hown, hts⟩ (met_X5_at l dC dI cyI cyO cyL (an 5) 8 N (G_weights (S_green nv)) s14.2 o27 h28) (va_cwS 2 hts (gS w_methodLink_X5_195 w_static_X5_at w_initialized_X5 w_code_X5_at) rfl rfl rfl (by decide +kernel) ⟨Nat.le_of_ble_eq_true rfl, Nat.le_of_ble_eq_true rfl⟩) hP hK [13] rfl rfl hl.1 (Nat.le_of_ble_eq_true rfl) dX5_mixBowls_141 ⟨Nat.le_of_ble_eq_true rfl, Nat.le_of_ble_eq_true rfl⟩ hS (fun r H locs hw hP hS => ?_)
          have hw := hw.symm
          subst hw
          refine lv_i2l (v := (o27).toInt64) hx hb dX5_mixBowls_144 rfl ?_
          obtain ⟨o29, h30, hF⟩ := obd hF
          refine wcRSl (As := [.long o25, .long ((o27).toInt64)]) (rest := []) ⟨hx, hb, hml, hown, hts⟩ (met_X5_mix l dC dI cyI cyO cyL  N  o25 ((o27).toInt64) o29 h30) (va_cwS 2 hts (gS w_methodLink_X5_363 w_static_X5_mix w_initialized_X5 w_code_X5_mix) rfl rfl rfl (by decide +kernel) ⟨Nat.le_of_ble_eq_true rfl, Nat.le_of_ble_eq_true rfl⟩) hP hK [] rfl rfl hl.1 (Nat.le_of_ble_eq_true rfl) dX5_mixBowls_145 ⟨Nat.le_of_ble_eq_true rfl, Nat.le_of_ble_eq_true rfl⟩ hS (fun r H locs hw hP hS => ?_)
          have hw := hw.symm
          subst hw
          refine lv_lstore (lv' := [(4, .long o29), (3, .ref (an 1)), (6, .int s14.2)]) hx hb dX5_mixBowls_148 hl (by decide) rfl (fun ls hl => ?_)
          refine lv_lload hx hb dX5_mixBowls_150 (lv_at hl 0 rfl) ?_
          refine lv_aload_n hx hb dX5_mixBowls_152 rfl (lv_at hl 1 rfl) ?_
          refine va_get (D := (dC, dI)) (ci := 0) (v := .ref (an 6)) (C := RX0) (T := TX0) (N := 9) hx hb hts inX0 hown hK.1 hP 9 rfl rfl 4 (by decide) (hts _ w_fieldLink_X5_252) (fun _ h9 => h9) rfl dX5_mixBowls_153 ?_
          refine lv_iload hx hb dX5_mixBowls_156 (lv_at hl 2 rfl) ?_
          obtain ⟨o31, h32, hF⟩ := obd hF
          refine wcRSi (As := [.ref (an 6), .int s14.2]) (rest := [.long o29]) ⟨hx, hb, hml, hown, hts⟩ (met_X5_at l dC dI cyI cyO cyL (an 6) 8 N (G_biases (S_green nv)) s14.2 o31 h32) (va_cwS 2 hts (gS w_methodLink_X5_195 w_static_X5_at w_initialized_X5 w_code_X5_at) rfl rfl rfl (by decide +kernel) ⟨Nat.le_of_ble_eq_true rfl, Nat.le_of_ble_eq_true rfl⟩) hP hK [14] rfl rfl hl.1 (Nat.le_of_ble_eq_true rfl) dX5_mixBowls_158 ⟨Nat.le_of_ble_eq_true rfl, Nat.le_of_ble_eq_true rfl⟩ hS (fun r H locs hw hP hS => ?_)
          have hw := hw.symm
          subst hw
          refine lv_i2l (v := (o31).toInt64) hx hb dX5_mixBowls_161 rfl ?_
          obtain ⟨o33, h34, hF⟩ := obd hF
          refine wcRSl (As := [.long o29, .long ((o31).toInt64)]) (rest := []) ⟨hx, hb, hml, hown, hts⟩ (met_X5_mix l dC dI cyI cyO cyL  N  o29 ((o31).toInt64) o33 h34) (va_cwS 2 hts (gS w_methodLink_X5_363 w_static_X5_mix w_initialized_X5 w_code_X5_mix) rfl rfl rfl (by decide +kernel) ⟨Nat.le_of_ble_eq_true rfl, Nat.le_of_ble_eq_true rfl⟩) hP hK [] rfl rfl hl.1 (Nat.le_of_ble_eq_true rfl) dX5_mixBowls_162 ⟨Nat.le_of_ble_eq_true rfl, Nat.le_of_ble_eq_true rfl⟩ hS (fun r H locs hw hP hS => ?_)
          have hw := hw.symm
          subst hw
          refine lv_lstore (lv' := [(4, .long o33), (3, .ref (an 1)), (6, .int s14.2)]) hx hb dX5_mixBowls_165 hl (by decide) rfl (fun ls hl => ?_)
          refine lv_iinc (v := (s14.2 + (1 : Int32))) (lv' := [(6, .int (s14.2 + (1 : Int32))), (4, .long o33), (3, .ref (an 1))]) hx hb dX5_mixBowls_167 hl (k := 2) rfl rfl (by decide) rfl (fun ls hl => ?_)
          refine lv_goto (tgt := 14) hx hb dX5_mixBowls_170 (by decide) ?_
          exact ih14 (o33, (s14.2 + (1 : Int32))) _ _ _ hP hS (lv_sub hl [2, 1, 0] rfl) hF
        refine lv_if_eq (tgt := 110) hx hb dX5_mixBowls_95 (by decide) (fun c35 => ?_) (fun c35 => ?_)
        · have hF := itp c35 hF
          refine lv_lconst (v := 0) hx hb dX5_mixBowls_110 (by decide) ?_
          exact hJ111 (0 : Int64) _ _ _ hP hS (lv_sub hl [1, 2] rfl) hF
        · have hF := itn c35 hF
          refine lv_aload_n hx hb dX5_mixBowls_98 rfl (lv_at hl 1 rfl) ?_
          refine lv_iload hx hb dX5_mixBowls_99 (lv_at hl 2 rfl) ?_
          obtain ⟨o36, h37, hF⟩ := obd hF
          refine wcRVi (As := [.int s14.2]) (rest := [.long o16]) (b := (an 1)) ⟨hx, hb, hml, hown, hts⟩ (met_X0_distance l dC dI cyI cyO cyL an N (S_green nv) s14.2 o36 h37) (cwV 1 hts (gV w_methodLink_X5_229 w_instanceMethod_X0_distance w_selects_X0_distance w_initialized_X0 w_code_X0_distance) rfl rfl rfl (by decide +kernel) ⟨Nat.le_of_ble_eq_true rfl, Nat.le_of_ble_eq_true rfl⟩) (va_recv hK.1 hP (ci := 0) (q0 := 9) rfl rfl) hP hK [9, 10, 11, 12, 13, 14, 15, 16] rfl rfl hl.1 (Nat.le_of_ble_eq_true rfl) dX5_mixBowls_101 ⟨Nat.le_of_ble_eq_true rfl, Nat.le_of_ble_eq_true rfl⟩ hS (fun r H locs hw hP hS => ?_)
          have hw := hw.symm
          subst hw
          refine lv_iconst (v := 1) hx hb dX5_mixBowls_104 (by decide) ?_
          refine lv_iadd hx hb dX5_mixBowls_105 ?_
          refine lv_i2l (v := (o36 + (1 : Int32)).toInt64) hx hb dX5_mixBowls_106 rfl ?_
          refine lv_goto (tgt := 111) hx hb dX5_mixBowls_107 (by decide) ?_
          exact hJ111 ((o36 + (1 : Int32)).toInt64) _ _ _ hP hS (lv_sub hl [1, 2] rfl) hF
  exact hL14 N (p1, (0 : Int32)) _ _ _ hP hS (lv_sub hl [2, 1, 0] rfl) hF
theorem dX5_mixCounting_0 : decode cX5_mixCounting 0 = .ok (.aload_n 0, 1) := by decide +kernel
theorem dX5_mixCounting_1 : decode cX5_mixCounting 1 = .ok (.getfield 12, 3) := by decide +kernel
theorem dX5_mixCounting_4 : decode cX5_mixCounting 4 = .ok (.getfield 90, 3) := by decide +kernel
theorem dX5_mixCounting_7 : decode cX5_mixCounting 7 = .ok (.astore_n 3, 1) := by decide +kernel
theorem dX5_mixCounting_8 : decode cX5_mixCounting 8 = .ok (.lload_n 1, 1) := by decide +kernel
theorem dX5_mixCounting_9 : decode cX5_mixCounting 9 = .ok (.aload_n 3, 1) := by decide +kernel
theorem dX5_mixCounting_10 : decode cX5_mixCounting 10 = .ok (.invokevirtual 255, 3) := by decide +kernel
theorem dX5_mixCounting_13 : decode cX5_mixCounting 13 = .ok (.iconst 1, 1) := by decide +kernel
theorem dX5_mixCounting_14 : decode cX5_mixCounting 14 = .ok (.iadd, 1) := by decide +kernel
theorem dX5_mixCounting_15 : decode cX5_mixCounting 15 = .ok (.i2l, 1) := by decide +kernel
theorem dX5_mixCounting_16 : decode cX5_mixCounting 16 = .ok (.invokestatic 363, 3) := by decide +kernel
theorem dX5_mixCounting_19 : decode cX5_mixCounting 19 = .ok (.lstore 4, 2) := by decide +kernel
theorem dX5_mixCounting_21 : decode cX5_mixCounting 21 = .ok (.lload 4, 2) := by decide +kernel
theorem dX5_mixCounting_23 : decode cX5_mixCounting 23 = .ok (.aload_n 3, 1) := by decide +kernel
theorem dX5_mixCounting_24 : decode cX5_mixCounting 24 = .ok (.aload_n 0, 1) := by decide +kernel
theorem dX5_mixCounting_25 : decode cX5_mixCounting 25 = .ok (.getfield 12, 3) := by decide +kernel
theorem dX5_mixCounting_28 : decode cX5_mixCounting 28 = .ok (.getfield 147, 3) := by decide +kernel
theorem dX5_mixCounting_31 : decode cX5_mixCounting 31 = .ok (.invokevirtual 260, 3) := by decide +kernel
theorem dX5_mixCounting_34 : decode cX5_mixCounting 34 = .ok (.i2l, 1) := by decide +kernel
theorem dX5_mixCounting_35 : decode cX5_mixCounting 35 = .ok (.invokestatic 363, 3) := by decide +kernel
theorem dX5_mixCounting_38 : decode cX5_mixCounting 38 = .ok (.lstore 4, 2) := by decide +kernel
theorem dX5_mixCounting_40 : decode cX5_mixCounting 40 = .ok (.lload 4, 2) := by decide +kernel
theorem dX5_mixCounting_42 : decode cX5_mixCounting 42 = .ok (.aload_n 3, 1) := by decide +kernel
theorem dX5_mixCounting_43 : decode cX5_mixCounting 43 = .ok (.aload_n 0, 1) := by decide +kernel
theorem dX5_mixCounting_44 : decode cX5_mixCounting 44 = .ok (.getfield 12, 3) := by decide +kernel
theorem dX5_mixCounting_47 : decode cX5_mixCounting 47 = .ok (.getfield 147, 3) := by decide +kernel
theorem dX5_mixCounting_50 : decode cX5_mixCounting 50 = .ok (.invokevirtual 264, 3) := by decide +kernel
theorem dX5_mixCounting_53 : decode cX5_mixCounting 53 = .ok (.i2l, 1) := by decide +kernel
theorem dX5_mixCounting_54 : decode cX5_mixCounting 54 = .ok (.invokestatic 363, 3) := by decide +kernel
theorem dX5_mixCounting_57 : decode cX5_mixCounting 57 = .ok (.lstore 4, 2) := by decide +kernel
theorem dX5_mixCounting_59 : decode cX5_mixCounting 59 = .ok (.aload_n 3, 1) := by decide +kernel
theorem dX5_mixCounting_60 : decode cX5_mixCounting 60 = .ok (.invokevirtual 267, 3) := by decide +kernel
theorem dX5_mixCounting_63 : decode cX5_mixCounting 63 = .ok (.istore 6, 2) := by decide +kernel
theorem dX5_mixCounting_65 : decode cX5_mixCounting 65 = .ok (.iconst 0, 1) := by decide +kernel
theorem dX5_mixCounting_66 : decode cX5_mixCounting 66 = .ok (.istore 7, 2) := by decide +kernel
theorem dX5_mixCounting_68 : decode cX5_mixCounting 68 = .ok (.iload 7, 2) := by decide +kernel
theorem dX5_mixCounting_70 : decode cX5_mixCounting 70 = .ok (.iload 6, 2) := by decide +kernel
theorem dX5_mixCounting_72 : decode cX5_mixCounting 72 = .ok (.if_icmp .ge 26, 3) := by decide +kernel
theorem dX5_mixCounting_75 : decode cX5_mixCounting 75 = .ok (.lload 4, 2) := by decide +kernel
theorem dX5_mixCounting_77 : decode cX5_mixCounting 77 = .ok (.aload_n 3, 1) := by decide +kernel
theorem dX5_mixCounting_78 : decode cX5_mixCounting 78 = .ok (.getfield 270, 3) := by decide +kernel
theorem dX5_mixCounting_81 : decode cX5_mixCounting 81 = .ok (.iload 7, 2) := by decide +kernel
theorem dX5_mixCounting_83 : decode cX5_mixCounting 83 = .ok (.invokestatic 195, 3) := by decide +kernel
theorem dX5_mixCounting_86 : decode cX5_mixCounting 86 = .ok (.i2l, 1) := by decide +kernel
theorem dX5_mixCounting_87 : decode cX5_mixCounting 87 = .ok (.invokestatic 363, 3) := by decide +kernel
theorem dX5_mixCounting_90 : decode cX5_mixCounting 90 = .ok (.lstore 4, 2) := by decide +kernel
theorem dX5_mixCounting_92 : decode cX5_mixCounting 92 = .ok (.iinc 7 1, 3) := by decide +kernel
theorem dX5_mixCounting_95 : decode cX5_mixCounting 95 = .ok (.goto (-27), 3) := by decide +kernel
theorem dX5_mixCounting_98 : decode cX5_mixCounting 98 = .ok (.lload 4, 2) := by decide +kernel
theorem dX5_mixCounting_100 : decode cX5_mixCounting 100 = .ok (.aload_n 3, 1) := by decide +kernel
theorem dX5_mixCounting_101 : decode cX5_mixCounting 101 = .ok (.iconst 0, 1) := by decide +kernel
theorem dX5_mixCounting_102 : decode cX5_mixCounting 102 = .ok (.invokevirtual 276, 3) := by decide +kernel
theorem dX5_mixCounting_105 : decode cX5_mixCounting 105 = .ok (.i2l, 1) := by decide +kernel
theorem dX5_mixCounting_106 : decode cX5_mixCounting 106 = .ok (.invokestatic 363, 3) := by decide +kernel
theorem dX5_mixCounting_109 : decode cX5_mixCounting 109 = .ok (.lstore 4, 2) := by decide +kernel
theorem dX5_mixCounting_111 : decode cX5_mixCounting 111 = .ok (.lload 4, 2) := by decide +kernel
theorem dX5_mixCounting_113 : decode cX5_mixCounting 113 = .ok (.aload_n 3, 1) := by decide +kernel
theorem dX5_mixCounting_114 : decode cX5_mixCounting 114 = .ok (.iconst 1, 1) := by decide +kernel
theorem dX5_mixCounting_115 : decode cX5_mixCounting 115 = .ok (.invokevirtual 276, 3) := by decide +kernel
theorem dX5_mixCounting_118 : decode cX5_mixCounting 118 = .ok (.i2l, 1) := by decide +kernel
theorem dX5_mixCounting_119 : decode cX5_mixCounting 119 = .ok (.invokestatic 363, 3) := by decide +kernel
theorem dX5_mixCounting_122 : decode cX5_mixCounting 122 = .ok (.lstore 4, 2) := by decide +kernel
theorem dX5_mixCounting_124 : decode cX5_mixCounting 124 = .ok (.lload 4, 2) := by decide +kernel
theorem dX5_mixCounting_126 : decode cX5_mixCounting 126 = .ok (.aload_n 3, 1) := by decide +kernel
theorem dX5_mixCounting_127 : decode cX5_mixCounting 127 = .ok (.invokevirtual 279, 3) := by decide +kernel
theorem dX5_mixCounting_130 : decode cX5_mixCounting 130 = .ok (.iconst 1, 1) := by decide +kernel
theorem dX5_mixCounting_131 : decode cX5_mixCounting 131 = .ok (.iadd, 1) := by decide +kernel
theorem dX5_mixCounting_132 : decode cX5_mixCounting 132 = .ok (.i2l, 1) := by decide +kernel
theorem dX5_mixCounting_133 : decode cX5_mixCounting 133 = .ok (.invokestatic 363, 3) := by decide +kernel
theorem dX5_mixCounting_136 : decode cX5_mixCounting 136 = .ok (.lstore 4, 2) := by decide +kernel
theorem dX5_mixCounting_138 : decode cX5_mixCounting 138 = .ok (.lload 4, 2) := by decide +kernel
theorem dX5_mixCounting_140 : decode cX5_mixCounting 140 = .ok (.aload_n 3, 1) := by decide +kernel
theorem dX5_mixCounting_141 : decode cX5_mixCounting 141 = .ok (.invokevirtual 284, 3) := by decide +kernel
theorem dX5_mixCounting_144 : decode cX5_mixCounting 144 = .ok (.i2l, 1) := by decide +kernel
theorem dX5_mixCounting_145 : decode cX5_mixCounting 145 = .ok (.invokestatic 363, 3) := by decide +kernel
theorem dX5_mixCounting_148 : decode cX5_mixCounting 148 = .ok (.lstore 4, 2) := by decide +kernel
theorem dX5_mixCounting_150 : decode cX5_mixCounting 150 = .ok (.lload 4, 2) := by decide +kernel
theorem dX5_mixCounting_152 : decode cX5_mixCounting 152 = .ok (.iconst 3, 1) := by decide +kernel
theorem dX5_mixCounting_153 : decode cX5_mixCounting 153 = .ok (.aload_n 0, 1) := by decide +kernel
theorem dX5_mixCounting_154 : decode cX5_mixCounting 154 = .ok (.getfield 12, 3) := by decide +kernel
theorem dX5_mixCounting_157 : decode cX5_mixCounting 157 = .ok (.getfield 137, 3) := by decide +kernel
theorem dX5_mixCounting_160 : decode cX5_mixCounting 160 = .ok (.iadd, 1) := by decide +kernel
theorem dX5_mixCounting_161 : decode cX5_mixCounting 161 = .ok (.iconst (-1), 1) := by decide +kernel
theorem dX5_mixCounting_162 : decode cX5_mixCounting 162 = .ok (.bipush 40, 2) := by decide +kernel
theorem dX5_mixCounting_164 : decode cX5_mixCounting 164 = .ok (.invokestatic 291, 3) := by decide +kernel
theorem dX5_mixCounting_167 : decode cX5_mixCounting 167 = .ok (.i2l, 1) := by decide +kernel
theorem dX5_mixCounting_168 : decode cX5_mixCounting 168 = .ok (.invokestatic 363, 3) := by decide +kernel
theorem dX5_mixCounting_171 : decode cX5_mixCounting 171 = .ok (.lstore 4, 2) := by decide +kernel
theorem dX5_mixCounting_173 : decode cX5_mixCounting 173 = .ok (.lload 4, 2) := by decide +kernel
theorem dX5_mixCounting_175 : decode cX5_mixCounting 175 = .ok (.iconst 3, 1) := by decide +kernel
theorem dX5_mixCounting_176 : decode cX5_mixCounting 176 = .ok (.aload_n 0, 1) := by decide +kernel
theorem dX5_mixCounting_177 : decode cX5_mixCounting 177 = .ok (.getfield 12, 3) := by decide +kernel
theorem dX5_mixCounting_180 : decode cX5_mixCounting 180 = .ok (.getfield 137, 3) := by decide +kernel
theorem dX5_mixCounting_183 : decode cX5_mixCounting 183 = .ok (.iadd, 1) := by decide +kernel
theorem dX5_mixCounting_184 : decode cX5_mixCounting 184 = .ok (.iconst (-1), 1) := by decide +kernel
theorem dX5_mixCounting_185 : decode cX5_mixCounting 185 = .ok (.bipush 40, 2) := by decide +kernel
theorem dX5_mixCounting_187 : decode cX5_mixCounting 187 = .ok (.invokestatic 294, 3) := by decide +kernel
theorem dX5_mixCounting_190 : decode cX5_mixCounting 190 = .ok (.i2l, 1) := by decide +kernel
theorem dX5_mixCounting_191 : decode cX5_mixCounting 191 = .ok (.invokestatic 363, 3) := by decide +kernel
theorem dX5_mixCounting_194 : decode cX5_mixCounting 194 = .ok (.lreturn, 1) := by decide +kernel
def f_X5_mixCounting (N : Nat) (xv : XV) (nv : SV) (p1 : Int64) : Option (Int64 × (XV × SV)) :=
  (f_X0_scoringSide N (S_green nv)).bind (fun o1 => (f_X5_mix N p1 ((o1 + (1 : Int32)).toInt64)).bind (fun o3 => (f_X0_orderedPoints N (S_green nv) (S_touchersTwice nv)).bind (fun o5 => (f_X5_mix N o3 ((o5.1).toInt64)).bind (fun o7 => (f_X0_pairedPoints N o5.2 (S_touchersTwice nv)).bind (fun o9 => (f_X5_mix N o7 ((o9).toInt64)).bind (fun o11 => (f_X0_sortByDistance N o5.2).bind (fun o13 => lpN (fun (s68 : Int64 × Int32) (k68 : (Int64 × Int32) → Option (Int64 × (XV × SV))) => (if o13.1 ≤ s68.2 then (f_X0_aliveCount N o13.2 (0 : Int32)).bind (fun o16 => (f_X5_mix N s68.1 ((o16).toInt64)).bind (fun o18 => (f_X0_aliveCount N o13.2 (1 : Int32)).bind (fun o20 => (f_X5_mix N o18 ((o20).toInt64)).bind (fun o22 => (f_X0_gapOfSides N o13.2).bind (fun o24 => (f_X5_mix N o22 ((o24 + (1 : Int32)).toInt64)).bind (fun o26 => (f_X0_farthestApart N o13.2).bind (fun o28 => (f_X5_mix N o26 ((o28).toInt64)).bind (fun o30 => (f_X5_placeBySteps N ((3 : Int32) + (S_blowing nv)) (-1 : Int32) (40 : Int32)).bind (fun o32 => (f_X5_mix N o30 ((o32).toInt64)).bind (fun o34 => (f_X5_placeByFormula N ((3 : Int32) + (S_blowing nv)) (-1 : Int32) (40 : Int32)).bind (fun o36 => (f_X5_mix N o34 ((o36).toInt64)).bind (fun o38 => some (o38, (xv, (S_set_green nv o13.2))))))))))))))) else (f_X5_at N 8 (G_order o13.2) s68.2).bind (fun o40 => (f_X5_mix N s68.1 ((o40).toInt64)).bind (fun o42 => k68 (o42, (s68.2 + (1 : Int32))))))) N (o11, (0 : Int32)))))))))
set_option maxHeartbeats 4000000 in
set_option maxRecDepth 100000 in
theorem met_X5_mixCounting (l : Launch) (dC : Nat → ClassId) (dI : Nat → Nat → Nat) (cyI cyO cyL : ClassId) (x : Nat → Nat) (tr : Nat → Nat) (an : Nat → Nat) (fl fs : Nat → Option Nat) (sz : Nat) (N : Nat) (xv : XV) (nv : SV) (p1 : Int64) (out : Int64 × (XV × SV)) (hF : f_X5_mixCounting N xv nv p1 = some out) : Met l yX5_mixCounting (Cond.code yX5_mixCounting cX5_mixCounting 8 (some .long) :: wT) ({ frames := 4, cells := 0, slots := 0, locals := 94 } : Room) (wWr dC dI cyI cyO cyL [.ref (x 0), .long p1] (([(cXo x an tr xv), (cH cyO (x 1) (x 2) 2 fl), (cXk cyI x xv), (cH cyO (x 4) (x 5) 6 fs), (cT cyI x (X_text xv)), (cSo an nv), (cG cyI an (S_green nv)), (cV cyI an (S_score nv))] : List va_W).flatten) sz) (va_Ql (fun (r : Int64) (u : XV × SV) => (r, u) = out) (fun u t => va_P (dC, dI) vwCl (([(cXo x an tr u.1), (cH cyO (x 1) (x 2) 2 fl), (cXk cyI x u.1), (cH cyO (x 4) (x 5) 6 fs), (cT cyI x (X_text u.1)), (cSo an u.2), (cG cyI an (S_green u.2)), (cV cyI an (S_score u.2))] : List va_W).flatten) t.heap ∧ va_D (va_A (([(cXo x an tr xv), (cH cyO (x 1) (x 2) 2 fl), (cXk cyI x xv), (cH cyO (x 4) (x 5) 6 fs), (cT cyI x (X_text xv)), (cSo an nv), (cG cyI an (S_green nv)), (cV cyI an (S_score nv))] : List va_W).flatten) sz) (([(cXo x an tr u.1), (cH cyO (x 1) (x 2) 2 fl), (cXk cyI x u.1), (cH cyO (x 4) (x 5) 6 fs), (cT cyI x (X_text u.1)), (cSo an u.2), (cG cyI an (S_green u.2)), (cV cyI an (S_score u.2))] : List va_W).flatten)) (va_A (([(cXo x an tr xv), (cH cyO (x 1) (x 2) 2 fl), (cXk cyI x xv), (cH cyO (x 4) (x 5) 6 fs), (cT cyI x (X_text xv)), (cSo an nv), (cG cyI an (S_green nv)), (cV cyI an (S_score nv))] : List va_W).flatten) sz)) 0 0 (va_A (([(cXo x an tr xv), (cH cyO (x 1) (x 2) 2 fl), (cXk cyI x xv), (cH cyO (x 4) (x 5) 6 fs), (cT cyI x (X_text xv)), (cSo an nv), (cG cyI an (S_green nv)), (cV cyI an (S_score nv))] : List va_W).flatten) sz) := by
  refine Met.ofW (cc := cX5_mixCounting) (maxL := 8) (ret := (some .long)) (by decide) rfl ?_
  intro p e s m args below meth c s₁ B hml hv
  obtain ⟨rfl, hsz, hP, hK, hD0⟩ := hv
  have hx := B.exec
  have hb := B.bytes
  have hr := B.returns
  have hts0 := atoms_spec (ws := (Cond.code yX5_mixCounting cX5_mixCounting 8 (some .long) :: wT)) B.pre
  have hts := fun w h => hts0 w (List.mem_cons_of_mem _ h)
  clear hts0
  have hown : s.vm.findClass RX5 = some m.cls := findClass_of_methodNamed B.named
  have hlocks := B.notSynchronized
  subst hsz
  have hD := hD0.self (sz := s.heap.size)
  generalize hAe : va_A (([(cXo x an tr xv), (cH cyO (x 1) (x 2) 2 fl), (cXk cyI x xv), (cH cyO (x 4) (x 5) 6 fs), (cT cyI x (X_text xv)), (cSo an nv), (cG cyI an (S_green nv)), (cV cyI an (S_score nv))] : List va_W).flatten) s.heap.size = A at hD ⊢
  have hA : ∀ q : Nat, s.heap.size ≤ q → A q := fun q h => by rw [← hAe]; exact Or.inr h
  clear hD0
  have hS : va_S A s.heap s.heap [] := va_S.rf
  have hl := lv_entry [.ref (x 0), .long p1] (n := 8) (Nat.le_of_ble_eq_true rfl)
  rw [lg_entry_eq]
  generalize (lg_sl [.ref (x 0), .long p1] ++ List.replicate (8 - (lg_sl [.ref (x 0), .long p1]).length) Slot.unset).toArray = ls at hl ⊢
  have hl : lv_has ls 8 [(0, .ref (x 0)), (1, .long p1)] := hl
  unfold f_X5_mixCounting at hF
  refine lv_aload_n hx hb dX5_mixCounting_0 rfl (lv_at hl 0 rfl) ?_
  refine va_get (D := (dC, dI)) (ci := 5) (v := .ref (an 0)) (C := RX5) (T := TX5) (N := 8) hx hb hts inX5 hown hK.1 hP 0 rfl rfl 0 (by decide) (hts _ w_fieldLink_X5_12) (fun _ h9 => h9) rfl dX5_mixCounting_1 ?_
  refine va_get (D := (dC, dI)) (ci := 3) (v := .ref (an 1)) (C := RX3) (T := TX3) (N := 6) hx hb hts inX3 hown hK.1 hP 8 rfl rfl 0 (by decide) (hts _ w_fieldLink_X5_90) (fun _ h9 => h9) rfl dX5_mixCounting_4 ?_
  refine lv_astore_n (lv' := [(3, .ref (an 1)), (0, .ref (x 0)), (1, .long p1)]) hx hb dX5_mixCounting_7 rfl hl (by decide) rfl (fun ls hl => ?_)
  refine lv_lload_n hx hb dX5_mixCounting_8 rfl (lv_at hl 2 rfl) ?_
  refine lv_aload_n hx hb dX5_mixCounting_9 rfl (lv_at hl 0 rfl) ?_
  obtain ⟨o1, h2, hF⟩ := obd hF
  refine wcRVi (As := []) (rest := [.long p1]) (b := (an 1)) ⟨hx, hb, hml, hown, hts⟩ (met_X0_scoringSide l dC dI cyI cyO cyL an N (S_green nv)  o1 h2) (cwV 0 hts (gV w_methodLink_X5_255 w_instanceMethod_X0_scoringSide w_selects_X0_scoringSide w_initialized_X0 w_code_X0_scoringSide) rfl rfl rfl (by decide +kernel) ⟨Nat.le_of_ble_eq_true rfl, Nat.le_of_ble_eq_true rfl⟩) (va_recv hK.1 hP (ci := 0) (q0 := 9) rfl rfl) hP hK [9, 10, 11, 12, 13, 14, 15, 16] rfl rfl hl.1 (Nat.le_of_ble_eq_true rfl) dX5_mixCounting_10 ⟨Nat.le_of_ble_eq_true rfl, Nat.le_of_ble_eq_true rfl⟩ hS (fun r H locs hw hP hS => ?_)
  have hw := hw.symm
  subst hw
  refine lv_iconst (v := 1) hx hb dX5_mixCounting_13 (by decide) ?_
  refine lv_iadd hx hb dX5_mixCounting_14 ?_
  refine lv_i2l (v := (o1 + (1 : Int32)).toInt64) hx hb dX5_mixCounting_15 rfl ?_
  obtain ⟨o3, h4, hF⟩ := obd hF
  refine wcRSl (As := [.long p1, .long ((o1 + (1 : Int32)).toInt64)]) (rest := []) ⟨hx, hb, hml, hown, hts⟩ (met_X5_mix l dC dI cyI cyO cyL  N  p1 ((o1 + (1 : Int32)).toInt64) o3 h4) (va_cwS 2 hts (gS w_methodLink_X5_363 w_static_X5_mix w_initialized_X5 w_code_X5_mix) rfl rfl rfl (by decide +kernel) ⟨Nat.le_of_ble_eq_true rfl, Nat.le_of_ble_eq_true rfl⟩) hP hK [] rfl rfl hl.1 (Nat.le_of_ble_eq_true rfl) dX5_mixCounting_16 ⟨Nat.le_of_ble_eq_true rfl, Nat.le_of_ble_eq_true rfl⟩ hS (fun r H locs hw hP hS => ?_)
  have hw := hw.symm
  subst hw
  refine lv_lstore (lv' := [(4, .long o3), (3, .ref (an 1)), (0, .ref (x 0)), (1, .long p1)]) hx hb dX5_mixCounting_19 hl (by decide) rfl (fun ls hl => ?_)
  refine lv_lload hx hb dX5_mixCounting_21 (lv_at hl 0 rfl) ?_
  refine lv_aload_n hx hb dX5_mixCounting_23 rfl (lv_at hl 1 rfl) ?_
  refine lv_aload_n hx hb dX5_mixCounting_24 rfl (lv_at hl 2 rfl) ?_
  refine va_get (D := (dC, dI)) (ci := 5) (v := .ref (an 0)) (C := RX5) (T := TX5) (N := 8) hx hb hts inX5 hown hK.1 hP 0 rfl rfl 0 (by decide) (hts _ w_fieldLink_X5_12) (fun _ h9 => h9) rfl dX5_mixCounting_25 ?_
  refine va_get (D := (dC, dI)) (ci := 3) (v := .int (S_touchersTwice nv)) (C := RX3) (T := TX3) (N := 6) hx hb hts inX3 hown hK.1 hP 8 rfl rfl 5 (by decide) (hts _ w_fieldLink_X5_147) (fun _ h9 => h9) rfl dX5_mixCounting_28 ?_
  obtain ⟨o5, h6, hF⟩ := obd hF
  refine wcPVi (As := [.int (S_touchersTwice nv)]) (rest := [.long o3]) (wr := ([(cXo x an tr xv), (cH cyO (x 1) (x 2) 2 fl), (cXk cyI x xv), (cH cyO (x 4) (x 5) 6 fs), (cT cyI x (X_text xv)), (cSo an nv), (cV cyI an (S_score nv))] : List va_W).flatten) (b := (an 1)) ⟨hx, hb, hml, hown, hts⟩ (met_X0_orderedPoints l dC dI cyI cyO cyL an _ N (S_green nv) (S_touchersTwice nv) o5 h6) (cwV 1 hts (gV w_methodLink_X5_260 w_instanceMethod_X0_orderedPoints w_selects_X0_orderedPoints w_initialized_X0 w_code_X0_orderedPoints) rfl rfl rfl (by decide +kernel) ⟨Nat.le_of_ble_eq_true rfl, Nat.le_of_ble_eq_true rfl⟩) (va_recv hK.1 hP (ci := 0) (q0 := 9) rfl rfl) hP hD hK (seg_perm (n := 8) (R := [(cXo x an tr xv), (cH cyO (x 1) (x 2) 2 fl), (cXk cyI x xv), (cH cyO (x 4) (x 5) 6 fs), (cT cyI x (X_text xv)), (cSo an nv), (cV cyI an (S_score nv))]) (C := [(cG cyI an (S_green nv))]) [0, 1, 2, 3, 4, 5, 7] [6] rfl rfl rfl (by decide) rfl) rfl hl.1 (Nat.le_of_ble_eq_true rfl) dX5_mixCounting_31 ⟨Nat.le_of_ble_eq_true rfl, Nat.le_of_ble_eq_true rfl⟩ hS hA (fun r u H locs hw hP hD hS => ?_)
  obtain rfl : r = o5.1 := congrArg Prod.fst hw
  obtain rfl : u = o5.2 := congrArg Prod.snd hw
  clear hw
  have hq := seg_permS (segs := [(cXo x an tr xv), (cH cyO (x 1) (x 2) 2 fl), (cXk cyI x xv), (cH cyO (x 4) (x 5) 6 fs), (cT cyI x (X_text xv)), (cSo an (S_set_green nv o5.2)), (cG cyI an (S_green (S_set_green nv o5.2))), (cV cyI an (S_score (S_set_green nv o5.2)))]) (R := [(cXo x an tr xv), (cH cyO (x 1) (x 2) 2 fl), (cXk cyI x xv), (cH cyO (x 4) (x 5) 6 fs), (cT cyI x (X_text xv)), (cSo an nv), (cV cyI an (S_score nv))]) (C := [(cG cyI an (S_green (S_set_green nv o5.2)))]) (n := 8) [0, 1, 2, 3, 4, 5, 7] [6] rfl rfl rfl (by decide)
  have hP : va_P (dC, dI) vwCl (([(cXo x an tr xv), (cH cyO (x 1) (x 2) 2 fl), (cXk cyI x xv), (cH cyO (x 4) (x 5) 6 fs), (cT cyI x (X_text xv)), (cSo an (S_set_green nv o5.2)), (cG cyI an (S_green (S_set_green nv o5.2))), (cV cyI an (S_score (S_set_green nv o5.2)))] : List va_W).flatten) H := hP.perm hq
  have hD : va_D A (([(cXo x an tr xv), (cH cyO (x 1) (x 2) 2 fl), (cXk cyI x xv), (cH cyO (x 4) (x 5) 6 fs), (cT cyI x (X_text xv)), (cSo an (S_set_green nv o5.2)), (cG cyI an (S_green (S_set_green nv o5.2))), (cV cyI an (S_score (S_set_green nv o5.2)))] : List va_W).flatten) := hD.perm hq
  clear hq
  refine lv_i2l (v := (o5.1).toInt64) hx hb dX5_mixCounting_34 rfl ?_
  obtain ⟨o7, h8, hF⟩ := obd hF
  refine wcRSl (As := [.long o3, .long ((o5.1).toInt64)]) (rest := []) ⟨hx, hb, hml, hown, hts⟩ (met_X5_mix l dC dI cyI cyO cyL  N  o3 ((o5.1).toInt64) o7 h8) (va_cwS 2 hts (gS w_methodLink_X5_363 w_static_X5_mix w_initialized_X5 w_code_X5_mix) rfl rfl rfl (by decide +kernel) ⟨Nat.le_of_ble_eq_true rfl, Nat.le_of_ble_eq_true rfl⟩) hP hK [] rfl rfl hl.1 (Nat.le_of_ble_eq_true rfl) dX5_mixCounting_35 ⟨Nat.le_of_ble_eq_true rfl, Nat.le_of_ble_eq_true rfl⟩ hS (fun r H locs hw hP hS => ?_)
  have hw := hw.symm
  subst hw
  refine lv_lstore (lv' := [(4, .long o7), (3, .ref (an 1)), (0, .ref (x 0)), (1, .long p1)]) hx hb dX5_mixCounting_38 hl (by decide) rfl (fun ls hl => ?_)
  refine lv_lload hx hb dX5_mixCounting_40 (lv_at hl 0 rfl) ?_
  refine lv_aload_n hx hb dX5_mixCounting_42 rfl (lv_at hl 1 rfl) ?_
  refine lv_aload_n hx hb dX5_mixCounting_43 rfl (lv_at hl 2 rfl) ?_
  refine va_get (D := (dC, dI)) (ci := 5) (v := .ref (an 0)) (C := RX5) (T := TX5) (N := 8) hx hb hts inX5 hown hK.1 hP 0 rfl rfl 0 (by decide) (hts _ w_fieldLink_X5_12) (fun _ h9 => h9) rfl dX5_mixCounting_44 ?_
  refine va_get (D := (dC, dI)) (ci := 3) (v := .int (S_touchersTwice nv)) (C := RX3) (T := TX3) (N := 6) hx hb hts inX3 hown hK.1 hP 8 rfl rfl 5 (by decide) (hts _ w_fieldLink_X5_147) (fun _ h9 => h9) rfl dX5_mixCounting_47 ?_
  obtain ⟨o9, h10, hF⟩ := obd hF
  refine wcRVi (As := [.int (S_touchersTwice nv)]) (rest := [.long o7]) (b := (an 1)) ⟨hx, hb, hml, hown, hts⟩ (met_X0_pairedPoints l dC dI cyI cyO cyL an N o5.2 (S_touchersTwice nv) o9 h10) (cwV 1 hts (gV w_methodLink_X5_264 w_instanceMethod_X0_pairedPoints w_selects_X0_pairedPoints w_initialized_X0 w_code_X0_pairedPoints) rfl rfl rfl (by decide +kernel) ⟨Nat.le_of_ble_eq_true rfl, Nat.le_of_ble_eq_true rfl⟩) (va_recv hK.1 hP (ci := 0) (q0 := 9) rfl rfl) hP hK [9, 10, 11, 12, 13, 14, 15, 16] rfl rfl hl.1 (Nat.le_of_ble_eq_true rfl) dX5_mixCounting_50 ⟨Nat.le_of_ble_eq_true rfl, Nat.le_of_ble_eq_true rfl⟩ hS (fun r H locs hw hP hS => ?_)
  have hw := hw.symm
  subst hw
  refine lv_i2l (v := (o9).toInt64) hx hb dX5_mixCounting_53 rfl ?_
  obtain ⟨o11, h12, hF⟩ := obd hF
  refine wcRSl (As := [.long o7, .long ((o9).toInt64)]) (rest := []) ⟨hx, hb, hml, hown, hts⟩ (met_X5_mix l dC dI cyI cyO cyL  N  o7 ((o9).toInt64) o11 h12) (va_cwS 2 hts (gS w_methodLink_X5_363 w_static_X5_mix w_initialized_X5 w_code_X5_mix) rfl rfl rfl (by decide +kernel) ⟨Nat.le_of_ble_eq_true rfl, Nat.le_of_ble_eq_true rfl⟩) hP hK [] rfl rfl hl.1 (Nat.le_of_ble_eq_true rfl) dX5_mixCounting_54 ⟨Nat.le_of_ble_eq_true rfl, Nat.le_of_ble_eq_true rfl⟩ hS (fun r H locs hw hP hS => ?_)
  have hw := hw.symm
  subst hw
  refine lv_lstore (lv' := [(4, .long o11), (3, .ref (an 1)), (0, .ref (x 0)), (1, .long p1)]) hx hb dX5_mixCounting_57 hl (by decide) rfl (fun ls hl => ?_)
  refine lv_aload_n hx hb dX5_mixCounting_59 rfl (lv_at hl 1 rfl) ?_
  obtain ⟨o13, h14, hF⟩ := obd hF
  refine wcPVi (As := []) (rest := []) (wr := ([(cXo x an tr xv), (cH cyO (x 1) (x 2) 2 fl), (cXk cyI x xv), (cH cyO (x 4) (x 5) 6 fs), (cT cyI x (X_text xv)), (cSo an (S_set_green nv o5.2)), (cV cyI an (S_score (S_set_green nv o5.2)))] : List va_W).flatten) (b := (an 1)) ⟨hx, hb, hml, hown, hts⟩ (met_X0_sortByDistance l dC dI cyI cyO cyL an _ N o5.2  o13 h14) (cwV 0 hts (gV w_methodLink_X5_267 w_instanceMethod_X0_sortByDistance w_selects_X0_sortByDistance w_initialized_X0 w_code_X0_sortByDistance) rfl rfl rfl (by decide +kernel) ⟨Nat.le_of_ble_eq_true rfl, Nat.le_of_ble_eq_true rfl⟩) (va_recv hK.1 hP (ci := 0) (q0 := 9) rfl rfl) hP hD hK (seg_perm (n := 8) (R := [(cXo x an tr xv), (cH cyO (x 1) (x 2) 2 fl), (cXk cyI x xv), (cH cyO (x 4) (x 5) 6 fs), (cT cyI x (X_text xv)), (cSo an (S_set_green nv o5.2)), (cV cyI an (S_score (S_set_green nv o5.2)))]) (C := [(cG cyI an (S_green (S_set_green nv o5.2)))]) [0, 1, 2, 3, 4, 5, 7] [6] rfl rfl rfl (by decide) rfl) rfl hl.1 (Nat.le_of_ble_eq_true rfl) dX5_mixCounting_60 ⟨Nat.le_of_ble_eq_true rfl, Nat.le_of_ble_eq_true rfl⟩ hS hA (fun r u H locs hw hP hD hS => ?_)
  obtain rfl : r = o13.1 := congrArg Prod.fst hw
  obtain rfl : u = o13.2 := congrArg Prod.snd hw
  clear hw
  have hq := seg_permS (segs := [(cXo x an tr xv), (cH cyO (x 1) (x 2) 2 fl), (cXk cyI x xv), (cH cyO (x 4) (x 5) 6 fs), (cT cyI x (X_text xv)), (cSo an (S_set_green nv o13.2)), (cG cyI an (S_green (S_set_green nv o13.2))), (cV cyI an (S_score (S_set_green nv o13.2)))]) (R := [(cXo x an tr xv), (cH cyO (x 1) (x 2) 2 fl), (cXk cyI x xv), (cH cyO (x 4) (x 5) 6 fs), (cT cyI x (X_text xv)), (cSo an (S_set_green nv o5.2)), (cV cyI an (S_score (S_set_green nv o5.2)))]) (C := [(cG cyI an (S_green (S_set_green nv o13.2)))]) (n := 8) [0, 1, 2, 3, 4, 5, 7] [6] rfl rfl rfl (by decide)
  have hP : va_P (dC, dI) vwCl (([(cXo x an tr xv), (cH cyO (x 1) (x 2) 2 fl), (cXk cyI x xv), (cH cyO (x 4) (x 5) 6 fs), (cT cyI x (X_text xv)), (cSo an (S_set_green nv o13.2)), (cG cyI an (S_green (S_set_green nv o13.2))), (cV cyI an (S_score (S_set_green nv o13.2)))] : List va_W).flatten) H := hP.perm hq
  have hD : va_D A (([(cXo x an tr xv), (cH cyO (x 1) (x 2) 2 fl), (cXk cyI x xv), (cH cyO (x 4) (x 5) 6 fs), (cT cyI x (X_text xv)), (cSo an (S_set_green nv o13.2)), (cG cyI an (S_green (S_set_green nv o13.2))), (cV cyI an (S_score (S_set_green nv o13.2)))] : List va_W).flatten) := hD.perm hq
  clear hq
  refine lv_istore (lv' := [(6, .int o13.1), (4, .long o11), (3, .ref (an 1)), (0, .ref (x 0)), (1, .long p1)]) hx hb dX5_mixCounting_63 hl (by decide) rfl (fun ls hl => ?_)
  refine lv_iconst (v := 0) hx hb dX5_mixCounting_65 (by decide) ?_
  refine lv_istore (lv' := [(7, .int (0 : Int32)), (6, .int o13.1), (4, .long o11), (3, .ref (an 1)), (0, .ref (x 0)), (1, .long p1)]) hx hb dX5_mixCounting_66 hl (by decide) rfl (fun ls hl => ?_)
  obtain ⟨st68, hst68, hF⟩ := lpN_use hF
  have hL68 : ∀ (n : Nat) (s68 : Int64 × Int32) (H : Heap) (locs : List Loc) (ls : Array Slot), va_P (dC, dI) vwCl (([(cXo x an tr xv), (cH cyO (x 1) (x 2) 2 fl), (cXk cyI x xv), (cH cyO (x 4) (x 5) 6 fs), (cT cyI x (X_text xv)), (cSo an (S_set_green nv o13.2)), (cG cyI an (S_green (S_set_green nv o13.2))), (cV cyI an (S_score (S_set_green nv o13.2)))] : List va_W).flatten) H → va_D A (([(cXo x an tr xv), (cH cyO (x 1) (x 2) 2 fl), (cXk cyI x xv), (cH cyO (x 4) (x 5) 6 fs), (cT cyI x (X_text xv)), (cSo an (S_set_green nv o13.2)), (cG cyI an (S_green (S_set_green nv o13.2))), (cV cyI an (S_score (S_set_green nv o13.2)))] : List va_W).flatten) → va_S A s.heap H locs → lv_has ls 8 [(0, .ref (x 0)), (3, .ref (an 1)), (4, .long s68.1), (6, .int o13.1), (7, .int s68.2)] → lpN st68 n s68 = some out → W p l e (headSpec (Cond.code yX5_mixCounting cX5_mixCounting 8 (some .long) :: wT) ({ frames := 4, cells := 0, slots := 0, locals := 94 } : Room)).room s m ([.ref (x 0), .long p1] : List Value).toArray below meth c H locs 0 0 (MQ below (va_Ql (fun (r : Int64) (u : XV × SV) => (r, u) = out) (fun u t => va_P (dC, dI) vwCl (([(cXo x an tr u.1), (cH cyO (x 1) (x 2) 2 fl), (cXk cyI x u.1), (cH cyO (x 4) (x 5) 6 fs), (cT cyI x (X_text u.1)), (cSo an u.2), (cG cyI an (S_green u.2)), (cV cyI an (S_score u.2))] : List va_W).flatten) t.heap ∧ va_D A (([(cXo x an tr u.1), (cH cyO (x 1) (x 2) 2 fl), (cXk cyI x u.1), (cH cyO (x 4) (x 5) 6 fs), (cT cyI x (X_text u.1)), (cSo an u.2), (cG cyI an (S_green u.2)), (cV cyI an (S_score u.2))] : List va_W).flatten)) A) ([.ref (x 0), .long p1] : List Value).toArray s 0 0 A) (F0 m 68 ls []) := by
    intro n
    induction n with
    | zero => intro s68 H locs ls hP hD hS hl hF; exact lpN_0 hF
    | succ n ih68 =>
      intro s68 H locs ls hP hD hS hl hF
      have hF := (congrFun (congrFun hst68 s68) (lpN st68 n)).symm.trans (lpN_s hF)
      refine lv_iload hx hb dX5_mixCounting_68 (lv_at hl 4 rfl) ?_
      refine lv_iload hx hb dX5_mixCounting_70 (lv_at hl 3 rfl) ?_
      refine lv_icmp_ge (tgt := 98) hx hb dX5_mixCounting_72 (by decide) (fun c15 => ?_) (fun c15 => ?_)
      · have hF := itp c15 hF
        refine lv_lload hx hb dX5_mixCounting_98 (lv_at hl 2 rfl) ?_
        refine lv_aload_n hx hb dX5_mixCounting_100 rfl (lv_at hl 1 rfl) ?_
        refine lv_iconst (v := 0) hx hb dX5_mixCounting_101 (by decide) ?_
        obtain ⟨o16, h17, hF⟩ := obd hF
        refine wcRVi (As := [.int (0 : Int32)]) (rest := [.long s68.1]) (b := (an 1)) ⟨hx, hb, hml, hown, hts⟩ (met_X0_aliveCount l dC dI cyI cyO cyL an N o13.2 (0 : Int32) o16 h17) (cwV 1 hts (gV w_methodLink_X5_276 w_instanceMethod_X0_aliveCount w_selects_X0_aliveCount w_initialized_X0 w_code_X0_aliveCount) rfl rfl rfl (by decide +kernel) ⟨Nat.le_of_ble_eq_true rfl, Nat.le_of_ble_eq_true rfl⟩) (va_recv hK.1 hP (ci := 0) (q0 := 9) rfl rfl) hP hK [9, 10, 11, 12, 13, 14, 15, 16] rfl rfl hl.1 (Nat.le_of_ble_eq_true rfl) dX5_mixCounting_102 ⟨Nat.le_of_ble_eq_true rfl, Nat.le_of_ble_eq_true rfl⟩ hS (fun r H locs hw hP hS => ?_)
        have hw := hw.symm
        subst hw
        refine lv_i2l (v := (o16).toInt64) hx hb dX5_mixCounting_105 rfl ?_
        obtain ⟨o18, h19, hF⟩ := obd hF
        refine wcRSl (As := [.long s68.1, .long ((o16).toInt64)]) (rest := []) ⟨hx, hb, hml, hown, hts⟩ (met_X5_mix l dC dI cyI cyO cyL  N  s68.1 ((o16).toInt64) o18 h19) (va_cwS 2 hts (gS w_methodLink_X5_363 w_static_X5_mix w_initialized_X5 w_code_X5_mix) rfl rfl rfl (by decide +kernel) ⟨Nat.le_of_ble_eq_true rfl, Nat.le_of_ble_eq_true rfl⟩) hP hK [] rfl rfl hl.1 (Nat.le_of_ble_eq_true rfl) dX5_mixCounting_106 ⟨Nat.le_of_ble_eq_true rfl, Nat.le_of_ble_eq_true rfl⟩ hS (fun r H locs hw hP hS => ?_)
        have hw := hw.symm
        subst hw
        refine lv_lstore (lv' := [(4, .long o18), (0, .ref (x 0)), (3, .ref (an 1)), (6, .int o13.1), (7, .int s68.2)]) hx hb dX5_mixCounting_109 hl (by decide) rfl (fun ls hl => ?_)
        refine lv_lload hx hb dX5_mixCounting_111 (lv_at hl 0 rfl) ?_
        refine lv_aload_n hx hb dX5_mixCounting_113 rfl (lv_at hl 2 rfl) ?_
        refine lv_iconst (v := 1) hx hb dX5_mixCounting_114 (by decide) ?_
        obtain ⟨o20, h21, hF⟩ := obd hF
        refine wcRVi (As := [.int (1 : Int32)]) (rest := [.long o18]) (b := (an 1)) ⟨hx, hb, hml, hown, hts⟩ (met_X0_aliveCount l dC dI cyI cyO cyL an N o13.2 (1 : Int32) o20 h21) (cwV 1 hts (gV w_methodLink_X5_276 w_instanceMethod_X0_aliveCount w_selects_X0_aliveCount w_initialized_X0 w_code_X0_aliveCount) rfl rfl rfl (by decide +kernel) ⟨Nat.le_of_ble_eq_true rfl, Nat.le_of_ble_eq_true rfl⟩) (va_recv hK.1 hP (ci := 0) (q0 := 9) rfl rfl) hP hK [9, 10, 11, 12, 13, 14, 15, 16] rfl rfl hl.1 (Nat.le_of_ble_eq_true rfl) dX5_mixCounting_115 ⟨Nat.le_of_ble_eq_true rfl, Nat.le_of_ble_eq_true rfl⟩ hS (fun r H locs hw hP hS => ?_)
        have hw := hw.symm
        subst hw
        refine lv_i2l (v := (o20).toInt64) hx hb dX5_mixCounting_118 rfl ?_
        obtain ⟨o22, h23, hF⟩ := obd hF
        refine wcRSl (As := [.long o18, .long ((o20).toInt64)]) (rest := []) ⟨hx, hb, hml, hown, hts⟩ (met_X5_mix l dC dI cyI cyO cyL  N  o18 ((o20).toInt64) o22 h23) (va_cwS 2 hts (gS w_methodLink_X5_363 w_static_X5_mix w_initialized_X5 w_code_X5_mix) rfl rfl rfl (by decide +kernel) ⟨Nat.le_of_ble_eq_true rfl, Nat.le_of_ble_eq_true rfl⟩) hP hK [] rfl rfl hl.1 (Nat.le_of_ble_eq_true rfl) dX5_mixCounting_119 ⟨Nat.le_of_ble_eq_true rfl, Nat.le_of_ble_eq_true rfl⟩ hS (fun r H locs hw hP hS => ?_)
        have hw := hw.symm
        subst hw
        refine lv_lstore (lv' := [(4, .long o22), (0, .ref (x 0)), (3, .ref (an 1)), (6, .int o13.1), (7, .int s68.2)]) hx hb dX5_mixCounting_122 hl (by decide) rfl (fun ls hl => ?_)
        refine lv_lload hx hb dX5_mixCounting_124 (lv_at hl 0 rfl) ?_
        refine lv_aload_n hx hb dX5_mixCounting_126 rfl (lv_at hl 2 rfl) ?_
        obtain ⟨o24, h25, hF⟩ := obd hF
        refine wcRVi (As := []) (rest := [.long o22]) (b := (an 1)) ⟨hx, hb, hml, hown, hts⟩ (met_X0_gapOfSides l dC dI cyI cyO cyL an N o13.2  o24 h25) (cwV 0 hts (gV w_methodLink_X5_279 w_instanceMethod_X0_gapOfSides w_selects_X0_gapOfSides w_initialized_X0 w_code_X0_gapOfSides) rfl rfl rfl (by decide +kernel) ⟨Nat.le_of_ble_eq_true rfl, Nat.le_of_ble_eq_true rfl⟩) (va_recv hK.1 hP (ci := 0) (q0 := 9) rfl rfl) hP hK [9, 10, 11, 12, 13, 14, 15, 16] rfl rfl hl.1 (Nat.le_of_ble_eq_true rfl) dX5_mixCounting_127 ⟨Nat.le_of_ble_eq_true rfl, Nat.le_of_ble_eq_true rfl⟩ hS (fun r H locs hw hP hS => ?_)
        have hw := hw.symm
        subst hw
        refine lv_iconst (v := 1) hx hb dX5_mixCounting_130 (by decide) ?_
        refine lv_iadd hx hb dX5_mixCounting_131 ?_
        refine lv_i2l (v := (o24 + (1 : Int32)).toInt64) hx hb dX5_mixCounting_132 rfl ?_
        obtain ⟨o26, h27, hF⟩ := obd hF
        refine wcRSl (As := [.long o22, .long ((o24 + (1 : Int32)).toInt64)]) (rest := []) ⟨hx, hb, hml, hown, hts⟩ (met_X5_mix l dC dI cyI cyO cyL  N  o22 ((o24 + (1 : Int32)).toInt64) o26 h27) (va_cwS 2 hts (gS w_methodLink_X5_363 w_static_X5_mix w_initialized_X5 w_code_X5_mix) rfl rfl rfl (by decide +kernel) ⟨Nat.le_of_ble_eq_true rfl, Nat.le_of_ble_eq_true rfl⟩) hP hK [] rfl rfl hl.1 (Nat.le_of_ble_eq_true rfl) dX5_mixCounting_133 ⟨Nat.le_of_ble_eq_true rfl, Nat.le_of_ble_eq_true rfl⟩ hS (fun r H locs hw hP hS => ?_)
        have hw := hw.symm
        subst hw
        refine lv_lstore (lv' := [(4, .long o26), (0, .ref (x 0)), (3, .ref (an 1)), (6, .int o13.1), (7, .int s68.2)]) hx hb dX5_mixCounting_136 hl (by decide) rfl (fun ls hl => ?_)
        refine lv_lload hx hb dX5_mixCounting_138 (lv_at hl 0 rfl) ?_
        refine lv_aload_n hx hb dX5_mixCounting_140 rfl (lv_at hl 2 rfl) ?_
        obtain ⟨o28, h29, hF⟩ := obd hF
        refine wcRVi (As := []) (rest := [.long o26]) (b := (an 1)) ⟨hx, hb, hml, hown, hts⟩ (met_X0_farthestApart l dC dI cyI cyO cyL an N o13.2  o28 h29) (cwV 0 hts (gV w_methodLink_X5_284 w_instanceMethod_X0_farthestApart w_selects_X0_farthestApart w_initialized_X0 w_code_X0_farthestApart) rfl rfl rfl (by decide +kernel) ⟨Nat.le_of_ble_eq_true rfl, Nat.le_of_ble_eq_true rfl⟩) (va_recv hK.1 hP (ci := 0) (q0 := 9) rfl rfl) hP hK [9, 10, 11, 12, 13, 14, 15, 16] rfl rfl hl.1 (Nat.le_of_ble_eq_true rfl) dX5_mixCounting_141 ⟨Nat.le_of_ble_eq_true rfl, Nat.le_of_ble_eq_true rfl⟩ hS (fun r H locs hw hP hS => ?_)
        have hw := hw.symm
        subst hw
        refine lv_i2l (v := (o28).toInt64) hx hb dX5_mixCounting_144 rfl ?_
        obtain ⟨o30, h31, hF⟩ := obd hF
        refine wcRSl (As := [.long o26, .long ((o28).toInt64)]) (rest := []) ⟨hx, hb, hml, hown, hts⟩ (met_X5_mix l dC dI cyI cyO cyL  N  o26 ((o28).toInt64) o30 h31) (va_cwS 2 hts (gS w_methodLink_X5_363 w_static_X5_mix w_initialized_X5 w_code_X5_mix) rfl rfl rfl (by decide +kernel) ⟨Nat.le_of_ble_eq_true rfl, Nat.le_of_ble_eq_true rfl⟩) hP hK [] rfl rfl hl.1 (Nat.le_of_ble_eq_true rfl) dX5_mixCounting_145 ⟨Nat.le_of_ble_eq_true rfl, Nat.le_of_ble_eq_true rfl⟩ hS (fun r H locs hw hP hS => ?_)
        have hw := hw.symm
        subst hw
        refine lv_lstore (lv' := [(4, .long o30), (0, .ref (x 0)), (3, .ref (an 1)), (6, .int o13.1), (7, .int s68.2)]) hx hb dX5_mixCounting_148 hl (by decide) rfl (fun ls hl => ?_)
        refine lv_lload hx hb dX5_mixCounting_150 (lv_at hl 0 rfl) ?_
        refine lv_iconst (v := 3) hx hb dX5_mixCounting_152 (by decide) ?_
        refine lv_aload_n hx hb dX5_mixCounting_153 rfl (lv_at hl 1 rfl) ?_
        refine va_get (D := (dC, dI)) (ci := 5) (v := .ref (an 0)) (C := RX5) (T := TX5) (N := 8) hx hb hts inX5 hown hK.1 hP 0 rfl rfl 0 (by decide) (hts _ w_fieldLink_X5_12) (fun _ h9 => h9) rfl dX5_mixCounting_154 ?_
        refine va_get (D := (dC, dI)) (ci := 3) (v := .int (S_blowing nv)) (C := RX3) (T := TX3) (N := 6) hx hb hts inX3 hown hK.1 hP 8 rfl rfl 3 (by decide) (hts _ w_fieldLink_X5_137) (fun _ h9 => h9) rfl dX5_mixCounting_157 ?_
        refine lv_iadd hx hb dX5_mixCounting_160 ?_
        refine lv_iconst (v := -1) hx hb dX5_mixCounting_161 (by decide) ?_
        refine lv_bipush (v := 40) hx hb dX5_mixCounting_162 (by decide) ?_
        obtain ⟨o32, h33, hF⟩ := obd hF
        refine wcRSi (As := [.int ((3 : Int32) + (S_blowing nv)), .int (-1 : Int32), .int (40 : Int32)]) (rest := [.long o30]) ⟨hx, hb, hml, hown, hts⟩ (met_X5_placeBySteps l dC dI cyI cyO cyL  N  ((3 : Int32) + (S_blowing nv)) (-1 : Int32) (40 : Int32) o32 h33) (va_cwS 3 hts (gS w_methodLink_X5_291 w_static_X5_placeBySteps w_initialized_X5 w_code_X5_placeBySteps) rfl rfl rfl (by decide +kernel) ⟨Nat.le_of_ble_eq_true rfl, Nat.le_of_ble_eq_true rfl⟩) hP hK [] rfl rfl hl.1 (Nat.le_of_ble_eq_true rfl) dX5_mixCounting_164 ⟨Nat.le_of_ble_eq_true rfl, Nat.le_of_ble_eq_true rfl⟩ hS (fun r H locs hw hP hS => ?_)
        have hw := hw.symm
        subst hw
        refine lv_i2l (v := (o32).toInt64) hx hb dX5_mixCounting_167 rfl ?_
        obtain ⟨o34, h35, hF⟩ := obd hF
        refine wcRSl (As := [.long o30, .long ((o32).toInt64)]) (rest := []) ⟨hx, hb, hml, hown, hts⟩ (met_X5_mix l dC dI cyI cyO cyL  N  o30 ((o32).toInt64) o34 h35) (va_cwS 2 hts (gS w_methodLink_X5_363 w_static_X5_mix w_initialized_X5 w_code_X5_mix) rfl rfl rfl (by decide +kernel) ⟨Nat.le_of_ble_eq_true rfl, Nat.le_of_ble_eq_true rfl⟩) hP hK [] rfl rfl hl.1 (Nat.le_of_ble_eq_true rfl) dX5_mixCounting_168 ⟨Nat.le_of_ble_eq_true rfl, Nat.le_of_ble_eq_true rfl⟩ hS (fun r H locs hw hP hS => ?_)
        have hw := hw.symm
        subst hw
        refine lv_lstore (lv' := [(4, .long o34), (0, .ref (x 0)), (3, .ref (an 1)), (6, .int o13.1), (7, .int s68.2)]) hx hb dX5_mixCounting_171 hl (by decide) rfl (fun ls hl => ?_)
        refine lv_lload hx hb dX5_mixCounting_173 (lv_at hl 0 rfl) ?_
        refine lv_iconst (v := 3) hx hb dX5_mixCounting_175 (by decide) ?_
        refine lv_aload_n hx hb dX5_mixCounting_176 rfl (lv_at hl 1 rfl) ?_
        refine va_get (D := (dC, dI)) (ci := 5) (v := .ref (an 0)) (C := RX5) (T := TX5) (N := 8) hx hb hts inX5 hown hK.1 hP 0 rfl rfl 0 (by decide) (hts _ w_fieldLink_X5_12) (fun _ h9 => h9) rfl dX5_mixCounting_177 ?_
        refine va_get (D := (dC, dI)) (ci := 3) (v := .int (S_blowing nv)) (C := RX3) (T := TX3) (N := 6) hx hb hts inX3 hown hK.1 hP 8 rfl rfl 3 (by decide) (hts _ w_fieldLink_X5_137) (fun _ h9 => h9) rfl dX5_mixCounting_180 ?_
        refine lv_iadd hx hb dX5_mixCounting_183 ?_
        refine lv_iconst (v := -1) hx hb dX5_mixCounting_184 (by decide) ?_
        refine lv_bipush (v := 40) hx hb dX5_mixCounting_185 (by decide) ?_
        obtain ⟨o36, h37, hF⟩ := obd hF
        refine wcRSi (As := [.int ((3 : Int32) + (S_blowing nv)), .int (-1 : Int32), .int (40 : Int32)]) (rest := [.long o34]) ⟨hx, hb, hml, hown, hts⟩ (met_X5_placeByFormula l dC dI cyI cyO cyL  N  ((3 : Int32) + (S_blowing nv)) (-1 : Int32) (40 : Int32) o36 h37) (va_cwS 3 hts (gS w_methodLink_X5_294 w_static_X5_placeByFormula w_initialized_X5 w_code_X5_placeByFormula) rfl rfl rfl (by decide +kernel) ⟨Nat.le_of_ble_eq_true rfl, Nat.le_of_ble_eq_true rfl⟩) hP hK [] rfl rfl hl.1 (Nat.le_of_ble_eq_true rfl) dX5_mixCounting_187 ⟨Nat.le_of_ble_eq_true rfl, Nat.le_of_ble_eq_true rfl⟩ hS (fun r H locs hw hP hS => ?_)
        have hw := hw.symm
        subst hw
        refine lv_i2l (v := (o36).toInt64) hx hb dX5_mixCounting_190 rfl ?_
        obtain ⟨o38, h39, hF⟩ := obd hF
        refine wcRSl (As := [.long o34, .long ((o36).toInt64)]) (rest := []) ⟨hx, hb, hml, hown, hts⟩ (met_X5_mix l dC dI cyI cyO cyL  N  o34 ((o36).toInt64) o38 h39) (va_cwS 2 hts (gS w_methodLink_X5_363 w_static_X5_mix w_initialized_X5 w_code_X5_mix) rfl rfl rfl (by decide +kernel) ⟨Nat.le_of_ble_eq_true rfl, Nat.le_of_ble_eq_true rfl⟩) hP hK [] rfl rfl hl.1 (Nat.le_of_ble_eq_true rfl) dX5_mixCounting_191 ⟨Nat.le_of_ble_eq_true rfl, Nat.le_of_ble_eq_true rfl⟩ hS (fun r H locs hw hP hS => ?_)
        have hw := hw.symm
        subst hw
        exact W.lret (v := o38) hx hb hr (fun t ht hW => ⟨⟨_, (xv, (S_set_green nv o13.2)), rfl, Option.some.inj hF, by rw [ht]; exact hP, hD⟩, hS.F ht⟩) hS.2.2 dX5_mixCounting_194
      · have hF := itn c15 hF
        refine lv_lload hx hb dX5_mixCounting_75 (lv_at hl 2 rfl) ?_
        refine lv_aload_n hx hb dX5_mixCounting_77 rfl (lv_at hl 1 rfl) ?_
        refine va_get (D := (dC, dI)) (ci := 0) (v := .ref (an 8)) (C := RX0) (T := TX0) (N := 9) hx hb hts inX0 hown hK.1 hP 9 rfl rfl 6 (by decide) (hts _ w_fieldLink_X5_270) (fun _ h9 => h9) rfl dX5_mixCounting_78 ?_
        refine lv_iload hx hb dX5_mixCounting_81 (lv_at hl 4 rfl) ?_
        obtain ⟨o40, h41, hF⟩ := obd hF
        refine wcRSi (As := [.ref (an 8), .int s68.2]) (rest := [.long s68.1]) ⟨hx, hb, hml, hown, hts⟩ (met_X5_at l dC dI cyI cyO cyL (an 8) 8 N (G_order o13.2) s68.2 o40 h41) (va_cwS 2 hts (gS w_methodLink_X5_195 w_static_X5_at w_initialized_X5 w_code_X5_at) rfl rfl rfl (by decide +kernel) ⟨Nat.le_of_ble_eq_true rfl, Nat.le_of_ble_eq_true rfl⟩) hP hK [16] rfl rfl hl.1 (Nat.le_of_ble_eq_true rfl) dX5_mixCounting_83 ⟨Nat.le_of_ble_eq_true rfl, Nat.le_of_ble_eq_true rfl⟩ hS (fun r H locs hw hP hS => ?_)
        have hw := hw.symm
        subst hw
        refine lv_i2l (v := (o40).toInt64) hx hb dX5_mixCounting_86 rfl ?_
        obtain ⟨o42, h43, hF⟩ := obd hF
        refine wcRSl (As := [.long s68.1, .long ((o40).toInt64)]) (rest := []) ⟨hx, hb, hml, hown, hts⟩ (met_X5_mix l dC dI cyI cyO cyL  N  s68.1 ((o40).toInt64) o42 h43) (va_cwS 2 hts (gS w_methodLink_X5_363 w_static_X5_mix w_initialized_X5 w_code_X5_mix) rfl rfl rfl (by decide +kernel) ⟨Nat.le_of_ble_eq_true rfl, Nat.le_of_ble_eq_true rfl⟩) hP hK [] rfl rfl hl.1 (Nat.le_of_ble_eq_true rfl) dX5_mixCounting_87 ⟨Nat.le_of_ble_eq_true rfl, Nat.le_of_ble_eq_true rfl⟩ hS (fun r H locs hw hP hS => ?_)
        have hw := hw.symm
        subst hw
        refine lv_lstore (lv' := [(4, .long o42), (0, .ref (x 0)), (3, .ref (an 1)), (6, .int o13.1), (7, .int s68.2)]) hx hb dX5_mixCounting_90 hl (by decide) rfl (fun ls hl => ?_)
        refine lv_iinc (v := (s68.2 + (1 : Int32))) (lv' := [(7, .int (s68.2 + (1 : Int32))), (4, .long o42), (0, .ref (x 0)), (3, .ref (an 1)), (6, .int o13.1)]) hx hb dX5_mixCounting_92 hl (k := 4) rfl rfl (by decide) rfl (fun ls hl => ?_)
        refine lv_goto (tgt := 68) hx hb dX5_mixCounting_95 (by decide) ?_
        exact ih68 (o42, (s68.2 + (1 : Int32))) _ _ _ hP hD hS (lv_sub hl [2, 3, 1, 4, 0] rfl) hF
  exact hL68 N (o11, (0 : Int32)) _ _ _ hP hD hS (lv_sub hl [4, 3, 2, 1, 0] rfl) hF
theorem dX5_mixMatch_0 : decode cX5_mixMatch 0 = .ok (.aload_n 0, 1) := by decide +kernel
theorem dX5_mixMatch_1 : decode cX5_mixMatch 1 = .ok (.getfield 12, 3) := by decide +kernel
theorem dX5_mixMatch_4 : decode cX5_mixMatch 4 = .ok (.getfield 110, 3) := by decide +kernel
theorem dX5_mixMatch_7 : decode cX5_mixMatch 7 = .ok (.astore_n 3, 1) := by decide +kernel
theorem dX5_mixMatch_8 : decode cX5_mixMatch 8 = .ok (.lload_n 1, 1) := by decide +kernel
theorem dX5_mixMatch_9 : decode cX5_mixMatch 9 = .ok (.aload_n 3, 1) := by decide +kernel
theorem dX5_mixMatch_10 : decode cX5_mixMatch 10 = .ok (.getfield 305, 3) := by decide +kernel
theorem dX5_mixMatch_13 : decode cX5_mixMatch 13 = .ok (.aload_n 3, 1) := by decide +kernel
theorem dX5_mixMatch_14 : decode cX5_mixMatch 14 = .ok (.getfield 305, 3) := by decide +kernel
theorem dX5_mixMatch_17 : decode cX5_mixMatch 17 = .ok (.arraylength, 1) := by decide +kernel
theorem dX5_mixMatch_18 : decode cX5_mixMatch 18 = .ok (.invokestatic 370, 3) := by decide +kernel
theorem dX5_mixMatch_21 : decode cX5_mixMatch 21 = .ok (.lstore 4, 2) := by decide +kernel
theorem dX5_mixMatch_23 : decode cX5_mixMatch 23 = .ok (.lload 4, 2) := by decide +kernel
theorem dX5_mixMatch_25 : decode cX5_mixMatch 25 = .ok (.aload_n 3, 1) := by decide +kernel
theorem dX5_mixMatch_26 : decode cX5_mixMatch 26 = .ok (.getfield 114, 3) := by decide +kernel
theorem dX5_mixMatch_29 : decode cX5_mixMatch 29 = .ok (.i2l, 1) := by decide +kernel
theorem dX5_mixMatch_30 : decode cX5_mixMatch 30 = .ok (.invokestatic 363, 3) := by decide +kernel
theorem dX5_mixMatch_33 : decode cX5_mixMatch 33 = .ok (.lstore 4, 2) := by decide +kernel
theorem dX5_mixMatch_35 : decode cX5_mixMatch 35 = .ok (.lload 4, 2) := by decide +kernel
theorem dX5_mixMatch_37 : decode cX5_mixMatch 37 = .ok (.aload_n 3, 1) := by decide +kernel
theorem dX5_mixMatch_38 : decode cX5_mixMatch 38 = .ok (.invokevirtual 308, 3) := by decide +kernel
theorem dX5_mixMatch_41 : decode cX5_mixMatch 41 = .ok (.ifCond .eq 7, 3) := by decide +kernel
theorem dX5_mixMatch_44 : decode cX5_mixMatch 44 = .ok (.lconst 1, 1) := by decide +kernel
theorem dX5_mixMatch_45 : decode cX5_mixMatch 45 = .ok (.goto 4, 3) := by decide +kernel
theorem dX5_mixMatch_48 : decode cX5_mixMatch 48 = .ok (.lconst 0, 1) := by decide +kernel
theorem dX5_mixMatch_49 : decode cX5_mixMatch 49 = .ok (.invokestatic 363, 3) := by decide +kernel
theorem dX5_mixMatch_52 : decode cX5_mixMatch 52 = .ok (.lstore 4, 2) := by decide +kernel
theorem dX5_mixMatch_54 : decode cX5_mixMatch 54 = .ok (.lload 4, 2) := by decide +kernel
theorem dX5_mixMatch_56 : decode cX5_mixMatch 56 = .ok (.aload_n 3, 1) := by decide +kernel
theorem dX5_mixMatch_57 : decode cX5_mixMatch 57 = .ok (.getfield 311, 3) := by decide +kernel
theorem dX5_mixMatch_60 : decode cX5_mixMatch 60 = .ok (.i2l, 1) := by decide +kernel
theorem dX5_mixMatch_61 : decode cX5_mixMatch 61 = .ok (.invokestatic 363, 3) := by decide +kernel
theorem dX5_mixMatch_64 : decode cX5_mixMatch 64 = .ok (.lstore 4, 2) := by decide +kernel
theorem dX5_mixMatch_66 : decode cX5_mixMatch 66 = .ok (.lload 4, 2) := by decide +kernel
theorem dX5_mixMatch_68 : decode cX5_mixMatch 68 = .ok (.aload_n 3, 1) := by decide +kernel
theorem dX5_mixMatch_69 : decode cX5_mixMatch 69 = .ok (.getfield 314, 3) := by decide +kernel
theorem dX5_mixMatch_72 : decode cX5_mixMatch 72 = .ok (.i2l, 1) := by decide +kernel
theorem dX5_mixMatch_73 : decode cX5_mixMatch 73 = .ok (.invokestatic 363, 3) := by decide +kernel
theorem dX5_mixMatch_76 : decode cX5_mixMatch 76 = .ok (.lstore 4, 2) := by decide +kernel
theorem dX5_mixMatch_78 : decode cX5_mixMatch 78 = .ok (.lload 4, 2) := by decide +kernel
theorem dX5_mixMatch_80 : decode cX5_mixMatch 80 = .ok (.aload_n 3, 1) := by decide +kernel
theorem dX5_mixMatch_81 : decode cX5_mixMatch 81 = .ok (.getfield 317, 3) := by decide +kernel
theorem dX5_mixMatch_84 : decode cX5_mixMatch 84 = .ok (.i2l, 1) := by decide +kernel
theorem dX5_mixMatch_85 : decode cX5_mixMatch 85 = .ok (.invokestatic 363, 3) := by decide +kernel
theorem dX5_mixMatch_88 : decode cX5_mixMatch 88 = .ok (.lstore 4, 2) := by decide +kernel
theorem dX5_mixMatch_90 : decode cX5_mixMatch 90 = .ok (.lload 4, 2) := by decide +kernel
theorem dX5_mixMatch_92 : decode cX5_mixMatch 92 = .ok (.aload_n 3, 1) := by decide +kernel
theorem dX5_mixMatch_93 : decode cX5_mixMatch 93 = .ok (.getfield 322, 3) := by decide +kernel
theorem dX5_mixMatch_96 : decode cX5_mixMatch 96 = .ok (.aload_n 3, 1) := by decide +kernel
theorem dX5_mixMatch_97 : decode cX5_mixMatch 97 = .ok (.getfield 317, 3) := by decide +kernel
theorem dX5_mixMatch_100 : decode cX5_mixMatch 100 = .ok (.invokestatic 370, 3) := by decide +kernel
theorem dX5_mixMatch_103 : decode cX5_mixMatch 103 = .ok (.lstore 4, 2) := by decide +kernel
theorem dX5_mixMatch_105 : decode cX5_mixMatch 105 = .ok (.lload 4, 2) := by decide +kernel
theorem dX5_mixMatch_107 : decode cX5_mixMatch 107 = .ok (.aload_n 3, 1) := by decide +kernel
theorem dX5_mixMatch_108 : decode cX5_mixMatch 108 = .ok (.getfield 325, 3) := by decide +kernel
theorem dX5_mixMatch_111 : decode cX5_mixMatch 111 = .ok (.aload_n 3, 1) := by decide +kernel
theorem dX5_mixMatch_112 : decode cX5_mixMatch 112 = .ok (.getfield 325, 3) := by decide +kernel
theorem dX5_mixMatch_115 : decode cX5_mixMatch 115 = .ok (.arraylength, 1) := by decide +kernel
theorem dX5_mixMatch_116 : decode cX5_mixMatch 116 = .ok (.invokestatic 370, 3) := by decide +kernel
theorem dX5_mixMatch_119 : decode cX5_mixMatch 119 = .ok (.lstore 4, 2) := by decide +kernel
theorem dX5_mixMatch_121 : decode cX5_mixMatch 121 = .ok (.lload 4, 2) := by decide +kernel
theorem dX5_mixMatch_123 : decode cX5_mixMatch 123 = .ok (.aload_n 3, 1) := by decide +kernel
theorem dX5_mixMatch_124 : decode cX5_mixMatch 124 = .ok (.invokevirtual 328, 3) := by decide +kernel
theorem dX5_mixMatch_127 : decode cX5_mixMatch 127 = .ok (.i2l, 1) := by decide +kernel
theorem dX5_mixMatch_128 : decode cX5_mixMatch 128 = .ok (.invokestatic 363, 3) := by decide +kernel
theorem dX5_mixMatch_131 : decode cX5_mixMatch 131 = .ok (.lstore 4, 2) := by decide +kernel
theorem dX5_mixMatch_133 : decode cX5_mixMatch 133 = .ok (.lload 4, 2) := by decide +kernel
theorem dX5_mixMatch_135 : decode cX5_mixMatch 135 = .ok (.aload_n 3, 1) := by decide +kernel
theorem dX5_mixMatch_136 : decode cX5_mixMatch 136 = .ok (.getfield 331, 3) := by decide +kernel
theorem dX5_mixMatch_139 : decode cX5_mixMatch 139 = .ok (.i2l, 1) := by decide +kernel
theorem dX5_mixMatch_140 : decode cX5_mixMatch 140 = .ok (.invokestatic 363, 3) := by decide +kernel
theorem dX5_mixMatch_143 : decode cX5_mixMatch 143 = .ok (.lstore 4, 2) := by decide +kernel
theorem dX5_mixMatch_145 : decode cX5_mixMatch 145 = .ok (.lload 4, 2) := by decide +kernel
theorem dX5_mixMatch_147 : decode cX5_mixMatch 147 = .ok (.aload_n 3, 1) := by decide +kernel
theorem dX5_mixMatch_148 : decode cX5_mixMatch 148 = .ok (.getfield 334, 3) := by decide +kernel
theorem dX5_mixMatch_151 : decode cX5_mixMatch 151 = .ok (.i2l, 1) := by decide +kernel
theorem dX5_mixMatch_152 : decode cX5_mixMatch 152 = .ok (.invokestatic 363, 3) := by decide +kernel
theorem dX5_mixMatch_155 : decode cX5_mixMatch 155 = .ok (.lstore 4, 2) := by decide +kernel
theorem dX5_mixMatch_157 : decode cX5_mixMatch 157 = .ok (.lload 4, 2) := by decide +kernel
theorem dX5_mixMatch_159 : decode cX5_mixMatch 159 = .ok (.aload_n 3, 1) := by decide +kernel
theorem dX5_mixMatch_160 : decode cX5_mixMatch 160 = .ok (.getfield 335, 3) := by decide +kernel
theorem dX5_mixMatch_163 : decode cX5_mixMatch 163 = .ok (.i2l, 1) := by decide +kernel
theorem dX5_mixMatch_164 : decode cX5_mixMatch 164 = .ok (.invokestatic 363, 3) := by decide +kernel
theorem dX5_mixMatch_167 : decode cX5_mixMatch 167 = .ok (.lstore 4, 2) := by decide +kernel
theorem dX5_mixMatch_169 : decode cX5_mixMatch 169 = .ok (.lload 4, 2) := by decide +kernel
theorem dX5_mixMatch_171 : decode cX5_mixMatch 171 = .ok (.aload_n 3, 1) := by decide +kernel
theorem dX5_mixMatch_172 : decode cX5_mixMatch 172 = .ok (.getfield 338, 3) := by decide +kernel
theorem dX5_mixMatch_175 : decode cX5_mixMatch 175 = .ok (.i2l, 1) := by decide +kernel
theorem dX5_mixMatch_176 : decode cX5_mixMatch 176 = .ok (.invokestatic 363, 3) := by decide +kernel
theorem dX5_mixMatch_179 : decode cX5_mixMatch 179 = .ok (.lreturn, 1) := by decide +kernel
def f_X5_mixMatch (N : Nat) (xv : XV) (nv : SV) (p1 : Int64) : Option (Int64) :=
  (f_X5_mixAll N 2 (V_points (S_score nv)) p1 (2 : Int32)).bind (fun o1 => (f_X5_mix N o1 ((V_pointsNeeded (S_score nv)).toInt64)).bind (fun o3 => (f_X1_isWon N (S_score nv)).bind (fun o5 => jn (fun (s49 : Int64) => (f_X5_mix N o3 s49).bind (fun o8 => (f_X5_mix N o8 ((V_endCount (S_score nv)).toInt64)).bind (fun o10 => (f_X5_mix N o10 ((V_burntCount (S_score nv)).toInt64)).bind (fun o12 => (f_X5_mix N o12 ((V_latestCount (S_score nv)).toInt64)).bind (fun o14 => (f_X5_mixAll N 12 (V_latest (S_score nv)) o14 (V_latestCount (S_score nv))).bind (fun o16 => (f_X5_mixAll N 17 (V_endsByPoints (S_score nv)) o16 (17 : Int32)).bind (fun o18 => (f_X1_latestWins N (S_score nv)).bind (fun o20 => (f_X5_mix N o18 ((o20).toInt64)).bind (fun o22 => (f_X5_mix N o22 ((V_backCount (S_score nv)).toInt64)).bind (fun o24 => (f_X5_mix N o24 ((V_bowlCount (S_score nv)).toInt64)).bind (fun o26 => (f_X5_mix N o26 ((V_toucherCount (S_score nv)).toInt64)).bind (fun o28 => (f_X5_mix N o28 ((V_firstSide (S_score nv)).toInt64)).bind (fun o30 => some o30))))))))))))) (fun (j49 : (Int64) → Option (Int64)) => (if o5 = 0 then j49 (0 : Int64) else j49 (1 : Int64))))))
set_option maxHeartbeats 4000000 in
set_option maxRecDepth 100000 in
theorem met_X5_mixMatch (l : Launch) (dC : Nat → ClassId) (dI : Nat → Nat → Nat) (cyI cyO cyL : ClassId) (x : Nat → Nat) (tr : Nat → Nat) (an : Nat → Nat) (fl fs : Nat → Option Nat) (N : Nat) (xv : XV) (nv : SV) (p1 : Int64) (out : Int64) (hF : f_X5_mixMatch N xv nv p1 = some out) : Met l yX5_mixMatch (Cond.code yX5_mixMatch cX5_mixMatch 6 (some .long) :: wT) ({ frames := 2, cells := 0, slots := 0, locals := 49 } : Room) (wRd dC dI cyI cyO cyL [.ref (x 0), .long p1] (([(cXo x an tr xv), (cH cyO (x 1) (x 2) 2 fl), (cXk cyI x xv), (cH cyO (x 4) (x 5) 6 fs), (cT cyI x (X_text xv)), (cSo an nv), (cG cyI an (S_green nv)), (cV cyI an (S_score nv))] : List va_W).flatten)) (va_Ql (fun (r : Int64) (_ : Unit) => r = out) (fun _ _ => True) wN0) 0 0 wN0 := by
  refine Met.ofW (cc := cX5_mixMatch) (maxL := 6) (ret := (some .long)) (by decide) rfl ?_
  intro p e s m args below meth c s₁ B hml hv
  obtain ⟨rfl, hP, hK⟩ := hv
  have hx := B.exec
  have hb := B.bytes
  have hr := B.returns
  have hts0 := atoms_spec (ws := (Cond.code yX5_mixMatch cX5_mixMatch 6 (some .long) :: wT)) B.pre
  have hts := fun w h => hts0 w (List.mem_cons_of_mem _ h)
  clear hts0
  have hown : s.vm.findClass RX5 = some m.cls := findClass_of_methodNamed B.named
  have hlocks := B.notSynchronized
  have hS : va_S wN0 s.heap s.heap [] := va_S.rf
  have hl := lv_entry [.ref (x 0), .long p1] (n := 6) (Nat.le_of_ble_eq_true rfl)
  rw [lg_entry_eq]
  generalize (lg_sl [.ref (x 0), .long p1] ++ List.replicate (6 - (lg_sl [.ref (x 0), .long p1]).length) Slot.unset).toArray = ls at hl ⊢
  have hl : lv_has ls 6 [(0, .ref (x 0)), (1, .long p1)] := hl
  unfold f_X5_mixMatch at hF
  refine lv_aload_n hx hb dX5_mixMatch_0 rfl (lv_at hl 0 rfl) ?_
  refine va_get (D := (dC, dI)) (ci := 5) (v := .ref (an 0)) (C := RX5) (T := TX5) (N := 8) hx hb hts inX5 hown hK.1 hP 0 rfl rfl 0 (by decide) (hts _ w_fieldLink_X5_12) (fun _ h9 => h9) rfl dX5_mixMatch_1 ?_
  refine va_get (D := (dC, dI)) (ci := 3) (v := .ref (an 9)) (C := RX3) (T := TX3) (N := 6) hx hb hts inX3 hown hK.1 hP 8 rfl rfl 1 (by decide) (hts _ w_fieldLink_X5_110) (fun _ h9 => h9) rfl dX5_mixMatch_4 ?_
  refine lv_astore_n (lv' := [(3, .ref (an 9)), (0, .ref (x 0)), (1, .long p1)]) hx hb dX5_mixMatch_7 rfl hl (by decide) rfl (fun ls hl => ?_)
  refine lv_lload_n hx hb dX5_mixMatch_8 rfl (lv_at hl 2 rfl) ?_
  refine lv_aload_n hx hb dX5_mixMatch_9 rfl (lv_at hl 0 rfl) ?_
  refine va_get (D := (dC, dI)) (ci := 1) (v := .ref (an 10)) (C := RX1) (T := TX1) (N := 11) hx hb hts inX1 hown hK.1 hP 17 rfl rfl 0 (by decide) (hts _ w_fieldLink_X5_305) (fun _ h9 => h9) rfl dX5_mixMatch_10 ?_
  refine lv_aload_n hx hb dX5_mixMatch_13 rfl (lv_at hl 0 rfl) ?_
  refine va_get (D := (dC, dI)) (ci := 1) (v := .ref (an 10)) (C := RX1) (T := TX1) (N := 11) hx hb hts inX1 hown hK.1 hP 17 rfl rfl 0 (by decide) (hts _ w_fieldLink_X5_305) (fun _ h9 => h9) rfl dX5_mixMatch_14 ?_
  refine va_alen hx hb hK.1 hP 18 0 rfl rfl (v := (2 : Int32)) rfl dX5_mixMatch_17 ?_
  obtain ⟨o1, h2, hF⟩ := obd hF
  refine wcRSl (As := [.long p1, .ref (an 10), .int (2 : Int32)]) (rest := []) ⟨hx, hb, hml, hown, hts⟩ (met_X5_mixAll l dC dI cyI cyO cyL (an 10) 2 N (V_points (S_score nv)) p1 (2 : Int32) o1 h2) (va_cwS 3 hts (gS w_methodLink_X5_370 w_static_X5_mixAll w_initialized_X5 w_code_X5_mixAll) rfl rfl rfl (by decide +kernel) ⟨Nat.le_of_ble_eq_true rfl, Nat.le_of_ble_eq_true rfl⟩) hP hK [18] rfl rfl hl.1 (Nat.le_of_ble_eq_true rfl) dX5_mixMatch_18 ⟨Nat.le_of_ble_eq_true rfl, Nat.le_of_ble_eq_true rfl⟩ hS (fun r H locs hw hP hS => ?_)
  have hw := hw.symm
  subst hw
  refine lv_lstore (lv' := [(4, .long o1), (3, .ref (an 9)), (0, .ref (x 0)), (1, .long p1)]) hx hb dX5_mixMatch_21 hl (by decide) rfl (fun ls hl => ?_)
  refine lv_lload hx hb dX5_mixMatch_23 (lv_at hl 0 rfl) ?_
  refine lv_aload_n hx hb dX5_mixMatch_25 rfl (lv_at hl 1 rfl) ?_
  refine va_get (D := (dC, dI)) (ci := 1) (v := .int (V_pointsNeeded (S_score nv))) (C := RX1) (T := TX1) (N := 11) hx hb hts inX1 hown hK.1 hP 17 rfl rfl 3 (by decide) (hts _ w_fieldLink_X5_114) (fun _ h9 => h9) rfl dX5_mixMatch_26 ?_
  refine lv_i2l (v := (V_pointsNeeded (S_score nv)).toInt64) hx hb dX5_mixMatch_29 rfl ?_
  obtain ⟨o3, h4, hF⟩ := obd hF
  refine wcRSl (As := [.long o1, .long ((V_pointsNeeded (S_score nv)).toInt64)]) (rest := []) ⟨hx, hb, hml, hown, hts⟩ (met_X5_mix l dC dI cyI cyO cyL  N  o1 ((V_pointsNeeded (S_score nv)).toInt64) o3 h4) (va_cwS 2 hts (gS w_methodLink_X5_363 w_static_X5_mix w_initialized_X5 w_code_X5_mix) rfl rfl rfl (by decide +kernel) ⟨Nat.le_of_ble_eq_true rfl, Nat.le_of_ble_eq_true rfl⟩) hP hK [] rfl rfl hl.1 (Nat.le_of_ble_eq_true rfl) dX5_mixMatch_30 ⟨Nat.le_of_ble_eq_true rfl, Nat.le_of_ble_eq_true rfl⟩ hS (fun r H locs hw hP hS => ?_)
  have hw := hw.symm
  subst hw
  refine lv_lstore (lv' := [(4, .long o3), (3, .ref (an 9)), (0, .ref (x 0)), (1, .long p1)]) hx hb dX5_mixMatch_33 hl (by decide) rfl (fun ls hl => ?_)
  refine lv_lload hx hb dX5_mixMatch_35 (lv_at hl 0 rfl) ?_
  refine lv_aload_n hx hb dX5_mixMatch_37 rfl (lv_at hl 1 rfl) ?_
  obtain ⟨o5, h6, hF⟩ := obd hF
  refine wcRVi (As := []) (rest := [.long o3]) (b := (an 9)) ⟨hx, hb, hml, hown, hts⟩ (met_X1_isWon l dC dI cyI cyO cyL an N (S_score nv)  o5 h6) (cwV 0 hts (gV w_methodLink_X5_308 w_instanceMethod_X1_isWon w_selects_X1_isWon w_initialized_X1 w_code_X1_isWon) rfl rfl rfl (by decide +kernel) ⟨Nat.le_of_ble_eq_true rfl, Nat.le_of_ble_eq_true rfl⟩) (va_recv hK.1 hP (ci := 1) (q0 := 17) rfl rfl) hP hK [17, 18, 19, 20] rfl rfl hl.1 (Nat.le_of_ble_eq_true rfl) dX5_mixMatch_38 ⟨Nat.le_of_ble_eq_true rfl, Nat.le_of_ble_eq_true rfl⟩ hS (fun r H locs hw hP hS => ?_)
  obtain ⟨hw, hz7⟩ := hw
  have hw := hw.symm
  subst hw
  obtain ⟨j49, hj49, hF⟩ := jn_use hF
  have hJ49 : ∀ (s49 : Int64) (H : Heap) (locs : List Loc) (ls : Array Slot), va_P (dC, dI) vwCl (([(cXo x an tr xv), (cH cyO (x 1) (x 2) 2 fl), (cXk cyI x xv), (cH cyO (x 4) (x 5) 6 fs), (cT cyI x (X_text xv)), (cSo an nv), (cG cyI an (S_green nv)), (cV cyI an (S_score nv))] : List va_W).flatten) H → va_S wN0 s.heap H locs → lv_has ls 6 [(3, .ref (an 9))] → j49 s49 = some out → W p l e (headSpec (Cond.code yX5_mixMatch cX5_mixMatch 6 (some .long) :: wT) ({ frames := 2, cells := 0, slots := 0, locals := 49 } : Room)).room s m ([.ref (x 0), .long p1] : List Value).toArray below meth c H locs 0 0 (MQ below (va_Ql (fun (r : Int64) (_ : Unit) => r = out) (fun _ _ => True) wN0) ([.ref (x 0), .long p1] : List Value).toArray s 0 0 wN0) (F0 m 49 ls [.long s49, .long o3]) := by
    intro s49 H locs ls hP hS hl hF
    have hF := (congrFun hj49 s49).symm.trans hF
    obtain ⟨o8, h9, hF⟩ := obd hF
    refine wcRSl (As := [.long o3, .long s49]) (rest := []) ⟨hx, hb, hml, hown, hts⟩ (met_X5_mix l dC dI cyI cyO cyL  N  o3 s49 o8 h9) (va_cwS 2 hts (gS w_methodLink_X5_363 w_static_X5_mix w_initialized_X5 w_code_X5_mix) rfl rfl rfl (by decide +kernel) ⟨Nat.le_of_ble_eq_true rfl, Nat.le_of_ble_eq_true rfl⟩) hP hK [] rfl rfl hl.1 (Nat.le_of_ble_eq_true rfl) dX5_mixMatch_49 ⟨Nat.le_of_ble_eq_true rfl, Nat.le_of_ble_eq_true rfl⟩ hS (fun r H locs hw hP hS => ?_)
    have hw := hw.symm
    subst hw
    refine lv_lstore (lv' := [(4, .long o8), (3, .ref (an 9))]) hx hb dX5_mixMatch_52 hl (by decide) rfl (fun ls hl => ?_)
    refine lv_lload hx hb dX5_mixMatch_54 (lv_at hl 0 rfl) ?_
    refine lv_aload_n hx hb dX5_mixMatch_56 rfl (lv_at hl 1 rfl) ?_
    refine va_get (D := (dC, dI)) (ci := 1) (v := .int (V_endCount (S_score nv))) (C := RX1) (T := TX1) (N := 11) hx hb hts inX1 hown hK.1 hP 17 rfl rfl 4 (by decide) (hts _ w_fieldLink_X5_311) (fun _ h9 => h9) rfl dX5_mixMatch_57 ?_
    refine lv_i2l (v := (V_endCount (S_score nv)).toInt64) hx hb dX5_mixMatch_60 rfl ?_
    obtain ⟨o10, h11, hF⟩ := obd hF
    refine wcRSl (As := [.long o8, .long ((V_endCount (S_score nv)).toInt64)]) (rest := []) ⟨hx, hb, hml, hown, hts⟩ (met_X5_mix l dC dI cyI cyO cyL  N  o8 ((V_endCount (S_score nv)).toInt64) o10 h11) (va_cwS 2 hts (gS w_methodLink_X5_363 w_static_X5_mix w_initialized_X5 w_code_X5_mix) rfl rfl rfl (by decide +kernel) ⟨Nat.le_of_ble_eq_true rfl, Nat.le_of_ble_eq_true rfl⟩) hP hK [] rfl rfl hl.1 (Nat.le_of_ble_eq_true rfl) dX5_mixMatch_61 ⟨Nat.le_of_ble_eq_true rfl, Nat.le_of_ble_eq_true rfl⟩ hS (fun r H locs hw hP hS => ?_)
    have hw := hw.symm
    subst hw
    refine lv_lstore (lv' := [(4, .long o10), (3, .ref (an 9))]) hx hb dX5_mixMatch_64 hl (by decide) rfl (fun ls hl => ?_)
    refine lv_lload hx hb dX5_mixMatch_66 (lv_at hl 0 rfl) ?_
    refine lv_aload_n hx hb dX5_mixMatch_68 rfl (lv_at hl 1 rfl) ?_
    refine va_get (D := (dC, dI)) (ci := 1) (v := .int (V_burntCount (S_score nv))) (C := RX1) (T := TX1) (N := 11) hx hb hts inX1 hown hK.1 hP 17 rfl rfl 5 (by decide) (hts _ w_fieldLink_X5_314) (fun _ h9 => h9) rfl dX5_mixMatch_69 ?_
    refine lv_i2l (v := (V_burntCount (S_score nv)).toInt64) hx hb dX5_mixMatch_72 rfl ?_
    obtain ⟨o12, h13, hF⟩ := obd hF
    refine wcRSl (As := [.long o10, .long ((V_burntCount (S_score nv)).toInt64)]) (rest := []) ⟨hx, hb, hml, hown, hts⟩ (met_X5_mix l dC dI cyI cyO cyL  N  o10 ((V_burntCount (S_score nv)).toInt64) o12 h13) (va_cwS 2 hts (gS w_methodLink_X5_363 w_static_X5_mix w_initialized_X5 w_code_X5_mix) rfl rfl rfl (by decide +kernel) ⟨Nat.le_of_ble_eq_true rfl, Nat.le_of_ble_eq_true rfl⟩) hP hK [] rfl rfl hl.1 (Nat.le_of_ble_eq_true rfl) dX5_mixMatch_73 ⟨Nat.le_of_ble_eq_true rfl, Nat.le_of_ble_eq_true rfl⟩ hS (fun r H locs hw hP hS => ?_)
    have hw := hw.symm
    subst hw
    refine lv_lstore (lv' := [(4, .long o12), (3, .ref (an 9))]) hx hb dX5_mixMatch_76 hl (by decide) rfl (fun ls hl => ?_)
    refine lv_lload hx hb dX5_mixMatch_78 (lv_at hl 0 rfl) ?_
    refine lv_aload_n hx hb dX5_mixMatch_80 rfl (lv_at hl 1 rfl) ?_
    refine va_get (D := (dC, dI)) (ci := 1) (v := .int (V_latestCount (S_score nv))) (C := RX1) (T := TX1) (N := 11) hx hb hts inX1 hown hK.1 hP 17 rfl rfl 6 (by decide) (hts _ w_fieldLink_X5_317) (fun _ h9 => h9) rfl dX5_mixMatch_81 ?_
    refine lv_i2l (v := (V_latestCount (S_score nv)).toInt64) hx hb dX5_mixMatch_84 rfl ?_
    obtain ⟨o14, h15, hF⟩ := obd hF
    refine wcRSl (As := [.long o12, .long ((V_latestCount (S_score nv)).toInt64)]) (rest := []) ⟨hx, hb, hml, hown, hts⟩ (met_X5_mix l dC dI cyI cyO cyL  N  o12 ((V_latestCount (S_score nv)).toInt64) o14 h15) (va_cwS 2 hts (gS w_methodLink_X5_363 w_static_X5_mix w_initialized_X5 w_code_X5_mix) rfl rfl rfl (by decide +kernel) ⟨Nat.le_of_ble_eq_true rfl, Nat.le_of_ble_eq_true rfl⟩) hP hK [] rfl rfl hl.1 (Nat.le_of_ble_eq_true rfl) dX5_mixMatch_85 ⟨Nat.le_of_ble_eq_true rfl, Nat.le_of_ble_eq_true rfl⟩ hS (fun r H locs hw hP hS => ?_)
    have hw := hw.symm
    subst hw
    refine lv_lstore (lv' := [(4, .long o14), (3, .ref (an 9))]) hx hb dX5_mixMatch_88 hl (by decide) rfl (fun ls hl => ?_)
    refine lv_lload hx hb dX5_mixMatch_90 (lv_at hl 0 rfl) ?_
    refine lv_aload_n hx hb dX5_mixMatch_92 rfl (lv_at hl 1 rfl) ?_
    refine va_get (D := (dC, dI)) (ci := 1) (v := .ref (an 11)) (C := RX1) (T := TX1) (N := 11) hx hb hts inX1 hown hK.1 hP 17 rfl rfl 1 (by decide) (hts _ w_fieldLink_X5_322) (fun _ h9 => h9) rfl dX5_mixMatch_93 ?_
    refine lv_aload_n hx hb dX5_mixMatch_96 rfl (lv_at hl 1 rfl) ?_
    refine va_get (D := (dC, dI)) (ci := 1) (v := .int (V_latestCount (S_score nv))) (C := RX1) (T := TX1) (N := 11) hx hb hts inX1 hown hK.1 hP 17 rfl rfl 6 (by decide) (hts _ w_fieldLink_X5_317) (fun _ h9 => h9) rfl dX5_mixMatch_97 ?_
    obtain ⟨o16, h17, hF⟩ := obd hF
    refine wcRSl (As := [.long o14, .ref (an 11), .int (V_latestCount (S_score nv))]) (rest := []) ⟨hx, hb, hml, hown, hts⟩ (met_X5_mixAll l dC dI cyI cyO cyL (an 11) 12 N (V_latest (S_score nv)) o14 (V_latestCount (S_score nv)) o16 h17) (va_cwS 3 hts (gS w_methodLink_X5_370 w_static_X5_mixAll w_initialized_X5 w_code_X5_mixAll) rfl rfl rfl (by decide +kernel) ⟨Nat.le_of_ble_eq_true rfl, Nat.le_of_ble_eq_true rfl⟩) hP hK [19] rfl rfl hl.1 (Nat.le_of_ble_eq_true rfl) dX5_mixMatch_100 ⟨Nat.le_of_ble_eq_true rfl, Nat.le_of_ble_eq_true rfl⟩ hS (fun r H locs hw hP hS => ?_)
    have hw := hw.symm
    subst hw
    refine lv_lstore (lv' := [(4, .long o16), (3, .ref (an 9))]) hx hb dX5_mixMatch_103 hl (by decide) rfl (fun ls hl => ?_)
    refine lv_lload hx hb dX5_mixMatch_105 (lv_at hl 0 rfl) ?_
    refine lv_aload_n hx hb dX5_mixMatch_107 rfl (lv_at hl 1 rfl) ?_
    refine va_get (D := (dC, dI)) (ci := 1) (v := .ref (an 12)) (C := RX1) (T := TX1) (N := 11) hx hb hts inX1 hown hK.1 hP 17 rfl rfl 2 (by decide) (hts _ w_fieldLink_X5_325) (fun _ h9 => h9) rfl dX5_mixMatch_108 ?_
    refine lv_aload_n hx hb dX5_mixMatch_111 rfl (lv_at hl 1 rfl) ?_
    refine va_get (D := (dC, dI)) (ci := 1) (v := .ref (an 12)) (C := RX1) (T := TX1) (N := 11) hx hb hts inX1 hown hK.1 hP 17 rfl rfl 2 (by decide) (hts _ w_fieldLink_X5_325) (fun _ h9 => h9) rfl dX5_mixMatch_112 ?_
    refine va_alen hx hb hK.1 hP 20 0 rfl rfl (v := (17 : Int32)) rfl dX5_mixMatch_115 ?_
    obtain ⟨o18, h19, hF⟩ := obd hF
    refine wcRSl (As := [.long o16, .ref (an 12), .int (17 : Int32)]) (rest := []) ⟨hx, hb, hml, hown, hts⟩ (met_X5_mixAll l dC dI cyI cyO cyL (an 12) 17 N (V_endsByPoints (S_score nv)) o16 (17 : Int32) o18 h19) (va_cwS 3 hts (gS w_methodLink_X5_370 w_static_X5_mixAll w_initialized_X5 w_code_X5_mixAll) rfl rfl rfl (by decide +kernel) ⟨Nat.le_of_ble_eq_true rfl, Nat.le_of_ble_eq_true rfl⟩) hP hK [20] rfl rfl hl.1 (Nat.le_of_ble_eq_true rfl) dX5_mixMatch_116 ⟨Nat.le_of_ble_eq_true rfl, Nat.le_of_ble_eq_true rfl⟩ hS (fun r H locs hw hP hS => ?_)
    have hw := hw.symm
    subst hw
    refine lv_lstore (lv' := [(4, .long o18), (3, .ref (an 9))]) hx hb dX5_mixMatch_119 hl (by decide) rfl (fun ls hl => ?_)
    refine lv_lload hx hb dX5_mixMatch_121 (lv_at hl 0 rfl) ?_
    refine lv_aload_n hx hb dX5_mixMatch_123 rfl (lv_at hl 1 rfl) ?_
    obtain ⟨o20, h21, hF⟩ := obd hF
    refine wcRVi (As := []) (rest := [.long o18]) (b := (an 9)) ⟨hx, hb, hml, hown, hts⟩ (met_X1_latestWins l dC dI cyI cyO cyL an N (S_score nv)  o20 h21) (cwV 0 hts (gV w_methodLink_X5_328 w_instanceMethod_X1_latestWins w_selects_X1_latestWins w_initialized_X1 w_code_X1_latestWins) rfl rfl rfl (by decide +kernel) ⟨Nat.le_of_ble_eq_true rfl, Nat.le_of_ble_eq_true rfl⟩) (va_recv hK.1 hP (ci := 1) (q0 := 17) rfl rfl) hP hK [17, 18, 19, 20] rfl rfl hl.1 (Nat.le_of_ble_eq_true rfl) dX5_mixMatch_124 ⟨Nat.le_of_ble_eq_true rfl, Nat.le_of_ble_eq_true rfl⟩ hS (fun r H locs hw hP hS => ?_)
    have hw := hw.symm
    subst hw
    refine lv_i2l (v := (o20).toInt64) hx hb dX5_mixMatch_127 rfl ?_
    obtain ⟨o22, h23, hF⟩ := obd hF
    refine wcRSl (As := [.long o18, .long ((o20).toInt64)]) (rest := []) ⟨hx, hb, hml, hown, hts⟩ (met_X5_mix l dC dI cyI cyO cyL  N  o18 ((o20).toInt64) o22 h23) (va_cwS 2 hts (gS w_methodLink_X5_363 w_static_X5_mix w_initialized_X5 w_code_X5_mix) rfl rfl rfl (by decide +kernel) ⟨Nat.le_of_ble_eq_true rfl, Nat.le_of_ble_eq_true rfl⟩) hP hK [] rfl rfl hl.1 (Nat.le_of_ble_eq_true rfl) dX5_mixMatch_128 ⟨Nat.le_of_ble_eq_true rfl, Nat.le_of_ble_eq_true rfl⟩ hS (fun r H locs hw hP hS => ?_)
    have hw := hw.symm
    subst hw
    refine lv_lstore (lv' := [(4, .long o22), (3, .ref (an 9))]) hx hb dX5_mixMatch_131 hl (by decide) rfl (fun ls hl => ?_)
    refine lv_lload hx hb dX5_mixMatch_133 (lv_at hl 0 rfl) ?_
    refine lv_aload_n hx hb dX5_mixMatch_135 rfl (lv_at hl 1 rfl) ?_
    refine va_get (D := (dC, dI)) (ci := 1) (v := .int (V_backCount (S_score nv))) (C := RX1) (T := TX1) (N := 11) hx hb hts inX1 hown hK.1 hP 17 rfl rfl 7 (by decide) (hts _ w_fieldLink_X5_331) (fun _ h9 => h9) rfl dX5_mixMatch_136 ?_
    refine lv_i2l (v := (V_backCount (S_score nv)).toInt64) hx hb dX5_mixMatch_139 rfl ?_
    obtain ⟨o24, h25, hF⟩ := obd hF
    refine wcRSl (As := [.long o22, .long ((V_backCount (S_score nv)).toInt64)]) (rest := []) ⟨hx, hb, hml, hown, hts⟩ (met_X5_mix l dC dI cyI cyO cyL  N  o22 ((V_backCount (S_score nv)).toInt64) o24 h25) (va_cwS 2 hts (gS w_methodLink_X5_363 w_static_X5_mix w_initialized_X5 w_code_X5_mix) rfl rfl rfl (by decide +kernel) ⟨Nat.le_of_ble_eq_true rfl, Nat.le_of_ble_eq_true rfl⟩) hP hK [] rfl rfl hl.1 (Nat.le_of_ble_eq_true rfl) dX5_mixMatch_140 ⟨Nat.le_of_ble_eq_true rfl, Nat.le_of_ble_eq_true rfl⟩ hS (fun r H locs hw hP hS => ?_)
    have hw := hw.symm
    subst hw
    refine lv_lstore (lv' := [(4, .long o24), (3, .ref (an 9))]) hx hb dX5_mixMatch_143 hl (by decide) rfl (fun ls hl => ?_)
    refine lv_lload hx hb dX5_mixMatch_145 (lv_at hl 0 rfl) ?_
    refine lv_aload_n hx hb dX5_mixMatch_147 rfl (lv_at hl 1 rfl) ?_
    refine va_get (D := (dC, dI)) (ci := 1) (v := .int (V_bowlCount (S_score nv))) (C := RX1) (T := TX1) (N := 11) hx hb hts inX1 hown hK.1 hP 17 rfl rfl 8 (by decide) (hts _ w_fieldLink_X5_334) (fun _ h9 => h9) rfl dX5_mixMatch_148 ?_
    refine lv_i2l (v := (V_bowlCount (S_score nv)).toInt64) hx hb dX5_mixMatch_151 rfl ?_
    obtain ⟨o26, h27, hF⟩ := obd hF
    refine wcRSl (As := [.long o24, .long ((V_bowlCount (S_score nv)).toInt64)]) (rest := []) ⟨hx, hb, hml, hown, hts⟩ (met_X5_mix l dC dI cyI cyO cyL  N  o24 ((V_bowlCount (S_score nv)).toInt64) o26 h27) (va_cwS 2 hts (gS w_methodLink_X5_363 w_static_X5_mix w_initialized_X5 w_code_X5_mix) rfl rfl rfl (by decide +kernel) ⟨Nat.le_of_ble_eq_true rfl, Nat.le_of_ble_eq_true rfl⟩) hP hK [] rfl rfl hl.1 (Nat.le_of_ble_eq_true rfl) dX5_mixMatch_152 ⟨Nat.le_of_ble_eq_true rfl, Nat.le_of_ble_eq_true rfl⟩ hS (fun r H locs hw hP hS => ?_)
    have hw := hw.symm
    subst hw
    refine lv_lstore (lv' := [(4, .long o26), (3, .ref (an 9))]) hx hb dX5_mixMatch_155 hl (by decide) rfl (fun ls hl => ?_)
    refine lv_lload hx hb dX5_mixMatch_157 (lv_at hl 0 rfl) ?_
    refine lv_aload_n hx hb dX5_mixMatch_159 rfl (lv_at hl 1 rfl) ?_
    refine va_get (D := (dC, dI)) (ci := 1) (v := .int (V_toucherCount (S_score nv))) (C := RX1) (T := TX1) (N := 11) hx hb hts inX1 hown hK.1 hP 17 rfl rfl 9 (by decide) (hts _ w_fieldLink_X5_335) (fun _ h9 => h9) rfl dX5_mixMatch_160 ?_
    refine lv_i2l (v := (V_toucherCount (S_score nv)).toInt64) hx hb dX5_mixMatch_163 rfl ?_
    obtain ⟨o28, h29, hF⟩ := obd hF
    refine wcRSl (As := [.long o26, .long ((V_toucherCount (S_score nv)).toInt64)]) (rest := []) ⟨hx, hb, hml, hown, hts⟩ (met_X5_mix l dC dI cyI cyO cyL  N  o26 ((V_toucherCount (S_score nv)).toInt64) o28 h29) (va_cwS 2 hts (gS w_methodLink_X5_363 w_static_X5_mix w_initialized_X5 w_code_X5_mix) rfl rfl rfl (by decide +kernel) ⟨Nat.le_of_ble_eq_true rfl, Nat.le_of_ble_eq_true rfl⟩) hP hK [] rfl rfl hl.1 (Nat.le_of_ble_eq_true rfl) dX5_mixMatch_164 ⟨Nat.le_of_ble_eq_true rfl, Nat.le_of_ble_eq_true rfl⟩ hS (fun r H locs hw hP hS => ?_)
    have hw := hw.symm
    subst hw
    refine lv_lstore (lv' := [(4, .long o28), (3, .ref (an 9))]) hx hb dX5_mixMatch_167 hl (by decide) rfl (fun ls hl => ?_)
    refine lv_lload hx hb dX5_mixMatch_169 (lv_at hl 0 rfl) ?_
    refine lv_aload_n hx hb dX5_mixMatch_171 rfl (lv_at hl 1 rfl) ?_
    refine va_get (D := (dC, dI)) (ci := 1) (v := .int (V_firstSide (S_score nv))) (C := RX1) (T := TX1) (N := 11) hx hb hts inX1 hown hK.1 hP 17 rfl rfl 10 (by decide) (hts _ w_fieldLink_X5_338) (fun _ h9 => h9) rfl dX5_mixMatch_172 ?_
    refine lv_i2l (v := (V_firstSide (S_score nv)).toInt64) hx hb dX5_mixMatch_175 rfl ?_
    obtain ⟨o30, h31, hF⟩ := obd hF
    refine wcRSl (As := [.long o28, .long ((V_firstSide (S_score nv)).toInt64)]) (rest := []) ⟨hx, hb, hml, hown, hts⟩ (met_X5_mix l dC dI cyI cyO cyL  N  o28 ((V_firstSide (S_score nv)).toInt64) o30 h31) (va_cwS 2 hts (gS w_methodLink_X5_363 w_static_X5_mix w_initialized_X5 w_code_X5_mix) rfl rfl rfl (by decide +kernel) ⟨Nat.le_of_ble_eq_true rfl, Nat.le_of_ble_eq_true rfl⟩) hP hK [] rfl rfl hl.1 (Nat.le_of_ble_eq_true rfl) dX5_mixMatch_176 ⟨Nat.le_of_ble_eq_true rfl, Nat.le_of_ble_eq_true rfl⟩ hS (fun r H locs hw hP hS => ?_)
    have hw := hw.symm
    subst hw
    exact W.lret (v := o30) hx hb hr (fun t ht hW => ⟨⟨_, (), rfl, Option.some.inj hF, trivial⟩, hS.F ht⟩) hS.2.2 dX5_mixMatch_179
  refine lv_if_eq (tgt := 48) hx hb dX5_mixMatch_41 (by decide) (fun c32 => ?_) (fun c32 => ?_)
  · have hF := itp c32 hF
    refine lv_lconst (v := 0) hx hb dX5_mixMatch_48 (by decide) ?_
    exact hJ49 (0 : Int64) _ _ _ hP hS (lv_sub hl [1] rfl) hF
  · have hF := itn c32 hF
    refine lv_lconst (v := 1) hx hb dX5_mixMatch_44 (by decide) ?_
    refine lv_goto (tgt := 49) hx hb dX5_mixMatch_45 (by decide) ?_
    exact hJ49 (1 : Int64) _ _ _ hP hS (lv_sub hl [1] rfl) hF
theorem dX5_mixRest_0 : decode cX5_mixRest 0 = .ok (.lload_n 1, 1) := by decide +kernel
theorem dX5_mixRest_1 : decode cX5_mixRest 1 = .ok (.aload_n 0, 1) := by decide +kernel
theorem dX5_mixRest_2 : decode cX5_mixRest 2 = .ok (.getfield 12, 3) := by decide +kernel
theorem dX5_mixRest_5 : decode cX5_mixRest 5 = .ok (.getfield 137, 3) := by decide +kernel
theorem dX5_mixRest_8 : decode cX5_mixRest 8 = .ok (.i2l, 1) := by decide +kernel
theorem dX5_mixRest_9 : decode cX5_mixRest 9 = .ok (.invokestatic 363, 3) := by decide +kernel
theorem dX5_mixRest_12 : decode cX5_mixRest 12 = .ok (.lstore_n 3, 1) := by decide +kernel
theorem dX5_mixRest_13 : decode cX5_mixRest 13 = .ok (.lload_n 3, 1) := by decide +kernel
theorem dX5_mixRest_14 : decode cX5_mixRest 14 = .ok (.aload_n 0, 1) := by decide +kernel
theorem dX5_mixRest_15 : decode cX5_mixRest 15 = .ok (.getfield 12, 3) := by decide +kernel
theorem dX5_mixRest_18 : decode cX5_mixRest 18 = .ok (.getfield 140, 3) := by decide +kernel
theorem dX5_mixRest_21 : decode cX5_mixRest 21 = .ok (.ifCond .eq 7, 3) := by decide +kernel
theorem dX5_mixRest_24 : decode cX5_mixRest 24 = .ok (.lconst 1, 1) := by decide +kernel
theorem dX5_mixRest_25 : decode cX5_mixRest 25 = .ok (.goto 4, 3) := by decide +kernel
theorem dX5_mixRest_28 : decode cX5_mixRest 28 = .ok (.lconst 0, 1) := by decide +kernel
theorem dX5_mixRest_29 : decode cX5_mixRest 29 = .ok (.invokestatic 363, 3) := by decide +kernel
theorem dX5_mixRest_32 : decode cX5_mixRest 32 = .ok (.lstore_n 3, 1) := by decide +kernel
theorem dX5_mixRest_33 : decode cX5_mixRest 33 = .ok (.lload_n 3, 1) := by decide +kernel
theorem dX5_mixRest_34 : decode cX5_mixRest 34 = .ok (.aload_n 0, 1) := by decide +kernel
theorem dX5_mixRest_35 : decode cX5_mixRest 35 = .ok (.getfield 12, 3) := by decide +kernel
theorem dX5_mixRest_38 : decode cX5_mixRest 38 = .ok (.getfield 147, 3) := by decide +kernel
theorem dX5_mixRest_41 : decode cX5_mixRest 41 = .ok (.ifCond .eq 7, 3) := by decide +kernel
theorem dX5_mixRest_44 : decode cX5_mixRest 44 = .ok (.lconst 1, 1) := by decide +kernel
theorem dX5_mixRest_45 : decode cX5_mixRest 45 = .ok (.goto 4, 3) := by decide +kernel
theorem dX5_mixRest_48 : decode cX5_mixRest 48 = .ok (.lconst 0, 1) := by decide +kernel
theorem dX5_mixRest_49 : decode cX5_mixRest 49 = .ok (.invokestatic 363, 3) := by decide +kernel
theorem dX5_mixRest_52 : decode cX5_mixRest 52 = .ok (.lstore_n 3, 1) := by decide +kernel
theorem dX5_mixRest_53 : decode cX5_mixRest 53 = .ok (.lload_n 3, 1) := by decide +kernel
theorem dX5_mixRest_54 : decode cX5_mixRest 54 = .ok (.aload_n 0, 1) := by decide +kernel
theorem dX5_mixRest_55 : decode cX5_mixRest 55 = .ok (.getfield 39, 3) := by decide +kernel
theorem dX5_mixRest_58 : decode cX5_mixRest 58 = .ok (.i2l, 1) := by decide +kernel
theorem dX5_mixRest_59 : decode cX5_mixRest 59 = .ok (.invokestatic 363, 3) := by decide +kernel
theorem dX5_mixRest_62 : decode cX5_mixRest 62 = .ok (.lstore_n 3, 1) := by decide +kernel
theorem dX5_mixRest_63 : decode cX5_mixRest 63 = .ok (.lload_n 3, 1) := by decide +kernel
theorem dX5_mixRest_64 : decode cX5_mixRest 64 = .ok (.aload_n 0, 1) := by decide +kernel
theorem dX5_mixRest_65 : decode cX5_mixRest 65 = .ok (.getfield 12, 3) := by decide +kernel
theorem dX5_mixRest_68 : decode cX5_mixRest 68 = .ok (.getfield 110, 3) := by decide +kernel
theorem dX5_mixRest_71 : decode cX5_mixRest 71 = .ok (.invokevirtual 341, 3) := by decide +kernel
theorem dX5_mixRest_74 : decode cX5_mixRest 74 = .ok (.invokestatic 374, 3) := by decide +kernel
theorem dX5_mixRest_77 : decode cX5_mixRest 77 = .ok (.invokestatic 363, 3) := by decide +kernel
theorem dX5_mixRest_80 : decode cX5_mixRest 80 = .ok (.lstore_n 3, 1) := by decide +kernel
theorem dX5_mixRest_81 : decode cX5_mixRest 81 = .ok (.lload_n 3, 1) := by decide +kernel
theorem dX5_mixRest_82 : decode cX5_mixRest 82 = .ok (.aload_n 0, 1) := by decide +kernel
theorem dX5_mixRest_83 : decode cX5_mixRest 83 = .ok (.getfield 28, 3) := by decide +kernel
theorem dX5_mixRest_86 : decode cX5_mixRest 86 = .ok (.aload_n 0, 1) := by decide +kernel
theorem dX5_mixRest_87 : decode cX5_mixRest 87 = .ok (.getfield 28, 3) := by decide +kernel
theorem dX5_mixRest_90 : decode cX5_mixRest 90 = .ok (.arraylength, 1) := by decide +kernel
theorem dX5_mixRest_91 : decode cX5_mixRest 91 = .ok (.invokestatic 370, 3) := by decide +kernel
theorem dX5_mixRest_94 : decode cX5_mixRest 94 = .ok (.lstore_n 3, 1) := by decide +kernel
theorem dX5_mixRest_95 : decode cX5_mixRest 95 = .ok (.lload_n 3, 1) := by decide +kernel
theorem dX5_mixRest_96 : decode cX5_mixRest 96 = .ok (.aload_n 0, 1) := by decide +kernel
theorem dX5_mixRest_97 : decode cX5_mixRest 97 = .ok (.getfield 45, 3) := by decide +kernel
theorem dX5_mixRest_100 : decode cX5_mixRest 100 = .ok (.getfield 152, 3) := by decide +kernel
theorem dX5_mixRest_103 : decode cX5_mixRest 103 = .ok (.i2l, 1) := by decide +kernel
theorem dX5_mixRest_104 : decode cX5_mixRest 104 = .ok (.invokestatic 363, 3) := by decide +kernel
theorem dX5_mixRest_107 : decode cX5_mixRest 107 = .ok (.lstore_n 3, 1) := by decide +kernel
theorem dX5_mixRest_108 : decode cX5_mixRest 108 = .ok (.lload_n 3, 1) := by decide +kernel
theorem dX5_mixRest_109 : decode cX5_mixRest 109 = .ok (.aload_n 0, 1) := by decide +kernel
theorem dX5_mixRest_110 : decode cX5_mixRest 110 = .ok (.getfield 45, 3) := by decide +kernel
theorem dX5_mixRest_113 : decode cX5_mixRest 113 = .ok (.getfield 378, 3) := by decide +kernel
theorem dX5_mixRest_116 : decode cX5_mixRest 116 = .ok (.aload_n 0, 1) := by decide +kernel
theorem dX5_mixRest_117 : decode cX5_mixRest 117 = .ok (.getfield 45, 3) := by decide +kernel
theorem dX5_mixRest_120 : decode cX5_mixRest 120 = .ok (.getfield 152, 3) := by decide +kernel
theorem dX5_mixRest_123 : decode cX5_mixRest 123 = .ok (.invokestatic 370, 3) := by decide +kernel
theorem dX5_mixRest_126 : decode cX5_mixRest 126 = .ok (.lreturn, 1) := by decide +kernel
def f_X5_mixRest (N : Nat) (xv : XV) (nv : SV) (p1 : Int64) : Option (Int64) :=
  (f_X5_mix N p1 ((S_blowing nv).toInt64)).bind (fun o1 => jn (fun (s29 : Int64) => (f_X5_mix N o1 s29).bind (fun o3 => jn (fun (s49 : Int64) => (f_X5_mix N o3 s49).bind (fun o5 => (f_X5_mix N o5 ((X_savedCount xv).toInt64)).bind (fun o7 => (f_X1_mean N (S_score nv)).bind (fun o9 => (f_X5_bitsOf N o9).bind (fun o11 => (f_X5_mix N o7 o11).bind (fun o13 => (f_X5_mixAll N 2 (X_slotsTaken xv) o13 (2 : Int32)).bind (fun o15 => (f_X5_mix N o15 ((T_length (X_text xv)).toInt64)).bind (fun o17 => (f_X5_mixAll N 60 (T_codes (X_text xv)) o17 (T_length (X_text xv))).bind (fun o19 => some o19))))))))) (fun (j49 : (Int64) → Option (Int64)) => (if (S_touchersTwice nv) = 0 then j49 (0 : Int64) else j49 (1 : Int64))))) (fun (j29 : (Int64) → Option (Int64)) => (if (S_jackGoesBack nv) = 0 then j29 (0 : Int64) else j29 (1 : Int64))))
set_option maxHeartbeats 4000000 in
set_option maxRecDepth 100000 in
theorem met_X5_mixRest (l : Launch) (dC : Nat → ClassId) (dI : Nat → Nat → Nat) (cyI cyO cyL : ClassId) (x : Nat → Nat) (tr : Nat → Nat) (an : Nat → Nat) (fl fs : Nat → Option Nat) (N : Nat) (xv : XV) (nv : SV) (p1 : Int64) (out : Int64) (hF : f_X5_mixRest N xv nv p1 = some out) : Met l yX5_mixRest (Cond.code yX5_mixRest cX5_mixRest 5 (some .long) :: wT) ({ frames := 2, cells := 0, slots := 0, locals := 49 } : Room) (wRd dC dI cyI cyO cyL [.ref (x 0), .long p1] (([(cXo x an tr xv), (cH cyO (x 1) (x 2) 2 fl), (cXk cyI x xv), (cH cyO (x 4) (x 5) 6 fs), (cT cyI x (X_text xv)), (cSo an nv), (cG cyI an (S_green nv)), (cV cyI an (S_score nv))] : List va_W).flatten)) (va_Ql (fun (r : Int64) (_ : Unit) => r = out) (fun _ _ => True) wN0) 0 0 wN0 := by
  refine Met.ofW (cc := cX5_mixRest) (maxL := 5) (ret := (some .long)) (by decide) rfl ?_
  intro p e s m args below meth c s₁ B hml hv
  obtain ⟨rfl, hP, hK⟩ := hv
  have hx := B.exec
  have hb := B.bytes
  have hr := B.returns
  have hts0 := atoms_spec (ws := (Cond.code yX5_mixRest cX5_mixRest 5 (some .long) :: wT)) B.pre
  have hts := fun w h => hts0 w (List.mem_cons_of_mem _ h)
  clear hts0
  have hown : s.vm.findClass RX5 = some m.cls := findClass_of_methodNamed B.named
  have hlocks := B.notSynchronized
  have hS : va_S wN0 s.heap s.heap [] := va_S.rf
  have hl := lv_entry [.ref (x 0), .long p1] (n := 5) (Nat.le_of_ble_eq_true rfl)
  rw [lg_entry_eq]
  generalize (lg_sl [.ref (x 0), .long p1] ++ List.replicate (5 - (lg_sl [.ref (x 0), .long p1]).length) Slot.unset).toArray = ls at hl ⊢
  have hl : lv_has ls 5 [(0, .ref (x 0)), (1, .long p1)] := hl
  unfold f_X5_mixRest at hF
  refine lv_lload_n hx hb dX5_mixRest_0 rfl (lv_at hl 1 rfl) ?_
  refine lv_aload_n hx hb dX5_mixRest_1 rfl (lv_at hl 0 rfl) ?_
  refine va_get (D := (dC, dI)) (ci := 5) (v := .ref (an 0)) (C := RX5) (T := TX5) (N := 8) hx hb hts inX5 hown hK.1 hP 0 rfl rfl 0 (by decide) (hts _ w_fieldLink_X5_12) (fun _ h9 => h9) rfl dX5_mixRest_2 ?_
  refine va_get (D := (dC, dI)) (ci := 3) (v := .int (S_blowing nv)) (C := RX3) (T := TX3) (N := 6) hx hb hts inX3 hown hK.1 hP 8 rfl rfl 3 (by decide) (hts _ w_fieldLink_X5_137) (fun _ h9 => h9) rfl dX5_mixRest_5 ?_
  refine lv_i2l (v := (S_blowing nv).toInt64) hx hb dX5_mixRest_8 rfl ?_
  obtain ⟨o1, h2, hF⟩ := obd hF
  refine wcRSl (As := [.long p1, .long ((S_blowing nv).toInt64)]) (rest := []) ⟨hx, hb, hml, hown, hts⟩ (met_X5_mix l dC dI cyI cyO cyL  N  p1 ((S_blowing nv).toInt64) o1 h2) (va_cwS 2 hts (gS w_methodLink_X5_363 w_static_X5_mix w_initialized_X5 w_code_X5_mix) rfl rfl rfl (by decide +kernel) ⟨Nat.le_of_ble_eq_true rfl, Nat.le_of_ble_eq_true rfl⟩) hP hK [] rfl rfl hl.1 (Nat.le_of_ble_eq_true rfl) dX5_mixRest_9 ⟨Nat.le_of_ble_eq_true rfl, Nat.le_of_ble_eq_true rfl⟩ hS (fun r H locs hw hP hS => ?_)
  have hw := hw.symm
  subst hw
  refine lv_lstore_n (lv' := [(3, .long o1), (0, .ref (x 0)), (1, .long p1)]) hx hb dX5_mixRest_12 rfl hl (by decide) rfl (fun ls hl => ?_)
  refine lv_lload_n hx hb dX5_mixRest_13 rfl (lv_at hl 0 rfl) ?_
  refine lv_aload_n hx hb dX5_mixRest_14 rfl (lv_at hl 1 rfl) ?_
  refine va_get (D := (dC, dI)) (ci := 5) (v := .ref (an 0)) (C := RX5) (T := TX5) (N := 8) hx hb hts inX5 hown hK.1 hP 0 rfl rfl 0 (by decide) (hts _ w_fieldLink_X5_12) (fun _ h9 => h9) rfl dX5_mixRest_15 ?_
  refine va_get (D := (dC, dI)) (ci := 3) (v := .int (S_jackGoesBack nv)) (C := RX3) (T := TX3) (N := 6) hx hb hts inX3 hown hK.1 hP 8 rfl rfl 4 (by decide) (hts _ w_fieldLink_X5_140) (fun _ h9 => h9) rfl dX5_mixRest_18 ?_
  obtain ⟨j29, hj29, hF⟩ := jn_use hF
  have hJ29 : ∀ (s29 : Int64) (H : Heap) (locs : List Loc) (ls : Array Slot), va_P (dC, dI) vwCl (([(cXo x an tr xv), (cH cyO (x 1) (x 2) 2 fl), (cXk cyI x xv), (cH cyO (x 4) (x 5) 6 fs), (cT cyI x (X_text xv)), (cSo an nv), (cG cyI an (S_green nv)), (cV cyI an (S_score nv))] : List va_W).flatten) H → va_S wN0 s.heap H locs → lv_has ls 5 [(0, .ref (x 0))] → j29 s29 = some out → W p l e (headSpec (Cond.code yX5_mixRest cX5_mixRest 5 (some .long) :: wT) ({ frames := 2, cells := 0, slots := 0, locals := 49 } : Room)).room s m ([.ref (x 0), .long p1] : List Value).toArray below meth c H locs 0 0 (MQ below (va_Ql (fun (r : Int64) (_ : Unit) => r = out) (fun _ _ => True) wN0) ([.ref (x 0), .long p1] : List Value).toArray s 0 0 wN0) (F0 m 29 ls [.long s29, .long o1]) := by
    intro s29 H locs ls hP hS hl hF
    have hF := (congrFun hj29 s29).symm.trans hF
    obtain ⟨o3, h4, hF⟩ := obd hF
    refine wcRSl (As := [.long o1, .long s29]) (rest := []) ⟨hx, hb, hml, hown, hts⟩ (met_X5_mix l dC dI cyI cyO cyL  N  o1 s29 o3 h4) (va_cwS 2 hts (gS w_methodLink_X5_363 w_static_X5_mix w_initialized_X5 w_code_X5_mix) rfl rfl rfl (by decide +kernel) ⟨Nat.le_of_ble_eq_true rfl, Nat.le_of_ble_eq_true rfl⟩) hP hK [] rfl rfl hl.1 (Nat.le_of_ble_eq_true rfl) dX5_mixRest_29 ⟨Nat.le_of_ble_eq_true rfl, Nat.le_of_ble_eq_true rfl⟩ hS (fun r H locs hw hP hS => ?_)
    have hw := hw.symm
    subst hw
    refine lv_lstore_n (lv' := [(3, .long o3), (0, .ref (x 0))]) hx hb dX5_mixRest_32 rfl hl (by decide) rfl (fun ls hl => ?_)
    refine lv_lload_n hx hb dX5_mixRest_33 rfl (lv_at hl 0 rfl) ?_
    refine lv_aload_n hx hb dX5_mixRest_34 rfl (lv_at hl 1 rfl) ?_
    refine va_get (D := (dC, dI)) (ci := 5) (v := .ref (an 0)) (C := RX5) (T := TX5) (N := 8) hx hb hts inX5 hown hK.1 hP 0 rfl rfl 0 (by decide) (hts _ w_fieldLink_X5_12) (fun _ h9 => h9) rfl dX5_mixRest_35 ?_
    refine va_get (D := (dC, dI)) (ci := 3) (v := .int (S_touchersTwice nv)) (C := RX3) (T := TX3) (N := 6) hx hb hts inX3 hown hK.1 hP 8 rfl rfl 5 (by decide) (hts _ w_fieldLink_X5_147) (fun _ h9 => h9) rfl dX5_mixRest_38 ?_
    obtain ⟨j49, hj49, hF⟩ := jn_use hF
    have hJ49 : ∀ (s49 : Int64) (H : Heap) (locs : List Loc) (ls : Array Slot), va_P (dC, dI) vwCl (([(cXo x an tr xv), (cH cyO (x 1) (x 2) 2 fl), (cXk cyI x xv), (cH cyO (x 4) (x 5) 6 fs), (cT cyI x (X_text xv)), (cSo an nv), (cG cyI an (S_green nv)), (cV cyI an (S_score nv))] : List va_W).flatten) H → va_S wN0 s.heap H locs → lv_has ls 5 [(0, .ref (x 0))] → j49 s49 = some out → W p l e (headSpec (Cond.code yX5_mixRest cX5_mixRest 5 (some .long) :: wT) ({ frames := 2, cells := 0, slots := 0, locals := 49 } : Room)).room s m ([.ref (x 0), .long p1] : List Value).toArray below meth c H locs 0 0 (MQ below (va_Ql (fun (r : Int64) (_ : Unit) => r = out) (fun _ _ => True) wN0) ([.ref (x 0), .long p1] : List Value).toArray s 0 0 wN0) (F0 m 49 ls [.long s49, .long o3]) := by
      intro s49 H locs ls hP hS hl hF
      have hF := (congrFun hj49 s49).symm.trans hF
      obtain ⟨o5, h6, hF⟩ := obd hF
      refine wcRSl (As := [.long o3, .long s49]) (rest := []) ⟨hx, hb, hml, hown, hts⟩ (met_X5_mix l dC dI cyI cyO cyL  N  o3 s49 o5 h6) (va_cwS 2 hts (gS w_methodLink_X5_363 w_static_X5_mix w_initialized_X5 w_code_X5_mix) rfl rfl rfl (by decide +kernel) ⟨Nat.le_of_ble_eq_true rfl, Nat.le_of_ble_eq_true rfl⟩) hP hK [] rfl rfl hl.1 (Nat.le_of_ble_eq_true rfl) dX5_mixRest_49 ⟨Nat.le_of_ble_eq_true rfl, Nat.le_of_ble_eq_true rfl⟩ hS (fun r H locs hw hP hS => ?_)
      have hw := hw.symm
      subst hw
      refine lv_lstore_n (lv' := [(3, .long o5), (0, .ref (x 0))]) hx hb dX5_mixRest_52 rfl hl (by decide) rfl (fun ls hl => ?_)
      refine lv_lload_n hx hb dX5_mixRest_53 rfl (lv_at hl 0 rfl) ?_
      refine lv_aload_n hx hb dX5_mixRest_54 rfl (lv_at hl 1 rfl) ?_
      refine va_get (D := (dC, dI)) (ci := 5) (v := .int (X_savedCount xv)) (C := RX5) (T := TX5) (N := 8) hx hb hts inX5 hown hK.1 hP 0 rfl rfl 6 (by decide) (hts _ w_fieldLink_X5_39) (fun _ h9 => h9) rfl dX5_mixRest_55 ?_
      refine lv_i2l (v := (X_savedCount xv).toInt64) hx hb dX5_mixRest_58 rfl ?_
      obtain ⟨o7, h8, hF⟩ := obd hF
      refine wcRSl (As := [.long o5, .long ((X_savedCount xv).toInt64)]) (rest := []) ⟨hx, hb, hml, hown, hts⟩ (met_X5_mix l dC dI cyI cyO cyL  N  o5 ((X_savedCount xv).toInt64) o7 h8) (va_cwS 2 hts (gS w_methodLink_X5_363 w_static_X5_mix w_initialized_X5 w_code_X5_mix) rfl rfl rfl (by decide +kernel) ⟨Nat.le_of_ble_eq_true rfl, Nat.le_of_ble_eq_true rfl⟩) hP hK [] rfl rfl hl.1 (Nat.le_of_ble_eq_true rfl) dX5_mixRest_59 ⟨Nat.le_of_ble_eq_true rfl, Nat.le_of_ble_eq_true rfl⟩ hS (fun r H locs hw hP hS => ?_)
      have hw := hw.symm
      subst hw
      refine lv_lstore_n (lv' := [(3, .long o7), (0, .ref (x 0))]) hx hb dX5_mixRest_62 rfl hl (by decide) rfl (fun ls hl => ?_)
      refine lv_lload_n hx hb dX5_mixRest_63 rfl (lv_at hl 0 rfl) ?_
      refine lv_aload_n hx hb dX5_mixRest_64 rfl (lv_at hl 1 rfl) ?_
      refine va_get (D := (dC, dI)) (ci := 5) (v := .ref (an 0)) (C := RX5) (T := TX5) (N := 8) hx hb hts inX5 hown hK.1 hP 0 rfl rfl 0 (by decide) (hts _ w_fieldLink_X5_12) (fun _ h9 => h9) rfl dX5_mixRest_65 ?_
      refine va_get (D := (dC, dI)) (ci := 3) (v := .ref (an 9)) (C := RX3) (T := TX3) (N := 6) hx hb hts inX3 hown hK.1 hP 8 rfl rfl 1 (by decide) (hts _ w_fieldLink_X5_110) (fun _ h9 => h9) rfl dX5_mixRest_68 ?_
      obtain ⟨o9, h10, hF⟩ := obd hF
      refine wcRVd (As := []) (rest := [.long o7]) (b := (an 9)) ⟨hx, hb, hml, hown, hts⟩ (met_X1_mean l dC dI cyI cyO cyL an N (S_score nv)  o9 h10) (cwV 0 hts (gV w_methodLink_X5_341 w_instanceMethod_X1_mean w_selects_X1_mean w_initialized_X1 w_code_X1_mean) rfl rfl rfl (by decide +kernel) ⟨Nat.le_of_ble_eq_true rfl, Nat.le_of_ble_eq_true rfl⟩) (va_recv hK.1 hP (ci := 1) (q0 := 17) rfl rfl) hP hK [17, 18, 19, 20] rfl rfl hl.1 (Nat.le_of_ble_eq_true rfl) dX5_mixRest_71 ⟨Nat.le_of_ble_eq_true rfl, Nat.le_of_ble_eq_true rfl⟩ hS (fun r H locs hw hP hS => ?_)
      have hw := hw.symm
      subst hw
      obtain ⟨o11, h12, hF⟩ := obd hF
      refine wcRSl (As := [.double o9]) (rest := [.long o7]) ⟨hx, hb, hml, hown, hts⟩ (met_X5_bitsOf l dC dI cyI cyO cyL  N  o9 o11 h12) (va_cwS 1 hts (gS w_methodLink_X5_374 w_static_X5_bitsOf w_initialized_X5 w_code_X5_bitsOf) rfl rfl rfl (by decide +kernel) ⟨Nat.le_of_ble_eq_true rfl, Nat.le_of_ble_eq_true rfl⟩) hP hK [] rfl rfl hl.1 (Nat.le_of_ble_eq_true rfl) dX5_mixRest_74 ⟨Nat.le_of_ble_eq_true rfl, Nat.le_of_ble_eq_true rfl⟩ hS (fun r H locs hw hP hS => ?_)
      have hw := hw.symm
      subst hw
      obtain ⟨o13, h14, hF⟩ := obd hF
      refine wcRSl (As := [.long o7, .long o11]) (rest := []) ⟨hx, hb, hml, hown, hts⟩ (met_X5_mix l dC dI cyI cyO cyL  N  o7 o11 o13 h14) (va_cwS 2 hts (gS w_methodLink_X5_363 w_static_X5_mix w_initialized_X5 w_code_X5_mix) rfl rfl rfl (by decide +kernel) ⟨Nat.le_of_ble_eq_true rfl, Nat.le_of_ble_eq_true rfl⟩) hP hK [] rfl rfl hl.1 (Nat.le_of_ble_eq_true rfl) dX5_mixRest_77 ⟨Nat.le_of_ble_eq_true rfl, Nat.le_of_ble_eq_true rfl⟩ hS (fun r H locs hw hP hS => ?_)
      have hw := hw.symm
      subst hw
      refine lv_lstore_n (lv' := [(3, .long o13), (0, .ref (x 0))]) hx hb dX5_mixRest_80 rfl hl (by decide) rfl (fun ls hl => ?_)
      refine lv_lload_n hx hb dX5_mixRest_81 rfl (lv_at hl 0 rfl) ?_
      refine lv_aload_n hx hb dX5_mixRest_82 rfl (lv_at hl 1 rfl) ?_
      refine va_get (D := (dC, dI)) (ci := 5) (v := .ref (x 3)) (C := RX5) (T := TX5) (N := 8) hx hb hts inX5 hown hK.1 hP 0 rfl rfl 3 (by decide) (hts _ w_fieldLink_X5_28) (fun _ h9 => h9) rfl dX5_mixRest_83 ?_
      refine lv_aload_n hx hb dX5_mixRest_86 rfl (lv_at hl 1 rfl) ?_
      refine va_get (D := (dC, dI)) (ci := 5) (v := .ref (x 3)) (C := RX5) (T := TX5) (N := 8) hx hb hts inX5 hown hK.1 hP 0 rfl rfl 3 (by decide) (hts _ w_fieldLink_X5_28) (fun _ h9 => h9) rfl dX5_mixRest_87 ?_
      refine va_alen hx hb hK.1 hP 3 0 rfl rfl (v := (2 : Int32)) rfl dX5_mixRest_90 ?_
      obtain ⟨o15, h16, hF⟩ := obd hF
      refine wcRSl (As := [.long o13, .ref (x 3), .int (2 : Int32)]) (rest := []) ⟨hx, hb, hml, hown, hts⟩ (met_X5_mixAll l dC dI cyI cyO cyL (x 3) 2 N (X_slotsTaken xv) o13 (2 : Int32) o15 h16) (va_cwS 3 hts (gS w_methodLink_X5_370 w_static_X5_mixAll w_initialized_X5 w_code_X5_mixAll) rfl rfl rfl (by decide +kernel) ⟨Nat.le_of_ble_eq_true rfl, Nat.le_of_ble_eq_true rfl⟩) hP hK [3] rfl rfl hl.1 (Nat.le_of_ble_eq_true rfl) dX5_mixRest_91 ⟨Nat.le_of_ble_eq_true rfl, Nat.le_of_ble_eq_true rfl⟩ hS (fun r H locs hw hP hS => ?_)
      have hw := hw.symm
      subst hw
      refine lv_lstore_n (lv' := [(3, .long o15), (0, .ref (x 0))]) hx hb dX5_mixRest_94 rfl hl (by decide) rfl (fun ls hl => ?_)
      refine lv_lload_n hx hb dX5_mixRest_95 rfl (lv_at hl 0 rfl) ?_
      refine lv_aload_n hx hb dX5_mixRest_96 rfl (lv_at hl 1 rfl) ?_
      refine va_get (D := (dC, dI)) (ci := 5) (v := .ref (x 6)) (C := RX5) (T := TX5) (N := 8) hx hb hts inX5 hown hK.1 hP 0 rfl rfl 7 (by decide) (hts _ w_fieldLink_X5_45) (fun _ h9 => h9) rfl dX5_mixRest_97 ?_
      refine va_get (D := (dC, dI)) (ci := 4) (v := .int (T_length (X_text xv))) (C := RX4) (T := TX4) (N := 2) hx hb hts inX4 hown hK.1 hP 6 rfl rfl 1 (by decide) (hts _ w_fieldLink_X5_152) (fun _ h9 => h9) rfl dX5_mixRest_100 ?_
      refine lv_i2l (v := (T_length (X_text xv)).toInt64) hx hb dX5_mixRest_103 rfl ?_
      obtain ⟨o17, h18, hF⟩ := obd hF
      refine wcRSl (As := [.long o15, .long ((T_length (X_text xv)).toInt64)]) (rest := []) ⟨hx, hb, hml, hown, hts⟩ (met_X5_mix l dC dI cyI cyO cyL  N  o15 ((T_length (X_text xv)).toInt64) o17 h18) (va_cwS 2 hts (gS w_methodLink_X5_363 w_static_X5_mix w_initialized_X5 w_code_X5_mix) rfl rfl rfl (by decide +kernel) ⟨Nat.le_of_ble_eq_true rfl, Nat.le_of_ble_eq_true rfl⟩) hP hK [] rfl rfl hl.1 (Nat.le_of_ble_eq_true rfl) dX5_mixRest_104 ⟨Nat.le_of_ble_eq_true rfl, Nat.le_of_ble_eq_true rfl⟩ hS (fun r H locs hw hP hS => ?_)
      have hw := hw.symm
      subst hw
      refine lv_lstore_n (lv' := [(3, .long o17), (0, .ref (x 0))]) hx hb dX5_mixRest_107 rfl hl (by decide) rfl (fun ls hl => ?_)
      refine lv_lload_n hx hb dX5_mixRest_108 rfl (lv_at hl 0 rfl) ?_
      refine lv_aload_n hx hb dX5_mixRest_109 rfl (lv_at hl 1 rfl) ?_
      refine va_get (D := (dC, dI)) (ci := 5) (v := .ref (x 6)) (C := RX5) (T := TX5) (N := 8) hx hb hts inX5 hown hK.1 hP 0 rfl rfl 7 (by decide) (hts _ w_fieldLink_X5_45) (fun _ h9 => h9) rfl dX5_mixRest_110 ?_
      refine va_get (D := (dC, dI)) (ci := 4) (v := .ref (x 7)) (C := RX4) (T := TX4) (N := 2) hx hb hts inX4 hown hK.1 hP 6 rfl rfl 0 (by decide) (hts _ w_fieldLink_X5_378) (fun _ h9 => h9) rfl dX5_mixRest_113 ?_
      refine lv_aload_n hx hb dX5_mixRest_116 rfl (lv_at hl 1 rfl) ?_
      refine va_get (D := (dC, dI)) (ci := 5) (v := .ref (x 6)) (C := RX5) (T := TX5) (N := 8) hx hb hts inX5 hown hK.1 hP 0 rfl rfl 7 (by decide) (hts _ w_fieldLink_X5_45) (fun _ h9 => h9) rfl dX5_mixRest_117 ?_
      refine va_get (D := (dC, dI)) (ci := 4) (v := .int (T_length (X_text xv))) (C := RX4) (T := TX4) (N := 2) hx hb hts inX4 hown hK.1 hP 6 rfl rfl 1 (by decide) (hts _ w_fieldLink_X5_152) (fun _ h9 => h9) rfl dX5_mixRest_120 ?_
      obtain ⟨o19, h20, hF⟩ := obd hF
      refine wcRSl (As := [.long o17, .ref (x 7), .int (T_length (X_text xv))]) (rest := []) ⟨hx, hb, hml, hown, hts⟩ (met_X5_mixAll l dC dI cyI cyO cyL (x 7) 60 N (T_codes (X_text xv)) o17 (T_length (X_text xv)) o19 h20) (va_cwS 3 hts (gS w_methodLink_X5_370 w_static_X5_mixAll w_initialized_X5 w_code_X5_mixAll) rfl rfl rfl (by decide +kernel) ⟨Nat.le_of_ble_eq_true rfl, Nat.le_of_ble_eq_true rfl⟩) hP hK [7] rfl rfl hl.1 (Nat.le_of_ble_eq_true rfl) dX5_mixRest_123 ⟨Nat.le_of_ble_eq_true rfl, Nat.le_of_ble_eq_true rfl⟩ hS (fun r H locs hw hP hS => ?_)
      have hw := hw.symm
      subst hw
      exact W.lret (v := o19) hx hb hr (fun t ht hW => ⟨⟨_, (), rfl, Option.some.inj hF, trivial⟩, hS.F ht⟩) hS.2.2 dX5_mixRest_126
    refine lv_if_eq (tgt := 48) hx hb dX5_mixRest_41 (by decide) (fun c21 => ?_) (fun c21 => ?_)
    · have hF := itp c21 hF
      refine lv_lconst (v := 0) hx hb dX5_mixRest_48 (by decide) ?_
      exact hJ49 (0 : Int64) _ _ _ hP hS (lv_sub hl [1] rfl) hF
    · have hF := itn c21 hF
      refine lv_lconst (v := 1) hx hb dX5_mixRest_44 (by decide) ?_
      refine lv_goto (tgt := 49) hx hb dX5_mixRest_45 (by decide) ?_
      exact hJ49 (1 : Int64) _ _ _ hP hS (lv_sub hl [1] rfl) hF
  refine lv_if_eq (tgt := 28) hx hb dX5_mixRest_21 (by decide) (fun c22 => ?_) (fun c22 => ?_)
  · have hF := itp c22 hF
    refine lv_lconst (v := 0) hx hb dX5_mixRest_28 (by decide) ?_
    exact hJ29 (0 : Int64) _ _ _ hP hS (lv_sub hl [1] rfl) hF
  · have hF := itn c22 hF
    refine lv_lconst (v := 1) hx hb dX5_mixRest_24 (by decide) ?_
    refine lv_goto (tgt := 29) hx hb dX5_mixRest_25 (by decide) ?_
    exact hJ29 (1 : Int64) _ _ _ hP hS (lv_sub hl [1] rfl) hF
theorem dX5_digest_0 : decode cX5_digest 0 = .ok (.ldc2_w 345, 3) := by decide +kernel
theorem dX5_digest_3 : decode cX5_digest 3 = .ok (.lstore_n 1, 1) := by decide +kernel
theorem dX5_digest_4 : decode cX5_digest 4 = .ok (.aload_n 0, 1) := by decide +kernel
theorem dX5_digest_5 : decode cX5_digest 5 = .ok (.lload_n 1, 1) := by decide +kernel
theorem dX5_digest_6 : decode cX5_digest 6 = .ok (.invokevirtual 347, 3) := by decide +kernel
theorem dX5_digest_9 : decode cX5_digest 9 = .ok (.lstore_n 1, 1) := by decide +kernel
theorem dX5_digest_10 : decode cX5_digest 10 = .ok (.aload_n 0, 1) := by decide +kernel
theorem dX5_digest_11 : decode cX5_digest 11 = .ok (.lload_n 1, 1) := by decide +kernel
theorem dX5_digest_12 : decode cX5_digest 12 = .ok (.invokevirtual 351, 3) := by decide +kernel
theorem dX5_digest_15 : decode cX5_digest 15 = .ok (.lstore_n 1, 1) := by decide +kernel
theorem dX5_digest_16 : decode cX5_digest 16 = .ok (.aload_n 0, 1) := by decide +kernel
theorem dX5_digest_17 : decode cX5_digest 17 = .ok (.lload_n 1, 1) := by decide +kernel
theorem dX5_digest_18 : decode cX5_digest 18 = .ok (.invokevirtual 354, 3) := by decide +kernel
theorem dX5_digest_21 : decode cX5_digest 21 = .ok (.lstore_n 1, 1) := by decide +kernel
theorem dX5_digest_22 : decode cX5_digest 22 = .ok (.aload_n 0, 1) := by decide +kernel
theorem dX5_digest_23 : decode cX5_digest 23 = .ok (.lload_n 1, 1) := by decide +kernel
theorem dX5_digest_24 : decode cX5_digest 24 = .ok (.invokevirtual 357, 3) := by decide +kernel
theorem dX5_digest_27 : decode cX5_digest 27 = .ok (.lstore_n 1, 1) := by decide +kernel
theorem dX5_digest_28 : decode cX5_digest 28 = .ok (.aload_n 0, 1) := by decide +kernel
theorem dX5_digest_29 : decode cX5_digest 29 = .ok (.lload_n 1, 1) := by decide +kernel
theorem dX5_digest_30 : decode cX5_digest 30 = .ok (.invokevirtual 360, 3) := by decide +kernel
theorem dX5_digest_33 : decode cX5_digest 33 = .ok (.lreturn, 1) := by decide +kernel
def f_X5_digest (N : Nat) (xv : XV) (nv : SV) : Option (Int64 × (XV × SV)) :=
  (f_X5_mixEnd N xv nv (4423 : Int64)).bind (fun o1 => (f_X5_mixBowls N xv nv o1).bind (fun o3 => (f_X5_mixCounting N xv nv o3).bind (fun o5 => (f_X5_mixMatch N o5.2.1 o5.2.2 o5.1).bind (fun o7 => (f_X5_mixRest N o5.2.1 o5.2.2 o7).bind (fun o9 => some (o9, (o5.2.1, o5.2.2)))))))
set_option maxHeartbeats 4000000 in
set_option maxRecDepth 100000 in
theorem met_X5_digest (l : Launch) (dC : Nat → ClassId) (dI : Nat → Nat → Nat) (cyI cyO cyL : ClassId) (x : Nat → Nat) (tr : Nat → Nat) (an : Nat → Nat) (fl fs : Nat → Option Nat) (sz : Nat) (N : Nat) (xv : XV) (nv : SV) (out : Int64 × (XV × SV)) (hF : f_X5_digest N xv nv = some out) : Met l yX5_digest (Cond.code yX5_digest cX5_digest 3 (some .long) :: wT) ({ frames := 5, cells := 0, slots := 0, locals := 121 } : Room) (wWr dC dI cyI cyO cyL [.ref (x 0)] (([(cXo x an tr xv), (cH cyO (x 1) (x 2) 2 fl), (cXk cyI x xv), (cH cyO (x 4) (x 5) 6 fs), (cT cyI x (X_text xv)), (cSo an nv), (cG cyI an (S_green nv)), (cV cyI an (S_score nv))] : List va_W).flatten) sz) (va_Ql (fun (r : Int64) (u : XV × SV) => (r, u) = out) (fun u t => va_P (dC, dI) vwCl (([(cXo x an tr u.1), (cH cyO (x 1) (x 2) 2 fl), (cXk cyI x u.1), (cH cyO (x 4) (x 5) 6 fs), (cT cyI x (X_text u.1)), (cSo an u.2), (cG cyI an (S_green u.2)), (cV cyI an (S_score u.2))] : List va_W).flatten) t.heap ∧ va_D (va_A (([(cXo x an tr xv), (cH cyO (x 1) (x 2) 2 fl), (cXk cyI x xv), (cH cyO (x 4) (x 5) 6 fs), (cT cyI x (X_text xv)), (cSo an nv), (cG cyI an (S_green nv)), (cV cyI an (S_score nv))] : List va_W).flatten) sz) (([(cXo x an tr u.1), (cH cyO (x 1) (x 2) 2 fl), (cXk cyI x u.1), (cH cyO (x 4) (x 5) 6 fs), (cT cyI x (X_text u.1)), (cSo an u.2), (cG cyI an (S_green u.2)), (cV cyI an (S_score u.2))] : List va_W).flatten)) (va_A (([(cXo x an tr xv), (cH cyO (x 1) (x 2) 2 fl), (cXk cyI x xv), (cH cyO (x 4) (x 5) 6 fs), (cT cyI x (X_text xv)), (cSo an nv), (cG cyI an (S_green nv)), (cV cyI an (S_score nv))] : List va_W).flatten) sz)) 0 0 (va_A (([(cXo x an tr xv), (cH cyO (x 1) (x 2) 2 fl), (cXk cyI x xv), (cH cyO (x 4) (x 5) 6 fs), (cT cyI x (X_text xv)), (cSo an nv), (cG cyI an (S_green nv)), (cV cyI an (S_score nv))] : List va_W).flatten) sz) := by
  refine Met.ofW (cc := cX5_digest) (maxL := 3) (ret := (some .long)) (by decide) rfl ?_
  intro p e s m args below meth c s₁ B hml hv
  obtain ⟨rfl, hsz, hP, hK, hD0⟩ := hv
  have hx := B.exec
  have hb := B.bytes
  have hr := B.returns
  have hts0 := atoms_spec (ws := (Cond.code yX5_digest cX5_digest 3 (some .long) :: wT)) B.pre
  have hts := fun w h => hts0 w (List.mem_cons_of_mem _ h)
  clear hts0
  have hown : s.vm.findClass RX5 = some m.cls := findClass_of_methodNamed B.named
  have hlocks := B.notSynchronized
  subst hsz
  have hD := hD0.self (sz := s.heap.size)
  generalize hAe : va_A (([(cXo x an tr xv), (cH cyO (x 1) (x 2) 2 fl), (cXk cyI x xv), (cH cyO (x 4) (x 5) 6 fs), (cT cyI x (X_text xv)), (cSo an nv), (cG cyI an (S_green nv)), (cV cyI an (S_score nv))] : List va_W).flatten) s.heap.size = A at hD ⊢
  have hA : ∀ q : Nat, s.heap.size ≤ q → A q := fun q h => by rw [← hAe]; exact Or.inr h
  clear hD0
  have hS : va_S A s.heap s.heap [] := va_S.rf
  have hl := lv_entry [.ref (x 0)] (n := 3) (Nat.le_of_ble_eq_true rfl)
  rw [lg_entry_eq]
  generalize (lg_sl [.ref (x 0)] ++ List.replicate (3 - (lg_sl [.ref (x 0)]).length) Slot.unset).toArray = ls at hl ⊢
  have hl : lv_has ls 3 [(0, .ref (x 0))] := hl
  unfold f_X5_digest at hF
  refine lv_ldc2 (v := 4423) hx hb hown (hts _ w_constantLong_X5_345) dX5_digest_0 ?_
  refine lv_lstore_n (lv' := [(1, .long (4423 : Int64)), (0, .ref (x 0))]) hx hb dX5_digest_3 rfl hl (by decide) rfl (fun ls hl => ?_)
  refine lv_aload_n hx hb dX5_digest_4 rfl (lv_at hl 1 rfl) ?_
  refine lv_lload_n hx hb dX5_digest_5 rfl (lv_at hl 0 rfl) ?_
  obtain ⟨o1, h2, hF⟩ := obd hF
  refine wcRVl (As := [.long (4423 : Int64)]) (rest := []) (b := (x 0)) ⟨hx, hb, hml, hown, hts⟩ (met_X5_mixEnd l dC dI cyI cyO cyL x tr an fl fs N xv nv (4423 : Int64) o1 h2) (cwV 1 hts (gV w_methodLink_X5_347 w_instanceMethod_X5_mixEnd w_selects_X5_mixEnd w_initialized_X5 w_code_X5_mixEnd) rfl rfl rfl (by decide +kernel) ⟨Nat.le_of_ble_eq_true rfl, Nat.le_of_ble_eq_true rfl⟩) (va_recv hK.1 hP (ci := 5) (q0 := 0) rfl rfl) hP hK [0, 1, 2, 3, 4, 5, 6, 7, 8, 9, 10, 11, 12, 13, 14, 15, 16, 17, 18, 19, 20] rfl rfl hl.1 (Nat.le_of_ble_eq_true rfl) dX5_digest_6 ⟨Nat.le_of_ble_eq_true rfl, Nat.le_of_ble_eq_true rfl⟩ hS (fun r H locs hw hP hS => ?_)
  have hw := hw.symm
  subst hw
  refine lv_lstore_n (lv' := [(1, .long o1), (0, .ref (x 0))]) hx hb dX5_digest_9 rfl hl (by decide) rfl (fun ls hl => ?_)
  refine lv_aload_n hx hb dX5_digest_10 rfl (lv_at hl 1 rfl) ?_
  refine lv_lload_n hx hb dX5_digest_11 rfl (lv_at hl 0 rfl) ?_
  obtain ⟨o3, h4, hF⟩ := obd hF
  refine wcRVl (As := [.long o1]) (rest := []) (b := (x 0)) ⟨hx, hb, hml, hown, hts⟩ (met_X5_mixBowls l dC dI cyI cyO cyL x tr an fl fs N xv nv o1 o3 h4) (cwV 1 hts (gV w_methodLink_X5_351 w_instanceMethod_X5_mixBowls w_selects_X5_mixBowls w_initialized_X5 w_code_X5_mixBowls) rfl rfl rfl (by decide +kernel) ⟨Nat.le_of_ble_eq_true rfl, Nat.le_of_ble_eq_true rfl⟩) (va_recv hK.1 hP (ci := 5) (q0 := 0) rfl rfl) hP hK [0, 1, 2, 3, 4, 5, 6, 7, 8, 9, 10, 11, 12, 13, 14, 15, 16, 17, 18, 19, 20] rfl rfl hl.1 (Nat.le_of_ble_eq_true rfl) dX5_digest_12 ⟨Nat.le_of_ble_eq_true rfl, Nat.le_of_ble_eq_true rfl⟩ hS (fun r H locs hw hP hS => ?_)
  have hw := hw.symm
  subst hw
  refine lv_lstore_n (lv' := [(1, .long o3), (0, .ref (x 0))]) hx hb dX5_digest_15 rfl hl (by decide) rfl (fun ls hl => ?_)
  refine lv_aload_n hx hb dX5_digest_16 rfl (lv_at hl 1 rfl) ?_
  refine lv_lload_n hx hb dX5_digest_17 rfl (lv_at hl 0 rfl) ?_
  obtain ⟨o5, h6, hF⟩ := obd hF
  refine wcPVl (As := [.long o3]) (rest := []) (wr := ([] : List va_W).flatten) (b := (x 0)) ⟨hx, hb, hml, hown, hts⟩ (met_X5_mixCounting l dC dI cyI cyO cyL x tr an fl fs _ N xv nv o3 o5 h6) (cwV 1 hts (gV w_methodLink_X5_354 w_instanceMethod_X5_mixCounting w_selects_X5_mixCounting w_initialized_X5 w_code_X5_mixCounting) rfl rfl rfl (by decide +kernel) ⟨Nat.le_of_ble_eq_true rfl, Nat.le_of_ble_eq_true rfl⟩) (va_recv hK.1 hP (ci := 5) (q0 := 0) rfl rfl) hP hD hK (seg_perm (n := 8) (R := []) (C := [(cXo x an tr xv), (cH cyO (x 1) (x 2) 2 fl), (cXk cyI x xv), (cH cyO (x 4) (x 5) 6 fs), (cT cyI x (X_text xv)), (cSo an nv), (cG cyI an (S_green nv)), (cV cyI an (S_score nv))]) [] [0, 1, 2, 3, 4, 5, 6, 7] rfl rfl rfl (by decide) rfl) rfl hl.1 (Nat.le_of_ble_eq_true rfl) dX5_digest_18 ⟨Nat.le_of_ble_eq_true rfl, Nat.le_of_ble_eq_true rfl⟩ hS hA (fun r u H locs hw hP hD hS => ?_)
  obtain rfl : r = o5.1 := congrArg Prod.fst hw
  obtain rfl : u = o5.2 := congrArg Prod.snd hw
  clear hw
  have hq := seg_permS (segs := [(cXo x an tr o5.2.1), (cH cyO (x 1) (x 2) 2 fl), (cXk cyI x o5.2.1), (cH cyO (x 4) (x 5) 6 fs), (cT cyI x (X_text o5.2.1)), (cSo an o5.2.2), (cG cyI an (S_green o5.2.2)), (cV cyI an (S_score o5.2.2))]) (R := []) (C := [(cXo x an tr o5.2.1), (cH cyO (x 1) (x 2) 2 fl), (cXk cyI x o5.2.1), (cH cyO (x 4) (x 5) 6 fs), (cT cyI x (X_text o5.2.1)), (cSo an o5.2.2), (cG cyI an (S_green o5.2.2)), (cV cyI an (S_score o5.2.2))]) (n := 8) [] [0, 1, 2, 3, 4, 5, 6, 7] rfl rfl rfl (by decide)
  have hP : va_P (dC, dI) vwCl (([(cXo x an tr o5.2.1), (cH cyO (x 1) (x 2) 2 fl), (cXk cyI x o5.2.1), (cH cyO (x 4) (x 5) 6 fs), (cT cyI x (X_text o5.2.1)), (cSo an o5.2.2), (cG cyI an (S_green o5.2.2)), (cV cyI an (S_score o5.2.2))] : List va_W).flatten) H := hP.perm hq
  have hD : va_D A (([(cXo x an tr o5.2.1), (cH cyO (x 1) (x 2) 2 fl), (cXk cyI x o5.2.1), (cH cyO (x 4) (x 5) 6 fs), (cT cyI x (X_text o5.2.1)), (cSo an o5.2.2), (cG cyI an (S_green o5.2.2)), (cV cyI an (S_score o5.2.2))] : List va_W).flatten) := hD.perm hq
  clear hq
  refine lv_lstore_n (lv' := [(1, .long o5.1), (0, .ref (x 0))]) hx hb dX5_digest_21 rfl hl (by decide) rfl (fun ls hl => ?_)
  refine lv_aload_n hx hb dX5_digest_22 rfl (lv_at hl 1 rfl) ?_
  refine lv_lload_n hx hb dX5_digest_23 rfl (lv_at hl 0 rfl) ?_
  obtain ⟨o7, h8, hF⟩ := obd hF
  refine wcRVl (As := [.long o5.1]) (rest := []) (b := (x 0)) ⟨hx, hb, hml, hown, hts⟩ (met_X5_mixMatch l dC dI cyI cyO cyL x tr an fl fs N o5.2.1 o5.2.2 o5.1 o7 h8) (cwV 1 hts (gV w_methodLink_X5_357 w_instanceMethod_X5_mixMatch w_selects_X5_mixMatch w_initialized_X5 w_code_X5_mixMatch) rfl rfl rfl (by decide +kernel) ⟨Nat.le_of_ble_eq_true rfl, Nat.le_of_ble_eq_true rfl⟩) (va_recv hK.1 hP (ci := 5) (q0 := 0) rfl rfl) hP hK [0, 1, 2, 3, 4, 5, 6, 7, 8, 9, 10, 11, 12, 13, 14, 15, 16, 17, 18, 19, 20] rfl rfl hl.1 (Nat.le_of_ble_eq_true rfl) dX5_digest_24 ⟨Nat.le_of_ble_eq_true rfl, Nat.le_of_ble_eq_true rfl⟩ hS (fun r H locs hw hP hS => ?_)
  have hw := hw.symm
  subst hw
  refine lv_lstore_n (lv' := [(1, .long o7), (0, .ref (x 0))]) hx hb dX5_digest_27 rfl hl (by decide) rfl (fun ls hl => ?_)
  refine lv_aload_n hx hb dX5_digest_28 rfl (lv_at hl 1 rfl) ?_
  refine lv_lload_n hx hb dX5_digest_29 rfl (lv_at hl 0 rfl) ?_
  obtain ⟨o9, h10, hF⟩ := obd hF
  refine wcRVl (As := [.long o7]) (rest := []) (b := (x 0)) ⟨hx, hb, hml, hown, hts⟩ (met_X5_mixRest l dC dI cyI cyO cyL x tr an fl fs N o5.2.1 o5.2.2 o7 o9 h10) (cwV 1 hts (gV w_methodLink_X5_360 w_instanceMethod_X5_mixRest w_selects_X5_mixRest w_initialized_X5 w_code_X5_mixRest) rfl rfl rfl (by decide +kernel) ⟨Nat.le_of_ble_eq_true rfl, Nat.le_of_ble_eq_true rfl⟩) (va_recv hK.1 hP (ci := 5) (q0 := 0) rfl rfl) hP hK [0, 1, 2, 3, 4, 5, 6, 7, 8, 9, 10, 11, 12, 13, 14, 15, 16, 17, 18, 19, 20] rfl rfl hl.1 (Nat.le_of_ble_eq_true rfl) dX5_digest_30 ⟨Nat.le_of_ble_eq_true rfl, Nat.le_of_ble_eq_true rfl⟩ hS (fun r H locs hw hP hS => ?_)
  have hw := hw.symm
  subst hw
  exact W.lret (v := o9) hx hb hr (fun t ht hW => ⟨⟨_, (o5.2.1, o5.2.2), rfl, Option.some.inj hF, by rw [ht]; exact hP, hD⟩, hS.F ht⟩) hS.2.2 dX5_digest_33
