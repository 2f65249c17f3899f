/-! written by program from the bytecode: what each method computes, and its contract -/

theorem dX5_countIfPlayed_0 : decode cX5_countIfPlayed 0 = .ok (.aload_n 0, 1) := by decide +kernel
theorem dX5_countIfPlayed_1 : decode cX5_countIfPlayed 1 = .ok (.getfield 12, 3) := by decide +kernel
theorem dX5_countIfPlayed_4 : decode cX5_countIfPlayed 4 = .ok (.invokevirtual 71, 3) := by decide +kernel
theorem dX5_countIfPlayed_7 : decode cX5_countIfPlayed 7 = .ok (.istore 4, 2) := by decide +kernel
theorem dX5_countIfPlayed_9 : decode cX5_countIfPlayed 9 = .ok (.aload_n 0, 1) := by decide +kernel
theorem dX5_countIfPlayed_10 : decode cX5_countIfPlayed 10 = .ok (.getfield 16, 3) := by decide +kernel
theorem dX5_countIfPlayed_13 : decode cX5_countIfPlayed 13 = .ok (.aload_n 0, 1) := by decide +kernel
theorem dX5_countIfPlayed_14 : decode cX5_countIfPlayed 14 = .ok (.getfield 12, 3) := by decide +kernel
theorem dX5_countIfPlayed_17 : decode cX5_countIfPlayed 17 = .ok (.invokevirtual 168, 3) := by decide +kernel
theorem dX5_countIfPlayed_20 : decode cX5_countIfPlayed 20 = .ok (.aload_n 0, 1) := by decide +kernel
theorem dX5_countIfPlayed_21 : decode cX5_countIfPlayed 21 = .ok (.getfield 16, 3) := by decide +kernel
theorem dX5_countIfPlayed_24 : decode cX5_countIfPlayed 24 = .ok (.iload_n 1, 1) := by decide +kernel
theorem dX5_countIfPlayed_25 : decode cX5_countIfPlayed 25 = .ok (.iload_n 2, 1) := by decide +kernel
theorem dX5_countIfPlayed_26 : decode cX5_countIfPlayed 26 = .ok (.iload_n 3, 1) := by decide +kernel
theorem dX5_countIfPlayed_27 : decode cX5_countIfPlayed 27 = .ok (.invokevirtual 86, 3) := by decide +kernel
theorem dX5_countIfPlayed_30 : decode cX5_countIfPlayed 30 = .ok (.pop, 1) := by decide +kernel
theorem dX5_countIfPlayed_31 : decode cX5_countIfPlayed 31 = .ok (.aload_n 0, 1) := by decide +kernel
theorem dX5_countIfPlayed_32 : decode cX5_countIfPlayed 32 = .ok (.getfield 16, 3) := by decide +kernel
theorem dX5_countIfPlayed_35 : decode cX5_countIfPlayed 35 = .ok (.getfield 90, 3) := by decide +kernel
theorem dX5_countIfPlayed_38 : decode cX5_countIfPlayed 38 = .ok (.aload_n 0, 1) := by decide +kernel
theorem dX5_countIfPlayed_39 : decode cX5_countIfPlayed 39 = .ok (.getfield 16, 3) := by decide +kernel
theorem dX5_countIfPlayed_42 : decode cX5_countIfPlayed 42 = .ok (.getfield 147, 3) := by decide +kernel
theorem dX5_countIfPlayed_45 : decode cX5_countIfPlayed 45 = .ok (.invokevirtual 264, 3) := by decide +kernel
theorem dX5_countIfPlayed_48 : decode cX5_countIfPlayed 48 = .ok (.istore 5, 2) := by decide +kernel
theorem dX5_countIfPlayed_50 : decode cX5_countIfPlayed 50 = .ok (.aload_n 0, 1) := by decide +kernel
theorem dX5_countIfPlayed_51 : decode cX5_countIfPlayed 51 = .ok (.getfield 16, 3) := by decide +kernel
theorem dX5_countIfPlayed_54 : decode cX5_countIfPlayed 54 = .ok (.getfield 90, 3) := by decide +kernel
theorem dX5_countIfPlayed_57 : decode cX5_countIfPlayed 57 = .ok (.invokevirtual 255, 3) := by decide +kernel
theorem dX5_countIfPlayed_60 : decode cX5_countIfPlayed 60 = .ok (.iload 4, 2) := by decide +kernel
theorem dX5_countIfPlayed_62 : decode cX5_countIfPlayed 62 = .ok (.if_icmp .ne 8, 3) := by decide +kernel
theorem dX5_countIfPlayed_65 : decode cX5_countIfPlayed 65 = .ok (.iload 5, 2) := by decide +kernel
theorem dX5_countIfPlayed_67 : decode cX5_countIfPlayed 67 = .ok (.goto 6, 3) := by decide +kernel
theorem dX5_countIfPlayed_70 : decode cX5_countIfPlayed 70 = .ok (.iload 5, 2) := by decide +kernel
theorem dX5_countIfPlayed_72 : decode cX5_countIfPlayed 72 = .ok (.ineg, 1) := by decide +kernel
theorem dX5_countIfPlayed_73 : decode cX5_countIfPlayed 73 = .ok (.ireturn, 1) := by decide +kernel
def f_X5_countIfPlayed (N : Nat) (xv : XV) (nv : SV) (tv : SV) (p1 : Int32) (p2 : Int32) (p3 : Int32) : Option (Int32 × (XV × SV × SV)) :=
  (f_X3_nextSide N nv).bind (fun o1 => (f_X3_copyFrom N tv nv).bind (fun o3 => (f_X3_playBowl N o3.1 p1 p2 p3).bind (fun o5 => (f_X0_pairedPoints N (S_green o5.2) (S_touchersTwice o5.2)).bind (fun o7 => (f_X0_scoringSide N (S_green o5.2)).bind (fun o9 => jn (fun (s73 : Int32) => some (s73, (xv, o3.2, o5.2))) (fun (j73 : (Int32) → Option (Int32 × (XV × SV × SV))) => (if o9 = o1 then j73 o7 else j73 (-o7))))))))
set_option maxHeartbeats 4000000 in
set_option maxRecDepth 100000 in
theorem met_X5_countIfPlayed (l : Launch) (dC : Nat → ClassId) (dI : Nat → Nat → Nat) (cyI cyO : ClassId) (x : Nat → Nat) (an : Nat → Nat) (tr : Nat → Nat) (fl fs : Nat → Option Nat) (sz : Nat) (N : Nat) (xv : XV) (nv : SV) (tv : SV) (p1 : Int32) (p2 : Int32) (p3 : Int32) (out : Int32 × (XV × SV × SV)) (hF : f_X5_countIfPlayed N xv nv tv p1 p2 p3 = some out) : Met l yX5_countIfPlayed (Cond.code yX5_countIfPlayed cX5_countIfPlayed 6 (some .int) :: wT) ({ frames := 4, cells := 0, slots := 0, locals := 102 } : Room) (wWr dC dI cyI cyO [.ref (x 0), .int p1, .int p2, .int p3] (([(cXo x an tr xv), (cH cyO (x 1) (x 2) 2 fl), (cXk cyI x xv), (cH cyO (x 4) (x 5) 6 fs), (cT cyI x (X_text xv)), (cSo an nv), (cG cyI an (S_green nv)), (cV cyI an (S_score nv)), (cSo tr tv), (cG cyI tr (S_green tv)), (cV cyI tr (S_score tv))] : List va_W).flatten) sz) (va_Qi (fun (r : Int32) (u : XV × SV × SV) => (r, u) = out) (fun u t => va_P (dC, dI) vwCl (([(cXo x an tr u.1), (cH cyO (x 1) (x 2) 2 fl), (cXk cyI x u.1), (cH cyO (x 4) (x 5) 6 fs), (cT cyI x (X_text u.1)), (cSo an u.2.1), (cG cyI an (S_green u.2.1)), (cV cyI an (S_score u.2.1)), (cSo tr u.2.2), (cG cyI tr (S_green u.2.2)), (cV cyI tr (S_score u.2.2))] : List va_W).flatten) t.heap ∧ va_D (va_A (([(cXo x an tr xv), (cH cyO (x 1) (x 2) 2 fl), (cXk cyI x xv), (cH cyO (x 4) (x 5) 6 fs), (cT cyI x (X_text xv)), (cSo an nv), (cG cyI an (S_green nv)), (cV cyI an (S_score nv)), (cSo tr tv), (cG cyI tr (S_green tv)), (cV cyI tr (S_score tv))] : List va_W).flatten) sz) (([(cXo x an tr u.1), (cH cyO (x 1) (x 2) 2 fl), (cXk cyI x u.1), (cH cyO (x 4) (x 5) 6 fs), (cT cyI x (X_text u.1)), (cSo an u.2.1), (cG cyI an (S_green u.2.1)), (cV cyI an (S_score u.2.1)), (cSo tr u.2.2), (cG cyI tr (S_green u.2.2)), (cV cyI tr (S_score u.2.2))] : List va_W).flatten)) (va_A (([(cXo x an tr xv), (cH cyO (x 1) (x 2) 2 fl), (cXk cyI x xv), (cH cyO (x 4) (x 5) 6 fs), (cT cyI x (X_text xv)), (cSo an nv), (cG cyI an (S_green nv)), (cV cyI an (S_score nv)), (cSo tr tv), (cG cyI tr (S_green tv)), (cV cyI tr (S_score tv))] : List va_W).flatten) sz)) 0 0 (va_A (([(cXo x an tr xv), (cH cyO (x 1) (x 2) 2 fl), (cXk cyI x xv), (cH cyO (x 4) (x 5) 6 fs), (cT cyI x (X_text xv)), (cSo an nv), (cG cyI an (S_green nv)), (cV cyI an (S_score nv)), (cSo tr tv), (cG cyI tr (S_green tv)), (cV cyI tr (S_score tv))] : List va_W).flatten) sz) := by
  refine Met.ofW (cc := cX5_countIfPlayed) (maxL := 6) (ret := (some .int)) (by decide) rfl ?_
  intro p e s m args below meth c s₁ B hml hv
  obtain ⟨rfl, hsz, hP, hK, hD0⟩ := hv
  have hx := B.exec
  have hb := B.bytes
  have hr := B.returns
  have hts0 := atoms_spec (ws := (Cond.code yX5_countIfPlayed cX5_countIfPlayed 6 (some .int) :: wT)) B.pre
  have hts := fun w h => hts0 w (List.mem_cons_of_mem _ h)
  clear hts0
  have hown : s.vm.findClass RX5 = some m.cls := findClass_of_methodNamed B.named
  have hlocks := B.notSynchronized
  subst hsz
  have hD := hD0.self (sz := s.heap.size)
  generalize hAe : va_A (([(cXo x an tr xv), (cH cyO (x 1) (x 2) 2 fl), (cXk cyI x xv), (cH cyO (x 4) (x 5) 6 fs), (cT cyI x (X_text xv)), (cSo an nv), (cG cyI an (S_green nv)), (cV cyI an (S_score nv)), (cSo tr tv), (cG cyI tr (S_green tv)), (cV cyI tr (S_score tv))] : List va_W).flatten) s.heap.size = A at hD ⊢
  have hA : ∀ q : Nat, s.heap.size ≤ q → A q := fun q h => by rw [← hAe]; exact Or.inr h
  clear hD0
  have hS : va_S A s.heap s.heap [] := va_S.rf
  have hl := lv_entry [.ref (x 0), .int p1, .int p2, .int p3] (n := 6) (Nat.le_of_ble_eq_true rfl)
  rw [lg_entry_eq]
  generalize (lg_sl [.ref (x 0), .int p1, .int p2, .int p3] ++ List.replicate (6 - (lg_sl [.ref (x 0), .int p1, .int p2, .int p3]).length) Slot.unset).toArray = ls at hl ⊢
  have hl : lv_has ls 6 [(0, .ref (x 0)), (1, .int p1), (2, .int p2), (3, .int p3)] := hl
  unfold f_X5_countIfPlayed at hF
  refine lv_aload_n hx hb dX5_countIfPlayed_0 rfl (lv_at hl 0 rfl) ?_
  refine va_get (D := (dC, dI)) (ci := 5) (v := .ref (an 0)) (C := RX5) (T := TX5) (N := 8) hx hb hts inX5 hown hK.1 hP 0 rfl rfl 0 (by decide) (hts _ w_fieldLink_X5_12) (fun _ h9 => h9) rfl dX5_countIfPlayed_1 ?_
  obtain ⟨o1, h2, hF⟩ := obd hF
  refine wcRVi (As := []) (rest := []) (b := (an 0)) ⟨hx, hb, hml, hown, hts⟩ (met_X3_nextSide l dC dI cyI cyO an N nv  o1 h2) (cwV 0 hts (gV w_methodLink_X5_71 w_instanceMethod_X3_nextSide w_selects_X3_nextSide w_initialized_X3 w_code_X3_nextSide) rfl rfl rfl (by decide +kernel) ⟨Nat.le_of_ble_eq_true rfl, Nat.le_of_ble_eq_true rfl⟩) (va_recv hK.1 hP (ci := 3) (q0 := 8) rfl rfl) hP hK [8, 9, 10, 11, 12, 13, 14, 15, 16, 17, 18, 19, 20] rfl rfl hl.1 (Nat.le_of_ble_eq_true rfl) dX5_countIfPlayed_4 ⟨Nat.le_of_ble_eq_true rfl, Nat.le_of_ble_eq_true rfl⟩ hS (fun r H locs hw hP hS => ?_)
  have hw := hw.symm
  subst hw
  refine lv_istore (lv' := [(4, .int o1), (0, .ref (x 0)), (1, .int p1), (2, .int p2), (3, .int p3)]) hx hb dX5_countIfPlayed_7 hl (by decide) rfl (fun ls hl => ?_)
  refine lv_aload_n hx hb dX5_countIfPlayed_9 rfl (lv_at hl 1 rfl) ?_
  refine va_get (D := (dC, dI)) (ci := 5) (v := .ref (tr 0)) (C := RX5) (T := TX5) (N := 8) hx hb hts inX5 hown hK.1 hP 0 rfl rfl 1 (by decide) (hts _ w_fieldLink_X5_16) (fun _ h9 => h9) rfl dX5_countIfPlayed_10 ?_
  refine lv_aload_n hx hb dX5_countIfPlayed_13 rfl (lv_at hl 1 rfl) ?_
  refine va_get (D := (dC, dI)) (ci := 5) (v := .ref (an 0)) (C := RX5) (T := TX5) (N := 8) hx hb hts inX5 hown hK.1 hP 0 rfl rfl 0 (by decide) (hts _ w_fieldLink_X5_12) (fun _ h9 => h9) rfl dX5_countIfPlayed_14 ?_
  obtain ⟨o3, h4, hF⟩ := obd hF
  refine wcPVv (As := [.ref (an 0)]) (rest := []) (wr := ([(cXo x an tr xv), (cH cyO (x 1) (x 2) 2 fl), (cXk cyI x xv), (cH cyO (x 4) (x 5) 6 fs), (cT cyI x (X_text xv))] : List va_W).flatten) (b := (tr 0)) ⟨hx, hb, hml, hown, hts⟩ (met_X3_copyFrom l dC dI cyI cyO tr an _ N tv nv  o3 h4) (cwV 1 hts (gV w_methodLink_X5_168 w_instanceMethod_X3_copyFrom w_selects_X3_copyFrom w_initialized_X3 w_code_X3_copyFrom) rfl rfl rfl (by decide +kernel) ⟨Nat.le_of_ble_eq_true rfl, Nat.le_of_ble_eq_true rfl⟩) (va_recv hK.1 hP (ci := 3) (q0 := 21) rfl rfl) hP hD hK (seg_perm (n := 11) (R := [(cXo x an tr xv), (cH cyO (x 1) (x 2) 2 fl), (cXk cyI x xv), (cH cyO (x 4) (x 5) 6 fs), (cT cyI x (X_text xv))]) (C := [(cSo tr tv), (cG cyI tr (S_green tv)), (cV cyI tr (S_score tv)), (cSo an nv), (cG cyI an (S_green nv)), (cV cyI an (S_score nv))]) [0, 1, 2, 3, 4] [8, 9, 10, 5, 6, 7] rfl rfl rfl (by decide) rfl) rfl hl.1 (Nat.le_of_ble_eq_true rfl) dX5_countIfPlayed_17 ⟨Nat.le_of_ble_eq_true rfl, Nat.le_of_ble_eq_true rfl⟩ hS hA (fun u H locs hw hP hD hS => ?_)
  have hw := hw.symm
  subst hw
  have hq := seg_permS (segs := [(cXo x an tr xv), (cH cyO (x 1) (x 2) 2 fl), (cXk cyI x xv), (cH cyO (x 4) (x 5) 6 fs), (cT cyI x (X_text xv)), (cSo an o3.2), (cG cyI an (S_green o3.2)), (cV cyI an (S_score o3.2)), (cSo tr o3.1), (cG cyI tr (S_green o3.1)), (cV cyI tr (S_score o3.1))]) (R := [(cXo x an tr xv), (cH cyO (x 1) (x 2) 2 fl), (cXk cyI x xv), (cH cyO (x 4) (x 5) 6 fs), (cT cyI x (X_text xv))]) (C := [(cSo tr o3.1), (cG cyI tr (S_green o3.1)), (cV cyI tr (S_score o3.1)), (cSo an o3.2), (cG cyI an (S_green o3.2)), (cV cyI an (S_score o3.2))]) (n := 11) [0, 1, 2, 3, 4] [8, 9, 10, 5, 6, 7] rfl rfl rfl (by decide)
  have hP : va_P (dC, dI) vwCl (([(cXo x an tr xv), (cH cyO (x 1) (x 2) 2 fl), (cXk cyI x xv), (cH cyO (x 4) (x 5) 6 fs), (cT cyI x (X_text xv)), (cSo an o3.2), (cG cyI an (S_green o3.2)), (cV cyI an (S_score o3.2)), (cSo tr o3.1), (cG cyI tr (S_green o3.1)), (cV cyI tr (S_score o3.1))] : List va_W).flatten) H := hP.perm hq
  have hD : va_D A (([(cXo x an tr xv), (cH cyO (x 1) (x 2) 2 fl), (cXk cyI x xv), (cH cyO (x 4) (x 5) 6 fs), (cT cyI x (X_text xv)), (cSo an o3.2), (cG cyI an (S_green o3.2)), (cV cyI an (S_score o3.2)), (cSo tr o3.1), (cG cyI tr (S_green o3.1)), (cV cyI tr (S_score o3.1))] : List va_W).flatten) := hD.perm hq
  clear hq
  refine lv_aload_n hx hb dX5_countIfPlayed_20 rfl (lv_at hl 1 rfl) ?_
  refine va_get (D := (dC, dI)) (ci := 5) (v := .ref (tr 0)) (C := RX5) (T := TX5) (N := 8) hx hb hts inX5 hown hK.1 hP 0 rfl rfl 1 (by decide) (hts _ w_fieldLink_X5_16) (fun _ h9 => h9) rfl dX5_countIfPlayed_21 ?_
  refine lv_iload_n hx hb dX5_countIfPlayed_24 rfl (lv_at hl 2 rfl) ?_
  refine lv_iload_n hx hb dX5_countIfPlayed_25 rfl (lv_at hl 3 rfl) ?_
  refine lv_iload_n hx hb dX5_countIfPlayed_26 rfl (lv_at hl 4 rfl) ?_
  obtain ⟨o5, h6, hF⟩ := obd hF
  refine wcPVi (As := [.int p1, .int p2, .int p3]) (rest := []) (wr := ([(cXo x an tr xv), (cH cyO (x 1) (x 2) 2 fl), (cXk cyI x xv), (cH cyO (x 4) (x 5) 6 fs), (cT cyI x (X_text xv)), (cSo an o3.2), (cG cyI an (S_green o3.2)), (cV cyI an (S_score o3.2))] : List va_W).flatten) (b := (tr 0)) ⟨hx, hb, hml, hown, hts⟩ (met_X3_playBowl l dC dI cyI cyO tr _ N o3.1 p1 p2 p3 o5 h6) (cwV 3 hts (gV w_methodLink_X5_86 w_instanceMethod_X3_playBowl w_selects_X3_playBowl w_initialized_X3 w_code_X3_playBowl) rfl rfl rfl (by decide +kernel) ⟨Nat.le_of_ble_eq_true rfl, Nat.le_of_ble_eq_true rfl⟩) (va_recv hK.1 hP (ci := 3) (q0 := 21) rfl rfl) hP hD hK (seg_perm (n := 11) (R := [(cXo x an tr xv), (cH cyO (x 1) (x 2) 2 fl), (cXk cyI x xv), (cH cyO (x 4) (x 5) 6 fs), (cT cyI x (X_text xv)), (cSo an o3.2), (cG cyI an (S_green o3.2)), (cV cyI an (S_score o3.2))]) (C := [(cSo tr o3.1), (cG cyI tr (S_green o3.1)), (cV cyI tr (S_score o3.1))]) [0, 1, 2, 3, 4, 5, 6, 7] [8, 9, 10] rfl rfl rfl (by decide) rfl) rfl hl.1 (Nat.le_of_ble_eq_true rfl) dX5_countIfPlayed_27 ⟨Nat.le_of_ble_eq_true rfl, Nat.le_of_ble_eq_true rfl⟩ hS hA (fun r u H locs hw hP hD hS => ?_)
  obtain rfl : r = o5.1 := congrArg Prod.fst hw
  obtain rfl : u = o5.2 := congrArg Prod.snd hw
  clear hw
  have hq := seg_permS (segs := [(cXo x an tr xv), (cH cyO (x 1) (x 2) 2 fl), (cXk cyI x xv), (cH cyO (x 4) (x 5) 6 fs), (cT cyI x (X_text xv)), (cSo an o3.2), (cG cyI an (S_green o3.2)), (cV cyI an (S_score o3.2)), (cSo tr o5.2), (cG cyI tr (S_green o5.2)), (cV cyI tr (S_score o5.2))]) (R := [(cXo x an tr xv), (cH cyO (x 1) (x 2) 2 fl), (cXk cyI x xv), (cH cyO (x 4) (x 5) 6 fs), (cT cyI x (X_text xv)), (cSo an o3.2), (cG cyI an (S_green o3.2)), (cV cyI an (S_score o3.2))]) (C := [(cSo tr o5.2), (cG cyI tr (S_green o5.2)), (cV cyI tr (S_score o5.2))]) (n := 11) [0, 1, 2, 3, 4, 5, 6, 7] [8, 9, 10] rfl rfl rfl (by decide)
  have hP : va_P (dC, dI) vwCl (([(cXo x an tr xv), (cH cyO (x 1) (x 2) 2 fl), (cXk cyI x xv), (cH cyO (x 4) (x 5) 6 fs), (cT cyI x (X_text xv)), (cSo an o3.2), (cG cyI an (S_green o3.2)), (cV cyI an (S_score o3.2)), (cSo tr o5.2), (cG cyI tr (S_green o5.2)), (cV cyI tr (S_score o5.2))] : List va_W).flatten) H := hP.perm hq
  have hD : va_D A (([(cXo x an tr xv), (cH cyO (x 1) (x 2) 2 fl), (cXk cyI x xv), (cH cyO (x 4) (x 5) 6 fs), (cT cyI x (X_text xv)), (cSo an o3.2), (cG cyI an (S_green o3.2)), (cV cyI an (S_score o3.2)), (cSo tr o5.2), (cG cyI tr (S_green o5.2)), (cV cyI tr (S_score o5.2))] : List va_W).flatten) := hD.perm hq
  clear hq
  refine lv_pop hx hb dX5_countIfPlayed_30 rfl ?_
  refine lv_aload_n hx hb dX5_countIfPlayed_31 rfl (lv_at hl 1 rfl) ?_
  refine va_get (D := (dC, dI)) (ci := 5) (v := .ref (tr 0)) (C := RX5) (T := TX5) (N := 8) hx hb hts inX5 hown hK.1 hP 0 rfl rfl 1 (by decide) (hts _ w_fieldLink_X5_16) (fun _ h9 => h9) rfl dX5_countIfPlayed_32 ?_
  refine va_get (D := (dC, dI)) (ci := 3) (v := .ref (tr 1)) (C := RX3) (T := TX3) (N := 6) hx hb hts inX3 hown hK.1 hP 21 rfl rfl 0 (by decide) (hts _ w_fieldLink_X5_90) (fun _ h9 => h9) rfl dX5_countIfPlayed_35 ?_
  refine lv_aload_n hx hb dX5_countIfPlayed_38 rfl (lv_at hl 1 rfl) ?_
  refine va_get (D := (dC, dI)) (ci := 5) (v := .ref (tr 0)) (C := RX5) (T := TX5) (N := 8) hx hb hts inX5 hown hK.1 hP 0 rfl rfl 1 (by decide) (hts _ w_fieldLink_X5_16) (fun _ h9 => h9) rfl dX5_countIfPlayed_39 ?_
  refine va_get (D := (dC, dI)) (ci := 3) (v := .int (S_touchersTwice o5.2)) (C := RX3) (T := TX3) (N := 6) hx hb hts inX3 hown hK.1 hP 21 rfl rfl 5 (by decide) (hts _ w_fieldLink_X5_147) (fun _ h9 => h9) rfl dX5_countIfPlayed_42 ?_
  obtain ⟨o7, h8, hF⟩ := obd hF
  refine wcRVi (As := [.int (S_touchersTwice o5.2)]) (rest := []) (b := (tr 1)) ⟨hx, hb, hml, hown, hts⟩ (met_X0_pairedPoints l dC dI cyI cyO tr N (S_green o5.2) (S_touchersTwice o5.2) o7 h8) (cwV 1 hts (gV w_methodLink_X5_264 w_instanceMethod_X0_pairedPoints w_selects_X0_pairedPoints w_initialized_X0 w_code_X0_pairedPoints) rfl rfl rfl (by decide +kernel) ⟨Nat.le_of_ble_eq_true rfl, Nat.le_of_ble_eq_true rfl⟩) (va_recv hK.1 hP (ci := 0) (q0 := 22) rfl rfl) hP hK [22, 23, 24, 25, 26, 27, 28, 29] rfl rfl hl.1 (Nat.le_of_ble_eq_true rfl) dX5_countIfPlayed_45 ⟨Nat.le_of_ble_eq_true rfl, Nat.le_of_ble_eq_true rfl⟩ hS (fun r H locs hw hP hS => ?_)
  have hw := hw.symm
  subst hw
  refine lv_istore (lv' := [(5, .int o7), (4, .int o1), (0, .ref (x 0)), (1, .int p1), (2, .int p2), (3, .int p3)]) hx hb dX5_countIfPlayed_48 hl (by decide) rfl (fun ls hl => ?_)
  refine lv_aload_n hx hb dX5_countIfPlayed_50 rfl (lv_at hl 2 rfl) ?_
  refine va_get (D := (dC, dI)) (ci := 5) (v := .ref (tr 0)) (C := RX5) (T := TX5) (N := 8) hx hb hts inX5 hown hK.1 hP 0 rfl rfl 1 (by decide) (hts _ w_fieldLink_X5_16) (fun _ h9 => h9) rfl dX5_countIfPlayed_51 ?_
  refine va_get (D := (dC, dI)) (ci := 3) (v := .ref (tr 1)) (C := RX3) (T := TX3) (N := 6) hx hb hts inX3 hown hK.1 hP 21 rfl rfl 0 (by decide) (hts _ w_fieldLink_X5_90) (fun _ h9 => h9) rfl dX5_countIfPlayed_54 ?_
  obtain ⟨o9, h10, hF⟩ := obd hF
  refine wcRVi (As := []) (rest := []) (b := (tr 1)) ⟨hx, hb, hml, hown, hts⟩ (met_X0_scoringSide l dC dI cyI cyO tr N (S_green o5.2)  o9 h10) (cwV 0 hts (gV w_methodLink_X5_255 w_instanceMethod_X0_scoringSide w_selects_X0_scoringSide w_initialized_X0 w_code_X0_scoringSide) rfl rfl rfl (by decide +kernel) ⟨Nat.le_of_ble_eq_true rfl, Nat.le_of_ble_eq_true rfl⟩) (va_recv hK.1 hP (ci := 0) (q0 := 22) rfl rfl) hP hK [22, 23, 24, 25, 26, 27, 28, 29] rfl rfl hl.1 (Nat.le_of_ble_eq_true rfl) dX5_countIfPlayed_57 ⟨Nat.le_of_ble_eq_true rfl, Nat.le_of_ble_eq_true rfl⟩ hS (fun r H locs hw hP hS => ?_)
  have hw := hw.symm
  subst hw
  refine lv_iload hx hb dX5_countIfPlayed_60 (lv_at hl 1 rfl) ?_
  obtain ⟨j73, hj73, hF⟩ := jn_use hF
  have hJ73 : ∀ (s73 : Int32) (H : Heap) (locs : List Loc) (ls : Array Slot), va_P (dC, dI) vwCl (([(cXo x an tr xv), (cH cyO (x 1) (x 2) 2 fl), (cXk cyI x xv), (cH cyO (x 4) (x 5) 6 fs), (cT cyI x (X_text xv)), (cSo an o3.2), (cG cyI an (S_green o3.2)), (cV cyI an (S_score o3.2)), (cSo tr o5.2), (cG cyI tr (S_green o5.2)), (cV cyI tr (S_score o5.2))] : List va_W).flatten) H → va_D A (([(cXo x an tr xv), (cH cyO (x 1) (x 2) 2 fl), (cXk cyI x xv), (cH cyO (x 4) (x 5) 6 fs), (cT cyI x (X_text xv)), (cSo an o3.2), (cG cyI an (S_green o3.2)), (cV cyI an (S_score o3.2)), (cSo tr o5.2), (cG cyI tr (S_green o5.2)), (cV cyI tr (S_score o5.2))] : List va_W).flatten) → va_S A s.heap H locs → lv_has ls 6 [] → j73 s73 = some out → W p l e (headSpec (Cond.code yX5_countIfPlayed cX5_countIfPlayed 6 (some .int) :: wT) ({ frames := 4, cells := 0, slots := 0, locals := 102 } : Room)).room s m ([.ref (x 0), .int p1, .int p2, .int p3] : List Value).toArray below meth c H locs 0 0 (MQ below (va_Qi (fun (r : Int32) (u : XV × SV × SV) => (r, u) = out) (fun u t => va_P (dC, dI) vwCl (([(cXo x an tr u.1), (cH cyO (x 1) (x 2) 2 fl), (cXk cyI x u.1), (cH cyO (x 4) (x 5) 6 fs), (cT cyI x (X_text u.1)), (cSo an u.2.1), (cG cyI an (S_green u.2.1)), (cV cyI an (S_score u.2.1)), (cSo tr u.2.2), (cG cyI tr (S_green u.2.2)), (cV cyI tr (S_score u.2.2))] : List va_W).flatten) t.heap ∧ va_D A (([(cXo x an tr u.1), (cH cyO (x 1) (x 2) 2 fl), (cXk cyI x u.1), (cH cyO (x 4) (x 5) 6 fs), (cT cyI x (X_text u.1)), (cSo an u.2.1), (cG cyI an (S_green u.2.1)), (cV cyI an (S_score u.2.1)), (cSo tr u.2.2), (cG cyI tr (S_green u.2.2)), (cV cyI tr (S_score u.2.2))] : List va_W).flatten)) A) ([.ref (x 0), .int p1, .int p2, .int p3] : List Value).toArray s 0 0 A) (F0 m 73 ls [.int s73]) := by
    intro s73 H locs ls hP hD hS hl hF
    have hF := (congrFun hj73 s73).symm.trans hF
    exact W.iret (v := s73) hx hb hr (fun t ht hW => ⟨⟨_, (xv, o3.2, o5.2), rfl, Option.some.inj hF, by rw [ht]; exact hP, hD⟩, hS.F ht⟩) hS.2.2 dX5_countIfPlayed_73
  refine lv_icmp_ne (tgt := 70) hx hb dX5_countIfPlayed_62 (by decide) (fun c11 => ?_) (fun c11 => ?_)
  · have hF := itn c11 hF
    refine lv_iload hx hb dX5_countIfPlayed_70 (lv_at hl 0 rfl) ?_
    refine lv_ineg hx hb dX5_countIfPlayed_72 ?_
    exact hJ73 (-o7) _ _ _ hP hD hS (lv_sub hl [] rfl) hF
  · have hF := itp c11 hF
    refine lv_iload hx hb dX5_countIfPlayed_65 (lv_at hl 0 rfl) ?_
    refine lv_goto (tgt := 73) hx hb dX5_countIfPlayed_67 (by decide) ?_
    exact hJ73 o7 _ _ _ hP hD hS (lv_sub hl [] rfl) hF
theorem dX5_wouldCount_0 : decode cX5_wouldCount 0 = .ok (.iload_n 1, 1) := by decide +kernel
theorem dX5_wouldCount_1 : decode cX5_wouldCount 1 = .ok (.iload_n 2, 1) := by decide +kernel
theorem dX5_wouldCount_2 : decode cX5_wouldCount 2 = .ok (.iload_n 3, 1) := by decide +kernel
theorem dX5_wouldCount_3 : decode cX5_wouldCount 3 = .ok (.invokestatic 75, 3) := by decide +kernel
theorem dX5_wouldCount_6 : decode cX5_wouldCount 6 = .ok (.ifCond .ne 13, 3) := by decide +kernel
theorem dX5_wouldCount_9 : decode cX5_wouldCount 9 = .ok (.new 49, 3) := by decide +kernel
theorem dX5_wouldCount_12 : decode cX5_wouldCount 12 = .ok (.dup, 1) := by decide +kernel
theorem dX5_wouldCount_13 : decode cX5_wouldCount 13 = .ok (.ldc 79, 2) := by decide +kernel
theorem dX5_wouldCount_15 : decode cX5_wouldCount 15 = .ok (.invokespecial 53, 3) := by decide +kernel
theorem dX5_wouldCount_18 : decode cX5_wouldCount 18 = .ok (.athrow, 1) := by decide +kernel
theorem dX5_wouldCount_19 : decode cX5_wouldCount 19 = .ok (.aload_n 0, 1) := by decide +kernel
theorem dX5_wouldCount_20 : decode cX5_wouldCount 20 = .ok (.getfield 12, 3) := by decide +kernel
theorem dX5_wouldCount_23 : decode cX5_wouldCount 23 = .ok (.invokevirtual 81, 3) := by decide +kernel
theorem dX5_wouldCount_26 : decode cX5_wouldCount 26 = .ok (.ifCond .ne 13, 3) := by decide +kernel
theorem dX5_wouldCount_29 : decode cX5_wouldCount 29 = .ok (.new 60, 3) := by decide +kernel
theorem dX5_wouldCount_32 : decode cX5_wouldCount 32 = .ok (.dup, 1) := by decide +kernel
theorem dX5_wouldCount_33 : decode cX5_wouldCount 33 = .ok (.ldc 84, 2) := by decide +kernel
theorem dX5_wouldCount_35 : decode cX5_wouldCount 35 = .ok (.invokespecial 64, 3) := by decide +kernel
theorem dX5_wouldCount_38 : decode cX5_wouldCount 38 = .ok (.athrow, 1) := by decide +kernel
theorem dX5_wouldCount_39 : decode cX5_wouldCount 39 = .ok (.aload_n 0, 1) := by decide +kernel
theorem dX5_wouldCount_40 : decode cX5_wouldCount 40 = .ok (.iload_n 1, 1) := by decide +kernel
theorem dX5_wouldCount_41 : decode cX5_wouldCount 41 = .ok (.iload_n 2, 1) := by decide +kernel
theorem dX5_wouldCount_42 : decode cX5_wouldCount 42 = .ok (.iload_n 3, 1) := by decide +kernel
theorem dX5_wouldCount_43 : decode cX5_wouldCount 43 = .ok (.invokevirtual 297, 3) := by decide +kernel
theorem dX5_wouldCount_46 : decode cX5_wouldCount 46 = .ok (.ireturn, 1) := by decide +kernel
def f_X5_wouldCount (N : Nat) (xv : XV) (nv : SV) (tv : SV) (p1 : Int32) (p2 : Int32) (p3 : Int32) : Option ((Nat ⊕ Int32) × (XV × SV × SV)) :=
  (f_X5_isPlay N p1 p2 p3).bind (fun o1 => (if o1 = 0 then some (Sum.inl 0, (xv, nv, tv)) else (f_X3_canPlay N nv).bind (fun o5 => (if o5 = 0 then some (Sum.inl 1, (xv, nv, tv)) else (f_X5_countIfPlayed N xv nv tv p1 p2 p3).bind (fun o9 => some ((Sum.inr o9.1), (o9.2.1, o9.2.2.1, o9.2.2.2)))))))
set_option maxHeartbeats 4000000 in
set_option maxRecDepth 100000 in
theorem met_X5_wouldCount (l : Launch) (z0 : Nat) (hst : l.stackTraces = false) (dC : Nat → ClassId) (dI : Nat → Nat → Nat) (cyI cyO : ClassId) (x : Nat → Nat) (an : Nat → Nat) (tr : Nat → Nat) (fl fs : Nat → Option Nat) (sz : Nat) (N : Nat) (xv : XV) (nv : SV) (tv : SV) (p1 : Int32) (p2 : Int32) (p3 : Int32) (out : (Nat ⊕ Int32) × (XV × SV × SV)) (hF : f_X5_wouldCount N xv nv tv p1 p2 p3 = some out) : vx_Met l yX5_wouldCount (Cond.code yX5_wouldCount cX5_wouldCount 4 (some .int) :: wT) ({ frames := 6, cells := 1, slots := 6, locals := 127 } : Room) (wWrX z0 dC dI cyI cyO [.ref (x 0), .int p1, .int p2, .int p3] (([(cXo x an tr xv), (cH cyO (x 1) (x 2) 2 fl), (cXk cyI x xv), (cH cyO (x 4) (x 5) 6 fs), (cT cyI x (X_text xv)), (cSo an nv), (cG cyI an (S_green nv)), (cV cyI an (S_score nv)), (cSo tr tv), (cG cyI tr (S_green tv)), (cV cyI tr (S_score tv))] : List va_W).flatten) sz) (va_Qi (fun (r : Int32) (u : XV × SV × SV) => (Sum.inr r, u) = out) (fun u t => va_P (dC, dI) vwCl (([(cXo x an tr u.1), (cH cyO (x 1) (x 2) 2 fl), (cXk cyI x u.1), (cH cyO (x 4) (x 5) 6 fs), (cT cyI x (X_text u.1)), (cSo an u.2.1), (cG cyI an (S_green u.2.1)), (cV cyI an (S_score u.2.1)), (cSo tr u.2.2), (cG cyI tr (S_green u.2.2)), (cV cyI tr (S_score u.2.2))] : List va_W).flatten) t.heap ∧ va_D (va_A (([(cXo x an tr xv), (cH cyO (x 1) (x 2) 2 fl), (cXk cyI x xv), (cH cyO (x 4) (x 5) 6 fs), (cT cyI x (X_text xv)), (cSo an nv), (cG cyI an (S_green nv)), (cV cyI an (S_score nv)), (cSo tr tv), (cG cyI tr (S_green tv)), (cV cyI tr (S_score tv))] : List va_W).flatten) sz) (([(cXo x an tr u.1), (cH cyO (x 1) (x 2) 2 fl), (cXk cyI x u.1), (cH cyO (x 4) (x 5) 6 fs), (cT cyI x (X_text u.1)), (cSo an u.2.1), (cG cyI an (S_green u.2.1)), (cV cyI an (S_score u.2.1)), (cSo tr u.2.2), (cG cyI tr (S_green u.2.2)), (cV cyI tr (S_score u.2.2))] : List va_W).flatten)) (va_A (([(cXo x an tr xv), (cH cyO (x 1) (x 2) 2 fl), (cXk cyI x xv), (cH cyO (x 4) (x 5) 6 fs), (cT cyI x (X_text xv)), (cSo an nv), (cG cyI an (S_green nv)), (cV cyI an (S_score nv)), (cSo tr tv), (cG cyI tr (S_green tv)), (cV cyI tr (S_score tv))] : List va_W).flatten) sz)) (xcW dC dI Int32 (fun (u : XV × SV × SV) => (([(cXo x an tr u.1), (cH cyO (x 1) (x 2) 2 fl), (cXk cyI x u.1), (cH cyO (x 4) (x 5) 6 fs), (cT cyI x (X_text u.1)), (cSo an u.2.1), (cG cyI an (S_green u.2.1)), (cV cyI an (S_score u.2.1)), (cSo tr u.2.2), (cG cyI tr (S_green u.2.2)), (cV cyI tr (S_score u.2.2))] : List va_W).flatten)) (va_A (([(cXo x an tr xv), (cH cyO (x 1) (x 2) 2 fl), (cXk cyI x xv), (cH cyO (x 4) (x 5) 6 fs), (cT cyI x (X_text xv)), (cSo an nv), (cG cyI an (S_green nv)), (cV cyI an (S_score nv)), (cSo tr tv), (cG cyI tr (S_green tv)), (cV cyI tr (S_score tv))] : List va_W).flatten) sz) out) 1 6 (va_A (([(cXo x an tr xv), (cH cyO (x 1) (x 2) 2 fl), (cXk cyI x xv), (cH cyO (x 4) (x 5) 6 fs), (cT cyI x (X_text xv)), (cSo an nv), (cG cyI an (S_green nv)), (cV cyI an (S_score nv)), (cSo tr tv), (cG cyI tr (S_green tv)), (cV cyI tr (S_score tv))] : List va_W).flatten) sz) := by
  refine vx_ofW (cc := cX5_wouldCount) (maxL := 4) (ret := (some .int)) (by decide) rfl ?_
  intro p e s m args below meth c s₁ B hml htx hv
  obtain ⟨rfl, hsz, hP, hK, hD0, hz0, hZ⟩ := hv
  have hx := B.exec
  have hb := B.bytes
  have hr := B.returns
  have hts0 := atoms_spec (ws := (Cond.code yX5_wouldCount cX5_wouldCount 4 (some .int) :: wT)) B.pre
  have hts := fun w h => hts0 w (List.mem_cons_of_mem _ h)
  clear hts0
  have hown : s.vm.findClass RX5 = some m.cls := findClass_of_methodNamed B.named
  have hlocks := B.notSynchronized
  subst hsz
  have hD := hD0.self (sz := s.heap.size)
  have hAz := wA_ge hD0 hz0
  generalize hAe : va_A (([(cXo x an tr xv), (cH cyO (x 1) (x 2) 2 fl), (cXk cyI x xv), (cH cyO (x 4) (x 5) 6 fs), (cT cyI x (X_text xv)), (cSo an nv), (cG cyI an (S_green nv)), (cV cyI an (S_score nv)), (cSo tr tv), (cG cyI tr (S_green tv)), (cV cyI tr (S_score tv))] : List va_W).flatten) s.heap.size = A at hD hAz ⊢
  have hA : ∀ q : Nat, s.heap.size ≤ q → A q := fun q h => by rw [← hAe]; exact Or.inr h
  clear hD0
  have hS : va_S A s.heap s.heap [] := va_S.rf
  have hl := lv_entry [.ref (x 0), .int p1, .int p2, .int p3] (n := 4) (Nat.le_of_ble_eq_true rfl)
  rw [lg_entry_eq]
  generalize (lg_sl [.ref (x 0), .int p1, .int p2, .int p3] ++ List.replicate (4 - (lg_sl [.ref (x 0), .int p1, .int p2, .int p3]).length) Slot.unset).toArray = ls at hl ⊢
  have hl : lv_has ls 4 [(0, .ref (x 0)), (1, .int p1), (2, .int p2), (3, .int p3)] := hl
  unfold f_X5_wouldCount at hF
  refine lv_iload_n hx hb dX5_wouldCount_0 rfl (lv_at hl 1 rfl) ?_
  refine lv_iload_n hx hb dX5_wouldCount_1 rfl (lv_at hl 2 rfl) ?_
  refine lv_iload_n hx hb dX5_wouldCount_2 rfl (lv_at hl 3 rfl) ?_
  obtain ⟨o1, h2, hF⟩ := obd hF
  refine wcRSi (As := [.int p1, .int p2, .int p3]) (rest := []) ⟨hx, hb, hml, hown, hts⟩ (met_X5_isPlay l dC dI cyI cyO  N  p1 p2 p3 o1 h2) (va_cwS 3 hts (gS w_methodLink_X5_75 w_static_X5_isPlay w_initialized_X5 w_code_X5_isPlay) rfl rfl rfl (by decide +kernel) ⟨Nat.le_of_ble_eq_true rfl, Nat.le_of_ble_eq_true rfl⟩) hP hK [] rfl rfl hl.1 (Nat.le_of_ble_eq_true rfl) dX5_wouldCount_3 ⟨Nat.le_of_ble_eq_true rfl, Nat.le_of_ble_eq_true rfl⟩ hS (fun r H locs hw hP hS => ?_)
  obtain ⟨hw, hz3⟩ := hw
  have hw := hw.symm
  subst hw
  refine lv_if_ne (tgt := 19) hx hb dX5_wouldCount_6 (by decide) (fun c4 => ?_) (fun c4 => ?_)
  · have hF := itn c4 hF
    refine lv_aload_n hx hb dX5_wouldCount_19 rfl (lv_at hl 0 rfl) ?_
    refine va_get (D := (dC, dI)) (ci := 5) (v := .ref (an 0)) (C := RX5) (T := TX5) (N := 8) hx hb hts inX5 hown hK.1 hP 0 rfl rfl 0 (by decide) (hts _ w_fieldLink_X5_12) (fun _ h9 => h9) rfl dX5_wouldCount_20 ?_
    obtain ⟨o5, h6, hF⟩ := obd hF
    refine wcRVi (As := []) (rest := []) (b := (an 0)) ⟨hx, hb, hml, hown, hts⟩ (met_X3_canPlay l dC dI cyI cyO an N nv  o5 h6) (cwV 0 hts (gV w_methodLink_X5_81 w_instanceMethod_X3_canPlay w_selects_X3_canPlay w_initialized_X3 w_code_X3_canPlay) rfl rfl rfl (by decide +kernel) ⟨Nat.le_of_ble_eq_true rfl, Nat.le_of_ble_eq_true rfl⟩) (va_recv hK.1 hP (ci := 3) (q0 := 8) rfl rfl) hP hK [8, 9, 10, 11, 12, 13, 14, 15, 16, 17, 18, 19, 20] rfl rfl hl.1 (Nat.le_of_ble_eq_true rfl) dX5_wouldCount_23 ⟨Nat.le_of_ble_eq_true rfl, Nat.le_of_ble_eq_true rfl⟩ hS (fun r H locs hw hP hS => ?_)
    obtain ⟨hw, hz7⟩ := hw
    have hw := hw.symm
    subst hw
    refine lv_if_ne (tgt := 39) hx hb dX5_wouldCount_26 (by decide) (fun c8 => ?_) (fun c8 => ?_)
    · have hF := itn c8 hF
      refine lv_aload_n hx hb dX5_wouldCount_39 rfl (lv_at hl 0 rfl) ?_
      refine lv_iload_n hx hb dX5_wouldCount_40 rfl (lv_at hl 1 rfl) ?_
      refine lv_iload_n hx hb dX5_wouldCount_41 rfl (lv_at hl 2 rfl) ?_
      refine lv_iload_n hx hb dX5_wouldCount_42 rfl (lv_at hl 3 rfl) ?_
      obtain ⟨o9, h10, hF⟩ := obd hF
      refine wcPVi (As := [.int p1, .int p2, .int p3]) (rest := []) (wr := ([] : List va_W).flatten) (b := (x 0)) ⟨hx, hb, hml, hown, hts⟩ (met_X5_countIfPlayed l dC dI cyI cyO x an tr fl fs _ N xv nv tv p1 p2 p3 o9 h10) (cwV 3 hts (gV w_methodLink_X5_297 w_instanceMethod_X5_countIfPlayed w_selects_X5_countIfPlayed w_initialized_X5 w_code_X5_countIfPlayed) rfl rfl rfl (by decide +kernel) ⟨Nat.le_of_ble_eq_true rfl, Nat.le_of_ble_eq_true rfl⟩) (va_recv hK.1 hP (ci := 5) (q0 := 0) rfl rfl) hP hD hK (seg_perm (n := 11) (R := []) (C := [(cXo x an tr xv), (cH cyO (x 1) (x 2) 2 fl), (cXk cyI x xv), (cH cyO (x 4) (x 5) 6 fs), (cT cyI x (X_text xv)), (cSo an nv), (cG cyI an (S_green nv)), (cV cyI an (S_score nv)), (cSo tr tv), (cG cyI tr (S_green tv)), (cV cyI tr (S_score tv))]) [] [0, 1, 2, 3, 4, 5, 6, 7, 8, 9, 10] rfl rfl rfl (by decide) rfl) rfl hl.1 (Nat.le_of_ble_eq_true rfl) dX5_wouldCount_43 ⟨Nat.le_of_ble_eq_true rfl, Nat.le_of_ble_eq_true rfl⟩ hS hA (fun r u H locs hw hP hD hS => ?_)
      obtain rfl : r = o9.1 := congrArg Prod.fst hw
      obtain rfl : u = o9.2 := congrArg Prod.snd hw
      clear hw
      have hq := seg_permS (segs := [(cXo x an tr o9.2.1), (cH cyO (x 1) (x 2) 2 fl), (cXk cyI x o9.2.1), (cH cyO (x 4) (x 5) 6 fs), (cT cyI x (X_text o9.2.1)), (cSo an o9.2.2.1), (cG cyI an (S_green o9.2.2.1)), (cV cyI an (S_score o9.2.2.1)), (cSo tr o9.2.2.2), (cG cyI tr (S_green o9.2.2.2)), (cV cyI tr (S_score o9.2.2.2))]) (R := []) (C := [(cXo x an tr o9.2.1), (cH cyO (x 1) (x 2) 2 fl), (cXk cyI x o9.2.1), (cH cyO (x 4) (x 5) 6 fs), (cT cyI x (X_text o9.2.1)), (cSo an o9.2.2.1), (cG cyI an (S_green o9.2.2.1)), (cV cyI an (S_score o9.2.2.1)), (cSo tr o9.2.2.2), (cG cyI tr (S_green o9.2.2.2)), (cV cyI tr (S_score o9.2.2.2))]) (n := 11) [] [0, 1, 2, 3, 4, 5, 6, 7, 8, 9, 10] rfl rfl rfl (by decide)
      have hP : va_P (dC, dI) vwCl (([(cXo x an tr o9.2.1), (cH cyO (x 1) (x 2) 2 fl), (cXk cyI x o9.2.1), (cH cyO (x 4) (x 5) 6 fs), (cT cyI x (X_text o9.2.1)), (cSo an o9.2.2.1), (cG cyI an (S_green o9.2.2.1)), (cV cyI an (S_score o9.2.2.1)), (cSo tr o9.2.2.2), (cG cyI tr (S_green o9.2.2.2)), (cV cyI tr (S_score o9.2.2.2))] : List va_W).flatten) H := hP.perm hq
      have hD : va_D A (([(cXo x an tr o9.2.1), (cH cyO (x 1) (x 2) 2 fl), (cXk cyI x o9.2.1), (cH cyO (x 4) (x 5) 6 fs), (cT cyI x (X_text o9.2.1)), (cSo an o9.2.2.1), (cG cyI an (S_green o9.2.2.1)), (cV cyI an (S_score o9.2.2.1)), (cSo tr o9.2.2.2), (cG cyI tr (S_green o9.2.2.2)), (cV cyI tr (S_score o9.2.2.2))] : List va_W).flatten) := hD.perm hq
      clear hq
      refine vx_ret ?_
      refine W.widen (k := 1) (n := 6) (Nat.le_of_ble_eq_true rfl) (Nat.le_of_ble_eq_true rfl) ?_
      exact W.iret (v := o9.1) hx hb hr (fun t ht hW => ⟨⟨_, (o9.2.1, o9.2.2.1, o9.2.2.2), rfl, Option.some.inj hF, by rw [ht]; exact hP, hD⟩, hS.F ht⟩) hS.2.2 dX5_wouldCount_46
    · have hF := itp c8 hF
      have hF9 : ((Sum.inl 1 : Nat ⊕ Int32), (xv, nv, tv)) = out := Option.some.inj hF
      exact thrW_1 (w1 := fun (u : XV × SV × SV) => (([(cXo x an tr u.1), (cH cyO (x 1) (x 2) 2 fl), (cXk cyI x u.1), (cH cyO (x 4) (x 5) 6 fs), (cT cyI x (X_text u.1)), (cSo an u.2.1), (cG cyI an (S_green u.2.1)), (cV cyI an (S_score u.2.1)), (cSo tr u.2.2), (cG cyI tr (S_green u.2.2)), (cV cyI tr (S_score u.2.2))] : List va_W).flatten)) (v := (xv, nv, tv)) hF9 hP hD hx hb hst (is := 84) (text := "no bowl can be played") hown hts hZ hAz hS (hl.1.trans hml.symm) (by decide) dX5_wouldCount_29 dX5_wouldCount_32 dX5_wouldCount_33 dX5_wouldCount_35 dX5_wouldCount_38 htx (Nat.le_of_ble_eq_true rfl) (Nat.le_of_ble_eq_true rfl) (Nat.le_of_ble_eq_true rfl) (Nat.le_of_ble_eq_true rfl) hlocks (Nat.le_of_ble_eq_true rfl) (Nat.le_of_ble_eq_true rfl)
  · have hF := itp c4 hF
    have hF9 : ((Sum.inl 0 : Nat ⊕ Int32), (xv, nv, tv)) = out := Option.some.inj hF
    exact thrW_0 (w1 := fun (u : XV × SV × SV) => (([(cXo x an tr u.1), (cH cyO (x 1) (x 2) 2 fl), (cXk cyI x u.1), (cH cyO (x 4) (x 5) 6 fs), (cT cyI x (X_text u.1)), (cSo an u.2.1), (cG cyI an (S_green u.2.1)), (cV cyI an (S_score u.2.1)), (cSo tr u.2.2), (cG cyI tr (S_green u.2.2)), (cV cyI tr (S_score u.2.2))] : List va_W).flatten)) (v := (xv, nv, tv)) hF9 hP hD hx hb hst (is := 79) (text := "aim, weight or bias is out of range") hown hts hZ hAz hS (hl.1.trans hml.symm) (by decide) dX5_wouldCount_9 dX5_wouldCount_12 dX5_wouldCount_13 dX5_wouldCount_15 dX5_wouldCount_18 htx (Nat.le_of_ble_eq_true rfl) (Nat.le_of_ble_eq_true rfl) (Nat.le_of_ble_eq_true rfl) (Nat.le_of_ble_eq_true rfl) hlocks (Nat.le_of_ble_eq_true rfl) (Nat.le_of_ble_eq_true rfl)
theorem dX5_wouldStrike_0 : decode cX5_wouldStrike 0 = .ok (.iload_n 1, 1) := by decide +kernel
theorem dX5_wouldStrike_1 : decode cX5_wouldStrike 1 = .ok (.iload_n 2, 1) := by decide +kernel
theorem dX5_wouldStrike_2 : decode cX5_wouldStrike 2 = .ok (.iload_n 3, 1) := by decide +kernel
theorem dX5_wouldStrike_3 : decode cX5_wouldStrike 3 = .ok (.invokestatic 75, 3) := by decide +kernel
theorem dX5_wouldStrike_6 : decode cX5_wouldStrike 6 = .ok (.ifCond .ne 13, 3) := by decide +kernel
theorem dX5_wouldStrike_9 : decode cX5_wouldStrike 9 = .ok (.new 49, 3) := by decide +kernel
theorem dX5_wouldStrike_12 : decode cX5_wouldStrike 12 = .ok (.dup, 1) := by decide +kernel
theorem dX5_wouldStrike_13 : decode cX5_wouldStrike 13 = .ok (.ldc 79, 2) := by decide +kernel
theorem dX5_wouldStrike_15 : decode cX5_wouldStrike 15 = .ok (.invokespecial 53, 3) := by decide +kernel
theorem dX5_wouldStrike_18 : decode cX5_wouldStrike 18 = .ok (.athrow, 1) := by decide +kernel
theorem dX5_wouldStrike_19 : decode cX5_wouldStrike 19 = .ok (.aload_n 0, 1) := by decide +kernel
theorem dX5_wouldStrike_20 : decode cX5_wouldStrike 20 = .ok (.getfield 12, 3) := by decide +kernel
theorem dX5_wouldStrike_23 : decode cX5_wouldStrike 23 = .ok (.invokevirtual 81, 3) := by decide +kernel
theorem dX5_wouldStrike_26 : decode cX5_wouldStrike 26 = .ok (.ifCond .ne 13, 3) := by decide +kernel
theorem dX5_wouldStrike_29 : decode cX5_wouldStrike 29 = .ok (.new 60, 3) := by decide +kernel
theorem dX5_wouldStrike_32 : decode cX5_wouldStrike 32 = .ok (.dup, 1) := by decide +kernel
theorem dX5_wouldStrike_33 : decode cX5_wouldStrike 33 = .ok (.ldc 84, 2) := by decide +kernel
theorem dX5_wouldStrike_35 : decode cX5_wouldStrike 35 = .ok (.invokespecial 64, 3) := by decide +kernel
theorem dX5_wouldStrike_38 : decode cX5_wouldStrike 38 = .ok (.athrow, 1) := by decide +kernel
theorem dX5_wouldStrike_39 : decode cX5_wouldStrike 39 = .ok (.aload_n 0, 1) := by decide +kernel
theorem dX5_wouldStrike_40 : decode cX5_wouldStrike 40 = .ok (.getfield 16, 3) := by decide +kernel
theorem dX5_wouldStrike_43 : decode cX5_wouldStrike 43 = .ok (.aload_n 0, 1) := by decide +kernel
theorem dX5_wouldStrike_44 : decode cX5_wouldStrike 44 = .ok (.getfield 12, 3) := by decide +kernel
theorem dX5_wouldStrike_47 : decode cX5_wouldStrike 47 = .ok (.invokevirtual 168, 3) := by decide +kernel
theorem dX5_wouldStrike_50 : decode cX5_wouldStrike 50 = .ok (.aload_n 0, 1) := by decide +kernel
theorem dX5_wouldStrike_51 : decode cX5_wouldStrike 51 = .ok (.getfield 16, 3) := by decide +kernel
theorem dX5_wouldStrike_54 : decode cX5_wouldStrike 54 = .ok (.iload_n 1, 1) := by decide +kernel
theorem dX5_wouldStrike_55 : decode cX5_wouldStrike 55 = .ok (.iload_n 2, 1) := by decide +kernel
theorem dX5_wouldStrike_56 : decode cX5_wouldStrike 56 = .ok (.iload_n 3, 1) := by decide +kernel
theorem dX5_wouldStrike_57 : decode cX5_wouldStrike 57 = .ok (.invokevirtual 86, 3) := by decide +kernel
theorem dX5_wouldStrike_60 : decode cX5_wouldStrike 60 = .ok (.pop, 1) := by decide +kernel
theorem dX5_wouldStrike_61 : decode cX5_wouldStrike 61 = .ok (.aload_n 0, 1) := by decide +kernel
theorem dX5_wouldStrike_62 : decode cX5_wouldStrike 62 = .ok (.getfield 16, 3) := by decide +kernel
theorem dX5_wouldStrike_65 : decode cX5_wouldStrike 65 = .ok (.getfield 90, 3) := by decide +kernel
theorem dX5_wouldStrike_68 : decode cX5_wouldStrike 68 = .ok (.getfield 302, 3) := by decide +kernel
theorem dX5_wouldStrike_71 : decode cX5_wouldStrike 71 = .ok (.ireturn, 1) := by decide +kernel
def f_X5_wouldStrike (N : Nat) (xv : XV) (nv : SV) (tv : SV) (p1 : Int32) (p2 : Int32) (p3 : Int32) : Option ((Nat ⊕ Int32) × (XV × SV × SV)) :=
  (f_X5_isPlay N p1 p2 p3).bind (fun o1 => (if o1 = 0 then some (Sum.inl 0, (xv, nv, tv)) else (f_X3_canPlay N nv).bind (fun o5 => (if o5 = 0 then some (Sum.inl 1, (xv, nv, tv)) else (f_X3_copyFrom N tv nv).bind (fun o9 => (f_X3_playBowl N o9.1 p1 p2 p3).bind (fun o11 => some ((Sum.inr (G_strikes (S_green o11.2))), (xv, o9.2, o11.2))))))))
set_option maxHeartbeats 4000000 in
set_option maxRecDepth 100000 in
theorem met_X5_wouldStrike (l : Launch) (z0 : Nat) (hst : l.stackTraces = false) (dC : Nat → ClassId) (dI : Nat → Nat → Nat) (cyI cyO : ClassId) (x : Nat → Nat) (an : Nat → Nat) (tr : Nat → Nat) (fl fs : Nat → Option Nat) (sz : Nat) (N : Nat) (xv : XV) (nv : SV) (tv : SV) (p1 : Int32) (p2 : Int32) (p3 : Int32) (out : (Nat ⊕ Int32) × (XV × SV × SV)) (hF : f_X5_wouldStrike N xv nv tv p1 p2 p3 = some out) : vx_Met l yX5_wouldStrike (Cond.code yX5_wouldStrike cX5_wouldStrike 4 (some .int) :: wT) ({ frames := 6, cells := 1, slots := 6, locals := 102 } : Room) (wWrX z0 dC dI cyI cyO [.ref (x 0), .int p1, .int p2, .int p3] (([(cXo x an tr xv), (cH cyO (x 1) (x 2) 2 fl), (cXk cyI x xv), (cH cyO (x 4) (x 5) 6 fs), (cT cyI x (X_text xv)), (cSo an nv), (cG cyI an (S_green nv)), (cV cyI an (S_score nv)), (cSo tr tv), (cG cyI tr (S_green tv)), (cV cyI tr (S_score tv))] : List va_W).flatten) sz) (va_Qi (fun (r : Int32) (u : XV × SV × SV) => (Sum.inr r, u) = out) (fun u t => va_P (dC, dI) vwCl (([(cXo x an tr u.1), (cH cyO (x 1) (x 2) 2 fl), (cXk cyI x u.1), (cH cyO (x 4) (x 5) 6 fs), (cT cyI x (X_text u.1)), (cSo an u.2.1), (cG cyI an (S_green u.2.1)), (cV cyI an (S_score u.2.1)), (cSo tr u.2.2), (cG cyI tr (S_green u.2.2)), (cV cyI tr (S_score u.2.2))] : List va_W).flatten) t.heap ∧ va_D (va_A (([(cXo x an tr xv), (cH cyO (x 1) (x 2) 2 fl), (cXk cyI x xv), (cH cyO (x 4) (x 5) 6 fs), (cT cyI x (X_text xv)), (cSo an nv), (cG cyI an (S_green nv)), (cV cyI an (S_score nv)), (cSo tr tv), (cG cyI tr (S_green tv)), (cV cyI tr (S_score tv))] : List va_W).flatten) sz) (([(cXo x an tr u.1), (cH cyO (x 1) (x 2) 2 fl), (cXk cyI x u.1), (cH cyO (x 4) (x 5) 6 fs), (cT cyI x (X_text u.1)), (cSo an u.2.1), (cG cyI an (S_green u.2.1)), (cV cyI an (S_score u.2.1)), (cSo tr u.2.2), (cG cyI tr (S_green u.2.2)), (cV cyI tr (S_score u.2.2))] : List va_W).flatten)) (va_A (([(cXo x an tr xv), (cH cyO (x 1) (x 2) 2 fl), (cXk cyI x xv), (cH cyO (x 4) (x 5) 6 fs), (cT cyI x (X_text xv)), (cSo an nv), (cG cyI an (S_green nv)), (cV cyI an (S_score nv)), (cSo tr tv), (cG cyI tr (S_green tv)), (cV cyI tr (S_score tv))] : List va_W).flatten) sz)) (xcW dC dI Int32 (fun (u : XV × SV × SV) => (([(cXo x an tr u.1), (cH cyO (x 1) (x 2) 2 fl), (cXk cyI x u.1), (cH cyO (x 4) (x 5) 6 fs), (cT cyI x (X_text u.1)), (cSo an u.2.1), (cG cyI an (S_green u.2.1)), (cV cyI an (S_score u.2.1)), (cSo tr u.2.2), (cG cyI tr (S_green u.2.2)), (cV cyI tr (S_score u.2.2))] : List va_W).flatten)) (va_A (([(cXo x an tr xv), (cH cyO (x 1) (x 2) 2 fl), (cXk cyI x xv), (cH cyO (x 4) (x 5) 6 fs), (cT cyI x (X_text xv)), (cSo an nv), (cG cyI an (S_green nv)), (cV cyI an (S_score nv)), (cSo tr tv), (cG cyI tr (S_green tv)), (cV cyI tr (S_score tv))] : List va_W).flatten) sz) out) 1 6 (va_A (([(cXo x an tr xv), (cH cyO (x 1) (x 2) 2 fl), (cXk cyI x xv), (cH cyO (x 4) (x 5) 6 fs), (cT cyI x (X_text xv)), (cSo an nv), (cG cyI an (S_green nv)), (cV cyI an (S_score nv)), (cSo tr tv), (cG cyI tr (S_green tv)), (cV cyI tr (S_score tv))] : List va_W).flatten) sz) := by
  refine vx_ofW (cc := cX5_wouldStrike) (maxL := 4) (ret := (some .int)) (by decide) rfl ?_
  intro p e s m args below meth c s₁ B hml htx hv
  obtain ⟨rfl, hsz, hP, hK, hD0, hz0, hZ⟩ := hv
  have hx := B.exec
  have hb := B.bytes
  have hr := B.returns
  have hts0 := atoms_spec (ws := (Cond.code yX5_wouldStrike cX5_wouldStrike 4 (some .int) :: wT)) B.pre
  have hts := fun w h => hts0 w (List.mem_cons_of_mem _ h)
  clear hts0
  have hown : s.vm.findClass RX5 = some m.cls := findClass_of_methodNamed B.named
  have hlocks := B.notSynchronized
  subst hsz
  have hD := hD0.self (sz := s.heap.size)
  have hAz := wA_ge hD0 hz0
  generalize hAe : va_A (([(cXo x an tr xv), (cH cyO (x 1) (x 2) 2 fl), (cXk cyI x xv), (cH cyO (x 4) (x 5) 6 fs), (cT cyI x (X_text xv)), (cSo an nv), (cG cyI an (S_green nv)), (cV cyI an (S_score nv)), (cSo tr tv), (cG cyI tr (S_green tv)), (cV cyI tr (S_score tv))] : List va_W).flatten) s.heap.size = A at hD hAz ⊢
  have hA : ∀ q : Nat, s.heap.size ≤ q → A q := fun q h => by rw [← hAe]; exact Or.inr h
  clear hD0
  have hS : va_S A s.heap s.heap [] := va_S.rf
  have hl := lv_entry [.ref (x 0), .int p1, .int p2, .int p3] (n := 4) (Nat.le_of_ble_eq_true rfl)
  rw [lg_entry_eq]
  generalize (lg_sl [.ref (x 0), .int p1, .int p2, .int p3] ++ List.replicate (4 - (lg_sl [.ref (x 0), .int p1, .int p2, .int p3]).length) Slot.unset).toArray = ls at hl ⊢
  have hl : lv_has ls 4 [(0, .ref (x 0)), (1, .int p1), (2, .int p2), (3, .int p3)] := hl
  unfold f_X5_wouldStrike at hF
  refine lv_iload_n hx hb dX5_wouldStrike_0 rfl (lv_at hl 1 rfl) ?_
  refine lv_iload_n hx hb dX5_wouldStrike_1 rfl (lv_at hl 2 rfl) ?_
  refine lv_iload_n hx hb dX5_wouldStrike_2 rfl (lv_at hl 3 rfl) ?_
  obtain ⟨o1, h2, hF⟩ := obd hF
  refine wcRSi (As := [.int p1, .int p2, .int p3]) (rest := []) ⟨hx, hb, hml, hown, hts⟩ (met_X5_isPlay l dC dI cyI cyO  N  p1 p2 p3 o1 h2) (va_cwS 3 hts (gS w_methodLink_X5_75 w_static_X5_isPlay w_initialized_X5 w_code_X5_isPlay) rfl rfl rfl (by decide +kernel) ⟨Nat.le_of_ble_eq_true rfl, Nat.le_of_ble_eq_true rfl⟩) hP hK [] rfl rfl hl.1 (Nat.le_of_ble_eq_true rfl) dX5_wouldStrike_3 ⟨Nat.le_of_ble_eq_true rfl, Nat.le_of_ble_eq_true rfl⟩ hS (fun r H locs hw hP hS => ?_)
  obtain ⟨hw, hz3⟩ := hw
  have hw := hw.symm
  subst hw
  refine lv_if_ne (tgt := 19) hx hb dX5_wouldStrike_6 (by decide) (fun c4 => ?_) (fun c4 => ?_)
  · have hF := itn c4 hF
    refine lv_aload_n hx hb dX5_wouldStrike_19 rfl (lv_at hl 0 rfl) ?_
    refine va_get (D := (dC, dI)) (ci := 5) (v := .ref (an 0)) (C := RX5) (T := TX5) (N := 8) hx hb hts inX5 hown hK.1 hP 0 rfl rfl 0 (by decide) (hts _ w_fieldLink_X5_12) (fun _ h9 => h9) rfl dX5_wouldStrike_20 ?_
    obtain ⟨o5, h6, hF⟩ := obd hF
    refine wcRVi (As := []) (rest := []) (b := (an 0)) ⟨hx, hb, hml, hown, hts⟩ (met_X3_canPlay l dC dI cyI cyO an N nv  o5 h6) (cwV 0 hts (gV w_methodLink_X5_81 w_instanceMethod_X3_canPlay w_selects_X3_canPlay w_initialized_X3 w_code_X3_canPlay) rfl rfl rfl (by decide +kernel) ⟨Nat.le_of_ble_eq_true rfl, Nat.le_of_ble_eq_true rfl⟩) (va_recv hK.1 hP (ci := 3) (q0 := 8) rfl rfl) hP hK [8, 9, 10, 11, 12, 13, 14, 15, 16, 17, 18, 19, 20] rfl rfl hl.1 (Nat.le_of_ble_eq_true rfl) dX5_wouldStrike_23 ⟨Nat.le_of_ble_eq_true rfl, Nat.le_of_ble_eq_true rfl⟩ hS (fun r H locs hw hP hS => ?_)
    obtain ⟨hw, hz7⟩ := hw
    have hw := hw.symm
    subst hw
    refine lv_if_ne (tgt := 39) hx hb dX5_wouldStrike_26 (by decide) (fun c8 => ?_) (fun c8 => ?_)
    · have hF := itn c8 hF
      refine lv_aload_n hx hb dX5_wouldStrike_39 rfl (lv_at hl 0 rfl) ?_
      refine va_get (D := (dC, dI)) (ci := 5) (v := .ref (tr 0)) (C := RX5) (T := TX5) (N := 8) hx hb hts inX5 hown hK.1 hP 0 rfl rfl 1 (by decide) (hts _ w_fieldLink_X5_16) (fun _ h9 => h9) rfl dX5_wouldStrike_40 ?_
      refine lv_aload_n hx hb dX5_wouldStrike_43 rfl (lv_at hl 0 rfl) ?_
      refine va_get (D := (dC, dI)) (ci := 5) (v := .ref (an 0)) (C := RX5) (T := TX5) (N := 8) hx hb hts inX5 hown hK.1 hP 0 rfl rfl 0 (by decide) (hts _ w_fieldLink_X5_12) (fun _ h9 => h9) rfl dX5_wouldStrike_44 ?_
      obtain ⟨o9, h10, hF⟩ := obd hF
      refine wcPVv (As := [.ref (an 0)]) (rest := []) (wr := ([(cXo x an tr xv), (cH cyO (x 1) (x 2) 2 fl), (cXk cyI x xv), (cH cyO (x 4) (x 5) 6 fs), (cT cyI x (X_text xv))] : List va_W).flatten) (b := (tr 0)) ⟨hx, hb, hml, hown, hts⟩ (met_X3_copyFrom l dC dI cyI cyO tr an _ N tv nv  o9 h10) (cwV 1 hts (gV w_methodLink_X5_168 w_instanceMethod_X3_copyFrom w_selects_X3_copyFrom w_initialized_X3 w_code_X3_copyFrom) rfl rfl rfl (by decide +kernel) ⟨Nat.le_of_ble_eq_true rfl, Nat.le_of_ble_eq_true rfl⟩) (va_recv hK.1 hP (ci := 3) (q0 := 21) rfl rfl) hP hD hK (seg_perm (n := 11) (R := [(cXo x an tr xv), (cH cyO (x 1) (x 2) 2 fl), (cXk cyI x xv), (cH cyO (x 4) (x 5) 6 fs), (cT cyI x (X_text xv))]) (C := [(cSo tr tv), (cG cyI tr (S_green tv)), (cV cyI tr (S_score tv)), (cSo an nv), (cG cyI an (S_green nv)), (cV cyI an (S_score nv))]) [0, 1, 2, 3, 4] [8, 9, 10, 5, 6, 7] rfl rfl rfl (by decide) rfl) rfl hl.1 (Nat.le_of_ble_eq_true rfl) dX5_wouldStrike_47 ⟨Nat.le_of_ble_eq_true rfl, Nat.le_of_ble_eq_true rfl⟩ hS hA (fun u H locs hw hP hD hS => ?_)
      have hw := hw.symm
      subst hw
      have hq := seg_permS (segs := [(cXo x an tr xv), (cH cyO (x 1) (x 2) 2 fl), (cXk cyI x xv), (cH cyO (x 4) (x 5) 6 fs), (cT cyI x (X_text xv)), (cSo an o9.2), (cG cyI an (S_green o9.2)), (cV cyI an (S_score o9.2)), (cSo tr o9.1), (cG cyI tr (S_green o9.1)), (cV cyI tr (S_score o9.1))]) (R := [(cXo x an tr xv), (cH cyO (x 1) (x 2) 2 fl), (cXk cyI x xv), (cH cyO (x 4) (x 5) 6 fs), (cT cyI x (X_text xv))]) (C := [(cSo tr o9.1), (cG cyI tr (S_green o9.1)), (cV cyI tr (S_score o9.1)), (cSo an o9.2), (cG cyI an (S_green o9.2)), (cV cyI an (S_score o9.2))]) (n := 11) [0, 1, 2, 3, 4] [8, 9, 10, 5, 6, 7] rfl rfl rfl (by decide)
      have hP : va_P (dC, dI) vwCl (([(cXo x an tr xv), (cH cyO (x 1) (x 2) 2 fl), (cXk cyI x xv), (cH cyO (x 4) (x 5) 6 fs), (cT cyI x (X_text xv)), (cSo an o9.2), (cG cyI an (S_green o9.2)), (cV cyI an (S_score o9.2)), (cSo tr o9.1), (cG cyI tr (S_green o9.1)), (cV cyI tr (S_score o9.1))] : List va_W).flatten) H := hP.perm hq
      have hD : va_D A (([(cXo x an tr xv), (cH cyO (x 1) (x 2) 2 fl), (cXk cyI x xv), (cH cyO (x 4) (x 5) 6 fs), (cT cyI x (X_text xv)), (cSo an o9.2), (cG cyI an (S_green o9.2)), (cV cyI an (S_score o9.2)), (cSo tr o9.1), (cG cyI tr (S_green o9.1)), (cV cyI tr (S_score o9.1))] : List va_W).flatten) := hD.perm hq
      clear hq
      refine lv_aload_n hx hb dX5_wouldStrike_50 rfl (lv_at hl 0 rfl) ?_
      refine va_get (D := (dC, dI)) (ci := 5) (v := .ref (tr 0)) (C := RX5) (T := TX5) (N := 8) hx hb hts inX5 hown hK.1 hP 0 rfl rfl 1 (by decide) (hts _ w_fieldLink_X5_16) (fun _ h9 => h9) rfl dX5_wouldStrike_51 ?_
      refine lv_iload_n hx hb dX5_wouldStrike_54 rfl (lv_at hl 1 rfl) ?_
      refine lv_iload_n hx hb dX5_wouldStrike_55 rfl (lv_at hl 2 rfl) ?_
      refine lv_iload_n hx hb dX5_wouldStrike_56 rfl (lv_at hl 3 rfl) ?_
      obtain ⟨o11, h12, hF⟩ := obd hF
      refine wcPVi (As := [.int p1, .int p2, .int p3]) (rest := []) (wr := ([(cXo x an tr xv), (cH cyO (x 1) (x 2) 2 fl), (cXk cyI x xv), (cH cyO (x 4) (x 5) 6 fs), (cT cyI x (X_text xv)), (cSo an o9.2), (cG cyI an (S_green o9.2)), (cV cyI an (S_score o9.2))] : List va_W).flatten) (b := (tr 0)) ⟨hx, hb, hml, hown, hts⟩ (met_X3_playBowl l dC dI cyI cyO tr _ N o9.1 p1 p2 p3 o11 h12) (cwV 3 hts (gV w_methodLink_X5_86 w_instanceMethod_X3_playBowl w_selects_X3_playBowl w_initialized_X3 w_code_X3_playBowl) rfl rfl rfl (by decide +kernel) ⟨Nat.le_of_ble_eq_true rfl, Nat.le_of_ble_eq_true rfl⟩) (va_recv hK.1 hP (ci := 3) (q0 := 21) rfl rfl) hP hD hK (seg_perm (n := 11) (R := [(cXo x an tr xv), (cH cyO (x 1) (x 2) 2 fl), (cXk cyI x xv), (cH cyO (x 4) (x 5) 6 fs), (cT cyI x (X_text xv)), (cSo an o9.2), (cG cyI an (S_green o9.2)), (cV cyI an (S_score o9.2))]) (C := [(cSo tr o9.1), (cG cyI tr (S_green o9.1)), (cV cyI tr (S_score o9.1))]) [0, 1, 2, 3, 4, 5, 6, 7] [8, 9, 10] rfl rfl rfl (by decide) rfl) rfl hl.1 (Nat.le_of_ble_eq_true rfl) dX5_wouldStrike_57 ⟨Nat.le_of_ble_eq_true rfl, Nat.le_of_ble_eq_true rfl⟩ hS hA (fun r u H locs hw hP hD hS => ?_)
      obtain rfl : r = o11.1 := congrArg Prod.fst hw
      obtain rfl : u = o11.2 := congrArg Prod.snd hw
      clear hw
      have hq := seg_permS (segs := [(cXo x an tr xv), (cH cyO (x 1) (x 2) 2 fl), (cXk cyI x xv), (cH cyO (x 4) (x 5) 6 fs), (cT cyI x (X_text xv)), (cSo an o9.2), (cG cyI an (S_green o9.2)), (cV cyI an (S_score o9.2)), (cSo tr o11.2), (cG cyI tr (S_green o11.2)), (cV cyI tr (S_score o11.2))]) (R := [(cXo x an tr xv), (cH cyO (x 1) (x 2) 2 fl), (cXk cyI x xv), (cH cyO (x 4) (x 5) 6 fs), (cT cyI x (X_text xv)), (cSo an o9.2), (cG cyI an (S_green o9.2)), (cV cyI an (S_score o9.2))]) (C := [(cSo tr o11.2), (cG cyI tr (S_green o11.2)), (cV cyI tr (S_score o11.2))]) (n := 11) [0, 1, 2, 3, 4, 5, 6, 7] [8, 9, 10] rfl rfl rfl (by decide)
      have hP : va_P (dC, dI) vwCl (([(cXo x an tr xv), (cH cyO (x 1) (x 2) 2 fl), (cXk cyI x xv), (cH cyO (x 4) (x 5) 6 fs), (cT cyI x (X_text xv)), (cSo an o9.2), (cG cyI an (S_green o9.2)), (cV cyI an (S_score o9.2)), (cSo tr o11.2), (cG cyI tr (S_green o11.2)), (cV cyI tr (S_score o11.2))] : List va_W).flatten) H := hP.perm hq
      have hD : va_D A (([(cXo x an tr xv), (cH cyO (x 1) (x 2) 2 fl), (cXk cyI x xv), (cH cyO (x 4) (x 5) 6 fs), (cT cyI x (X_text xv)), (cSo an o9.2), (cG cyI an (S_green o9.2)), (cV cyI an (S_score o9.2)), (cSo tr o11.2), (cG cyI tr (S_green o11.2)), (cV cyI tr (S_score o11.2))] : List va_W).flatten) := hD.perm hq
      clear hq
      refine lv_pop hx hb dX5_wouldStrike_60 rfl ?_
      refine lv_aload_n hx hb dX5_wouldStrike_61 rfl (lv_at hl 0 rfl) ?_
      refine va_get (D := (dC, dI)) (ci := 5) (v := .ref (tr 0)) (C := RX5) (T := TX5) (N := 8) hx hb hts inX5 hown hK.1 hP 0 rfl rfl 1 (by decide) (hts _ w_fieldLink_X5_16) (fun _ h9 => h9) rfl dX5_wouldStrike_62 ?_
      refine va_get (D := (dC, dI)) (ci := 3) (v := .ref (tr 1)) (C := RX3) (T := TX3) (N := 6) hx hb hts inX3 hown hK.1 hP 21 rfl rfl 0 (by decide) (hts _ w_fieldLink_X5_90) (fun _ h9 => h9) rfl dX5_wouldStrike_65 ?_
      refine va_get (D := (dC, dI)) (ci := 0) (v := .int (G_strikes (S_green o11.2))) (C := RX0) (T := TX0) (N := 9) hx hb hts inX0 hown hK.1 hP 22 rfl rfl 8 (by decide) (hts _ w_fieldLink_X5_302) (fun _ h9 => h9) rfl dX5_wouldStrike_68 ?_
      refine vx_ret ?_
      refine W.widen (k := 1) (n := 6) (Nat.le_of_ble_eq_true rfl) (Nat.le_of_ble_eq_true rfl) ?_
      exact W.iret (v := (G_strikes (S_green o11.2))) hx hb hr (fun t ht hW => ⟨⟨_, (xv, o9.2, o11.2), rfl, Option.some.inj hF, by rw [ht]; exact hP, hD⟩, hS.F ht⟩) hS.2.2 dX5_wouldStrike_71
    · have hF := itp c8 hF
      have hF9 : ((Sum.inl 1 : Nat ⊕ Int32), (xv, nv, tv)) = out := Option.some.inj hF
      exact thrW_1 (w1 := fun (u : XV × SV × SV) => (([(cXo x an tr u.1), (cH cyO (x 1) (x 2) 2 fl), (cXk cyI x u.1), (cH cyO (x 4) (x 5) 6 fs), (cT cyI x (X_text u.1)), (cSo an u.2.1), (cG cyI an (S_green u.2.1)), (cV cyI an (S_score u.2.1)), (cSo tr u.2.2), (cG cyI tr (S_green u.2.2)), (cV cyI tr (S_score u.2.2))] : List va_W).flatten)) (v := (xv, nv, tv)) hF9 hP hD hx hb hst (is := 84) (text := "no bowl can be played") hown hts hZ hAz hS (hl.1.trans hml.symm) (by decide) dX5_wouldStrike_29 dX5_wouldStrike_32 dX5_wouldStrike_33 dX5_wouldStrike_35 dX5_wouldStrike_38 htx (Nat.le_of_ble_eq_true rfl) (Nat.le_of_ble_eq_true rfl) (Nat.le_of_ble_eq_true rfl) (Nat.le_of_ble_eq_true rfl) hlocks (Nat.le_of_ble_eq_true rfl) (Nat.le_of_ble_eq_true rfl)
  · have hF := itp c4 hF
    have hF9 : ((Sum.inl 0 : Nat ⊕ Int32), (xv, nv, tv)) = out := Option.some.inj hF
    exact thrW_0 (w1 := fun (u : XV × SV × SV) => (([(cXo x an tr u.1), (cH cyO (x 1) (x 2) 2 fl), (cXk cyI x u.1), (cH cyO (x 4) (x 5) 6 fs), (cT cyI x (X_text u.1)), (cSo an u.2.1), (cG cyI an (S_green u.2.1)), (cV cyI an (S_score u.2.1)), (cSo tr u.2.2), (cG cyI tr (S_green u.2.2)), (cV cyI tr (S_score u.2.2))] : List va_W).flatten)) (v := (xv, nv, tv)) hF9 hP hD hx hb hst (is := 79) (text := "aim, weight or bias is out of range") hown hts hZ hAz hS (hl.1.trans hml.symm) (by decide) dX5_wouldStrike_9 dX5_wouldStrike_12 dX5_wouldStrike_13 dX5_wouldStrike_15 dX5_wouldStrike_18 htx (Nat.le_of_ble_eq_true rfl) (Nat.le_of_ble_eq_true rfl) (Nat.le_of_ble_eq_true rfl) (Nat.le_of_ble_eq_true rfl) hlocks (Nat.le_of_ble_eq_true rfl) (Nat.le_of_ble_eq_true rfl)
