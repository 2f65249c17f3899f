/-! written by program from the bytecode: what each method computes, and its contract -/

theorem dX5_saveState_0 : decode cX5_saveState 0 = .ok (.aload_n 0, 1) := by decide +kernel
theorem dX5_saveState_1 : decode cX5_saveState 1 = .ok (.getfield 39, 3) := by decide +kernel
theorem dX5_saveState_4 : decode cX5_saveState 4 = .ok (.bipush 6, 2) := by decide +kernel
theorem dX5_saveState_6 : decode cX5_saveState 6 = .ok (.if_icmp .lt 26, 3) := by decide +kernel
theorem dX5_saveState_9 : decode cX5_saveState 9 = .ok (.aload_n 0, 1) := by decide +kernel
theorem dX5_saveState_10 : decode cX5_saveState 10 = .ok (.aload_n 0, 1) := by decide +kernel
theorem dX5_saveState_11 : decode cX5_saveState 11 = .ok (.getfield 35, 3) := by decide +kernel
theorem dX5_saveState_14 : decode cX5_saveState 14 = .ok (.iconst 1, 1) := by decide +kernel
theorem dX5_saveState_15 : decode cX5_saveState 15 = .ok (.iadd, 1) := by decide +kernel
theorem dX5_saveState_16 : decode cX5_saveState 16 = .ok (.bipush 6, 2) := by decide +kernel
theorem dX5_saveState_18 : decode cX5_saveState 18 = .ok (.irem, 1) := by decide +kernel
theorem dX5_saveState_19 : decode cX5_saveState 19 = .ok (.putfield 35, 3) := by decide +kernel
theorem dX5_saveState_22 : decode cX5_saveState 22 = .ok (.aload_n 0, 1) := by decide +kernel
theorem dX5_saveState_23 : decode cX5_saveState 23 = .ok (.dup, 1) := by decide +kernel
theorem dX5_saveState_24 : decode cX5_saveState 24 = .ok (.getfield 39, 3) := by decide +kernel
theorem dX5_saveState_27 : decode cX5_saveState 27 = .ok (.iconst 1, 1) := by decide +kernel
theorem dX5_saveState_28 : decode cX5_saveState 28 = .ok (.isub, 1) := by decide +kernel
theorem dX5_saveState_29 : decode cX5_saveState 29 = .ok (.putfield 39, 3) := by decide +kernel
theorem dX5_saveState_32 : decode cX5_saveState 32 = .ok (.aload_n 0, 1) := by decide +kernel
theorem dX5_saveState_33 : decode cX5_saveState 33 = .ok (.getfield 32, 3) := by decide +kernel
theorem dX5_saveState_36 : decode cX5_saveState 36 = .ok (.aload_n 0, 1) := by decide +kernel
theorem dX5_saveState_37 : decode cX5_saveState 37 = .ok (.getfield 35, 3) := by decide +kernel
theorem dX5_saveState_40 : decode cX5_saveState 40 = .ok (.aload_n 0, 1) := by decide +kernel
theorem dX5_saveState_41 : decode cX5_saveState 41 = .ok (.getfield 39, 3) := by decide +kernel
theorem dX5_saveState_44 : decode cX5_saveState 44 = .ok (.iadd, 1) := by decide +kernel
theorem dX5_saveState_45 : decode cX5_saveState 45 = .ok (.bipush 6, 2) := by decide +kernel
theorem dX5_saveState_47 : decode cX5_saveState 47 = .ok (.irem, 1) := by decide +kernel
theorem dX5_saveState_48 : decode cX5_saveState 48 = .ok (.aload_n 0, 1) := by decide +kernel
theorem dX5_saveState_49 : decode cX5_saveState 49 = .ok (.getfield 12, 3) := by decide +kernel
theorem dX5_saveState_52 : decode cX5_saveState 52 = .ok (.invokevirtual 187, 3) := by decide +kernel
theorem dX5_saveState_55 : decode cX5_saveState 55 = .ok (.aload_n 0, 1) := by decide +kernel
theorem dX5_saveState_56 : decode cX5_saveState 56 = .ok (.dup, 1) := by decide +kernel
theorem dX5_saveState_57 : decode cX5_saveState 57 = .ok (.getfield 39, 3) := by decide +kernel
theorem dX5_saveState_60 : decode cX5_saveState 60 = .ok (.iconst 1, 1) := by decide +kernel
theorem dX5_saveState_61 : decode cX5_saveState 61 = .ok (.iadd, 1) := by decide +kernel
theorem dX5_saveState_62 : decode cX5_saveState 62 = .ok (.putfield 39, 3) := by decide +kernel
theorem dX5_saveState_65 : decode cX5_saveState 65 = .ok (.return_, 1) := by decide +kernel
def f_X5_saveState (N : Nat) (xv : XV) (nv : SV) (v0 : SV) (v1 : SV) (v2 : SV) (v3 : SV) (v4 : SV) (v5 : SV) : Option (XV × SV × SV × SV × SV × SV × SV × SV) :=
  jn (fun (s32 : XV × SV × SV × SV × SV × SV × SV × SV) => (f_X2_write6 N s32.2.1 s32.2.2.1 s32.2.2.2.1 s32.2.2.2.2.1 s32.2.2.2.2.2.1 s32.2.2.2.2.2.2.1 s32.2.2.2.2.2.2.2 (((X_oldestSaved s32.1) + (X_savedCount s32.1)) - ((X_oldestSaved s32.1) + (X_savedCount s32.1)) / (6 : Int32) * (6 : Int32))).bind (fun o1 => some ((X_set_savedCount s32.1 ((X_savedCount s32.1) + (1 : Int32))), o1.1, o1.2.1, o1.2.2.1, o1.2.2.2.1, o1.2.2.2.2.1, o1.2.2.2.2.2.1, o1.2.2.2.2.2.2))) (fun (j32 : (XV × SV × SV × SV × SV × SV × SV × SV) → Option (XV × SV × SV × SV × SV × SV × SV × SV)) => (if (X_savedCount xv) < (6 : Int32) then j32 (xv, nv, v0, v1, v2, v3, v4, v5) else j32 ((X_set_savedCount (X_set_oldestSaved xv (((X_oldestSaved xv) + (1 : Int32)) - ((X_oldestSaved xv) + (1 : Int32)) / (6 : Int32) * (6 : Int32))) ((X_savedCount xv) - (1 : Int32))), nv, v0, v1, v2, v3, v4, v5)))
set_option maxHeartbeats 4000000 in
set_option maxRecDepth 100000 in
theorem met_X5_saveState (l : Launch) (dC : Nat → ClassId) (dI : Nat → Nat → Nat) (cyI cyO : ClassId) (x : Nat → Nat) (tr : Nat → Nat) (an : Nat → Nat) (b0 : Nat → Nat) (b1 : Nat → Nat) (b2 : Nat → Nat) (b3 : Nat → Nat) (b4 : Nat → Nat) (b5 : Nat → Nat) (fl fs : Nat → Option Nat) (sz : Nat) (N : Nat) (xv : XV) (nv : SV) (v0 : SV) (v1 : SV) (v2 : SV) (v3 : SV) (v4 : SV) (v5 : SV) (hs0 : fs 0 = some (b0 0)) (hs1 : fs 1 = some (b1 0)) (hs2 : fs 2 = some (b2 0)) (hs3 : fs 3 = some (b3 0)) (hs4 : fs 4 = some (b4 0)) (hs5 : fs 5 = some (b5 0)) (out : XV × SV × SV × SV × SV × SV × SV × SV) (hF : f_X5_saveState N xv nv v0 v1 v2 v3 v4 v5 = some out) : Met l yX5_saveState (Cond.code yX5_saveState cX5_saveState 1 none :: wT) ({ frames := 4, cells := 0, slots := 0, locals := 87 } : Room) (wWr dC dI cyI cyO [.ref (x 0)] (([(cXo x an tr xv), (cH cyO (x 1) (x 2) 2 fl), (cXk cyI x xv), (cH cyO (x 4) (x 5) 6 fs), (cT cyI x (X_text xv)), (cSo an nv), (cG cyI an (S_green nv)), (cV cyI an (S_score nv)), (cS cyI b0 v0), (cS cyI b1 v1), (cS cyI b2 v2), (cS cyI b3 v3), (cS cyI b4 v4), (cS cyI b5 v5)] : List va_W).flatten) sz) (va_Qv (fun (u : XV × SV × SV × SV × SV × SV × SV × SV) => u = out) (fun u t => va_P (dC, dI) vwCl (([(cXo x an tr u.1), (cH cyO (x 1) (x 2) 2 fl), (cXk cyI x u.1), (cH cyO (x 4) (x 5) 6 fs), (cT cyI x (X_text u.1)), (cSo an u.2.1), (cG cyI an (S_green u.2.1)), (cV cyI an (S_score u.2.1)), (cS cyI b0 u.2.2.1), (cS cyI b1 u.2.2.2.1), (cS cyI b2 u.2.2.2.2.1), (cS cyI b3 u.2.2.2.2.2.1), (cS cyI b4 u.2.2.2.2.2.2.1), (cS cyI b5 u.2.2.2.2.2.2.2)] : List va_W).flatten) t.heap ∧ va_D (va_A (([(cXo x an tr xv), (cH cyO (x 1) (x 2) 2 fl), (cXk cyI x xv), (cH cyO (x 4) (x 5) 6 fs), (cT cyI x (X_text xv)), (cSo an nv), (cG cyI an (S_green nv)), (cV cyI an (S_score nv)), (cS cyI b0 v0), (cS cyI b1 v1), (cS cyI b2 v2), (cS cyI b3 v3), (cS cyI b4 v4), (cS cyI b5 v5)] : List va_W).flatten) sz) (([(cXo x an tr u.1), (cH cyO (x 1) (x 2) 2 fl), (cXk cyI x u.1), (cH cyO (x 4) (x 5) 6 fs), (cT cyI x (X_text u.1)), (cSo an u.2.1), (cG cyI an (S_green u.2.1)), (cV cyI an (S_score u.2.1)), (cS cyI b0 u.2.2.1), (cS cyI b1 u.2.2.2.1), (cS cyI b2 u.2.2.2.2.1), (cS cyI b3 u.2.2.2.2.2.1), (cS cyI b4 u.2.2.2.2.2.2.1), (cS cyI b5 u.2.2.2.2.2.2.2)] : List va_W).flatten)) (va_A (([(cXo x an tr xv), (cH cyO (x 1) (x 2) 2 fl), (cXk cyI x xv), (cH cyO (x 4) (x 5) 6 fs), (cT cyI x (X_text xv)), (cSo an nv), (cG cyI an (S_green nv)), (cV cyI an (S_score nv)), (cS cyI b0 v0), (cS cyI b1 v1), (cS cyI b2 v2), (cS cyI b3 v3), (cS cyI b4 v4), (cS cyI b5 v5)] : List va_W).flatten) sz)) 0 0 (va_A (([(cXo x an tr xv), (cH cyO (x 1) (x 2) 2 fl), (cXk cyI x xv), (cH cyO (x 4) (x 5) 6 fs), (cT cyI x (X_text xv)), (cSo an nv), (cG cyI an (S_green nv)), (cV cyI an (S_score nv)), (cS cyI b0 v0), (cS cyI b1 v1), (cS cyI b2 v2), (cS cyI b3 v3), (cS cyI b4 v4), (cS cyI b5 v5)] : List va_W).flatten) sz) := by
  refine Met.ofW (cc := cX5_saveState) (maxL := 1) (ret := none) (by decide) rfl ?_
  intro p e s m args below meth c s₁ B hml hv
  obtain ⟨rfl, hsz, hP, hK, hD0⟩ := hv
  have hx := B.exec
  have hb := B.bytes
  have hr := B.returns
  have hts0 := atoms_spec (ws := (Cond.code yX5_saveState cX5_saveState 1 none :: wT)) B.pre
  have hts := fun w h => hts0 w (List.mem_cons_of_mem _ h)
  clear hts0
  have hown : s.vm.findClass RX5 = some m.cls := findClass_of_methodNamed B.named
  have hlocks := B.notSynchronized
  subst hsz
  have hD := hD0.self (sz := s.heap.size)
  generalize hAe : va_A (([(cXo x an tr xv), (cH cyO (x 1) (x 2) 2 fl), (cXk cyI x xv), (cH cyO (x 4) (x 5) 6 fs), (cT cyI x (X_text xv)), (cSo an nv), (cG cyI an (S_green nv)), (cV cyI an (S_score nv)), (cS cyI b0 v0), (cS cyI b1 v1), (cS cyI b2 v2), (cS cyI b3 v3), (cS cyI b4 v4), (cS cyI b5 v5)] : List va_W).flatten) s.heap.size = A at hD ⊢
  have hA : ∀ q : Nat, s.heap.size ≤ q → A q := fun q h => by rw [← hAe]; exact Or.inr h
  clear hD0
  have hS : va_S A s.heap s.heap [] := va_S.rf
  have hl := lv_entry [.ref (x 0)] (n := 1) (Nat.le_of_ble_eq_true rfl)
  rw [lg_entry_eq]
  generalize (lg_sl [.ref (x 0)] ++ List.replicate (1 - (lg_sl [.ref (x 0)]).length) Slot.unset).toArray = ls at hl ⊢
  have hl : lv_has ls 1 [(0, .ref (x 0))] := hl
  unfold f_X5_saveState at hF
  refine lv_aload_n hx hb dX5_saveState_0 rfl (lv_at hl 0 rfl) ?_
  refine va_get (D := (dC, dI)) (ci := 5) (v := .int (X_savedCount xv)) (C := RX5) (T := TX5) (N := 8) hx hb hts inX5 hown hK.1 hP 0 rfl rfl 6 (by decide) (hts _ w_fieldLink_X5_39) (fun _ h9 => h9) rfl dX5_saveState_1 ?_
  refine lv_bipush (v := 6) hx hb dX5_saveState_4 (by decide) ?_
  obtain ⟨j32, hj32, hF⟩ := jn_use hF
  have hJ32 : ∀ (s32 : XV × SV × SV × SV × SV × SV × SV × SV) (H : Heap) (locs : List Loc) (ls : Array Slot), va_P (dC, dI) vwCl (([(cXo x an tr s32.1), (cH cyO (x 1) (x 2) 2 fl), (cXk cyI x s32.1), (cH cyO (x 4) (x 5) 6 fs), (cT cyI x (X_text s32.1)), (cSo an s32.2.1), (cG cyI an (S_green s32.2.1)), (cV cyI an (S_score s32.2.1)), (cS cyI b0 s32.2.2.1), (cS cyI b1 s32.2.2.2.1), (cS cyI b2 s32.2.2.2.2.1), (cS cyI b3 s32.2.2.2.2.2.1), (cS cyI b4 s32.2.2.2.2.2.2.1), (cS cyI b5 s32.2.2.2.2.2.2.2)] : List va_W).flatten) H → va_D A (([(cXo x an tr s32.1), (cH cyO (x 1) (x 2) 2 fl), (cXk cyI x s32.1), (cH cyO (x 4) (x 5) 6 fs), (cT cyI x (X_text s32.1)), (cSo an s32.2.1), (cG cyI an (S_green s32.2.1)), (cV cyI an (S_score s32.2.1)), (cS cyI b0 s32.2.2.1), (cS cyI b1 s32.2.2.2.1), (cS cyI b2 s32.2.2.2.2.1), (cS cyI b3 s32.2.2.2.2.2.1), (cS cyI b4 s32.2.2.2.2.2.2.1), (cS cyI b5 s32.2.2.2.2.2.2.2)] : List va_W).flatten) → va_S A s.heap H locs → lv_has ls 1 [(0, .ref (x 0))] → j32 s32 = some out → W p l e (headSpec (Cond.code yX5_saveState cX5_saveState 1 none :: wT) ({ frames := 4, cells := 0, slots := 0, locals := 87 } : Room)).room s m ([.ref (x 0)] : List Value).toArray below meth c H locs 0 0 (MQ below (va_Qv (fun (u : XV × SV × SV × SV × SV × SV × SV × SV) => u = out) (fun u t => va_P (dC, dI) vwCl (([(cXo x an tr u.1), (cH cyO (x 1) (x 2) 2 fl), (cXk cyI x u.1), (cH cyO (x 4) (x 5) 6 fs), (cT cyI x (X_text u.1)), (cSo an u.2.1), (cG cyI an (S_green u.2.1)), (cV cyI an (S_score u.2.1)), (cS cyI b0 u.2.2.1), (cS cyI b1 u.2.2.2.1), (cS cyI b2 u.2.2.2.2.1), (cS cyI b3 u.2.2.2.2.2.1), (cS cyI b4 u.2.2.2.2.2.2.1), (cS cyI b5 u.2.2.2.2.2.2.2)] : List va_W).flatten) t.heap ∧ va_D A (([(cXo x an tr u.1), (cH cyO (x 1) (x 2) 2 fl), (cXk cyI x u.1), (cH cyO (x 4) (x 5) 6 fs), (cT cyI x (X_text u.1)), (cSo an u.2.1), (cG cyI an (S_green u.2.1)), (cV cyI an (S_score u.2.1)), (cS cyI b0 u.2.2.1), (cS cyI b1 u.2.2.2.1), (cS cyI b2 u.2.2.2.2.1), (cS cyI b3 u.2.2.2.2.2.1), (cS cyI b4 u.2.2.2.2.2.2.1), (cS cyI b5 u.2.2.2.2.2.2.2)] : List va_W).flatten)) A) ([.ref (x 0)] : List Value).toArray s 0 0 A) (F0 m 32 ls []) := by
    intro s32 H locs ls hP hD hS hl hF
    have hF := (congrFun hj32 s32).symm.trans hF
    refine lv_aload_n hx hb dX5_saveState_32 rfl (lv_at hl 0 rfl) ?_
    refine va_get (D := (dC, dI)) (ci := 5) (v := .ref (x 4)) (C := RX5) (T := TX5) (N := 8) hx hb hts inX5 hown hK.1 hP 0 rfl rfl 4 (by decide) (hts _ w_fieldLink_X5_32) (fun _ h9 => h9) rfl dX5_saveState_33 ?_
    refine lv_aload_n hx hb dX5_saveState_36 rfl (lv_at hl 0 rfl) ?_
    refine va_get (D := (dC, dI)) (ci := 5) (v := .int (X_oldestSaved s32.1)) (C := RX5) (T := TX5) (N := 8) hx hb hts inX5 hown hK.1 hP 0 rfl rfl 5 (by decide) (hts _ w_fieldLink_X5_35) (fun _ h9 => h9) rfl dX5_saveState_37 ?_
    refine lv_aload_n hx hb dX5_saveState_40 rfl (lv_at hl 0 rfl) ?_
    refine va_get (D := (dC, dI)) (ci := 5) (v := .int (X_savedCount s32.1)) (C := RX5) (T := TX5) (N := 8) hx hb hts inX5 hown hK.1 hP 0 rfl rfl 6 (by decide) (hts _ w_fieldLink_X5_39) (fun _ h9 => h9) rfl dX5_saveState_41 ?_
    refine lv_iadd hx hb dX5_saveState_44 ?_
    refine lv_bipush (v := 6) hx hb dX5_saveState_45 (by decide) ?_
    refine lv_irem hx hb dX5_saveState_47 (by decide) ?_
    refine lv_aload_n hx hb dX5_saveState_48 rfl (lv_at hl 0 rfl) ?_
    refine va_get (D := (dC, dI)) (ci := 5) (v := .ref (an 0)) (C := RX5) (T := TX5) (N := 8) hx hb hts inX5 hown hK.1 hP 0 rfl rfl 0 (by decide) (hts _ w_fieldLink_X5_12) (fun _ h9 => h9) rfl dX5_saveState_49 ?_
    obtain ⟨o1, h2, hF⟩ := obd hF
    refine wcPVv (As := [.int (((X_oldestSaved s32.1) + (X_savedCount s32.1)) - ((X_oldestSaved s32.1) + (X_savedCount s32.1)) / (6 : Int32) * (6 : Int32)), .ref (an 0)]) (rest := []) (wr := ([(cXo x an tr s32.1), (cH cyO (x 1) (x 2) 2 fl), (cXk cyI x s32.1), (cT cyI x (X_text s32.1))] : List va_W).flatten) (b := (x 4)) ⟨hx, hb, hml, hown, hts⟩ (met_X2_write6 l dC dI cyI cyO (x 4) (x 5) fs an b0 b1 b2 b3 b4 b5 _ N s32.2.1 s32.2.2.1 s32.2.2.2.1 s32.2.2.2.2.1 s32.2.2.2.2.2.1 s32.2.2.2.2.2.2.1 s32.2.2.2.2.2.2.2 (((X_oldestSaved s32.1) + (X_savedCount s32.1)) - ((X_oldestSaved s32.1) + (X_savedCount s32.1)) / (6 : Int32) * (6 : Int32)) hs0 hs1 hs2 hs3 hs4 hs5 o1 h2) (cwV 2 hts (gV w_methodLink_X5_187 w_instanceMethod_X2_write w_selects_X2_write w_initialized_X2 w_code_X2_write) rfl rfl rfl (by decide +kernel) ⟨Nat.le_of_ble_eq_true rfl, Nat.le_of_ble_eq_true rfl⟩) (va_recv hK.1 hP (ci := 2) (q0 := 4) rfl rfl) hP hD hK (seg_perm (n := 14) (R := [(cXo x an tr s32.1), (cH cyO (x 1) (x 2) 2 fl), (cXk cyI x s32.1), (cT cyI x (X_text s32.1))]) (C := [(cH cyO (x 4) (x 5) 6 fs), (cSo an s32.2.1), (cG cyI an (S_green s32.2.1)), (cV cyI an (S_score s32.2.1)), (cS cyI b0 s32.2.2.1), (cS cyI b1 s32.2.2.2.1), (cS cyI b2 s32.2.2.2.2.1), (cS cyI b3 s32.2.2.2.2.2.1), (cS cyI b4 s32.2.2.2.2.2.2.1), (cS cyI b5 s32.2.2.2.2.2.2.2)]) [0, 1, 2, 4] [3, 5, 6, 7, 8, 9, 10, 11, 12, 13] rfl rfl rfl (by decide) rfl) rfl hl.1 (Nat.le_of_ble_eq_true rfl) dX5_saveState_52 ⟨Nat.le_of_ble_eq_true rfl, Nat.le_of_ble_eq_true rfl⟩ hS hA (fun u H locs hw hP hD hS => ?_)
    have hw := hw.symm
    subst hw
    have hq := seg_permS (segs := [(cXo x an tr s32.1), (cH cyO (x 1) (x 2) 2 fl), (cXk cyI x s32.1), (cH cyO (x 4) (x 5) 6 fs), (cT cyI x (X_text s32.1)), (cSo an o1.1), (cG cyI an (S_green o1.1)), (cV cyI an (S_score o1.1)), (cS cyI b0 o1.2.1), (cS cyI b1 o1.2.2.1), (cS cyI b2 o1.2.2.2.1), (cS cyI b3 o1.2.2.2.2.1), (cS cyI b4 o1.2.2.2.2.2.1), (cS cyI b5 o1.2.2.2.2.2.2)]) (R := [(cXo x an tr s32.1), (cH cyO (x 1) (x 2) 2 fl), (cXk cyI x s32.1), (cT cyI x (X_text s32.1))]) (C := [(cH cyO (x 4) (x 5) 6 fs), (cSo an o1.1), (cG cyI an (S_green o1.1)), (cV cyI an (S_score o1.1)), (cS cyI b0 o1.2.1), (cS cyI b1 o1.2.2.1), (cS cyI b2 o1.2.2.2.1), (cS cyI b3 o1.2.2.2.2.1), (cS cyI b4 o1.2.2.2.2.2.1), (cS cyI b5 o1.2.2.2.2.2.2)]) (n := 14) [0, 1, 2, 4] [3, 5, 6, 7, 8, 9, 10, 11, 12, 13] rfl rfl rfl (by decide)
    have hP : va_P (dC, dI) vwCl (([(cXo x an tr s32.1), (cH cyO (x 1) (x 2) 2 fl), (cXk cyI x s32.1), (cH cyO (x 4) (x 5) 6 fs), (cT cyI x (X_text s32.1)), (cSo an o1.1), (cG cyI an (S_green o1.1)), (cV cyI an (S_score o1.1)), (cS cyI b0 o1.2.1), (cS cyI b1 o1.2.2.1), (cS cyI b2 o1.2.2.2.1), (cS cyI b3 o1.2.2.2.2.1), (cS cyI b4 o1.2.2.2.2.2.1), (cS cyI b5 o1.2.2.2.2.2.2)] : List va_W).flatten) H := hP.perm hq
    have hD : va_D A (([(cXo x an tr s32.1), (cH cyO (x 1) (x 2) 2 fl), (cXk cyI x s32.1), (cH cyO (x 4) (x 5) 6 fs), (cT cyI x (X_text s32.1)), (cSo an o1.1), (cG cyI an (S_green o1.1)), (cV cyI an (S_score o1.1)), (cS cyI b0 o1.2.1), (cS cyI b1 o1.2.2.1), (cS cyI b2 o1.2.2.2.1), (cS cyI b3 o1.2.2.2.2.1), (cS cyI b4 o1.2.2.2.2.2.1), (cS cyI b5 o1.2.2.2.2.2.2)] : List va_W).flatten) := hD.perm hq
    clear hq
    refine lv_aload_n hx hb dX5_saveState_55 rfl (lv_at hl 0 rfl) ?_
    refine lv_dup hx hb dX5_saveState_56 rfl ?_
    refine va_get (D := (dC, dI)) (ci := 5) (v := .int (X_savedCount s32.1)) (C := RX5) (T := TX5) (N := 8) hx hb hts inX5 hown hK.1 hP 0 rfl rfl 6 (by decide) (hts _ w_fieldLink_X5_39) (fun _ h9 => h9) rfl dX5_saveState_57 ?_
    refine lv_iconst (v := 1) hx hb dX5_saveState_60 (by decide) ?_
    refine lv_iadd hx hb dX5_saveState_61 ?_
    refine va_put (D := (dC, dI)) (ci := 5) (v := .int ((X_savedCount s32.1) + (1 : Int32))) (ty := .int) (C := RX5) (T := TX5) (N := 8) hx hb hts inX5 tyX5 tyX5_ok nmX5 hown hK.1 hP hD hS 0 rfl rfl 6 (by decide) (hts _ w_fieldLink_X5_39) (fun _ h9 => h9) rfl (by decide +kernel) rfl rfl (Nat.le_of_ble_eq_true rfl) dX5_saveState_62 (fun H locs hP hD hS => ?_)
    have hP : va_P (dC, dI) vwCl (([(cXo x an tr (X_set_savedCount s32.1 ((X_savedCount s32.1) + (1 : Int32)))), (cH cyO (x 1) (x 2) 2 fl), (cXk cyI x (X_set_savedCount s32.1 ((X_savedCount s32.1) + (1 : Int32)))), (cH cyO (x 4) (x 5) 6 fs), (cT cyI x (X_text (X_set_savedCount s32.1 ((X_savedCount s32.1) + (1 : Int32))))), (cSo an o1.1), (cG cyI an (S_green o1.1)), (cV cyI an (S_score o1.1)), (cS cyI b0 o1.2.1), (cS cyI b1 o1.2.2.1), (cS cyI b2 o1.2.2.2.1), (cS cyI b3 o1.2.2.2.2.1), (cS cyI b4 o1.2.2.2.2.2.1), (cS cyI b5 o1.2.2.2.2.2.2)] : List va_W).flatten) H := hP
    have hD : va_D A (([(cXo x an tr (X_set_savedCount s32.1 ((X_savedCount s32.1) + (1 : Int32)))), (cH cyO (x 1) (x 2) 2 fl), (cXk cyI x (X_set_savedCount s32.1 ((X_savedCount s32.1) + (1 : Int32)))), (cH cyO (x 4) (x 5) 6 fs), (cT cyI x (X_text (X_set_savedCount s32.1 ((X_savedCount s32.1) + (1 : Int32))))), (cSo an o1.1), (cG cyI an (S_green o1.1)), (cV cyI an (S_score o1.1)), (cS cyI b0 o1.2.1), (cS cyI b1 o1.2.2.1), (cS cyI b2 o1.2.2.2.1), (cS cyI b3 o1.2.2.2.2.1), (cS cyI b4 o1.2.2.2.2.2.1), (cS cyI b5 o1.2.2.2.2.2.2)] : List va_W).flatten) := hD
    exact W.vret hx hb hr (fun t ht hW => ⟨⟨_, rfl, Option.some.inj hF, by rw [ht]; exact hP, hD⟩, hS.F ht⟩) hS.2.2 dX5_saveState_65
  refine lv_icmp_lt (tgt := 32) hx hb dX5_saveState_6 (by decide) (fun c3 => ?_) (fun c3 => ?_)
  · have hF := itp c3 hF
    exact hJ32 (xv, nv, v0, v1, v2, v3, v4, v5) _ _ _ hP hD hS (lv_sub hl [0] rfl) hF
  · have hF := itn c3 hF
    refine lv_aload_n hx hb dX5_saveState_9 rfl (lv_at hl 0 rfl) ?_
    refine lv_aload_n hx hb dX5_saveState_10 rfl (lv_at hl 0 rfl) ?_
    refine va_get (D := (dC, dI)) (ci := 5) (v := .int (X_oldestSaved xv)) (C := RX5) (T := TX5) (N := 8) hx hb hts inX5 hown hK.1 hP 0 rfl rfl 5 (by decide) (hts _ w_fieldLink_X5_35) (fun _ h9 => h9) rfl dX5_saveState_11 ?_
    refine lv_iconst (v := 1) hx hb dX5_saveState_14 (by decide) ?_
    refine lv_iadd hx hb dX5_saveState_15 ?_
    refine lv_bipush (v := 6) hx hb dX5_saveState_16 (by decide) ?_
    refine lv_irem hx hb dX5_saveState_18 (by decide) ?_
    refine va_put (D := (dC, dI)) (ci := 5) (v := .int (((X_oldestSaved xv) + (1 : Int32)) - ((X_oldestSaved xv) + (1 : Int32)) / (6 : Int32) * (6 : Int32))) (ty := .int) (C := RX5) (T := TX5) (N := 8) hx hb hts inX5 tyX5 tyX5_ok nmX5 hown hK.1 hP hD hS 0 rfl rfl 5 (by decide) (hts _ w_fieldLink_X5_35) (fun _ h9 => h9) rfl (by decide +kernel) rfl rfl (Nat.le_of_ble_eq_true rfl) dX5_saveState_19 (fun H locs hP hD hS => ?_)
    have hP : va_P (dC, dI) vwCl (([(cXo x an tr (X_set_oldestSaved xv (((X_oldestSaved xv) + (1 : Int32)) - ((X_oldestSaved xv) + (1 : Int32)) / (6 : Int32) * (6 : Int32)))), (cH cyO (x 1) (x 2) 2 fl), (cXk cyI x (X_set_oldestSaved xv (((X_oldestSaved xv) + (1 : Int32)) - ((X_oldestSaved xv) + (1 : Int32)) / (6 : Int32) * (6 : Int32)))), (cH cyO (x 4) (x 5) 6 fs), (cT cyI x (X_text (X_set_oldestSaved xv (((X_oldestSaved xv) + (1 : Int32)) - ((X_oldestSaved xv) + (1 : Int32)) / (6 : Int32) * (6 : Int32))))), (cSo an nv), (cG cyI an (S_green nv)), (cV cyI an (S_score nv)), (cS cyI b0 v0), (cS cyI b1 v1), (cS cyI b2 v2), (cS cyI b3 v3), (cS cyI b4 v4), (cS cyI b5 v5)] : List va_W).flatten) H := hP
    have hD : va_D A (([(cXo x an tr (X_set_oldestSaved xv (((X_oldestSaved xv) + (1 : Int32)) - ((X_oldestSaved xv) + (1 : Int32)) / (6 : Int32) * (6 : Int32)))), (cH cyO (x 1) (x 2) 2 fl), (cXk cyI x (X_set_oldestSaved xv (((X_oldestSaved xv) + (1 : Int32)) - ((X_oldestSaved xv) + (1 : Int32)) / (6 : Int32) * (6 : Int32)))), (cH cyO (x 4) (x 5) 6 fs), (cT cyI x (X_text (X_set_oldestSaved xv (((X_oldestSaved xv) + (1 : Int32)) - ((X_oldestSaved xv) + (1 : Int32)) / (6 : Int32) * (6 : Int32))))), (cSo an nv), (cG cyI an (S_green nv)), (cV cyI an (S_score nv)), (cS cyI b0 v0), (cS cyI b1 v1), (cS cyI b2 v2), (cS cyI b3 v3), (cS cyI b4 v4), (cS cyI b5 v5)] : List va_W).flatten) := hD
    refine lv_aload_n hx hb dX5_saveState_22 rfl (lv_at hl 0 rfl) ?_
    refine lv_dup hx hb dX5_saveState_23 rfl ?_
    refine va_get (D := (dC, dI)) (ci := 5) (v := .int (X_savedCount xv)) (C := RX5) (T := TX5) (N := 8) hx hb hts inX5 hown hK.1 hP 0 rfl rfl 6 (by decide) (hts _ w_fieldLink_X5_39) (fun _ h9 => h9) rfl dX5_saveState_24 ?_
    refine lv_iconst (v := 1) hx hb dX5_saveState_27 (by decide) ?_
    refine lv_isub hx hb dX5_saveState_28 ?_
    refine va_put (D := (dC, dI)) (ci := 5) (v := .int ((X_savedCount xv) - (1 : Int32))) (ty := .int) (C := RX5) (T := TX5) (N := 8) hx hb hts inX5 tyX5 tyX5_ok nmX5 hown hK.1 hP hD hS 0 rfl rfl 6 (by decide) (hts _ w_fieldLink_X5_39) (fun _ h9 => h9) rfl (by decide +kernel) rfl rfl (Nat.le_of_ble_eq_true rfl) dX5_saveState_29 (fun H locs hP hD hS => ?_)
    have hP : va_P (dC, dI) vwCl (([(cXo x an tr (X_set_savedCount (X_set_oldestSaved xv (((X_oldestSaved xv) + (1 : Int32)) - ((X_oldestSaved xv) + (1 : Int32)) / (6 : Int32) * (6 : Int32))) ((X_savedCount xv) - (1 : Int32)))), (cH cyO (x 1) (x 2) 2 fl), (cXk cyI x (X_set_savedCount (X_set_oldestSaved xv (((X_oldestSaved xv) + (1 : Int32)) - ((X_oldestSaved xv) + (1 : Int32)) / (6 : Int32) * (6 : Int32))) ((X_savedCount xv) - (1 : Int32)))), (cH cyO (x 4) (x 5) 6 fs), (cT cyI x (X_text (X_set_savedCount (X_set_oldestSaved xv (((X_oldestSaved xv) + (1 : Int32)) - ((X_oldestSaved xv) + (1 : Int32)) / (6 : Int32) * (6 : Int32))) ((X_savedCount xv) - (1 : Int32))))), (cSo an nv), (cG cyI an (S_green nv)), (cV cyI an (S_score nv)), (cS cyI b0 v0), (cS cyI b1 v1), (cS cyI b2 v2), (cS cyI b3 v3), (cS cyI b4 v4), (cS cyI b5 v5)] : List va_W).flatten) H := hP
    have hD : va_D A (([(cXo x an tr (X_set_savedCount (X_set_oldestSaved xv (((X_oldestSaved xv) + (1 : Int32)) - ((X_oldestSaved xv) + (1 : Int32)) / (6 : Int32) * (6 : Int32))) ((X_savedCount xv) - (1 : Int32)))), (cH cyO (x 1) (x 2) 2 fl), (cXk cyI x (X_set_savedCount (X_set_oldestSaved xv (((X_oldestSaved xv) + (1 : Int32)) - ((X_oldestSaved xv) + (1 : Int32)) / (6 : Int32) * (6 : Int32))) ((X_savedCount xv) - (1 : Int32)))), (cH cyO (x 4) (x 5) 6 fs), (cT cyI x (X_text (X_set_savedCount (X_set_oldestSaved xv (((X_oldestSaved xv) + (1 : Int32)) - ((X_oldestSaved xv) + (1 : Int32)) / (6 : Int32) * (6 : Int32))) ((X_savedCount xv) - (1 : Int32))))), (cSo an nv), (cG cyI an (S_green nv)), (cV cyI an (S_score nv)), (cS cyI b0 v0), (cS cyI b1 v1), (cS cyI b2 v2), (cS cyI b3 v3), (cS cyI b4 v4), (cS cyI b5 v5)] : List va_W).flatten) := hD
    exact hJ32 ((X_set_savedCount (X_set_oldestSaved xv (((X_oldestSaved xv) + (1 : Int32)) - ((X_oldestSaved xv) + (1 : Int32)) / (6 : Int32) * (6 : Int32))) ((X_savedCount xv) - (1 : Int32))), nv, v0, v1, v2, v3, v4, v5) _ _ _ hP hD hS (lv_sub hl [0] rfl) hF
