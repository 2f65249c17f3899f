/-! written by program from the bytecode: what each method computes, and its contract -/

theorem dX6_undo_0 : decode cX6_undo 0 = .ok (.aload_n 0, 1) := by decide +kernel
theorem dX6_undo_1 : decode cX6_undo 1 = .ok (.aload_n 0, 1) := by decide +kernel
theorem dX6_undo_2 : decode cX6_undo 2 = .ok (.getfield 39, 3) := by decide +kernel
theorem dX6_undo_5 : decode cX6_undo 5 = .ok (.ifCond .le 7, 3) := by decide +kernel
theorem dX6_undo_8 : decode cX6_undo 8 = .ok (.iconst 0, 1) := by decide +kernel
theorem dX6_undo_9 : decode cX6_undo 9 = .ok (.goto 4, 3) := by decide +kernel
theorem dX6_undo_12 : decode cX6_undo 12 = .ok (.iconst 1, 1) := by decide +kernel
theorem dX6_undo_13 : decode cX6_undo 13 = .ok (.invokevirtual 107, 3) := by decide +kernel
theorem dX6_undo_16 : decode cX6_undo 16 = .ok (.ifCond .eq 47, 3) := by decide +kernel
theorem dX6_undo_19 : decode cX6_undo 19 = .ok (.aload_n 0, 1) := by decide +kernel
theorem dX6_undo_20 : decode cX6_undo 20 = .ok (.dup, 1) := by decide +kernel
theorem dX6_undo_21 : decode cX6_undo 21 = .ok (.getfield 39, 3) := by decide +kernel
theorem dX6_undo_24 : decode cX6_undo 24 = .ok (.iconst 1, 1) := by decide +kernel
theorem dX6_undo_25 : decode cX6_undo 25 = .ok (.isub, 1) := by decide +kernel
theorem dX6_undo_26 : decode cX6_undo 26 = .ok (.putfield 39, 3) := by decide +kernel
theorem dX6_undo_29 : decode cX6_undo 29 = .ok (.iconst 0, 1) := by decide +kernel
theorem dX6_undo_30 : decode cX6_undo 30 = .ok (.istore_n 1, 1) := by decide +kernel
theorem dX6_undo_31 : decode cX6_undo 31 = .ok (.iload_n 1, 1) := by decide +kernel
theorem dX6_undo_32 : decode cX6_undo 32 = .ok (.bipush 103, 2) := by decide +kernel
theorem dX6_undo_34 : decode cX6_undo 34 = .ok (.if_icmp .ge 29, 3) := by decide +kernel
theorem dX6_undo_37 : decode cX6_undo 37 = .ok (.aload_n 0, 1) := by decide +kernel
theorem dX6_undo_38 : decode cX6_undo 38 = .ok (.getfield 7, 3) := by decide +kernel
theorem dX6_undo_41 : decode cX6_undo 41 = .ok (.iload_n 1, 1) := by decide +kernel
theorem dX6_undo_42 : decode cX6_undo 42 = .ok (.aload_n 0, 1) := by decide +kernel
theorem dX6_undo_43 : decode cX6_undo 43 = .ok (.getfield 19, 3) := by decide +kernel
theorem dX6_undo_46 : decode cX6_undo 46 = .ok (.bipush 103, 2) := by decide +kernel
theorem dX6_undo_48 : decode cX6_undo 48 = .ok (.aload_n 0, 1) := by decide +kernel
theorem dX6_undo_49 : decode cX6_undo 49 = .ok (.getfield 39, 3) := by decide +kernel
theorem dX6_undo_52 : decode cX6_undo 52 = .ok (.imul, 1) := by decide +kernel
theorem dX6_undo_53 : decode cX6_undo 53 = .ok (.iload_n 1, 1) := by decide +kernel
theorem dX6_undo_54 : decode cX6_undo 54 = .ok (.iadd, 1) := by decide +kernel
theorem dX6_undo_55 : decode cX6_undo 55 = .ok (.iaload, 1) := by decide +kernel
theorem dX6_undo_56 : decode cX6_undo 56 = .ok (.iastore, 1) := by decide +kernel
theorem dX6_undo_57 : decode cX6_undo 57 = .ok (.iinc 1 1, 3) := by decide +kernel
theorem dX6_undo_60 : decode cX6_undo 60 = .ok (.goto (-29), 3) := by decide +kernel
theorem dX6_undo_63 : decode cX6_undo 63 = .ok (.return_, 1) := by decide +kernel
def f_X6_undo (N : Nat) (v : MV) : Option (MV) :=
  jn (fun (s13 : Int32) => (f_X6_holds N v s13).bind (fun o1 => jn (fun (s63 : MV) => some s63) (fun (j63 : (MV) → Option (MV)) => (if o1.1 = 0 then j63 o1.2 else lpN (fun (s31 : Int32 × MV) (k31 : (Int32 × MV) → Option (MV)) => (if (103 : Int32) ≤ s31.1 then j63 s31.2 else gd (ixok (((103 : Int32) * (M_savedMany s31.2)) + s31.1) 618) (gd (ixok s31.1 103) (k31 ((s31.1 + (1 : Int32)), (M_set_s s31.2 (upd (M_s s31.2) s31.1.toNatClampNeg ((M_saved s31.2) (((103 : Int32) * (M_savedMany s31.2)) + s31.1).toNatClampNeg)))))))) N ((0 : Int32), (M_set_savedMany o1.2 ((M_savedMany o1.2) - (1 : Int32)))))))) (fun (j13 : (Int32) → Option (MV)) => (if (M_savedMany v) ≤ 0 then j13 (1 : Int32) else j13 (0 : Int32)))
set_option maxHeartbeats 4000000 in
set_option maxRecDepth 100000 in
theorem met_X6_undo (l : Launch) (dC : Nat → ClassId) (dI : Nat → Nat → Nat) (cyI cyO cyL : ClassId) (a : Nat → Nat) (sz : Nat) (N : Nat) (v : MV) (out : MV) (hF : f_X6_undo N v = some out) : Met l yX6_undo (Cond.code yX6_undo cX6_undo 2 none :: wT) ({ frames := 1, cells := 0, slots := 0, locals := 21 } : Room) (wWr dC dI cyI cyO cyL [.ref (a 0)] (cM cyI a v) sz) (va_Qv (fun (u : MV) => u = out) (fun u t => va_P (dC, dI) vwCl (cM cyI a u) t.heap ∧ va_D (va_A (cM cyI a v) sz) (cM cyI a u)) (va_A (cM cyI a v) sz)) 0 0 (va_A (cM cyI a v) sz) := by
  refine Met.ofW (cc := cX6_undo) (maxL := 2) (ret := none) (by decide) rfl ?_
  intro p e s m args below meth c s₁ B hml hv
  obtain ⟨rfl, hsz, hP, hK, hD0⟩ := hv
  have hx := B.exec
  have hb := B.bytes
  have hr := B.returns
  have hts0 := atoms_spec (ws := (Cond.code yX6_undo cX6_undo 2 none :: wT)) B.pre
  have hts := fun w h => hts0 w (List.mem_cons_of_mem _ h)
  clear hts0
  have hown : s.vm.findClass RX6 = some m.cls := findClass_of_methodNamed B.named
  have hlocks := B.notSynchronized
  subst hsz
  have hD := hD0.self (sz := s.heap.size)
  generalize hAe : va_A (cM cyI a v) s.heap.size = A at hD ⊢
  have hA : ∀ q : Nat, s.heap.size ≤ q → A q := fun q h => by rw [← hAe]; exact Or.inr h
  clear hD0
  have hS : va_S A s.heap s.heap [] := va_S.rf
  have hl := lv_entry [.ref (a 0)] (n := 2) (Nat.le_of_ble_eq_true rfl)
  rw [lg_entry_eq]
  generalize (lg_sl [.ref (a 0)] ++ List.replicate (2 - (lg_sl [.ref (a 0)]).length) Slot.unset).toArray = ls at hl ⊢
  have hl : lv_has ls 2 [(0, .ref (a 0))] := hl
  unfold f_X6_undo at hF
  refine lv_aload_n hx hb dX6_undo_0 rfl (lv_at hl 0 rfl) ?_
  refine lv_aload_n hx hb dX6_undo_1 rfl (lv_at hl 0 rfl) ?_
  refine va_get (D := (dC, dI)) (ci := 6) (v := .int (M_savedMany v)) (C := RX6) (T := TX6) (N := 23) hx hb hts inX6 hown hK.1 hP 0 rfl rfl 5 (by decide) (hts _ w_fieldLink_X6_39) (fun _ h9 => h9) rfl dX6_undo_2 ?_
  obtain ⟨j13, hj13, hF⟩ := jn_use hF
  have hJ13 : ∀ (s13 : Int32) (H : Heap) (locs : List Loc) (ls : Array Slot) (hz_13_s1 : b01 s13), va_P (dC, dI) vwCl (cM cyI a v) H → va_D A (cM cyI a v) → va_S A s.heap H locs → lv_has ls 2 [(0, .ref (a 0))] → j13 s13 = some out → W p l e (headSpec (Cond.code yX6_undo cX6_undo 2 none :: wT) ({ frames := 1, cells := 0, slots := 0, locals := 21 } : Room)).room s m ([.ref (a 0)] : List Value).toArray below meth c H locs 0 0 (MQ below (va_Qv (fun (u : MV) => u = out) (fun u t => va_P (dC, dI) vwCl (cM cyI a u) t.heap ∧ va_D A (cM cyI a u)) A) ([.ref (a 0)] : List Value).toArray s 0 0 A) (F0 m 13 ls [.int s13, .ref (a 0)]) := by
    intro s13 H locs ls hz_13_s1 hP hD hS hl hF
    have hF := (congrFun hj13 s13).symm.trans hF
    obtain ⟨o1, h2, hF⟩ := obd hF
    refine wcWVi (As := [.int s13]) (rest := []) (wr := []) (b := (a 0)) ⟨hx, hb, hml, hown, hts⟩ (met_X6_holds l dC dI cyI cyO cyL a _ N v s13 o1 h2) (cwV 1 hts (gV w_methodLink_X6_107 w_instanceMethod_X6_holds w_selects_X6_holds w_initialized_X6 w_code_X6_holds) rfl rfl rfl (by decide +kernel) ⟨Nat.le_of_ble_eq_true rfl, Nat.le_of_ble_eq_true rfl⟩) (va_recv hK.1 hP (ci := 6) (q0 := 0) rfl rfl) hP hD hK [0, 1, 2, 3, 4, 5, 6, 7] [] rfl rfl (by decide) (by decide) (by decide) rfl hl.1 (Nat.le_of_ble_eq_true rfl) dX6_undo_13 ⟨Nat.le_of_ble_eq_true rfl, Nat.le_of_ble_eq_true rfl⟩ hS hA (fun r u H locs hw hP hD hS => ?_)
    obtain ⟨hw, hz3⟩ := hw
    obtain rfl : r = o1.1 := congrArg Prod.fst hw
    obtain rfl : u = o1.2 := congrArg Prod.snd hw
    clear hw
    have hP : va_P (dC, dI) vwCl (cM cyI a o1.2) H := hP
    have hD : va_D A (cM cyI a o1.2) := hD
    obtain ⟨j63, hj63, hF⟩ := jn_use hF
    have hJ63 : ∀ (s63 : MV) (H : Heap) (locs : List Loc) (ls : Array Slot), va_P (dC, dI) vwCl (cM cyI a s63) H → va_D A (cM cyI a s63) → va_S A s.heap H locs → lv_has ls 2 [] → j63 s63 = some out → W p l e (headSpec (Cond.code yX6_undo cX6_undo 2 none :: wT) ({ frames := 1, cells := 0, slots := 0, locals := 21 } : Room)).room s m ([.ref (a 0)] : List Value).toArray below meth c H locs 0 0 (MQ below (va_Qv (fun (u : MV) => u = out) (fun u t => va_P (dC, dI) vwCl (cM cyI a u) t.heap ∧ va_D A (cM cyI a u)) A) ([.ref (a 0)] : List Value).toArray s 0 0 A) (F0 m 63 ls []) := by
      intro s63 H locs ls hP hD hS hl hF
      have hF := (congrFun hj63 s63).symm.trans hF
      exact W.vret hx hb hr (fun t ht hW => ⟨⟨_, rfl, Option.some.inj hF, by rw [ht]; exact hP, hD⟩, hS.F ht⟩) hS.2.2 dX6_undo_63
    refine lv_if_eq (tgt := 63) hx hb dX6_undo_16 (by decide) (fun c4 => ?_) (fun c4 => ?_)
    · have hF := itp c4 hF
      exact hJ63 o1.2 _ _ _ hP hD hS (lv_sub hl [] rfl) hF
    · have hF := itn c4 hF
      refine lv_aload_n hx hb dX6_undo_19 rfl (lv_at hl 0 rfl) ?_
      refine lv_dup hx hb dX6_undo_20 rfl ?_
      refine va_get (D := (dC, dI)) (ci := 6) (v := .int (M_savedMany o1.2)) (C := RX6) (T := TX6) (N := 23) hx hb hts inX6 hown hK.1 hP 0 rfl rfl 5 (by decide) (hts _ w_fieldLink_X6_39) (fun _ h9 => h9) rfl dX6_undo_21 ?_
      refine lv_iconst (v := 1) hx hb dX6_undo_24 (by decide) ?_
      refine lv_isub hx hb dX6_undo_25 ?_
      refine va_put (D := (dC, dI)) (ci := 6) (v := .int ((M_savedMany o1.2) - (1 : Int32))) (ty := .int) (C := RX6) (T := TX6) (N := 23) hx hb hts inX6 tyX6 tyX6_ok nmX6 hown hK.1 hP hD hS 0 rfl rfl 5 (by decide) (hts _ w_fieldLink_X6_39) (fun _ h9 => h9) rfl (by decide +kernel) rfl rfl (Nat.le_of_ble_eq_true rfl) dX6_undo_26 (fun H locs hP hD hS => ?_)
      have hP : va_P (dC, dI) vwCl (cM cyI a (M_set_savedMany o1.2 ((M_savedMany o1.2) - (1 : Int32)))) H := hP
      have hD : va_D A (cM cyI a (M_set_savedMany o1.2 ((M_savedMany o1.2) - (1 : Int32)))) := hD
      refine lv_iconst (v := 0) hx hb dX6_undo_29 (by decide) ?_
      refine lv_istore_n (lv' := [(1, .int (0 : Int32)), (0, .ref (a 0))]) hx hb dX6_undo_30 rfl hl (by decide) rfl (fun ls hl => ?_)
      obtain ⟨st31, hst31, hF⟩ := lpN_use hF
      have hL31 : ∀ (n : Nat) (s31 : Int32 × MV) (H : Heap) (locs : List Loc) (ls : Array Slot), va_P (dC, dI) vwCl (cM cyI a s31.2) H → va_D A (cM cyI a s31.2) → va_S A s.heap H locs → lv_has ls 2 [(0, .ref (a 0)), (1, .int s31.1)] → lpN st31 n s31 = some out → W p l e (headSpec (Cond.code yX6_undo cX6_undo 2 none :: wT) ({ frames := 1, cells := 0, slots := 0, locals := 21 } : Room)).room s m ([.ref (a 0)] : List Value).toArray below meth c H locs 0 0 (MQ below (va_Qv (fun (u : MV) => u = out) (fun u t => va_P (dC, dI) vwCl (cM cyI a u) t.heap ∧ va_D A (cM cyI a u)) A) ([.ref (a 0)] : List Value).toArray s 0 0 A) (F0 m 31 ls []) := by
        intro n
        induction n with
        | zero => intro s31 H locs ls hP hD hS hl hF; exact lpN_0 hF
        | succ n ih31 =>
          intro s31 H locs ls hP hD hS hl hF
          have hF := (congrFun (congrFun hst31 s31) (lpN st31 n)).symm.trans (lpN_s hF)
          refine lv_iload_n hx hb dX6_undo_31 rfl (lv_at hl 1 rfl) ?_
          refine lv_bipush (v := 103) hx hb dX6_undo_32 (by decide) ?_
          refine lv_icmp_ge (tgt := 63) hx hb dX6_undo_34 (by decide) (fun c5 => ?_) (fun c5 => ?_)
          · have hF := itp c5 hF
            exact hJ63 s31.2 _ _ _ hP hD hS (lv_sub hl [] rfl) hF
          · have hF := itn c5 hF
            refine lv_aload_n hx hb dX6_undo_37 rfl (lv_at hl 0 rfl) ?_
            refine va_get (D := (dC, dI)) (ci := 6) (v := .ref (a 1)) (C := RX6) (T := TX6) (N := 23) hx hb hts inX6 hown hK.1 hP 0 rfl rfl 1 (by decide) (hts _ w_fieldLink_X6_7) (fun _ h9 => h9) rfl dX6_undo_38 ?_
            refine lv_iload_n hx hb dX6_undo_41 rfl (lv_at hl 1 rfl) ?_
            refine lv_aload_n hx hb dX6_undo_42 rfl (lv_at hl 0 rfl) ?_
            refine va_get (D := (dC, dI)) (ci := 6) (v := .ref (a 4)) (C := RX6) (T := TX6) (N := 23) hx hb hts inX6 hown hK.1 hP 0 rfl rfl 4 (by decide) (hts _ w_fieldLink_X6_19) (fun _ h9 => h9) rfl dX6_undo_43 ?_
            refine lv_bipush (v := 103) hx hb dX6_undo_46 (by decide) ?_
            refine lv_aload_n hx hb dX6_undo_48 rfl (lv_at hl 0 rfl) ?_
            refine va_get (D := (dC, dI)) (ci := 6) (v := .int (M_savedMany s31.2)) (C := RX6) (T := TX6) (N := 23) hx hb hts inX6 hown hK.1 hP 0 rfl rfl 5 (by decide) (hts _ w_fieldLink_X6_39) (fun _ h9 => h9) rfl dX6_undo_49 ?_
            refine lv_imul hx hb dX6_undo_52 ?_
            refine lv_iload_n hx hb dX6_undo_53 rfl (lv_at hl 1 rfl) ?_
            refine lv_iadd hx hb dX6_undo_54 ?_
            obtain ⟨hg6, hF⟩ := gd_use hF
            refine va_iald hx hb hK.1 hP 4 0 rfl rfl (i := (((103 : Int32) * (M_savedMany s31.2)) + s31.1)) hg6 dX6_undo_55 ?_
            obtain ⟨hg7, hF⟩ := gd_use hF
            refine va_iast hx hb hK.1 hP hD hS 1 0 rfl rfl (i := s31.1) (x := ((M_saved s31.2) (((103 : Int32) * (M_savedMany s31.2)) + s31.1).toNatClampNeg)) hg7 dX6_undo_56 (fun H locs hP hD hS => ?_)
            have hP : va_P (dC, dI) vwCl (cM cyI a (M_set_s s31.2 (upd (M_s s31.2) s31.1.toNatClampNeg ((M_saved s31.2) (((103 : Int32) * (M_savedMany s31.2)) + s31.1).toNatClampNeg)))) H := hP
            have hD : va_D A (cM cyI a (M_set_s s31.2 (upd (M_s s31.2) s31.1.toNatClampNeg ((M_saved s31.2) (((103 : Int32) * (M_savedMany s31.2)) + s31.1).toNatClampNeg)))) := hD
            refine lv_iinc (v := (s31.1 + (1 : Int32))) (lv' := [(1, .int (s31.1 + (1 : Int32))), (0, .ref (a 0))]) hx hb dX6_undo_57 hl (k := 1) rfl rfl (by decide) rfl (fun ls hl => ?_)
            refine lv_goto (tgt := 31) hx hb dX6_undo_60 (by decide) ?_
            exact ih31 ((s31.1 + (1 : Int32)), (M_set_s s31.2 (upd (M_s s31.2) s31.1.toNatClampNeg ((M_saved s31.2) (((103 : Int32) * (M_savedMany s31.2)) + s31.1).toNatClampNeg)))) _ _ _ hP hD hS (lv_sub hl [1, 0] rfl) hF
      exact hL31 N ((0 : Int32), (M_set_savedMany o1.2 ((M_savedMany o1.2) - (1 : Int32)))) _ _ _ hP hD hS (lv_sub hl [1, 0] rfl) hF
  refine lv_if_le (tgt := 12) hx hb dX6_undo_5 (by decide) (fun c8 => ?_) (fun c8 => ?_)
  · have hF := itp c8 hF
    refine lv_iconst (v := 1) hx hb dX6_undo_12 (by decide) ?_
    exact hJ13 (1 : Int32) _ _ _ b01_1 hP hD hS (lv_sub hl [0] rfl) hF
  · have hF := itn c8 hF
    refine lv_iconst (v := 0) hx hb dX6_undo_8 (by decide) ?_
    refine lv_goto (tgt := 13) hx hb dX6_undo_9 (by decide) ?_
    exact hJ13 (0 : Int32) _ _ _ b01_0 hP hD hS (lv_sub hl [0] rfl) hF
theorem dX6_savedStates_0 : decode cX6_savedStates 0 = .ok (.aload_n 0, 1) := by decide +kernel
theorem dX6_savedStates_1 : decode cX6_savedStates 1 = .ok (.iconst 0, 1) := by decide +kernel
theorem dX6_savedStates_2 : decode cX6_savedStates 2 = .ok (.putfield 31, 3) := by decide +kernel
theorem dX6_savedStates_5 : decode cX6_savedStates 5 = .ok (.aload_n 0, 1) := by decide +kernel
theorem dX6_savedStates_6 : decode cX6_savedStates 6 = .ok (.getfield 39, 3) := by decide +kernel
theorem dX6_savedStates_9 : decode cX6_savedStates 9 = .ok (.ireturn, 1) := by decide +kernel
def f_X6_savedStates (N : Nat) (v : MV) : Option (Int32 × MV) :=
  some ((M_savedMany v), (M_set_thrown v (0 : Int32)))
set_option maxHeartbeats 4000000 in
set_option maxRecDepth 100000 in
theorem met_X6_savedStates (l : Launch) (dC : Nat → ClassId) (dI : Nat → Nat → Nat) (cyI cyO cyL : ClassId) (a : Nat → Nat) (sz : Nat) (N : Nat) (v : MV) (out : Int32 × MV) (hF : f_X6_savedStates N v = some out) : Met l yX6_savedStates (Cond.code yX6_savedStates cX6_savedStates 1 (some .int) :: wT) ({ frames := 0, cells := 0, slots := 0, locals := 0 } : Room) (wWr dC dI cyI cyO cyL [.ref (a 0)] (cM cyI a v) sz) (va_Qi (fun (r : Int32) (u : MV) => (r, u) = out) (fun u t => va_P (dC, dI) vwCl (cM cyI a u) t.heap ∧ va_D (va_A (cM cyI a v) sz) (cM cyI a u)) (va_A (cM cyI a v) sz)) 0 0 (va_A (cM cyI a v) sz) := by
  refine Met.ofW (cc := cX6_savedStates) (maxL := 1) (ret := (some .int)) (by decide) rfl ?_
  intro p e s m args below meth c s₁ B hml hv
  obtain ⟨rfl, hsz, hP, hK, hD0⟩ := hv
  have hx := B.exec
  have hb := B.bytes
  have hr := B.returns
  have hts0 := atoms_spec (ws := (Cond.code yX6_savedStates cX6_savedStates 1 (some .int) :: wT)) B.pre
  have hts := fun w h => hts0 w (List.mem_cons_of_mem _ h)
  clear hts0
  have hown : s.vm.findClass RX6 = some m.cls := findClass_of_methodNamed B.named
  have hlocks := B.notSynchronized
  subst hsz
  have hD := hD0.self (sz := s.heap.size)
  generalize hAe : va_A (cM cyI a v) s.heap.size = A at hD ⊢
  have hA : ∀ q : Nat, s.heap.size ≤ q → A q := fun q h => by rw [← hAe]; exact Or.inr h
  clear hD0
  have hS : va_S A s.heap s.heap [] := va_S.rf
  have hl := lv_entry [.ref (a 0)] (n := 1) (Nat.le_of_ble_eq_true rfl)
  rw [lg_entry_eq]
  generalize (lg_sl [.ref (a 0)] ++ List.replicate (1 - (lg_sl [.ref (a 0)]).length) Slot.unset).toArray = ls at hl ⊢
  have hl : lv_has ls 1 [(0, .ref (a 0))] := hl
  unfold f_X6_savedStates at hF
  refine lv_aload_n hx hb dX6_savedStates_0 rfl (lv_at hl 0 rfl) ?_
  refine lv_iconst (v := 0) hx hb dX6_savedStates_1 (by decide) ?_
  refine va_put (D := (dC, dI)) (ci := 6) (v := .int (0 : Int32)) (ty := .int) (C := RX6) (T := TX6) (N := 23) hx hb hts inX6 tyX6 tyX6_ok nmX6 hown hK.1 hP hD hS 0 rfl rfl 0 (by decide) (hts _ w_fieldLink_X6_31) (fun _ h9 => h9) rfl (by decide +kernel) rfl rfl (Nat.le_of_ble_eq_true rfl) dX6_savedStates_2 (fun H locs hP hD hS => ?_)
  have hP : va_P (dC, dI) vwCl (cM cyI a (M_set_thrown v (0 : Int32))) H := hP
  have hD : va_D A (cM cyI a (M_set_thrown v (0 : Int32))) := hD
  refine lv_aload_n hx hb dX6_savedStates_5 rfl (lv_at hl 0 rfl) ?_
  refine va_get (D := (dC, dI)) (ci := 6) (v := .int (M_savedMany v)) (C := RX6) (T := TX6) (N := 23) hx hb hts inX6 hown hK.1 hP 0 rfl rfl 5 (by decide) (hts _ w_fieldLink_X6_39) (fun _ h9 => h9) rfl dX6_savedStates_6 ?_
  exact W.iret (v := (M_savedMany v)) hx hb hr (fun t ht hW => ⟨⟨_, (M_set_thrown v (0 : Int32)), rfl, Option.some.inj hF, by rw [ht]; exact hP, hD⟩, hS.F ht⟩) hS.2.2 dX6_savedStates_9
theorem dX6_isJackThere_0 : decode cX6_isJackThere 0 = .ok (.aload_n 0, 1) := by decide +kernel
theorem dX6_isJackThere_1 : decode cX6_isJackThere 1 = .ok (.iconst 0, 1) := by decide +kernel
theorem dX6_isJackThere_2 : decode cX6_isJackThere 2 = .ok (.putfield 31, 3) := by decide +kernel
theorem dX6_isJackThere_5 : decode cX6_isJackThere 5 = .ok (.aload_n 0, 1) := by decide +kernel
theorem dX6_isJackThere_6 : decode cX6_isJackThere 6 = .ok (.getfield 7, 3) := by decide +kernel
theorem dX6_isJackThere_9 : decode cX6_isJackThere 9 = .ok (.iconst 0, 1) := by decide +kernel
theorem dX6_isJackThere_10 : decode cX6_isJackThere 10 = .ok (.iaload, 1) := by decide +kernel
theorem dX6_isJackThere_11 : decode cX6_isJackThere 11 = .ok (.iconst 1, 1) := by decide +kernel
theorem dX6_isJackThere_12 : decode cX6_isJackThere 12 = .ok (.if_icmp .ne 7, 3) := by decide +kernel
theorem dX6_isJackThere_15 : decode cX6_isJackThere 15 = .ok (.iconst 1, 1) := by decide +kernel
theorem dX6_isJackThere_16 : decode cX6_isJackThere 16 = .ok (.goto 4, 3) := by decide +kernel
theorem dX6_isJackThere_19 : decode cX6_isJackThere 19 = .ok (.iconst 0, 1) := by decide +kernel
theorem dX6_isJackThere_20 : decode cX6_isJackThere 20 = .ok (.ireturn, 1) := by decide +kernel
def f_X6_isJackThere (N : Nat) (v : MV) : Option (Int32 × MV) :=
  jn (fun (s20 : Int32) => some (s20, (M_set_thrown v (0 : Int32)))) (fun (j20 : (Int32) → Option (Int32 × MV)) => (if ((M_s v) (0 : Int32).toNatClampNeg) = (1 : Int32) then j20 (1 : Int32) else j20 (0 : Int32)))
set_option maxHeartbeats 4000000 in
set_option maxRecDepth 100000 in
theorem met_X6_isJackThere (l : Launch) (dC : Nat → ClassId) (dI : Nat → Nat → Nat) (cyI cyO cyL : ClassId) (a : Nat → Nat) (sz : Nat) (N : Nat) (v : MV) (out : Int32 × MV) (hF : f_X6_isJackThere N v = some out) : Met l yX6_isJackThere (Cond.code yX6_isJackThere cX6_isJackThere 1 (some .boolean) :: wT) ({ frames := 0, cells := 0, slots := 0, locals := 0 } : Room) (wWr dC dI cyI cyO cyL [.ref (a 0)] (cM cyI a v) sz) (va_Qi (fun (r : Int32) (u : MV) => (r, u) = out ∧ b01 r) (fun u t => va_P (dC, dI) vwCl (cM cyI a u) t.heap ∧ va_D (va_A (cM cyI a v) sz) (cM cyI a u)) (va_A (cM cyI a v) sz)) 0 0 (va_A (cM cyI a v) sz) := by
  refine Met.ofW (cc := cX6_isJackThere) (maxL := 1) (ret := (some .boolean)) (by decide) rfl ?_
  intro p e s m args below meth c s₁ B hml hv
  obtain ⟨rfl, hsz, hP, hK, hD0⟩ := hv
  have hx := B.exec
  have hb := B.bytes
  have hr := B.returns
  have hts0 := atoms_spec (ws := (Cond.code yX6_isJackThere cX6_isJackThere 1 (some .boolean) :: wT)) B.pre
  have hts := fun w h => hts0 w (List.mem_cons_of_mem _ h)
  clear hts0
  have hown : s.vm.findClass RX6 = some m.cls := findClass_of_methodNamed B.named
  have hlocks := B.notSynchronized
  subst hsz
  have hD := hD0.self (sz := s.heap.size)
  generalize hAe : va_A (cM cyI a v) s.heap.size = A at hD ⊢
  have hA : ∀ q : Nat, s.heap.size ≤ q → A q := fun q h => by rw [← hAe]; exact Or.inr h
  clear hD0
  have hS : va_S A s.heap s.heap [] := va_S.rf
  have hl := lv_entry [.ref (a 0)] (n := 1) (Nat.le_of_ble_eq_true rfl)
  rw [lg_entry_eq]
  generalize (lg_sl [.ref (a 0)] ++ List.replicate (1 - (lg_sl [.ref (a 0)]).length) Slot.unset).toArray = ls at hl ⊢
  have hl : lv_has ls 1 [(0, .ref (a 0))] := hl
  unfold f_X6_isJackThere at hF
  refine lv_aload_n hx hb dX6_isJackThere_0 rfl (lv_at hl 0 rfl) ?_
  refine lv_iconst (v := 0) hx hb dX6_isJackThere_1 (by decide) ?_
  refine va_put (D := (dC, dI)) (ci := 6) (v := .int (0 : Int32)) (ty := .int) (C := RX6) (T := TX6) (N := 23) hx hb hts inX6 tyX6 tyX6_ok nmX6 hown hK.1 hP hD hS 0 rfl rfl 0 (by decide) (hts _ w_fieldLink_X6_31) (fun _ h9 => h9) rfl (by decide +kernel) rfl rfl (Nat.le_of_ble_eq_true rfl) dX6_isJackThere_2 (fun H locs hP hD hS => ?_)
  have hP : va_P (dC, dI) vwCl (cM cyI a (M_set_thrown v (0 : Int32))) H := hP
  have hD : va_D A (cM cyI a (M_set_thrown v (0 : Int32))) := hD
  refine lv_aload_n hx hb dX6_isJackThere_5 rfl (lv_at hl 0 rfl) ?_
  refine va_get (D := (dC, dI)) (ci := 6) (v := .ref (a 1)) (C := RX6) (T := TX6) (N := 23) hx hb hts inX6 hown hK.1 hP 0 rfl rfl 1 (by decide) (hts _ w_fieldLink_X6_7) (fun _ h9 => h9) rfl dX6_isJackThere_6 ?_
  refine lv_iconst (v := 0) hx hb dX6_isJackThere_9 (by decide) ?_
  refine va_iald hx hb hK.1 hP 1 0 rfl rfl (i := (0 : Int32)) (show ixok (0 : Int32) 103 by decide) dX6_isJackThere_10 ?_
  refine lv_iconst (v := 1) hx hb dX6_isJackThere_11 (by decide) ?_
  obtain ⟨j20, hj20, hF⟩ := jn_use hF
  have hJ20 : ∀ (s20 : Int32) (H : Heap) (locs : List Loc) (ls : Array Slot) (hz_20_s0 : b01 s20), va_P (dC, dI) vwCl (cM cyI a (M_set_thrown v (0 : Int32))) H → va_D A (cM cyI a (M_set_thrown v (0 : Int32))) → va_S A s.heap H locs → lv_has ls 1 [] → j20 s20 = some out → W p l e (headSpec (Cond.code yX6_isJackThere cX6_isJackThere 1 (some .boolean) :: wT) ({ frames := 0, cells := 0, slots := 0, locals := 0 } : Room)).room s m ([.ref (a 0)] : List Value).toArray below meth c H locs 0 0 (MQ below (va_Qi (fun (r : Int32) (u : MV) => (r, u) = out ∧ b01 r) (fun u t => va_P (dC, dI) vwCl (cM cyI a u) t.heap ∧ va_D A (cM cyI a u)) A) ([.ref (a 0)] : List Value).toArray s 0 0 A) (F0 m 20 ls [.int s20]) := by
    intro s20 H locs ls hz_20_s0 hP hD hS hl hF
    have hF := (congrFun hj20 s20).symm.trans hF
    exact W.zret (ty := .boolean) (v := s20) hx hb hr (b01_n hz_20_s0) (fun t ht hW => ⟨⟨_, (M_set_thrown v (0 : Int32)), rfl, ⟨Option.some.inj hF, hz_20_s0⟩, by rw [ht]; exact hP, hD⟩, hS.F ht⟩) hS.2.2 dX6_isJackThere_20
  refine lv_icmp_ne (tgt := 19) hx hb dX6_isJackThere_12 (by decide) (fun c2 => ?_) (fun c2 => ?_)
  · have hF := itn c2 hF
    refine lv_iconst (v := 0) hx hb dX6_isJackThere_19 (by decide) ?_
    exact hJ20 (0 : Int32) _ _ _ b01_0 hP hD hS (lv_sub hl [] rfl) hF
  · have hF := itp c2 hF
    refine lv_iconst (v := 1) hx hb dX6_isJackThere_15 (by decide) ?_
    refine lv_goto (tgt := 20) hx hb dX6_isJackThere_16 (by decide) ?_
    exact hJ20 (1 : Int32) _ _ _ b01_1 hP hD hS (lv_sub hl [] rfl) hF
theorem dX6_jackRow_0 : decode cX6_jackRow 0 = .ok (.aload_n 0, 1) := by decide +kernel
theorem dX6_jackRow_1 : decode cX6_jackRow 1 = .ok (.aload_n 0, 1) := by decide +kernel
theorem dX6_jackRow_2 : decode cX6_jackRow 2 = .ok (.getfield 7, 3) := by decide +kernel
theorem dX6_jackRow_5 : decode cX6_jackRow 5 = .ok (.iconst 0, 1) := by decide +kernel
theorem dX6_jackRow_6 : decode cX6_jackRow 6 = .ok (.iaload, 1) := by decide +kernel
theorem dX6_jackRow_7 : decode cX6_jackRow 7 = .ok (.iconst 1, 1) := by decide +kernel
theorem dX6_jackRow_8 : decode cX6_jackRow 8 = .ok (.if_icmp .ne 7, 3) := by decide +kernel
theorem dX6_jackRow_11 : decode cX6_jackRow 11 = .ok (.iconst 0, 1) := by decide +kernel
theorem dX6_jackRow_12 : decode cX6_jackRow 12 = .ok (.goto 4, 3) := by decide +kernel
theorem dX6_jackRow_15 : decode cX6_jackRow 15 = .ok (.iconst 1, 1) := by decide +kernel
theorem dX6_jackRow_16 : decode cX6_jackRow 16 = .ok (.invokevirtual 107, 3) := by decide +kernel
theorem dX6_jackRow_19 : decode cX6_jackRow 19 = .ok (.ifCond .eq 12, 3) := by decide +kernel
theorem dX6_jackRow_22 : decode cX6_jackRow 22 = .ok (.aload_n 0, 1) := by decide +kernel
theorem dX6_jackRow_23 : decode cX6_jackRow 23 = .ok (.getfield 7, 3) := by decide +kernel
theorem dX6_jackRow_26 : decode cX6_jackRow 26 = .ok (.iconst 1, 1) := by decide +kernel
theorem dX6_jackRow_27 : decode cX6_jackRow 27 = .ok (.iaload, 1) := by decide +kernel
theorem dX6_jackRow_28 : decode cX6_jackRow 28 = .ok (.goto 4, 3) := by decide +kernel
theorem dX6_jackRow_31 : decode cX6_jackRow 31 = .ok (.iconst 0, 1) := by decide +kernel
theorem dX6_jackRow_32 : decode cX6_jackRow 32 = .ok (.ireturn, 1) := by decide +kernel
def f_X6_jackRow (N : Nat) (v : MV) : Option (Int32 × MV) :=
  jn (fun (s16 : Int32) => (f_X6_holds N v s16).bind (fun o2 => jn (fun (s32 : Int32) => some (s32, o2.2)) (fun (j32 : (Int32) → Option (Int32 × MV)) => (if o2.1 = 0 then j32 (0 : Int32) else j32 ((M_s o2.2) (1 : Int32).toNatClampNeg))))) (fun (j16 : (Int32) → Option (Int32 × MV)) => (if ((M_s v) (0 : Int32).toNatClampNeg) = (1 : Int32) then j16 (0 : Int32) else j16 (1 : Int32)))
set_option maxHeartbeats 4000000 in
set_option maxRecDepth 100000 in
theorem met_X6_jackRow (l : Launch) (dC : Nat → ClassId) (dI : Nat → Nat → Nat) (cyI cyO cyL : ClassId) (a : Nat → Nat) (sz : Nat) (N : Nat) (v : MV) (out : Int32 × MV) (hF : f_X6_jackRow N v = some out) : Met l yX6_jackRow (Cond.code yX6_jackRow cX6_jackRow 1 (some .int) :: wT) ({ frames := 1, cells := 0, slots := 0, locals := 21 } : Room) (wWr dC dI cyI cyO cyL [.ref (a 0)] (cM cyI a v) sz) (va_Qi (fun (r : Int32) (u : MV) => (r, u) = out) (fun u t => va_P (dC, dI) vwCl (cM cyI a u) t.heap ∧ va_D (va_A (cM cyI a v) sz) (cM cyI a u)) (va_A (cM cyI a v) sz)) 0 0 (va_A (cM cyI a v) sz) := by
  refine Met.ofW (cc := cX6_jackRow) (maxL := 1) (ret := (some .int)) (by decide) rfl ?_
  intro p e s m args below meth c s₁ B hml hv
  obtain ⟨rfl, hsz, hP, hK, hD0⟩ := hv
  have hx := B.exec
  have hb := B.bytes
  have hr := B.returns
  have hts0 := atoms_spec (ws := (Cond.code yX6_jackRow cX6_jackRow 1 (some .int) :: wT)) B.pre
  have hts := fun w h => hts0 w (List.mem_cons_of_mem _ h)
  clear hts0
  have hown : s.vm.findClass RX6 = some m.cls := findClass_of_methodNamed B.named
  have hlocks := B.notSynchronized
  subst hsz
  have hD := hD0.self (sz := s.heap.size)
  generalize hAe : va_A (cM cyI a v) s.heap.size = A at hD ⊢
  have hA : ∀ q : Nat, s.heap.size ≤ q → A q := fun q h => by rw [← hAe]; exact Or.inr h
  clear hD0
  have hS : va_S A s.heap s.heap [] := va_S.rf
  have hl := lv_entry [.ref (a 0)] (n := 1) (Nat.le_of_ble_eq_true rfl)
  rw [lg_entry_eq]
  generalize (lg_sl [.ref (a 0)] ++ List.replicate (1 - (lg_sl [.ref (a 0)]).length) Slot.unset).toArray = ls at hl ⊢
  have hl : lv_has ls 1 [(0, .ref (a 0))] := hl
  unfold f_X6_jackRow at hF
  refine lv_aload_n hx hb dX6_jackRow_0 rfl (lv_at hl 0 rfl) ?_
  refine lv_aload_n hx hb dX6_jackRow_1 rfl (lv_at hl 0 rfl) ?_
  refine va_get (D := (dC, dI)) (ci := 6) (v := .ref (a 1)) (C := RX6) (T := TX6) (N := 23) hx hb hts inX6 hown hK.1 hP 0 rfl rfl 1 (by decide) (hts _ w_fieldLink_X6_7) (fun _ h9 => h9) rfl dX6_jackRow_2 ?_
  refine lv_iconst (v := 0) hx hb dX6_jackRow_5 (by decide) ?_
  refine va_iald hx hb hK.1 hP 1 0 rfl rfl (i := (0 : Int32)) (show ixok (0 : Int32) 103 by decide) dX6_jackRow_6 ?_
  refine lv_iconst (v := 1) hx hb dX6_jackRow_7 (by decide) ?_
  obtain ⟨j16, hj16, hF⟩ := jn_use hF
  have hJ16 : ∀ (s16 : Int32) (H : Heap) (locs : List Loc) (ls : Array Slot) (hz_16_s1 : b01 s16), va_P (dC, dI) vwCl (cM cyI a v) H → va_D A (cM cyI a v) → va_S A s.heap H locs → lv_has ls 1 [(0, .ref (a 0))] → j16 s16 = some out → W p l e (headSpec (Cond.code yX6_jackRow cX6_jackRow 1 (some .int) :: wT) ({ frames := 1, cells := 0, slots := 0, locals := 21 } : Room)).room s m ([.ref (a 0)] : List Value).toArray below meth c H locs 0 0 (MQ below (va_Qi (fun (r : Int32) (u : MV) => (r, u) = out) (fun u t => va_P (dC, dI) vwCl (cM cyI a u) t.heap ∧ va_D A (cM cyI a u)) A) ([.ref (a 0)] : List Value).toArray s 0 0 A) (F0 m 16 ls [.int s16, .ref (a 0)]) := by
    intro s16 H locs ls hz_16_s1 hP hD hS hl hF
    have hF := (congrFun hj16 s16).symm.trans hF
    obtain ⟨o2, h3, hF⟩ := obd hF
    refine wcWVi (As := [.int s16]) (rest := []) (wr := []) (b := (a 0)) ⟨hx, hb, hml, hown, hts⟩ (met_X6_holds l dC dI cyI cyO cyL a _ N v s16 o2 h3) (cwV 1 hts (gV w_methodLink_X6_107 w_instanceMethod_X6_holds w_selects_X6_holds w_initialized_X6 w_code_X6_holds) rfl rfl rfl (by decide +kernel) ⟨Nat.le_of_ble_eq_true rfl, Nat.le_of_ble_eq_true rfl⟩) (va_recv hK.1 hP (ci := 6) (q0 := 0) rfl rfl) hP hD hK [0, 1, 2, 3, 4, 5, 6, 7] [] rfl rfl (by decide) (by decide) (by decide) rfl hl.1 (Nat.le_of_ble_eq_true rfl) dX6_jackRow_16 ⟨Nat.le_of_ble_eq_true rfl, Nat.le_of_ble_eq_true rfl⟩ hS hA (fun r u H locs hw hP hD hS => ?_)
    obtain ⟨hw, hz4⟩ := hw
    obtain rfl : r = o2.1 := congrArg Prod.fst hw
    obtain rfl : u = o2.2 := congrArg Prod.snd hw
    clear hw
    have hP : va_P (dC, dI) vwCl (cM cyI a o2.2) H := hP
    have hD : va_D A (cM cyI a o2.2) := hD
    obtain ⟨j32, hj32, hF⟩ := jn_use hF
    have hJ32 : ∀ (s32 : Int32) (H : Heap) (locs : List Loc) (ls : Array Slot), va_P (dC, dI) vwCl (cM cyI a o2.2) H → va_D A (cM cyI a o2.2) → va_S A s.heap H locs → lv_has ls 1 [] → j32 s32 = some out → W p l e (headSpec (Cond.code yX6_jackRow cX6_jackRow 1 (some .int) :: wT) ({ frames := 1, cells := 0, slots := 0, locals := 21 } : Room)).room s m ([.ref (a 0)] : List Value).toArray below meth c H locs 0 0 (MQ below (va_Qi (fun (r : Int32) (u : MV) => (r, u) = out) (fun u t => va_P (dC, dI) vwCl (cM cyI a u) t.heap ∧ va_D A (cM cyI a u)) A) ([.ref (a 0)] : List Value).toArray s 0 0 A) (F0 m 32 ls [.int s32]) := by
      intro s32 H locs ls hP hD hS hl hF
      have hF := (congrFun hj32 s32).symm.trans hF
      exact W.iret (v := s32) hx hb hr (fun t ht hW => ⟨⟨_, o2.2, rfl, Option.some.inj hF, by rw [ht]; exact hP, hD⟩, hS.F ht⟩) hS.2.2 dX6_jackRow_32
    refine lv_if_eq (tgt := 31) hx hb dX6_jackRow_19 (by decide) (fun c5 => ?_) (fun c5 => ?_)
    · have hF := itp c5 hF
      refine lv_iconst (v := 0) hx hb dX6_jackRow_31 (by decide) ?_
      exact hJ32 (0 : Int32) _ _ _ hP hD hS (lv_sub hl [] rfl) hF
    · have hF := itn c5 hF
      refine lv_aload_n hx hb dX6_jackRow_22 rfl (lv_at hl 0 rfl) ?_
      refine va_get (D := (dC, dI)) (ci := 6) (v := .ref (a 1)) (C := RX6) (T := TX6) (N := 23) hx hb hts inX6 hown hK.1 hP 0 rfl rfl 1 (by decide) (hts _ w_fieldLink_X6_7) (fun _ h9 => h9) rfl dX6_jackRow_23 ?_
      refine lv_iconst (v := 1) hx hb dX6_jackRow_26 (by decide) ?_
      refine va_iald hx hb hK.1 hP 1 0 rfl rfl (i := (1 : Int32)) (show ixok (1 : Int32) 103 by decide) dX6_jackRow_27 ?_
      refine lv_goto (tgt := 32) hx hb dX6_jackRow_28 (by decide) ?_
      exact hJ32 ((M_s o2.2) (1 : Int32).toNatClampNeg) _ _ _ hP hD hS (lv_sub hl [] rfl) hF
  refine lv_icmp_ne (tgt := 15) hx hb dX6_jackRow_8 (by decide) (fun c7 => ?_) (fun c7 => ?_)
  · have hF := itn c7 hF
    refine lv_iconst (v := 1) hx hb dX6_jackRow_15 (by decide) ?_
    exact hJ16 (1 : Int32) _ _ _ b01_1 hP hD hS (lv_sub hl [0] rfl) hF
  · have hF := itp c7 hF
    refine lv_iconst (v := 0) hx hb dX6_jackRow_11 (by decide) ?_
    refine lv_goto (tgt := 16) hx hb dX6_jackRow_12 (by decide) ?_
    exact hJ16 (0 : Int32) _ _ _ b01_0 hP hD hS (lv_sub hl [0] rfl) hF
theorem dX6_jackColumn_0 : decode cX6_jackColumn 0 = .ok (.aload_n 0, 1) := by decide +kernel
theorem dX6_jackColumn_1 : decode cX6_jackColumn 1 = .ok (.aload_n 0, 1) := by decide +kernel
theorem dX6_jackColumn_2 : decode cX6_jackColumn 2 = .ok (.getfield 7, 3) := by decide +kernel
theorem dX6_jackColumn_5 : decode cX6_jackColumn 5 = .ok (.iconst 0, 1) := by decide +kernel
theorem dX6_jackColumn_6 : decode cX6_jackColumn 6 = .ok (.iaload, 1) := by decide +kernel
theorem dX6_jackColumn_7 : decode cX6_jackColumn 7 = .ok (.iconst 1, 1) := by decide +kernel
theorem dX6_jackColumn_8 : decode cX6_jackColumn 8 = .ok (.if_icmp .ne 7, 3) := by decide +kernel
theorem dX6_jackColumn_11 : decode cX6_jackColumn 11 = .ok (.iconst 0, 1) := by decide +kernel
theorem dX6_jackColumn_12 : decode cX6_jackColumn 12 = .ok (.goto 4, 3) := by decide +kernel
theorem dX6_jackColumn_15 : decode cX6_jackColumn 15 = .ok (.iconst 1, 1) := by decide +kernel
theorem dX6_jackColumn_16 : decode cX6_jackColumn 16 = .ok (.invokevirtual 107, 3) := by decide +kernel
theorem dX6_jackColumn_19 : decode cX6_jackColumn 19 = .ok (.ifCond .eq 12, 3) := by decide +kernel
theorem dX6_jackColumn_22 : decode cX6_jackColumn 22 = .ok (.aload_n 0, 1) := by decide +kernel
theorem dX6_jackColumn_23 : decode cX6_jackColumn 23 = .ok (.getfield 7, 3) := by decide +kernel
theorem dX6_jackColumn_26 : decode cX6_jackColumn 26 = .ok (.iconst 2, 1) := by decide +kernel
theorem dX6_jackColumn_27 : decode cX6_jackColumn 27 = .ok (.iaload, 1) := by decide +kernel
theorem dX6_jackColumn_28 : decode cX6_jackColumn 28 = .ok (.goto 4, 3) := by decide +kernel
theorem dX6_jackColumn_31 : decode cX6_jackColumn 31 = .ok (.iconst 0, 1) := by decide +kernel
theorem dX6_jackColumn_32 : decode cX6_jackColumn 32 = .ok (.ireturn, 1) := by decide +kernel
def f_X6_jackColumn (N : Nat) (v : MV) : Option (Int32 × MV) :=
  jn (fun (s16 : Int32) => (f_X6_holds N v s16).bind (fun o2 => jn (fun (s32 : Int32) => some (s32, o2.2)) (fun (j32 : (Int32) → Option (Int32 × MV)) => (if o2.1 = 0 then j32 (0 : Int32) else j32 ((M_s o2.2) (2 : Int32).toNatClampNeg))))) (fun (j16 : (Int32) → Option (Int32 × MV)) => (if ((M_s v) (0 : Int32).toNatClampNeg) = (1 : Int32) then j16 (0 : Int32) else j16 (1 : Int32)))
set_option maxHeartbeats 4000000 in
set_option maxRecDepth 100000 in
theorem met_X6_jackColumn (l : Launch) (dC : Nat → ClassId) (dI : Nat → Nat → Nat) (cyI cyO cyL : ClassId) (a : Nat → Nat) (sz : Nat) (N : Nat) (v : MV) (out : Int32 × MV) (hF : f_X6_jackColumn N v = some out) : Met l yX6_jackColumn (Cond.code yX6_jackColumn cX6_jackColumn 1 (some .int) :: wT) ({ frames := 1, cells := 0, slots := 0, locals := 21 } : Room) (wWr dC dI cyI cyO cyL [.ref (a 0)] (cM cyI a v) sz) (va_Qi (fun (r : Int32) (u : MV) => (r, u) = out) (fun u t => va_P (dC, dI) vwCl (cM cyI a u) t.heap ∧ va_D (va_A (cM cyI a v) sz) (cM cyI a u)) (va_A (cM cyI a v) sz)) 0 0 (va_A (cM cyI a v) sz) := by
  refine Met.ofW (cc := cX6_jackColumn) (maxL := 1) (ret := (some .int)) (by decide) rfl ?_
  intro p e s m args below meth c s₁ B hml hv
  obtain ⟨rfl, hsz, hP, hK, hD0⟩ := hv
  have hx := B.exec
  have hb := B.bytes
  have hr := B.returns
  have hts0 := atoms_spec (ws := (Cond.code yX6_jackColumn cX6_jackColumn 1 (some .int) :: wT)) B.pre
  have hts := fun w h => hts0 w (List.mem_cons_of_mem _ h)
  clear hts0
  have hown : s.vm.findClass RX6 = some m.cls := findClass_of_methodNamed B.named
  have hlocks := B.notSynchronized
  subst hsz
  have hD := hD0.self (sz := s.heap.size)
  generalize hAe : va_A (cM cyI a v) s.heap.size = A at hD ⊢
  have hA : ∀ q : Nat, s.heap.size ≤ q → A q := fun q h => by rw [← hAe]; exact Or.inr h
  clear hD0
  have hS : va_S A s.heap s.heap [] := va_S.rf
  have hl := lv_entry [.ref (a 0)] (n := 1) (Nat.le_of_ble_eq_true rfl)
  rw [lg_entry_eq]
  generalize (lg_sl [.ref (a 0)] ++ List.replicate (1 - (lg_sl [.ref (a 0)]).length) Slot.unset).toArray = ls at hl ⊢
  have hl : lv_has ls 1 [(0, .ref (a 0))] := hl
  unfold f_X6_jackColumn at hF
  refine lv_aload_n hx hb dX6_jackColumn_0 rfl (lv_at hl 0 rfl) ?_
  refine lv_aload_n hx hb dX6_jackColumn_1 rfl (lv_at hl 0 rfl) ?_
  refine va_get (D := (dC, dI)) (ci := 6) (v := .ref (a 1)) (C := RX6) (T := TX6) (N := 23) hx hb hts inX6 hown hK.1 hP 0 rfl rfl 1 (by decide) (hts _ w_fieldLink_X6_7) (fun _ h9 => h9) rfl dX6_jackColumn_2 ?_
  refine lv_iconst (v := 0) hx hb dX6_jackColumn_5 (by decide) ?_
  refine va_iald hx hb hK.1 hP 1 0 rfl rfl (i := (0 : Int32)) (show ixok (0 : Int32) 103 by decide) dX6_jackColumn_6 ?_
  refine lv_iconst (v := 1) hx hb dX6_jackColumn_7 (by decide) ?_
  obtain ⟨j16, hj16, hF⟩ := jn_use hF
  have hJ16 : ∀ (s16 : Int32) (H : Heap) (locs : List Loc) (ls : Array Slot) (hz_16_s1 : b01 s16), va_P (dC, dI) vwCl (cM cyI a v) H → va_D A (cM cyI a v) → va_S A s.heap H locs → lv_has ls 1 [(0, .ref (a 0))] → j16 s16 = some out → W p l e (headSpec (Cond.code yX6_jackColumn cX6_jackColumn 1 (some .int) :: wT) ({ frames := 1, cells := 0, slots := 0, locals := 21 } : Room)).room s m ([.ref (a 0)] : List Value).toArray below meth c H locs 0 0 (MQ below (va_Qi (fun (r : Int32) (u : MV) => (r, u) = out) (fun u t => va_P (dC, dI) vwCl (cM cyI a u) t.heap ∧ va_D A (cM cyI a u)) A) ([.ref (a 0)] : List Value).toArray s 0 0 A) (F0 m 16 ls [.int s16, .ref (a 0)]) := by
    intro s16 H locs ls hz_16_s1 hP hD hS hl hF
    have hF := (congrFun hj16 s16).symm.trans hF
    obtain ⟨o2, h3, hF⟩ := obd hF
    refine wcWVi (As := [.int s16]) (rest := []) (wr := []) (b := (a 0)) ⟨hx, hb, hml, hown, hts⟩ (met_X6_holds l dC dI cyI cyO cyL a _ N v s16 o2 h3) (cwV 1 hts (gV w_methodLink_X6_107 w_instanceMethod_X6_holds w_selects_X6_holds w_initialized_X6 w_code_X6_holds) rfl rfl rfl (by decide +kernel) ⟨Nat.le_of_ble_eq_true rfl, Nat.le_of_ble_eq_true rfl⟩) (va_recv hK.1 hP (ci := 6) (q0 := 0) rfl rfl) hP hD hK [0, 1, 2, 3, 4, 5, 6, 7] [] rfl rfl (by decide) (by decide) (by decide) rfl hl.1 (Nat.le_of_ble_eq_true rfl) dX6_jackColumn_16 ⟨Nat.le_of_ble_eq_true rfl, Nat.le_of_ble_eq_true rfl⟩ hS hA (fun r u H locs hw hP hD hS => ?_)
    obtain ⟨hw, hz4⟩ := hw
    obtain rfl : r = o2.1 := congrArg Prod.fst hw
    obtain rfl : u = o2.2 := congrArg Prod.snd hw
    clear hw
    have hP : va_P (dC, dI) vwCl (cM cyI a o2.2) H := hP
    have hD : va_D A (cM cyI a o2.2) := hD
    obtain ⟨j32, hj32, hF⟩ := jn_use hF
    have hJ32 : ∀ (s32 : Int32) (H : Heap) (locs : List Loc) (ls : Array Slot), va_P (dC, dI) vwCl (cM cyI a o2.2) H → va_D A (cM cyI a o2.2) → va_S A s.heap H locs → lv_has ls 1 [] → j32 s32 = some out → W p l e (headSpec (Cond.code yX6_jackColumn cX6_jackColumn 1 (some .int) :: wT) ({ frames := 1, cells := 0, slots := 0, locals := 21 } : Room)).room s m ([.ref (a 0)] : List Value).toArray below meth c H locs 0 0 (MQ below (va_Qi (fun (r : Int32) (u : MV) => (r, u) = out) (fun u t => va_P (dC, dI) vwCl (cM cyI a u) t.heap ∧ va_D A (cM cyI a u)) A) ([.ref (a 0)] : List Value).toArray s 0 0 A) (F0 m 32 ls [.int s32]) := by
      intro s32 H locs ls hP hD hS hl hF
      have hF := (congrFun hj32 s32).symm.trans hF
      exact W.iret (v := s32) hx hb hr (fun t ht hW => ⟨⟨_, o2.2, rfl, Option.some.inj hF, by rw [ht]; exact hP, hD⟩, hS.F ht⟩) hS.2.2 dX6_jackColumn_32
    refine lv_if_eq (tgt := 31) hx hb dX6_jackColumn_19 (by decide) (fun c5 => ?_) (fun c5 => ?_)
    · have hF := itp c5 hF
      refine lv_iconst (v := 0) hx hb dX6_jackColumn_31 (by decide) ?_
      exact hJ32 (0 : Int32) _ _ _ hP hD hS (lv_sub hl [] rfl) hF
    · have hF := itn c5 hF
      refine lv_aload_n hx hb dX6_jackColumn_22 rfl (lv_at hl 0 rfl) ?_
      refine va_get (D := (dC, dI)) (ci := 6) (v := .ref (a 1)) (C := RX6) (T := TX6) (N := 23) hx hb hts inX6 hown hK.1 hP 0 rfl rfl 1 (by decide) (hts _ w_fieldLink_X6_7) (fun _ h9 => h9) rfl dX6_jackColumn_23 ?_
      refine lv_iconst (v := 2) hx hb dX6_jackColumn_26 (by decide) ?_
      refine va_iald hx hb hK.1 hP 1 0 rfl rfl (i := (2 : Int32)) (show ixok (2 : Int32) 103 by decide) dX6_jackColumn_27 ?_
      refine lv_goto (tgt := 32) hx hb dX6_jackColumn_28 (by decide) ?_
      exact hJ32 ((M_s o2.2) (2 : Int32).toNatClampNeg) _ _ _ hP hD hS (lv_sub hl [] rfl) hF
  refine lv_icmp_ne (tgt := 15) hx hb dX6_jackColumn_8 (by decide) (fun c7 => ?_) (fun c7 => ?_)
  · have hF := itn c7 hF
    refine lv_iconst (v := 1) hx hb dX6_jackColumn_15 (by decide) ?_
    exact hJ16 (1 : Int32) _ _ _ b01_1 hP hD hS (lv_sub hl [0] rfl) hF
  · have hF := itp c7 hF
    refine lv_iconst (v := 0) hx hb dX6_jackColumn_11 (by decide) ?_
    refine lv_goto (tgt := 16) hx hb dX6_jackColumn_12 (by decide) ?_
    exact hJ16 (0 : Int32) _ _ _ b01_0 hP hD hS (lv_sub hl [0] rfl) hF
theorem dX6_isBurnt_0 : decode cX6_isBurnt 0 = .ok (.aload_n 0, 1) := by decide +kernel
theorem dX6_isBurnt_1 : decode cX6_isBurnt 1 = .ok (.iconst 0, 1) := by decide +kernel
theorem dX6_isBurnt_2 : decode cX6_isBurnt 2 = .ok (.putfield 31, 3) := by decide +kernel
theorem dX6_isBurnt_5 : decode cX6_isBurnt 5 = .ok (.aload_n 0, 1) := by decide +kernel
theorem dX6_isBurnt_6 : decode cX6_isBurnt 6 = .ok (.invokevirtual 67, 3) := by decide +kernel
theorem dX6_isBurnt_9 : decode cX6_isBurnt 9 = .ok (.ireturn, 1) := by decide +kernel
def f_X6_isBurnt (N : Nat) (v : MV) : Option (Int32 × MV) :=
  (f_X6_isBurntNow N (M_set_thrown v (0 : Int32))).bind (fun o1 => some (o1, (M_set_thrown v (0 : Int32))))
set_option maxHeartbeats 4000000 in
set_option maxRecDepth 100000 in
theorem met_X6_isBurnt (l : Launch) (dC : Nat → ClassId) (dI : Nat → Nat → Nat) (cyI cyO cyL : ClassId) (a : Nat → Nat) (sz : Nat) (N : Nat) (v : MV) (out : Int32 × MV) (hF : f_X6_isBurnt N v = some out) : Met l yX6_isBurnt (Cond.code yX6_isBurnt cX6_isBurnt 1 (some .boolean) :: wT) ({ frames := 2, cells := 0, slots := 0, locals := 44 } : Room) (wWr dC dI cyI cyO cyL [.ref (a 0)] (cM cyI a v) sz) (va_Qi (fun (r : Int32) (u : MV) => (r, u) = out ∧ b01 r) (fun u t => va_P (dC, dI) vwCl (cM cyI a u) t.heap ∧ va_D (va_A (cM cyI a v) sz) (cM cyI a u)) (va_A (cM cyI a v) sz)) 0 0 (va_A (cM cyI a v) sz) := by
  refine Met.ofW (cc := cX6_isBurnt) (maxL := 1) (ret := (some .boolean)) (by decide) rfl ?_
  intro p e s m args below meth c s₁ B hml hv
  obtain ⟨rfl, hsz, hP, hK, hD0⟩ := hv
  have hx := B.exec
  have hb := B.bytes
  have hr := B.returns
  have hts0 := atoms_spec (ws := (Cond.code yX6_isBurnt cX6_isBurnt 1 (some .boolean) :: wT)) B.pre
  have hts := fun w h => hts0 w (List.mem_cons_of_mem _ h)
  clear hts0
  have hown : s.vm.findClass RX6 = some m.cls := findClass_of_methodNamed B.named
  have hlocks := B.notSynchronized
  subst hsz
  have hD := hD0.self (sz := s.heap.size)
  generalize hAe : va_A (cM cyI a v) s.heap.size = A at hD ⊢
  have hA : ∀ q : Nat, s.heap.size ≤ q → A q := fun q h => by rw [← hAe]; exact Or.inr h
  clear hD0
  have hS : va_S A s.heap s.heap [] := va_S.rf
  have hl := lv_entry [.ref (a 0)] (n := 1) (Nat.le_of_ble_eq_true rfl)
  rw [lg_entry_eq]
  generalize (lg_sl [.ref (a 0)] ++ List.replicate (1 - (lg_sl [.ref (a 0)]).length) Slot.unset).toArray = ls at hl ⊢
  have hl : lv_has ls 1 [(0, .ref (a 0))] := hl
  unfold f_X6_isBurnt at hF
  refine lv_aload_n hx hb dX6_isBurnt_0 rfl (lv_at hl 0 rfl) ?_
  refine lv_iconst (v := 0) hx hb dX6_isBurnt_1 (by decide) ?_
  refine va_put (D := (dC, dI)) (ci := 6) (v := .int (0 : Int32)) (ty := .int) (C := RX6) (T := TX6) (N := 23) hx hb hts inX6 tyX6 tyX6_ok nmX6 hown hK.1 hP hD hS 0 rfl rfl 0 (by decide) (hts _ w_fieldLink_X6_31) (fun _ h9 => h9) rfl (by decide +kernel) rfl rfl (Nat.le_of_ble_eq_true rfl) dX6_isBurnt_2 (fun H locs hP hD hS => ?_)
  have hP : va_P (dC, dI) vwCl (cM cyI a (M_set_thrown v (0 : Int32))) H := hP
  have hD : va_D A (cM cyI a (M_set_thrown v (0 : Int32))) := hD
  refine lv_aload_n hx hb dX6_isBurnt_5 rfl (lv_at hl 0 rfl) ?_
  obtain ⟨o1, h2, hF⟩ := obd hF
  refine wcRVi (As := []) (rest := []) (b := (a 0)) ⟨hx, hb, hml, hown, hts⟩ (met_X6_isBurntNow l dC dI cyI cyO cyL a N (M_set_thrown v (0 : Int32))  o1 h2) (cwV 0 hts (gV w_methodLink_X6_67 w_instanceMethod_X6_isBurntNow w_selects_X6_isBurntNow w_initialized_X6 w_code_X6_isBurntNow) rfl rfl rfl (by decide +kernel) ⟨Nat.le_of_ble_eq_true rfl, Nat.le_of_ble_eq_true rfl⟩) (va_recv hK.1 hP (ci := 6) (q0 := 0) rfl rfl) hP hK [0, 1, 2, 3, 4, 5, 6, 7] rfl rfl hl.1 (Nat.le_of_ble_eq_true rfl) dX6_isBurnt_6 ⟨Nat.le_of_ble_eq_true rfl, Nat.le_of_ble_eq_true rfl⟩ hS (fun r H locs hw hP hS => ?_)
  obtain ⟨hw, hz3⟩ := hw
  have hw := hw.symm
  subst hw
  exact W.zret (ty := .boolean) (v := o1) hx hb hr (b01_n hz3) (fun t ht hW => ⟨⟨_, (M_set_thrown v (0 : Int32)), rfl, ⟨Option.some.inj hF, hz3⟩, by rw [ht]; exact hP, hD⟩, hS.F ht⟩) hS.2.2 dX6_isBurnt_9
theorem dX6_bowls_0 : decode cX6_bowls 0 = .ok (.aload_n 0, 1) := by decide +kernel
theorem dX6_bowls_1 : decode cX6_bowls 1 = .ok (.iconst 0, 1) := by decide +kernel
theorem dX6_bowls_2 : decode cX6_bowls 2 = .ok (.putfield 31, 3) := by decide +kernel
theorem dX6_bowls_5 : decode cX6_bowls 5 = .ok (.aload_n 0, 1) := by decide +kernel
theorem dX6_bowls_6 : decode cX6_bowls 6 = .ok (.getfield 7, 3) := by decide +kernel
theorem dX6_bowls_9 : decode cX6_bowls 9 = .ok (.iconst 3, 1) := by decide +kernel
theorem dX6_bowls_10 : decode cX6_bowls 10 = .ok (.iaload, 1) := by decide +kernel
theorem dX6_bowls_11 : decode cX6_bowls 11 = .ok (.ireturn, 1) := by decide +kernel
def f_X6_bowls (N : Nat) (v : MV) : Option (Int32 × MV) :=
  some (((M_s v) (3 : Int32).toNatClampNeg), (M_set_thrown v (0 : Int32)))
set_option maxHeartbeats 4000000 in
set_option maxRecDepth 100000 in
theorem met_X6_bowls (l : Launch) (dC : Nat → ClassId) (dI : Nat → Nat → Nat) (cyI cyO cyL : ClassId) (a : Nat → Nat) (sz : Nat) (N : Nat) (v : MV) (out : Int32 × MV) (hF : f_X6_bowls N v = some out) : Met l yX6_bowls (Cond.code yX6_bowls cX6_bowls 1 (some .int) :: wT) ({ frames := 0, cells := 0, slots := 0, locals := 0 } : Room) (wWr dC dI cyI cyO cyL [.ref (a 0)] (cM cyI a v) sz) (va_Qi (fun (r : Int32) (u : MV) => (r, u) = out) (fun u t => va_P (dC, dI) vwCl (cM cyI a u) t.heap ∧ va_D (va_A (cM cyI a v) sz) (cM cyI a u)) (va_A (cM cyI a v) sz)) 0 0 (va_A (cM cyI a v) sz) := by
  refine Met.ofW (cc := cX6_bowls) (maxL := 1) (ret := (some .int)) (by decide) rfl ?_
  intro p e s m args below meth c s₁ B hml hv
  obtain ⟨rfl, hsz, hP, hK, hD0⟩ := hv
  have hx := B.exec
  have hb := B.bytes
  have hr := B.returns
  have hts0 := atoms_spec (ws := (Cond.code yX6_bowls cX6_bowls 1 (some .int) :: wT)) B.pre
  have hts := fun w h => hts0 w (List.mem_cons_of_mem _ h)
  clear hts0
  have hown : s.vm.findClass RX6 = some m.cls := findClass_of_methodNamed B.named
  have hlocks := B.notSynchronized
  subst hsz
  have hD := hD0.self (sz := s.heap.size)
  generalize hAe : va_A (cM cyI a v) s.heap.size = A at hD ⊢
  have hA : ∀ q : Nat, s.heap.size ≤ q → A q := fun q h => by rw [← hAe]; exact Or.inr h
  clear hD0
  have hS : va_S A s.heap s.heap [] := va_S.rf
  have hl := lv_entry [.ref (a 0)] (n := 1) (Nat.le_of_ble_eq_true rfl)
  rw [lg_entry_eq]
  generalize (lg_sl [.ref (a 0)] ++ List.replicate (1 - (lg_sl [.ref (a 0)]).length) Slot.unset).toArray = ls at hl ⊢
  have hl : lv_has ls 1 [(0, .ref (a 0))] := hl
  unfold f_X6_bowls at hF
  refine lv_aload_n hx hb dX6_bowls_0 rfl (lv_at hl 0 rfl) ?_
  refine lv_iconst (v := 0) hx hb dX6_bowls_1 (by decide) ?_
  refine va_put (D := (dC, dI)) (ci := 6) (v := .int (0 : Int32)) (ty := .int) (C := RX6) (T := TX6) (N := 23) hx hb hts inX6 tyX6 tyX6_ok nmX6 hown hK.1 hP hD hS 0 rfl rfl 0 (by decide) (hts _ w_fieldLink_X6_31) (fun _ h9 => h9) rfl (by decide +kernel) rfl rfl (Nat.le_of_ble_eq_true rfl) dX6_bowls_2 (fun H locs hP hD hS => ?_)
  have hP : va_P (dC, dI) vwCl (cM cyI a (M_set_thrown v (0 : Int32))) H := hP
  have hD : va_D A (cM cyI a (M_set_thrown v (0 : Int32))) := hD
  refine lv_aload_n hx hb dX6_bowls_5 rfl (lv_at hl 0 rfl) ?_
  refine va_get (D := (dC, dI)) (ci := 6) (v := .ref (a 1)) (C := RX6) (T := TX6) (N := 23) hx hb hts inX6 hown hK.1 hP 0 rfl rfl 1 (by decide) (hts _ w_fieldLink_X6_7) (fun _ h9 => h9) rfl dX6_bowls_6 ?_
  refine lv_iconst (v := 3) hx hb dX6_bowls_9 (by decide) ?_
  refine va_iald hx hb hK.1 hP 1 0 rfl rfl (i := (3 : Int32)) (show ixok (3 : Int32) 103 by decide) dX6_bowls_10 ?_
  exact W.iret (v := ((M_s v) (3 : Int32).toNatClampNeg)) hx hb hr (fun t ht hW => ⟨⟨_, (M_set_thrown v (0 : Int32)), rfl, Option.some.inj hF, by rw [ht]; exact hP, hD⟩, hS.F ht⟩) hS.2.2 dX6_bowls_11
theorem dX6_bowlsOfSide_0 : decode cX6_bowlsOfSide 0 = .ok (.aload_n 0, 1) := by decide +kernel
theorem dX6_bowlsOfSide_1 : decode cX6_bowlsOfSide 1 = .ok (.iconst 0, 1) := by decide +kernel
theorem dX6_bowlsOfSide_2 : decode cX6_bowlsOfSide 2 = .ok (.putfield 31, 3) := by decide +kernel
theorem dX6_bowlsOfSide_5 : decode cX6_bowlsOfSide 5 = .ok (.aload_n 0, 1) := by decide +kernel
theorem dX6_bowlsOfSide_6 : decode cX6_bowlsOfSide 6 = .ok (.getfield 7, 3) := by decide +kernel
theorem dX6_bowlsOfSide_9 : decode cX6_bowlsOfSide 9 = .ok (.bipush 60, 2) := by decide +kernel
theorem dX6_bowlsOfSide_11 : decode cX6_bowlsOfSide 11 = .ok (.iaload, 1) := by decide +kernel
theorem dX6_bowlsOfSide_12 : decode cX6_bowlsOfSide 12 = .ok (.ireturn, 1) := by decide +kernel
def f_X6_bowlsOfSide (N : Nat) (v : MV) : Option (Int32 × MV) :=
  some (((M_s v) (60 : Int32).toNatClampNeg), (M_set_thrown v (0 : Int32)))
set_option maxHeartbeats 4000000 in
set_option maxRecDepth 100000 in
theorem met_X6_bowlsOfSide (l : Launch) (dC : Nat → ClassId) (dI : Nat → Nat → Nat) (cyI cyO cyL : ClassId) (a : Nat → Nat) (sz : Nat) (N : Nat) (v : MV) (out : Int32 × MV) (hF : f_X6_bowlsOfSide N v = some out) : Met l yX6_bowlsOfSide (Cond.code yX6_bowlsOfSide cX6_bowlsOfSide 1 (some .int) :: wT) ({ frames := 0, cells := 0, slots := 0, locals := 0 } : Room) (wWr dC dI cyI cyO cyL [.ref (a 0)] (cM cyI a v) sz) (va_Qi (fun (r : Int32) (u : MV) => (r, u) = out) (fun u t => va_P (dC, dI) vwCl (cM cyI a u) t.heap ∧ va_D (va_A (cM cyI a v) sz) (cM cyI a u)) (va_A (cM cyI a v) sz)) 0 0 (va_A (cM cyI a v) sz) := by
  refine Met.ofW (cc := cX6_bowlsOfSide) (maxL := 1) (ret := (some .int)) (by decide) rfl ?_
  intro p e s m args below meth c s₁ B hml hv
  obtain ⟨rfl, hsz, hP, hK, hD0⟩ := hv
  have hx := B.exec
  have hb := B.bytes
  have hr := B.returns
  have hts0 := atoms_spec (ws := (Cond.code yX6_bowlsOfSide cX6_bowlsOfSide 1 (some .int) :: wT)) B.pre
  have hts := fun w h => hts0 w (List.mem_cons_of_mem _ h)
  clear hts0
  have hown : s.vm.findClass RX6 = some m.cls := findClass_of_methodNamed B.named
  have hlocks := B.notSynchronized
  subst hsz
  have hD := hD0.self (sz := s.heap.size)
  generalize hAe : va_A (cM cyI a v) s.heap.size = A at hD ⊢
  have hA : ∀ q : Nat, s.heap.size ≤ q → A q := fun q h => by rw [← hAe]; exact Or.inr h
  clear hD0
  have hS : va_S A s.heap s.heap [] := va_S.rf
  have hl := lv_entry [.ref (a 0)] (n := 1) (Nat.le_of_ble_eq_true rfl)
  rw [lg_entry_eq]
  generalize (lg_sl [.ref (a 0)] ++ List.replicate (1 - (lg_sl [.ref (a 0)]).length) Slot.unset).toArray = ls at hl ⊢
  have hl : lv_has ls 1 [(0, .ref (a 0))] := hl
  unfold f_X6_bowlsOfSide at hF
  refine lv_aload_n hx hb dX6_bowlsOfSide_0 rfl (lv_at hl 0 rfl) ?_
  refine lv_iconst (v := 0) hx hb dX6_bowlsOfSide_1 (by decide) ?_
  refine va_put (D := (dC, dI)) (ci := 6) (v := .int (0 : Int32)) (ty := .int) (C := RX6) (T := TX6) (N := 23) hx hb hts inX6 tyX6 tyX6_ok nmX6 hown hK.1 hP hD hS 0 rfl rfl 0 (by decide) (hts _ w_fieldLink_X6_31) (fun _ h9 => h9) rfl (by decide +kernel) rfl rfl (Nat.le_of_ble_eq_true rfl) dX6_bowlsOfSide_2 (fun H locs hP hD hS => ?_)
  have hP : va_P (dC, dI) vwCl (cM cyI a (M_set_thrown v (0 : Int32))) H := hP
  have hD : va_D A (cM cyI a (M_set_thrown v (0 : Int32))) := hD
  refine lv_aload_n hx hb dX6_bowlsOfSide_5 rfl (lv_at hl 0 rfl) ?_
  refine va_get (D := (dC, dI)) (ci := 6) (v := .ref (a 1)) (C := RX6) (T := TX6) (N := 23) hx hb hts inX6 hown hK.1 hP 0 rfl rfl 1 (by decide) (hts _ w_fieldLink_X6_7) (fun _ h9 => h9) rfl dX6_bowlsOfSide_6 ?_
  refine lv_bipush (v := 60) hx hb dX6_bowlsOfSide_9 (by decide) ?_
  refine va_iald hx hb hK.1 hP 1 0 rfl rfl (i := (60 : Int32)) (show ixok (60 : Int32) 103 by decide) dX6_bowlsOfSide_11 ?_
  exact W.iret (v := ((M_s v) (60 : Int32).toNatClampNeg)) hx hb hr (fun t ht hW => ⟨⟨_, (M_set_thrown v (0 : Int32)), rfl, Option.some.inj hF, by rw [ht]; exact hP, hD⟩, hS.F ht⟩) hS.2.2 dX6_bowlsOfSide_12
theorem dX6_turn_0 : decode cX6_turn 0 = .ok (.aload_n 0, 1) := by decide +kernel
theorem dX6_turn_1 : decode cX6_turn 1 = .ok (.aload_n 0, 1) := by decide +kernel
theorem dX6_turn_2 : decode cX6_turn 2 = .ok (.invokevirtual 120, 3) := by decide +kernel
theorem dX6_turn_5 : decode cX6_turn 5 = .ok (.ifCond .eq 7, 3) := by decide +kernel
theorem dX6_turn_8 : decode cX6_turn 8 = .ok (.iconst 0, 1) := by decide +kernel
theorem dX6_turn_9 : decode cX6_turn 9 = .ok (.goto 4, 3) := by decide +kernel
theorem dX6_turn_12 : decode cX6_turn 12 = .ok (.iconst 1, 1) := by decide +kernel
theorem dX6_turn_13 : decode cX6_turn 13 = .ok (.invokevirtual 107, 3) := by decide +kernel
theorem dX6_turn_16 : decode cX6_turn 16 = .ok (.ifCond .eq 16, 3) := by decide +kernel
theorem dX6_turn_19 : decode cX6_turn 19 = .ok (.aload_n 0, 1) := by decide +kernel
theorem dX6_turn_20 : decode cX6_turn 20 = .ok (.aload_n 0, 1) := by decide +kernel
theorem dX6_turn_21 : decode cX6_turn 21 = .ok (.getfield 7, 3) := by decide +kernel
theorem dX6_turn_24 : decode cX6_turn 24 = .ok (.iconst 3, 1) := by decide +kernel
theorem dX6_turn_25 : decode cX6_turn 25 = .ok (.iaload, 1) := by decide +kernel
theorem dX6_turn_26 : decode cX6_turn 26 = .ok (.invokevirtual 88, 3) := by decide +kernel
theorem dX6_turn_29 : decode cX6_turn 29 = .ok (.goto 4, 3) := by decide +kernel
theorem dX6_turn_32 : decode cX6_turn 32 = .ok (.iconst 0, 1) := by decide +kernel
theorem dX6_turn_33 : decode cX6_turn 33 = .ok (.ireturn, 1) := by decide +kernel
def f_X6_turn (N : Nat) (v : MV) : Option (Int32 × MV) :=
  (f_X6_canPlay N v).bind (fun o1 => jn (fun (s13 : Int32) => (f_X6_holds N v s13).bind (fun o4 => jn (fun (s33 : Int32) => some (s33, o4.2)) (fun (j33 : (Int32) → Option (Int32 × MV)) => (if o4.1 = 0 then j33 (0 : Int32) else (f_X6_sideNow N o4.2 ((M_s o4.2) (3 : Int32).toNatClampNeg)).bind (fun o9 => j33 o9))))) (fun (j13 : (Int32) → Option (Int32 × MV)) => (if o1 = 0 then j13 (1 : Int32) else j13 (0 : Int32))))
set_option maxHeartbeats 4000000 in
set_option maxRecDepth 100000 in
theorem met_X6_turn (l : Launch) (dC : Nat → ClassId) (dI : Nat → Nat → Nat) (cyI cyO cyL : ClassId) (a : Nat → Nat) (sz : Nat) (N : Nat) (v : MV) (out : Int32 × MV) (hF : f_X6_turn N v = some out) : Met l yX6_turn (Cond.code yX6_turn cX6_turn 1 (some .int) :: wT) ({ frames := 3, cells := 0, slots := 0, locals := 64 } : Room) (wWr dC dI cyI cyO cyL [.ref (a 0)] (cM cyI a v) sz) (va_Qi (fun (r : Int32) (u : MV) => (r, u) = out) (fun u t => va_P (dC, dI) vwCl (cM cyI a u) t.heap ∧ va_D (va_A (cM cyI a v) sz) (cM cyI a u)) (va_A (cM cyI a v) sz)) 0 0 (va_A (cM cyI a v) sz) := by
  refine Met.ofW (cc := cX6_turn) (maxL := 1) (ret := (some .int)) (by decide) rfl ?_
  intro p e s m args below meth c s₁ B hml hv
  obtain ⟨rfl, hsz, hP, hK, hD0⟩ := hv
  have hx := B.exec
  have hb := B.bytes
  have hr := B.returns
  have hts0 := atoms_spec (ws := (Cond.code yX6_turn cX6_turn 1 (some .int) :: wT)) B.pre
  have hts := fun w h => hts0 w (List.mem_cons_of_mem _ h)
  clear hts0
  have hown : s.vm.findClass RX6 = some m.cls := findClass_of_methodNamed B.named
  have hlocks := B.notSynchronized
  subst hsz
  have hD := hD0.self (sz := s.heap.size)
  generalize hAe : va_A (cM cyI a v) s.heap.size = A at hD ⊢
  have hA : ∀ q : Nat, s.heap.size ≤ q → A q := fun q h => by rw [← hAe]; exact Or.inr h
  clear hD0
  have hS : va_S A s.heap s.heap [] := va_S.rf
  have hl := lv_entry [.ref (a 0)] (n := 1) (Nat.le_of_ble_eq_true rfl)
  rw [lg_entry_eq]
  generalize (lg_sl [.ref (a 0)] ++ List.replicate (1 - (lg_sl [.ref (a 0)]).length) Slot.unset).toArray = ls at hl ⊢
  have hl : lv_has ls 1 [(0, .ref (a 0))] := hl
  unfold f_X6_turn at hF
  refine lv_aload_n hx hb dX6_turn_0 rfl (lv_at hl 0 rfl) ?_
  refine lv_aload_n hx hb dX6_turn_1 rfl (lv_at hl 0 rfl) ?_
  obtain ⟨o1, h2, hF⟩ := obd hF
  refine wcRVi (As := []) (rest := [.ref (a 0)]) (b := (a 0)) ⟨hx, hb, hml, hown, hts⟩ (met_X6_canPlay l dC dI cyI cyO cyL a N v  o1 h2) (cwV 0 hts (gV w_methodLink_X6_120 w_instanceMethod_X6_canPlay w_selects_X6_canPlay w_initialized_X6 w_code_X6_canPlay) rfl rfl rfl (by decide +kernel) ⟨Nat.le_of_ble_eq_true rfl, Nat.le_of_ble_eq_true rfl⟩) (va_recv hK.1 hP (ci := 6) (q0 := 0) rfl rfl) hP hK [0, 1, 2, 3, 4, 5, 6, 7] rfl rfl hl.1 (Nat.le_of_ble_eq_true rfl) dX6_turn_2 ⟨Nat.le_of_ble_eq_true rfl, Nat.le_of_ble_eq_true rfl⟩ hS (fun r H locs hw hP hS => ?_)
  obtain ⟨hw, hz3⟩ := hw
  have hw := hw.symm
  subst hw
  obtain ⟨j13, hj13, hF⟩ := jn_use hF
  have hJ13 : ∀ (s13 : Int32) (H : Heap) (locs : List Loc) (ls : Array Slot) (hz_13_s1 : b01 s13), va_P (dC, dI) vwCl (cM cyI a v) H → va_D A (cM cyI a v) → va_S A s.heap H locs → lv_has ls 1 [(0, .ref (a 0))] → j13 s13 = some out → W p l e (headSpec (Cond.code yX6_turn cX6_turn 1 (some .int) :: wT) ({ frames := 3, cells := 0, slots := 0, locals := 64 } : Room)).room s m ([.ref (a 0)] : List Value).toArray below meth c H locs 0 0 (MQ below (va_Qi (fun (r : Int32) (u : MV) => (r, u) = out) (fun u t => va_P (dC, dI) vwCl (cM cyI a u) t.heap ∧ va_D A (cM cyI a u)) A) ([.ref (a 0)] : List Value).toArray s 0 0 A) (F0 m 13 ls [.int s13, .ref (a 0)]) := by
    intro s13 H locs ls hz_13_s1 hP hD hS hl hF
    have hF := (congrFun hj13 s13).symm.trans hF
    obtain ⟨o4, h5, hF⟩ := obd hF
    refine wcWVi (As := [.int s13]) (rest := []) (wr := []) (b := (a 0)) ⟨hx, hb, hml, hown, hts⟩ (met_X6_holds l dC dI cyI cyO cyL a _ N v s13 o4 h5) (cwV 1 hts (gV w_methodLink_X6_107 w_instanceMethod_X6_holds w_selects_X6_holds w_initialized_X6 w_code_X6_holds) rfl rfl rfl (by decide +kernel) ⟨Nat.le_of_ble_eq_true rfl, Nat.le_of_ble_eq_true rfl⟩) (va_recv hK.1 hP (ci := 6) (q0 := 0) rfl rfl) hP hD hK [0, 1, 2, 3, 4, 5, 6, 7] [] rfl rfl (by decide) (by decide) (by decide) rfl hl.1 (Nat.le_of_ble_eq_true rfl) dX6_turn_13 ⟨Nat.le_of_ble_eq_true rfl, Nat.le_of_ble_eq_true rfl⟩ hS hA (fun r u H locs hw hP hD hS => ?_)
    obtain ⟨hw, hz6⟩ := hw
    obtain rfl : r = o4.1 := congrArg Prod.fst hw
    obtain rfl : u = o4.2 := congrArg Prod.snd hw
    clear hw
    have hP : va_P (dC, dI) vwCl (cM cyI a o4.2) H := hP
    have hD : va_D A (cM cyI a o4.2) := hD
    obtain ⟨j33, hj33, hF⟩ := jn_use hF
    have hJ33 : ∀ (s33 : Int32) (H : Heap) (locs : List Loc) (ls : Array Slot), va_P (dC, dI) vwCl (cM cyI a o4.2) H → va_D A (cM cyI a o4.2) → va_S A s.heap H locs → lv_has ls 1 [] → j33 s33 = some out → W p l e (headSpec (Cond.code yX6_turn cX6_turn 1 (some .int) :: wT) ({ frames := 3, cells := 0, slots := 0, locals := 64 } : Room)).room s m ([.ref (a 0)] : List Value).toArray below meth c H locs 0 0 (MQ below (va_Qi (fun (r : Int32) (u : MV) => (r, u) = out) (fun u t => va_P (dC, dI) vwCl (cM cyI a u) t.heap ∧ va_D A (cM cyI a u)) A) ([.ref (a 0)] : List Value).toArray s 0 0 A) (F0 m 33 ls [.int s33]) := by
      intro s33 H locs ls hP hD hS hl hF
      have hF := (congrFun hj33 s33).symm.trans hF
      exact W.iret (v := s33) hx hb hr (fun t ht hW => ⟨⟨_, o4.2, rfl, Option.some.inj hF, by rw [ht]; exact hP, hD⟩, hS.F ht⟩) hS.2.2 dX6_turn_33
    refine lv_if_eq (tgt := 32) hx hb dX6_turn_16 (by decide) (fun c7 => ?_) (fun c7 => ?_)
    · have hF := itp c7 hF
      refine lv_iconst (v := 0) hx hb dX6_turn_32 (by decide) ?_
      exact hJ33 (0 : Int32) _ _ _ hP hD hS (lv_sub hl [] rfl) hF
    · have hF := itn c7 hF
      refine lv_aload_n hx hb dX6_turn_19 rfl (lv_at hl 0 rfl) ?_
      refine lv_aload_n hx hb dX6_turn_20 rfl (lv_at hl 0 rfl) ?_
      refine va_get (D := (dC, dI)) (ci := 6) (v := .ref (a 1)) (C := RX6) (T := TX6) (N := 23) hx hb hts inX6 hown hK.1 hP 0 rfl rfl 1 (by decide) (hts _ w_fieldLink_X6_7) (fun _ h9 => h9) rfl dX6_turn_21 ?_
      refine lv_iconst (v := 3) hx hb dX6_turn_24 (by decide) ?_
      refine va_iald hx hb hK.1 hP 1 0 rfl rfl (i := (3 : Int32)) (show ixok (3 : Int32) 103 by decide) dX6_turn_25 ?_
      obtain ⟨o9, h10, hF⟩ := obd hF
      refine wcRVi (As := [.int ((M_s o4.2) (3 : Int32).toNatClampNeg)]) (rest := []) (b := (a 0)) ⟨hx, hb, hml, hown, hts⟩ (met_X6_sideNow l dC dI cyI cyO cyL a N o4.2 ((M_s o4.2) (3 : Int32).toNatClampNeg) o9 h10) (cwV 1 hts (gV w_methodLink_X6_88 w_instanceMethod_X6_sideNow w_selects_X6_sideNow w_initialized_X6 w_code_X6_sideNow) rfl rfl rfl (by decide +kernel) ⟨Nat.le_of_ble_eq_true rfl, Nat.le_of_ble_eq_true rfl⟩) (va_recv hK.1 hP (ci := 6) (q0 := 0) rfl rfl) hP hK [0, 1, 2, 3, 4, 5, 6, 7] rfl rfl hl.1 (Nat.le_of_ble_eq_true rfl) dX6_turn_26 ⟨Nat.le_of_ble_eq_true rfl, Nat.le_of_ble_eq_true rfl⟩ hS (fun r H locs hw hP hS => ?_)
      have hw := hw.symm
      subst hw
      refine lv_goto (tgt := 33) hx hb dX6_turn_29 (by decide) ?_
      exact hJ33 o9 _ _ _ hP hD hS (lv_sub hl [] rfl) hF
  refine lv_if_eq (tgt := 12) hx hb dX6_turn_5 (by decide) (fun c11 => ?_) (fun c11 => ?_)
  · have hF := itp c11 hF
    refine lv_iconst (v := 1) hx hb dX6_turn_12 (by decide) ?_
    exact hJ13 (1 : Int32) _ _ _ b01_1 hP hD hS (lv_sub hl [0] rfl) hF
  · have hF := itn c11 hF
    refine lv_iconst (v := 0) hx hb dX6_turn_8 (by decide) ?_
    refine lv_goto (tgt := 13) hx hb dX6_turn_9 (by decide) ?_
    exact hJ13 (0 : Int32) _ _ _ b01_0 hP hD hS (lv_sub hl [0] rfl) hF
theorem dX6_sideOf_0 : decode cX6_sideOf 0 = .ok (.aload_n 0, 1) := by decide +kernel
theorem dX6_sideOf_1 : decode cX6_sideOf 1 = .ok (.aload_n 0, 1) := by decide +kernel
theorem dX6_sideOf_2 : decode cX6_sideOf 2 = .ok (.iload_n 1, 1) := by decide +kernel
theorem dX6_sideOf_3 : decode cX6_sideOf 3 = .ok (.invokevirtual 195, 3) := by decide +kernel
theorem dX6_sideOf_6 : decode cX6_sideOf 6 = .ok (.ifCond .eq 7, 3) := by decide +kernel
theorem dX6_sideOf_9 : decode cX6_sideOf 9 = .ok (.iconst 0, 1) := by decide +kernel
theorem dX6_sideOf_10 : decode cX6_sideOf 10 = .ok (.goto 4, 3) := by decide +kernel
theorem dX6_sideOf_13 : decode cX6_sideOf 13 = .ok (.iconst 1, 1) := by decide +kernel
theorem dX6_sideOf_14 : decode cX6_sideOf 14 = .ok (.invokevirtual 107, 3) := by decide +kernel
theorem dX6_sideOf_17 : decode cX6_sideOf 17 = .ok (.ifCond .eq 11, 3) := by decide +kernel
theorem dX6_sideOf_20 : decode cX6_sideOf 20 = .ok (.aload_n 0, 1) := by decide +kernel
theorem dX6_sideOf_21 : decode cX6_sideOf 21 = .ok (.iload_n 1, 1) := by decide +kernel
theorem dX6_sideOf_22 : decode cX6_sideOf 22 = .ok (.invokevirtual 88, 3) := by decide +kernel
theorem dX6_sideOf_25 : decode cX6_sideOf 25 = .ok (.goto 4, 3) := by decide +kernel
theorem dX6_sideOf_28 : decode cX6_sideOf 28 = .ok (.iconst 0, 1) := by decide +kernel
theorem dX6_sideOf_29 : decode cX6_sideOf 29 = .ok (.ireturn, 1) := by decide +kernel
def f_X6_sideOf (N : Nat) (v : MV) (p1 : Int32) : Option (Int32 × MV) :=
  (f_X6_isBowl N v p1).bind (fun o1 => jn (fun (s14 : Int32) => (f_X6_holds N v s14).bind (fun o4 => jn (fun (s29 : Int32) => some (s29, o4.2)) (fun (j29 : (Int32) → Option (Int32 × MV)) => (if o4.1 = 0 then j29 (0 : Int32) else (f_X6_sideNow N o4.2 p1).bind (fun o8 => j29 o8))))) (fun (j14 : (Int32) → Option (Int32 × MV)) => (if o1 = 0 then j14 (1 : Int32) else j14 (0 : Int32))))
set_option maxHeartbeats 4000000 in
set_option maxRecDepth 100000 in
theorem met_X6_sideOf (l : Launch) (dC : Nat → ClassId) (dI : Nat → Nat → Nat) (cyI cyO cyL : ClassId) (a : Nat → Nat) (sz : Nat) (N : Nat) (v : MV) (p1 : Int32) (out : Int32 × MV) (hF : f_X6_sideOf N v p1 = some out) : Met l yX6_sideOf (Cond.code yX6_sideOf cX6_sideOf 2 (some .int) :: wT) ({ frames := 2, cells := 0, slots := 0, locals := 43 } : Room) (wWr dC dI cyI cyO cyL [.ref (a 0), .int p1] (cM cyI a v) sz) (va_Qi (fun (r : Int32) (u : MV) => (r, u) = out) (fun u t => va_P (dC, dI) vwCl (cM cyI a u) t.heap ∧ va_D (va_A (cM cyI a v) sz) (cM cyI a u)) (va_A (cM cyI a v) sz)) 0 0 (va_A (cM cyI a v) sz) := by
  refine Met.ofW (cc := cX6_sideOf) (maxL := 2) (ret := (some .int)) (by decide) rfl ?_
  intro p e s m args below meth c s₁ B hml hv
  obtain ⟨rfl, hsz, hP, hK, hD0⟩ := hv
  have hx := B.exec
  have hb := B.bytes
  have hr := B.returns
  have hts0 := atoms_spec (ws := (Cond.code yX6_sideOf cX6_sideOf 2 (some .int) :: wT)) B.pre
  have hts := fun w h => hts0 w (List.mem_cons_of_mem _ h)
  clear hts0
  have hown : s.vm.findClass RX6 = some m.cls := findClass_of_methodNamed B.named
  have hlocks := B.notSynchronized
  subst hsz
  have hD := hD0.self (sz := s.heap.size)
  generalize hAe : va_A (cM cyI a v) s.heap.size = A at hD ⊢
  have hA : ∀ q : Nat, s.heap.size ≤ q → A q := fun q h => by rw [← hAe]; exact Or.inr h
  clear hD0
  have hS : va_S A s.heap s.heap [] := va_S.rf
  have hl := lv_entry [.ref (a 0), .int p1] (n := 2) (Nat.le_of_ble_eq_true rfl)
  rw [lg_entry_eq]
  generalize (lg_sl [.ref (a 0), .int p1] ++ List.replicate (2 - (lg_sl [.ref (a 0), .int p1]).length) Slot.unset).toArray = ls at hl ⊢
  have hl : lv_has ls 2 [(0, .ref (a 0)), (1, .int p1)] := hl
  unfold f_X6_sideOf at hF
  refine lv_aload_n hx hb dX6_sideOf_0 rfl (lv_at hl 0 rfl) ?_
  refine lv_aload_n hx hb dX6_sideOf_1 rfl (lv_at hl 0 rfl) ?_
  refine lv_iload_n hx hb dX6_sideOf_2 rfl (lv_at hl 1 rfl) ?_
  obtain ⟨o1, h2, hF⟩ := obd hF
  refine wcRVi (As := [.int p1]) (rest := [.ref (a 0)]) (b := (a 0)) ⟨hx, hb, hml, hown, hts⟩ (met_X6_isBowl l dC dI cyI cyO cyL a N v p1 o1 h2) (cwV 1 hts (gV w_methodLink_X6_195 w_instanceMethod_X6_isBowl w_selects_X6_isBowl w_initialized_X6 w_code_X6_isBowl) rfl rfl rfl (by decide +kernel) ⟨Nat.le_of_ble_eq_true rfl, Nat.le_of_ble_eq_true rfl⟩) (va_recv hK.1 hP (ci := 6) (q0 := 0) rfl rfl) hP hK [0, 1, 2, 3, 4, 5, 6, 7] rfl rfl hl.1 (Nat.le_of_ble_eq_true rfl) dX6_sideOf_3 ⟨Nat.le_of_ble_eq_true rfl, Nat.le_of_ble_eq_true rfl⟩ hS (fun r H locs hw hP hS => ?_)
  obtain ⟨hw, hz3⟩ := hw
  have hw := hw.symm
  subst hw
  obtain ⟨j14, hj14, hF⟩ := jn_use hF
  have hJ14 : ∀ (s14 : Int32) (H : Heap) (locs : List Loc) (ls : Array Slot) (hz_14_s1 : b01 s14), va_P (dC, dI) vwCl (cM cyI a v) H → va_D A (cM cyI a v) → va_S A s.heap H locs → lv_has ls 2 [(0, .ref (a 0)), (1, .int p1)] → j14 s14 = some out → W p l e (headSpec (Cond.code yX6_sideOf cX6_sideOf 2 (some .int) :: wT) ({ frames := 2, cells := 0, slots := 0, locals := 43 } : Room)).room s m ([.ref (a 0), .int p1] : List Value).toArray below meth c H locs 0 0 (MQ below (va_Qi (fun (r : Int32) (u : MV) => (r, u) = out) (fun u t => va_P (dC, dI) vwCl (cM cyI a u) t.heap ∧ va_D A (cM cyI a u)) A) ([.ref (a 0), .int p1] : List Value).toArray s 0 0 A) (F0 m 14 ls [.int s14, .ref (a 0)]) := by
    intro s14 H locs ls hz_14_s1 hP hD hS hl hF
    have hF := (congrFun hj14 s14).symm.trans hF
    obtain ⟨o4, h5, hF⟩ := obd hF
    refine wcWVi (As := [.int s14]) (rest := []) (wr := []) (b := (a 0)) ⟨hx, hb, hml, hown, hts⟩ (met_X6_holds l dC dI cyI cyO cyL a _ N v s14 o4 h5) (cwV 1 hts (gV w_methodLink_X6_107 w_instanceMethod_X6_holds w_selects_X6_holds w_initialized_X6 w_code_X6_holds) rfl rfl rfl (by decide +kernel) ⟨Nat.le_of_ble_eq_true rfl, Nat.le_of_ble_eq_true rfl⟩) (va_recv hK.1 hP (ci := 6) (q0 := 0) rfl rfl) hP hD hK [0, 1, 2, 3, 4, 5, 6, 7] [] rfl rfl (by decide) (by decide) (by decide) rfl hl.1 (Nat.le_of_ble_eq_true rfl) dX6_sideOf_14 ⟨Nat.le_of_ble_eq_true rfl, Nat.le_of_ble_eq_true rfl⟩ hS hA (fun r u H locs hw hP hD hS => ?_)
    obtain ⟨hw, hz6⟩ := hw
    obtain rfl : r = o4.1 := congrArg Prod.fst hw
    obtain rfl : u = o4.2 := congrArg Prod.snd hw
    clear hw
    have hP : va_P (dC, dI) vwCl (cM cyI a o4.2) H := hP
    have hD : va_D A (cM cyI a o4.2) := hD
    obtain ⟨j29, hj29, hF⟩ := jn_use hF
    have hJ29 : ∀ (s29 : Int32) (H : Heap) (locs : List Loc) (ls : Array Slot), va_P (dC, dI) vwCl (cM cyI a o4.2) H → va_D A (cM cyI a o4.2) → va_S A s.heap H locs → lv_has ls 2 [] → j29 s29 = some out → W p l e (headSpec (Cond.code yX6_sideOf cX6_sideOf 2 (some .int) :: wT) ({ frames := 2, cells := 0, slots := 0, locals := 43 } : Room)).room s m ([.ref (a 0), .int p1] : List Value).toArray below meth c H locs 0 0 (MQ below (va_Qi (fun (r : Int32) (u : MV) => (r, u) = out) (fun u t => va_P (dC, dI) vwCl (cM cyI a u) t.heap ∧ va_D A (cM cyI a u)) A) ([.ref (a 0), .int p1] : List Value).toArray s 0 0 A) (F0 m 29 ls [.int s29]) := by
      intro s29 H locs ls hP hD hS hl hF
      have hF := (congrFun hj29 s29).symm.trans hF
      exact W.iret (v := s29) hx hb hr (fun t ht hW => ⟨⟨_, o4.2, rfl, Option.some.inj hF, by rw [ht]; exact hP, hD⟩, hS.F ht⟩) hS.2.2 dX6_sideOf_29
    refine lv_if_eq (tgt := 28) hx hb dX6_sideOf_17 (by decide) (fun c7 => ?_) (fun c7 => ?_)
    · have hF := itp c7 hF
      refine lv_iconst (v := 0) hx hb dX6_sideOf_28 (by decide) ?_
      exact hJ29 (0 : Int32) _ _ _ hP hD hS (lv_sub hl [] rfl) hF
    · have hF := itn c7 hF
      refine lv_aload_n hx hb dX6_sideOf_20 rfl (lv_at hl 0 rfl) ?_
      refine lv_iload_n hx hb dX6_sideOf_21 rfl (lv_at hl 1 rfl) ?_
      obtain ⟨o8, h9, hF⟩ := obd hF
      refine wcRVi (As := [.int p1]) (rest := []) (b := (a 0)) ⟨hx, hb, hml, hown, hts⟩ (met_X6_sideNow l dC dI cyI cyO cyL a N o4.2 p1 o8 h9) (cwV 1 hts (gV w_methodLink_X6_88 w_instanceMethod_X6_sideNow w_selects_X6_sideNow w_initialized_X6 w_code_X6_sideNow) rfl rfl rfl (by decide +kernel) ⟨Nat.le_of_ble_eq_true rfl, Nat.le_of_ble_eq_true rfl⟩) (va_recv hK.1 hP (ci := 6) (q0 := 0) rfl rfl) hP hK [0, 1, 2, 3, 4, 5, 6, 7] rfl rfl hl.1 (Nat.le_of_ble_eq_true rfl) dX6_sideOf_22 ⟨Nat.le_of_ble_eq_true rfl, Nat.le_of_ble_eq_true rfl⟩ hS (fun r H locs hw hP hS => ?_)
      have hw := hw.symm
      subst hw
      refine lv_goto (tgt := 29) hx hb dX6_sideOf_25 (by decide) ?_
      exact hJ29 o8 _ _ _ hP hD hS (lv_sub hl [] rfl) hF
  refine lv_if_eq (tgt := 13) hx hb dX6_sideOf_6 (by decide) (fun c10 => ?_) (fun c10 => ?_)
  · have hF := itp c10 hF
    refine lv_iconst (v := 1) hx hb dX6_sideOf_13 (by decide) ?_
    exact hJ14 (1 : Int32) _ _ _ b01_1 hP hD hS (lv_sub hl [0, 1] rfl) hF
  · have hF := itn c10 hF
    refine lv_iconst (v := 0) hx hb dX6_sideOf_9 (by decide) ?_
    refine lv_goto (tgt := 14) hx hb dX6_sideOf_10 (by decide) ?_
    exact hJ14 (0 : Int32) _ _ _ b01_0 hP hD hS (lv_sub hl [0, 1] rfl) hF
theorem dX6_stateOf_0 : decode cX6_stateOf 0 = .ok (.aload_n 0, 1) := by decide +kernel
theorem dX6_stateOf_1 : decode cX6_stateOf 1 = .ok (.aload_n 0, 1) := by decide +kernel
theorem dX6_stateOf_2 : decode cX6_stateOf 2 = .ok (.iload_n 1, 1) := by decide +kernel
theorem dX6_stateOf_3 : decode cX6_stateOf 3 = .ok (.invokevirtual 195, 3) := by decide +kernel
theorem dX6_stateOf_6 : decode cX6_stateOf 6 = .ok (.ifCond .eq 7, 3) := by decide +kernel
theorem dX6_stateOf_9 : decode cX6_stateOf 9 = .ok (.iconst 0, 1) := by decide +kernel
theorem dX6_stateOf_10 : decode cX6_stateOf 10 = .ok (.goto 4, 3) := by decide +kernel
theorem dX6_stateOf_13 : decode cX6_stateOf 13 = .ok (.iconst 1, 1) := by decide +kernel
theorem dX6_stateOf_14 : decode cX6_stateOf 14 = .ok (.invokevirtual 107, 3) := by decide +kernel
theorem dX6_stateOf_17 : decode cX6_stateOf 17 = .ok (.ifCond .eq 12, 3) := by decide +kernel
theorem dX6_stateOf_20 : decode cX6_stateOf 20 = .ok (.aload_n 0, 1) := by decide +kernel
theorem dX6_stateOf_21 : decode cX6_stateOf 21 = .ok (.iload_n 1, 1) := by decide +kernel
theorem dX6_stateOf_22 : decode cX6_stateOf 22 = .ok (.iconst 0, 1) := by decide +kernel
theorem dX6_stateOf_23 : decode cX6_stateOf 23 = .ok (.invokevirtual 42, 3) := by decide +kernel
theorem dX6_stateOf_26 : decode cX6_stateOf 26 = .ok (.goto 4, 3) := by decide +kernel
theorem dX6_stateOf_29 : decode cX6_stateOf 29 = .ok (.iconst 0, 1) := by decide +kernel
theorem dX6_stateOf_30 : decode cX6_stateOf 30 = .ok (.ireturn, 1) := by decide +kernel
def f_X6_stateOf (N : Nat) (v : MV) (p1 : Int32) : Option (Int32 × MV) :=
  (f_X6_isBowl N v p1).bind (fun o1 => jn (fun (s14 : Int32) => (f_X6_holds N v s14).bind (fun o4 => jn (fun (s30 : Int32) => some (s30, o4.2)) (fun (j30 : (Int32) → Option (Int32 × MV)) => (if o4.1 = 0 then j30 (0 : Int32) else (f_X6_of N o4.2 p1 (0 : Int32)).bind (fun o8 => j30 o8))))) (fun (j14 : (Int32) → Option (Int32 × MV)) => (if o1 = 0 then j14 (1 : Int32) else j14 (0 : Int32))))
set_option maxHeartbeats 4000000 in
set_option maxRecDepth 100000 in
theorem met_X6_stateOf (l : Launch) (dC : Nat → ClassId) (dI : Nat → Nat → Nat) (cyI cyO cyL : ClassId) (a : Nat → Nat) (sz : Nat) (N : Nat) (v : MV) (p1 : Int32) (out : Int32 × MV) (hF : f_X6_stateOf N v p1 = some out) : Met l yX6_stateOf (Cond.code yX6_stateOf cX6_stateOf 2 (some .int) :: wT) ({ frames := 2, cells := 0, slots := 0, locals := 43 } : Room) (wWr dC dI cyI cyO cyL [.ref (a 0), .int p1] (cM cyI a v) sz) (va_Qi (fun (r : Int32) (u : MV) => (r, u) = out) (fun u t => va_P (dC, dI) vwCl (cM cyI a u) t.heap ∧ va_D (va_A (cM cyI a v) sz) (cM cyI a u)) (va_A (cM cyI a v) sz)) 0 0 (va_A (cM cyI a v) sz) := by
  refine Met.ofW (cc := cX6_stateOf) (maxL := 2) (ret := (some .int)) (by decide) rfl ?_
  intro p e s m args below meth c s₁ B hml hv
  obtain ⟨rfl, hsz, hP, hK, hD0⟩ := hv
  have hx := B.exec
  have hb := B.bytes
  have hr := B.returns
  have hts0 := atoms_spec (ws := (Cond.code yX6_stateOf cX6_stateOf 2 (some .int) :: wT)) B.pre
  have hts := fun w h => hts0 w (List.mem_cons_of_mem _ h)
  clear hts0
  have hown : s.vm.findClass RX6 = some m.cls := findClass_of_methodNamed B.named
  have hlocks := B.notSynchronized
  subst hsz
  have hD := hD0.self (sz := s.heap.size)
  generalize hAe : va_A (cM cyI a v) s.heap.size = A at hD ⊢
  have hA : ∀ q : Nat, s.heap.size ≤ q → A q := fun q h => by rw [← hAe]; exact Or.inr h
  clear hD0
  have hS : va_S A s.heap s.heap [] := va_S.rf
  have hl := lv_entry [.ref (a 0), .int p1] (n := 2) (Nat.le_of_ble_eq_true rfl)
  rw [lg_entry_eq]
  generalize (lg_sl [.ref (a 0), .int p1] ++ List.replicate (2 - (lg_sl [.ref (a 0), .int p1]).length) Slot.unset).toArray = ls at hl ⊢
  have hl : lv_has ls 2 [(0, .ref (a 0)), (1, .int p1)] := hl
  unfold f_X6_stateOf at hF
  refine lv_aload_n hx hb dX6_stateOf_0 rfl (lv_at hl 0 rfl) ?_
  refine lv_aload_n hx hb dX6_stateOf_1 rfl (lv_at hl 0 rfl) ?_
  refine lv_iload_n hx hb dX6_stateOf_2 rfl (lv_at hl 1 rfl) ?_
  obtain ⟨o1, h2, hF⟩ := obd hF
  refine wcRVi (As := [.int p1]) (rest := [.ref (a 0)]) (b := (a 0)) ⟨hx, hb, hml, hown, hts⟩ (met_X6_isBowl l dC dI cyI cyO cyL a N v p1 o1 h2) (cwV 1 hts (gV w_methodLink_X6_195 w_instanceMethod_X6_isBowl w_selects_X6_isBowl w_initialized_X6 w_code_X6_isBowl) rfl rfl rfl (by decide +kernel) ⟨Nat.le_of_ble_eq_true rfl, Nat.le_of_ble_eq_true rfl⟩) (va_recv hK.1 hP (ci := 6) (q0 := 0) rfl rfl) hP hK [0, 1, 2, 3, 4, 5, 6, 7] rfl rfl hl.1 (Nat.le_of_ble_eq_true rfl) dX6_stateOf_3 ⟨Nat.le_of_ble_eq_true rfl, Nat.le_of_ble_eq_true rfl⟩ hS (fun r H locs hw hP hS => ?_)
  obtain ⟨hw, hz3⟩ := hw
  have hw := hw.symm
  subst hw
  obtain ⟨j14, hj14, hF⟩ := jn_use hF
  have hJ14 : ∀ (s14 : Int32) (H : Heap) (locs : List Loc) (ls : Array Slot) (hz_14_s1 : b01 s14), va_P (dC, dI) vwCl (cM cyI a v) H → va_D A (cM cyI a v) → va_S A s.heap H locs → lv_has ls 2 [(0, .ref (a 0)), (1, .int p1)] → j14 s14 = some out → W p l e (headSpec (Cond.code yX6_stateOf cX6_stateOf 2 (some .int) :: wT) ({ frames := 2, cells := 0, slots := 0, locals := 43 } : Room)).room s m ([.ref (a 0), .int p1] : List Value).toArray below meth c H locs 0 0 (MQ below (va_Qi (fun (r : Int32) (u : MV) => (r, u) = out) (fun u t => va_P (dC, dI) vwCl (cM cyI a u) t.heap ∧ va_D A (cM cyI a u)) A) ([.ref (a 0), .int p1] : List Value).toArray s 0 0 A) (F0 m 14 ls [.int s14, .ref (a 0)]) := by
    intro s14 H locs ls hz_14_s1 hP hD hS hl hF
    have hF := (congrFun hj14 s14).symm.trans hF
    obtain ⟨o4, h5, hF⟩ := obd hF
    refine wcWVi (As := [.int s14]) (rest := []) (wr := []) (b := (a 0)) ⟨hx, hb, hml, hown, hts⟩ (met_X6_holds l dC dI cyI cyO cyL a _ N v s14 o4 h5) (cwV 1 hts (gV w_methodLink_X6_107 w_instanceMethod_X6_holds w_selects_X6_holds w_initialized_X6 w_code_X6_holds) rfl rfl rfl (by decide +kernel) ⟨Nat.le_of_ble_eq_true rfl, Nat.le_of_ble_eq_true rfl⟩) (va_recv hK.1 hP (ci := 6) (q0 := 0) rfl rfl) hP hD hK [0, 1, 2, 3, 4, 5, 6, 7] [] rfl rfl (by decide) (by decide) (by decide) rfl hl.1 (Nat.le_of_ble_eq_true rfl) dX6_stateOf_14 ⟨Nat.le_of_ble_eq_true rfl, Nat.le_of_ble_eq_true rfl⟩ hS hA (fun r u H locs hw hP hD hS => ?_)
    obtain ⟨hw, hz6⟩ := hw
    obtain rfl : r = o4.1 := congrArg Prod.fst hw
    obtain rfl : u = o4.2 := congrArg Prod.snd hw
    clear hw
    have hP : va_P (dC, dI) vwCl (cM cyI a o4.2) H := hP
    have hD : va_D A (cM cyI a o4.2) := hD
    obtain ⟨j30, hj30, hF⟩ := jn_use hF
    have hJ30 : ∀ (s30 : Int32) (H : Heap) (locs : List Loc) (ls : Array Slot), va_P (dC, dI) vwCl (cM cyI a o4.2) H → va_D A (cM cyI a o4.2) → va_S A s.heap H locs → lv_has ls 2 [] → j30 s30 = some out → W p l e (headSpec (Cond.code yX6_stateOf cX6_stateOf 2 (some .int) :: wT) ({ frames := 2, cells := 0, slots := 0, locals := 43 } : Room)).room s m ([.ref (a 0), .int p1] : List Value).toArray below meth c H locs 0 0 (MQ below (va_Qi (fun (r : Int32) (u : MV) => (r, u) = out) (fun u t => va_P (dC, dI) vwCl (cM cyI a u) t.heap ∧ va_D A (cM cyI a u)) A) ([.ref (a 0), .int p1] : List Value).toArray s 0 0 A) (F0 m 30 ls [.int s30]) := by
      intro s30 H locs ls hP hD hS hl hF
      have hF := (congrFun hj30 s30).symm.trans hF
      exact W.iret (v := s30) hx hb hr (fun t ht hW => ⟨⟨_, o4.2, rfl, Option.some.inj hF, by rw [ht]; exact hP, hD⟩, hS.F ht⟩) hS.2.2 dX6_stateOf_30
    refine lv_if_eq (tgt := 29) hx hb dX6_stateOf_17 (by decide) (fun c7 => ?_) (fun c7 => ?_)
    · have hF := itp c7 hF
      refine lv_iconst (v := 0) hx hb dX6_stateOf_29 (by decide) ?_
      exact hJ30 (0 : Int32) _ _ _ hP hD hS (lv_sub hl [] rfl) hF
    · have hF := itn c7 hF
      refine lv_aload_n hx hb dX6_stateOf_20 rfl (lv_at hl 0 rfl) ?_
      refine lv_iload_n hx hb dX6_stateOf_21 rfl (lv_at hl 1 rfl) ?_
      refine lv_iconst (v := 0) hx hb dX6_stateOf_22 (by decide) ?_
      obtain ⟨o8, h9, hF⟩ := obd hF
      refine wcRVi (As := [.int p1, .int (0 : Int32)]) (rest := []) (b := (a 0)) ⟨hx, hb, hml, hown, hts⟩ (met_X6_of l dC dI cyI cyO cyL a N o4.2 p1 (0 : Int32) o8 h9) (cwV 2 hts (gV w_methodLink_X6_42 w_instanceMethod_X6_of w_selects_X6_of w_initialized_X6 w_code_X6_of) rfl rfl rfl (by decide +kernel) ⟨Nat.le_of_ble_eq_true rfl, Nat.le_of_ble_eq_true rfl⟩) (va_recv hK.1 hP (ci := 6) (q0 := 0) rfl rfl) hP hK [0, 1, 2, 3, 4, 5, 6, 7] rfl rfl hl.1 (Nat.le_of_ble_eq_true rfl) dX6_stateOf_23 ⟨Nat.le_of_ble_eq_true rfl, Nat.le_of_ble_eq_true rfl⟩ hS (fun r H locs hw hP hS => ?_)
      have hw := hw.symm
      subst hw
      refine lv_goto (tgt := 30) hx hb dX6_stateOf_26 (by decide) ?_
      exact hJ30 o8 _ _ _ hP hD hS (lv_sub hl [] rfl) hF
  refine lv_if_eq (tgt := 13) hx hb dX6_stateOf_6 (by decide) (fun c10 => ?_) (fun c10 => ?_)
  · have hF := itp c10 hF
    refine lv_iconst (v := 1) hx hb dX6_stateOf_13 (by decide) ?_
    exact hJ14 (1 : Int32) _ _ _ b01_1 hP hD hS (lv_sub hl [0, 1] rfl) hF
  · have hF := itn c10 hF
    refine lv_iconst (v := 0) hx hb dX6_stateOf_9 (by decide) ?_
    refine lv_goto (tgt := 14) hx hb dX6_stateOf_10 (by decide) ?_
    exact hJ14 (0 : Int32) _ _ _ b01_0 hP hD hS (lv_sub hl [0, 1] rfl) hF
theorem dX6_errorOf_0 : decode cX6_errorOf 0 = .ok (.aload_n 0, 1) := by decide +kernel
theorem dX6_errorOf_1 : decode cX6_errorOf 1 = .ok (.iload_n 1, 1) := by decide +kernel
theorem dX6_errorOf_2 : decode cX6_errorOf 2 = .ok (.invokevirtual 195, 3) := by decide +kernel
theorem dX6_errorOf_5 : decode cX6_errorOf 5 = .ok (.ifCond .ne 7, 3) := by decide +kernel
theorem dX6_errorOf_8 : decode cX6_errorOf 8 = .ok (.iconst 1, 1) := by decide +kernel
theorem dX6_errorOf_9 : decode cX6_errorOf 9 = .ok (.goto 18, 3) := by decide +kernel
theorem dX6_errorOf_12 : decode cX6_errorOf 12 = .ok (.aload_n 0, 1) := by decide +kernel
theorem dX6_errorOf_13 : decode cX6_errorOf 13 = .ok (.iload_n 1, 1) := by decide +kernel
theorem dX6_errorOf_14 : decode cX6_errorOf 14 = .ok (.iconst 0, 1) := by decide +kernel
theorem dX6_errorOf_15 : decode cX6_errorOf 15 = .ok (.invokevirtual 42, 3) := by decide +kernel
theorem dX6_errorOf_18 : decode cX6_errorOf 18 = .ok (.iconst 2, 1) := by decide +kernel
theorem dX6_errorOf_19 : decode cX6_errorOf 19 = .ok (.if_icmp .ne 7, 3) := by decide +kernel
theorem dX6_errorOf_22 : decode cX6_errorOf 22 = .ok (.iconst 2, 1) := by decide +kernel
theorem dX6_errorOf_23 : decode cX6_errorOf 23 = .ok (.goto 4, 3) := by decide +kernel
theorem dX6_errorOf_26 : decode cX6_errorOf 26 = .ok (.iconst 0, 1) := by decide +kernel
theorem dX6_errorOf_27 : decode cX6_errorOf 27 = .ok (.ireturn, 1) := by decide +kernel
def f_X6_errorOf (N : Nat) (v : MV) (p1 : Int32) : Option (Int32) :=
  (f_X6_isBowl N v p1).bind (fun o1 => jn (fun (s27 : Int32) => some s27) (fun (j27 : (Int32) → Option (Int32)) => (if o1 = 0 then j27 (1 : Int32) else (f_X6_of N v p1 (0 : Int32)).bind (fun o5 => (if o5 = (2 : Int32) then j27 (2 : Int32) else j27 (0 : Int32))))))
set_option maxHeartbeats 4000000 in
set_option maxRecDepth 100000 in
theorem met_X6_errorOf (l : Launch) (dC : Nat → ClassId) (dI : Nat → Nat → Nat) (cyI cyO cyL : ClassId) (a : Nat → Nat) (N : Nat) (v : MV) (p1 : Int32) (out : Int32) (hF : f_X6_errorOf N v p1 = some out) : Met l yX6_errorOf (Cond.code yX6_errorOf cX6_errorOf 2 (some .int) :: wT) ({ frames := 2, cells := 0, slots := 0, locals := 43 } : Room) (wRd dC dI cyI cyO cyL [.ref (a 0), .int p1] (cM cyI a v)) (va_Qi (fun (r : Int32) (_ : Unit) => r = out) (fun _ _ => True) wN0) 0 0 wN0 := by
  refine Met.ofW (cc := cX6_errorOf) (maxL := 2) (ret := (some .int)) (by decide) rfl ?_
  intro p e s m args below meth c s₁ B hml hv
  obtain ⟨rfl, hP, hK⟩ := hv
  have hx := B.exec
  have hb := B.bytes
  have hr := B.returns
  have hts0 := atoms_spec (ws := (Cond.code yX6_errorOf cX6_errorOf 2 (some .int) :: wT)) B.pre
  have hts := fun w h => hts0 w (List.mem_cons_of_mem _ h)
  clear hts0
  have hown : s.vm.findClass RX6 = some m.cls := findClass_of_methodNamed B.named
  have hlocks := B.notSynchronized
  have hS : va_S wN0 s.heap s.heap [] := va_S.rf
  have hl := lv_entry [.ref (a 0), .int p1] (n := 2) (Nat.le_of_ble_eq_true rfl)
  rw [lg_entry_eq]
  generalize (lg_sl [.ref (a 0), .int p1] ++ List.replicate (2 - (lg_sl [.ref (a 0), .int p1]).length) Slot.unset).toArray = ls at hl ⊢
  have hl : lv_has ls 2 [(0, .ref (a 0)), (1, .int p1)] := hl
  unfold f_X6_errorOf at hF
  refine lv_aload_n hx hb dX6_errorOf_0 rfl (lv_at hl 0 rfl) ?_
  refine lv_iload_n hx hb dX6_errorOf_1 rfl (lv_at hl 1 rfl) ?_
  obtain ⟨o1, h2, hF⟩ := obd hF
  refine wcRVi (As := [.int p1]) (rest := []) (b := (a 0)) ⟨hx, hb, hml, hown, hts⟩ (met_X6_isBowl l dC dI cyI cyO cyL a N v p1 o1 h2) (cwV 1 hts (gV w_methodLink_X6_195 w_instanceMethod_X6_isBowl w_selects_X6_isBowl w_initialized_X6 w_code_X6_isBowl) rfl rfl rfl (by decide +kernel) ⟨Nat.le_of_ble_eq_true rfl, Nat.le_of_ble_eq_true rfl⟩) (va_recv hK.1 hP (ci := 6) (q0 := 0) rfl rfl) hP hK [0, 1, 2, 3, 4, 5, 6, 7] rfl rfl hl.1 (Nat.le_of_ble_eq_true rfl) dX6_errorOf_2 ⟨Nat.le_of_ble_eq_true rfl, Nat.le_of_ble_eq_true rfl⟩ hS (fun r H locs hw hP hS => ?_)
  obtain ⟨hw, hz3⟩ := hw
  have hw := hw.symm
  subst hw
  obtain ⟨j27, hj27, hF⟩ := jn_use hF
  have hJ27 : ∀ (s27 : Int32) (H : Heap) (locs : List Loc) (ls : Array Slot), va_P (dC, dI) vwCl (cM cyI a v) H → va_S wN0 s.heap H locs → lv_has ls 2 [] → j27 s27 = some out → W p l e (headSpec (Cond.code yX6_errorOf cX6_errorOf 2 (some .int) :: wT) ({ frames := 2, cells := 0, slots := 0, locals := 43 } : Room)).room s m ([.ref (a 0), .int p1] : List Value).toArray below meth c H locs 0 0 (MQ below (va_Qi (fun (r : Int32) (_ : Unit) => r = out) (fun _ _ => True) wN0) ([.ref (a 0), .int p1] : List Value).toArray s 0 0 wN0) (F0 m 27 ls [.int s27]) := by
    intro s27 H locs ls hP hS hl hF
    have hF := (congrFun hj27 s27).symm.trans hF
    exact W.iret (v := s27) hx hb hr (fun t ht hW => ⟨⟨_, (), rfl, Option.some.inj hF, trivial⟩, hS.F ht⟩) hS.2.2 dX6_errorOf_27
  refine lv_if_ne (tgt := 12) hx hb dX6_errorOf_5 (by decide) (fun c4 => ?_) (fun c4 => ?_)
  · have hF := itn c4 hF
    refine lv_aload_n hx hb dX6_errorOf_12 rfl (lv_at hl 0 rfl) ?_
    refine lv_iload_n hx hb dX6_errorOf_13 rfl (lv_at hl 1 rfl) ?_
    refine lv_iconst (v := 0) hx hb dX6_errorOf_14 (by decide) ?_
    obtain ⟨o5, h6, hF⟩ := obd hF
    refine wcRVi (As := [.int p1, .int (0 : Int32)]) (rest := []) (b := (a 0)) ⟨hx, hb, hml, hown, hts⟩ (met_X6_of l dC dI cyI cyO cyL a N v p1 (0 : Int32) o5 h6) (cwV 2 hts (gV w_methodLink_X6_42 w_instanceMethod_X6_of w_selects_X6_of w_initialized_X6 w_code_X6_of) rfl rfl rfl (by decide +kernel) ⟨Nat.le_of_ble_eq_true rfl, Nat.le_of_ble_eq_true rfl⟩) (va_recv hK.1 hP (ci := 6) (q0 := 0) rfl rfl) hP hK [0, 1, 2, 3, 4, 5, 6, 7] rfl rfl hl.1 (Nat.le_of_ble_eq_true rfl) dX6_errorOf_15 ⟨Nat.le_of_ble_eq_true rfl, Nat.le_of_ble_eq_true rfl⟩ hS (fun r H locs hw hP hS => ?_)
    have hw := hw.symm
    subst hw
    refine lv_iconst (v := 2) hx hb dX6_errorOf_18 (by decide) ?_
    refine lv_icmp_ne (tgt := 26) hx hb dX6_errorOf_19 (by decide) (fun c7 => ?_) (fun c7 => ?_)
    · have hF := itn c7 hF
      refine lv_iconst (v := 0) hx hb dX6_errorOf_26 (by decide) ?_
      exact hJ27 (0 : Int32) _ _ _ hP hS (lv_sub hl [] rfl) hF
    · have hF := itp c7 hF
      refine lv_iconst (v := 2) hx hb dX6_errorOf_22 (by decide) ?_
      refine lv_goto (tgt := 27) hx hb dX6_errorOf_23 (by decide) ?_
      exact hJ27 (2 : Int32) _ _ _ hP hS (lv_sub hl [] rfl) hF
  · have hF := itp c4 hF
    refine lv_iconst (v := 1) hx hb dX6_errorOf_8 (by decide) ?_
    refine lv_goto (tgt := 27) hx hb dX6_errorOf_9 (by decide) ?_
    exact hJ27 (1 : Int32) _ _ _ hP hS (lv_sub hl [] rfl) hF
theorem dX6_rowOf_0 : decode cX6_rowOf 0 = .ok (.aload_n 0, 1) := by decide +kernel
theorem dX6_rowOf_1 : decode cX6_rowOf 1 = .ok (.aload_n 0, 1) := by decide +kernel
theorem dX6_rowOf_2 : decode cX6_rowOf 2 = .ok (.iload_n 1, 1) := by decide +kernel
theorem dX6_rowOf_3 : decode cX6_rowOf 3 = .ok (.invokevirtual 198, 3) := by decide +kernel
theorem dX6_rowOf_6 : decode cX6_rowOf 6 = .ok (.invokevirtual 107, 3) := by decide +kernel
theorem dX6_rowOf_9 : decode cX6_rowOf 9 = .ok (.ifCond .eq 12, 3) := by decide +kernel
theorem dX6_rowOf_12 : decode cX6_rowOf 12 = .ok (.aload_n 0, 1) := by decide +kernel
theorem dX6_rowOf_13 : decode cX6_rowOf 13 = .ok (.iload_n 1, 1) := by decide +kernel
theorem dX6_rowOf_14 : decode cX6_rowOf 14 = .ok (.iconst 1, 1) := by decide +kernel
theorem dX6_rowOf_15 : decode cX6_rowOf 15 = .ok (.invokevirtual 42, 3) := by decide +kernel
theorem dX6_rowOf_18 : decode cX6_rowOf 18 = .ok (.goto 4, 3) := by decide +kernel
theorem dX6_rowOf_21 : decode cX6_rowOf 21 = .ok (.iconst 0, 1) := by decide +kernel
theorem dX6_rowOf_22 : decode cX6_rowOf 22 = .ok (.ireturn, 1) := by decide +kernel
def f_X6_rowOf (N : Nat) (v : MV) (p1 : Int32) : Option (Int32 × MV) :=
  (f_X6_errorOf N v p1).bind (fun o1 => (f_X6_holds N v o1).bind (fun o3 => jn (fun (s22 : Int32) => some (s22, o3.2)) (fun (j22 : (Int32) → Option (Int32 × MV)) => (if o3.1 = 0 then j22 (0 : Int32) else (f_X6_of N o3.2 p1 (1 : Int32)).bind (fun o7 => j22 o7)))))
set_option maxHeartbeats 4000000 in
set_option maxRecDepth 100000 in
theorem met_X6_rowOf (l : Launch) (dC : Nat → ClassId) (dI : Nat → Nat → Nat) (cyI cyO cyL : ClassId) (a : Nat → Nat) (sz : Nat) (N : Nat) (v : MV) (p1 : Int32) (out : Int32 × MV) (hF : f_X6_rowOf N v p1 = some out) : Met l yX6_rowOf (Cond.code yX6_rowOf cX6_rowOf 2 (some .int) :: wT) ({ frames := 3, cells := 0, slots := 0, locals := 64 } : Room) (wWr dC dI cyI cyO cyL [.ref (a 0), .int p1] (cM cyI a v) sz) (va_Qi (fun (r : Int32) (u : MV) => (r, u) = out) (fun u t => va_P (dC, dI) vwCl (cM cyI a u) t.heap ∧ va_D (va_A (cM cyI a v) sz) (cM cyI a u)) (va_A (cM cyI a v) sz)) 0 0 (va_A (cM cyI a v) sz) := by
  refine Met.ofW (cc := cX6_rowOf) (maxL := 2) (ret := (some .int)) (by decide) rfl ?_
  intro p e s m args below meth c s₁ B hml hv
  obtain ⟨rfl, hsz, hP, hK, hD0⟩ := hv
  have hx := B.exec
  have hb := B.bytes
  have hr := B.returns
  have hts0 := atoms_spec (ws := (Cond.code yX6_rowOf cX6_rowOf 2 (some .int) :: wT)) B.pre
  have hts := fun w h => hts0 w (List.mem_cons_of_mem _ h)
  clear hts0
  have hown : s.vm.findClass RX6 = some m.cls := findClass_of_methodNamed B.named
  have hlocks := B.notSynchronized
  subst hsz
  have hD := hD0.self (sz := s.heap.size)
  generalize hAe : va_A (cM cyI a v) s.heap.size = A at hD ⊢
  have hA : ∀ q : Nat, s.heap.size ≤ q → A q := fun q h => by rw [← hAe]; exact Or.inr h
  clear hD0
  have hS : va_S A s.heap s.heap [] := va_S.rf
  have hl := lv_entry [.ref (a 0), .int p1] (n := 2) (Nat.le_of_ble_eq_true rfl)
  rw [lg_entry_eq]
  generalize (lg_sl [.ref (a 0), .int p1] ++ List.replicate (2 - (lg_sl [.ref (a 0), .int p1]).length) Slot.unset).toArray = ls at hl ⊢
  have hl : lv_has ls 2 [(0, .ref (a 0)), (1, .int p1)] := hl
  unfold f_X6_rowOf at hF
  refine lv_aload_n hx hb dX6_rowOf_0 rfl (lv_at hl 0 rfl) ?_
  refine lv_aload_n hx hb dX6_rowOf_1 rfl (lv_at hl 0 rfl) ?_
  refine lv_iload_n hx hb dX6_rowOf_2 rfl (lv_at hl 1 rfl) ?_
  obtain ⟨o1, h2, hF⟩ := obd hF
  refine wcRVi (As := [.int p1]) (rest := [.ref (a 0)]) (b := (a 0)) ⟨hx, hb, hml, hown, hts⟩ (met_X6_errorOf l dC dI cyI cyO cyL a N v p1 o1 h2) (cwV 1 hts (gV w_methodLink_X6_198 w_instanceMethod_X6_errorOf w_selects_X6_errorOf w_initialized_X6 w_code_X6_errorOf) rfl rfl rfl (by decide +kernel) ⟨Nat.le_of_ble_eq_true rfl, Nat.le_of_ble_eq_true rfl⟩) (va_recv hK.1 hP (ci := 6) (q0 := 0) rfl rfl) hP hK [0, 1, 2, 3, 4, 5, 6, 7] rfl rfl hl.1 (Nat.le_of_ble_eq_true rfl) dX6_rowOf_3 ⟨Nat.le_of_ble_eq_true rfl, Nat.le_of_ble_eq_true rfl⟩ hS (fun r H locs hw hP hS => ?_)
  have hw := hw.symm
  subst hw
  obtain ⟨o3, h4, hF⟩ := obd hF
  refine wcWVi (As := [.int o1]) (rest := []) (wr := []) (b := (a 0)) ⟨hx, hb, hml, hown, hts⟩ (met_X6_holds l dC dI cyI cyO cyL a _ N v o1 o3 h4) (cwV 1 hts (gV w_methodLink_X6_107 w_instanceMethod_X6_holds w_selects_X6_holds w_initialized_X6 w_code_X6_holds) rfl rfl rfl (by decide +kernel) ⟨Nat.le_of_ble_eq_true rfl, Nat.le_of_ble_eq_true rfl⟩) (va_recv hK.1 hP (ci := 6) (q0 := 0) rfl rfl) hP hD hK [0, 1, 2, 3, 4, 5, 6, 7] [] rfl rfl (by decide) (by decide) (by decide) rfl hl.1 (Nat.le_of_ble_eq_true rfl) dX6_rowOf_6 ⟨Nat.le_of_ble_eq_true rfl, Nat.le_of_ble_eq_true rfl⟩ hS hA (fun r u H locs hw hP hD hS => ?_)
  obtain ⟨hw, hz5⟩ := hw
  obtain rfl : r = o3.1 := congrArg Prod.fst hw
  obtain rfl : u = o3.2 := congrArg Prod.snd hw
  clear hw
  have hP : va_P (dC, dI) vwCl (cM cyI a o3.2) H := hP
  have hD : va_D A (cM cyI a o3.2) := hD
  obtain ⟨j22, hj22, hF⟩ := jn_use hF
  have hJ22 : ∀ (s22 : Int32) (H : Heap) (locs : List Loc) (ls : Array Slot), va_P (dC, dI) vwCl (cM cyI a o3.2) H → va_D A (cM cyI a o3.2) → va_S A s.heap H locs → lv_has ls 2 [] → j22 s22 = some out → W p l e (headSpec (Cond.code yX6_rowOf cX6_rowOf 2 (some .int) :: wT) ({ frames := 3, cells := 0, slots := 0, locals := 64 } : Room)).room s m ([.ref (a 0), .int p1] : List Value).toArray below meth c H locs 0 0 (MQ below (va_Qi (fun (r : Int32) (u : MV) => (r, u) = out) (fun u t => va_P (dC, dI) vwCl (cM cyI a u) t.heap ∧ va_D A (cM cyI a u)) A) ([.ref (a 0), .int p1] : List Value).toArray s 0 0 A) (F0 m 22 ls [.int s22]) := by
    intro s22 H locs ls hP hD hS hl hF
    have hF := (congrFun hj22 s22).symm.trans hF
    exact W.iret (v := s22) hx hb hr (fun t ht hW => ⟨⟨_, o3.2, rfl, Option.some.inj hF, by rw [ht]; exact hP, hD⟩, hS.F ht⟩) hS.2.2 dX6_rowOf_22
  refine lv_if_eq (tgt := 21) hx hb dX6_rowOf_9 (by decide) (fun c6 => ?_) (fun c6 => ?_)
  · have hF := itp c6 hF
    refine lv_iconst (v := 0) hx hb dX6_rowOf_21 (by decide) ?_
    exact hJ22 (0 : Int32) _ _ _ hP hD hS (lv_sub hl [] rfl) hF
  · have hF := itn c6 hF
    refine lv_aload_n hx hb dX6_rowOf_12 rfl (lv_at hl 0 rfl) ?_
    refine lv_iload_n hx hb dX6_rowOf_13 rfl (lv_at hl 1 rfl) ?_
    refine lv_iconst (v := 1) hx hb dX6_rowOf_14 (by decide) ?_
    obtain ⟨o7, h8, hF⟩ := obd hF
    refine wcRVi (As := [.int p1, .int (1 : Int32)]) (rest := []) (b := (a 0)) ⟨hx, hb, hml, hown, hts⟩ (met_X6_of l dC dI cyI cyO cyL a N o3.2 p1 (1 : Int32) o7 h8) (cwV 2 hts (gV w_methodLink_X6_42 w_instanceMethod_X6_of w_selects_X6_of w_initialized_X6 w_code_X6_of) rfl rfl rfl (by decide +kernel) ⟨Nat.le_of_ble_eq_true rfl, Nat.le_of_ble_eq_true rfl⟩) (va_recv hK.1 hP (ci := 6) (q0 := 0) rfl rfl) hP hK [0, 1, 2, 3, 4, 5, 6, 7] rfl rfl hl.1 (Nat.le_of_ble_eq_true rfl) dX6_rowOf_15 ⟨Nat.le_of_ble_eq_true rfl, Nat.le_of_ble_eq_true rfl⟩ hS (fun r H locs hw hP hS => ?_)
    have hw := hw.symm
    subst hw
    refine lv_goto (tgt := 22) hx hb dX6_rowOf_18 (by decide) ?_
    exact hJ22 o7 _ _ _ hP hD hS (lv_sub hl [] rfl) hF
theorem dX6_columnOf_0 : decode cX6_columnOf 0 = .ok (.aload_n 0, 1) := by decide +kernel
theorem dX6_columnOf_1 : decode cX6_columnOf 1 = .ok (.aload_n 0, 1) := by decide +kernel
theorem dX6_columnOf_2 : decode cX6_columnOf 2 = .ok (.iload_n 1, 1) := by decide +kernel
theorem dX6_columnOf_3 : decode cX6_columnOf 3 = .ok (.invokevirtual 198, 3) := by decide +kernel
theorem dX6_columnOf_6 : decode cX6_columnOf 6 = .ok (.invokevirtual 107, 3) := by decide +kernel
theorem dX6_columnOf_9 : decode cX6_columnOf 9 = .ok (.ifCond .eq 12, 3) := by decide +kernel
theorem dX6_columnOf_12 : decode cX6_columnOf 12 = .ok (.aload_n 0, 1) := by decide +kernel
theorem dX6_columnOf_13 : decode cX6_columnOf 13 = .ok (.iload_n 1, 1) := by decide +kernel
theorem dX6_columnOf_14 : decode cX6_columnOf 14 = .ok (.iconst 2, 1) := by decide +kernel
theorem dX6_columnOf_15 : decode cX6_columnOf 15 = .ok (.invokevirtual 42, 3) := by decide +kernel
theorem dX6_columnOf_18 : decode cX6_columnOf 18 = .ok (.goto 4, 3) := by decide +kernel
theorem dX6_columnOf_21 : decode cX6_columnOf 21 = .ok (.iconst 0, 1) := by decide +kernel
theorem dX6_columnOf_22 : decode cX6_columnOf 22 = .ok (.ireturn, 1) := by decide +kernel
def f_X6_columnOf (N : Nat) (v : MV) (p1 : Int32) : Option (Int32 × MV) :=
  (f_X6_errorOf N v p1).bind (fun o1 => (f_X6_holds N v o1).bind (fun o3 => jn (fun (s22 : Int32) => some (s22, o3.2)) (fun (j22 : (Int32) → Option (Int32 × MV)) => (if o3.1 = 0 then j22 (0 : Int32) else (f_X6_of N o3.2 p1 (2 : Int32)).bind (fun o7 => j22 o7)))))
set_option maxHeartbeats 4000000 in
set_option maxRecDepth 100000 in
theorem met_X6_columnOf (l : Launch) (dC : Nat → ClassId) (dI : Nat → Nat → Nat) (cyI cyO cyL : ClassId) (a : Nat → Nat) (sz : Nat) (N : Nat) (v : MV) (p1 : Int32) (out : Int32 × MV) (hF : f_X6_columnOf N v p1 = some out) : Met l yX6_columnOf (Cond.code yX6_columnOf cX6_columnOf 2 (some .int) :: wT) ({ frames := 3, cells := 0, slots := 0, locals := 64 } : Room) (wWr dC dI cyI cyO cyL [.ref (a 0), .int p1] (cM cyI a v) sz) (va_Qi (fun (r : Int32) (u : MV) => (r, u) = out) (fun u t => va_P (dC, dI) vwCl (cM cyI a u) t.heap ∧ va_D (va_A (cM cyI a v) sz) (cM cyI a u)) (va_A (cM cyI a v) sz)) 0 0 (va_A (cM cyI a v) sz) := by
  refine Met.ofW (cc := cX6_columnOf) (maxL := 2) (ret := (some .int)) (by decide) rfl ?_
  intro p e s m args below meth c s₁ B hml hv
  obtain ⟨rfl, hsz, hP, hK, hD0⟩ := hv
  have hx := B.exec
  have hb := B.bytes
  have hr := B.returns
  have hts0 := atoms_spec (ws := (Cond.code yX6_columnOf cX6_columnOf 2 (some .int) :: wT)) B.pre
  have hts := fun w h => hts0 w (List.mem_cons_of_mem _ h)
  clear hts0
  have hown : s.vm.findClass RX6 = some m.cls := findClass_of_methodNamed B.named
  have hlocks := B.notSynchronized
  subst hsz
  have hD := hD0.self (sz := s.heap.size)
  generalize hAe : va_A (cM cyI a v) s.heap.size = A at hD ⊢
  have hA : ∀ q : Nat, s.heap.size ≤ q → A q := fun q h => by rw [← hAe]; exact Or.inr h
  clear hD0
  have hS : va_S A s.heap s.heap [] := va_S.rf
  have hl := lv_entry [.ref (a 0), .int p1] (n := 2) (Nat.le_of_ble_eq_true rfl)
  rw [lg_entry_eq]
  generalize (lg_sl [.ref (a 0), .int p1] ++ List.replicate (2 - (lg_sl [.ref (a 0), .int p1]).length) Slot.unset).toArray = ls at hl ⊢
  have hl : lv_has ls 2 [(0, .ref (a 0)), (1, .int p1)] := hl
  unfold f_X6_columnOf at hF
  refine lv_aload_n hx hb dX6_columnOf_0 rfl (lv_at hl 0 rfl) ?_
  refine lv_aload_n hx hb dX6_columnOf_1 rfl (lv_at hl 0 rfl) ?_
  refine lv_iload_n hx hb dX6_columnOf_2 rfl (lv_at hl 1 rfl) ?_
  obtain ⟨o1, h2, hF⟩ := obd hF
  refine wcRVi (As := [.int p1]) (rest := [.ref (a 0)]) (b := (a 0)) ⟨hx, hb, hml, hown, hts⟩ (met_X6_errorOf l dC dI cyI cyO cyL a N v p1 o1 h2) (cwV 1 hts (gV w_methodLink_X6_198 w_instanceMethod_X6_errorOf w_selects_X6_errorOf w_initialized_X6 w_code_X6_errorOf) rfl rfl rfl (by decide +kernel) ⟨Nat.le_of_ble_eq_true rfl, Nat.le_of_ble_eq_true rfl⟩) (va_recv hK.1 hP (ci := 6) (q0 := 0) rfl rfl) hP hK [0, 1, 2, 3, 4, 5, 6, 7] rfl rfl hl.1 (Nat.le_of_ble_eq_true rfl) dX6_columnOf_3 ⟨Nat.le_of_ble_eq_true rfl, Nat.le_of_ble_eq_true rfl⟩ hS (fun r H locs hw hP hS => ?_)
  have hw := hw.symm
  subst hw
  obtain ⟨o3, h4, hF⟩ := obd hF
  refine wcWVi (As := [.int o1]) (rest := []) (wr := []) (b := (a 0)) ⟨hx, hb, hml, hown, hts⟩ (met_X6_holds l dC dI cyI cyO cyL a _ N v o1 o3 h4) (cwV 1 hts (gV w_methodLink_X6_107 w_instanceMethod_X6_holds w_selects_X6_holds w_initialized_X6 w_code_X6_holds) rfl rfl rfl (by decide +kernel) ⟨Nat.le_of_ble_eq_true rfl, Nat.le_of_ble_eq_true rfl⟩) (va_recv hK.1 hP (ci := 6) (q0 := 0) rfl rfl) hP hD hK [0, 1, 2, 3, 4, 5, 6, 7] [] rfl rfl (by decide) (by decide) (by decide) rfl hl.1 (Nat.le_of_ble_eq_true rfl) dX6_columnOf_6 ⟨Nat.le_of_ble_eq_true rfl, Nat.le_of_ble_eq_true rfl⟩ hS hA (fun r u H locs hw hP hD hS => ?_)
  obtain ⟨hw, hz5⟩ := hw
  obtain rfl : r = o3.1 := congrArg Prod.fst hw
  obtain rfl : u = o3.2 := congrArg Prod.snd hw
  clear hw
  have hP : va_P (dC, dI) vwCl (cM cyI a o3.2) H := hP
  have hD : va_D A (cM cyI a o3.2) := hD
  obtain ⟨j22, hj22, hF⟩ := jn_use hF
  have hJ22 : ∀ (s22 : Int32) (H : Heap) (locs : List Loc) (ls : Array Slot), va_P (dC, dI) vwCl (cM cyI a o3.2) H → va_D A (cM cyI a o3.2) → va_S A s.heap H locs → lv_has ls 2 [] → j22 s22 = some out → W p l e (headSpec (Cond.code yX6_columnOf cX6_columnOf 2 (some .int) :: wT) ({ frames := 3, cells := 0, slots := 0, locals := 64 } : Room)).room s m ([.ref (a 0), .int p1] : List Value).toArray below meth c H locs 0 0 (MQ below (va_Qi (fun (r : Int32) (u : MV) => (r, u) = out) (fun u t => va_P (dC, dI) vwCl (cM cyI a u) t.heap ∧ va_D A (cM cyI a u)) A) ([.ref (a 0), .int p1] : List Value).toArray s 0 0 A) (F0 m 22 ls [.int s22]) := by
    intro s22 H locs ls hP hD hS hl hF
    have hF := (congrFun hj22 s22).symm.trans hF
    exact W.iret (v := s22) hx hb hr (fun t ht hW => ⟨⟨_, o3.2, rfl, Option.some.inj hF, by rw [ht]; exact hP, hD⟩, hS.F ht⟩) hS.2.2 dX6_columnOf_22
  refine lv_if_eq (tgt := 21) hx hb dX6_columnOf_9 (by decide) (fun c6 => ?_) (fun c6 => ?_)
  · have hF := itp c6 hF
    refine lv_iconst (v := 0) hx hb dX6_columnOf_21 (by decide) ?_
    exact hJ22 (0 : Int32) _ _ _ hP hD hS (lv_sub hl [] rfl) hF
  · have hF := itn c6 hF
    refine lv_aload_n hx hb dX6_columnOf_12 rfl (lv_at hl 0 rfl) ?_
    refine lv_iload_n hx hb dX6_columnOf_13 rfl (lv_at hl 1 rfl) ?_
    refine lv_iconst (v := 2) hx hb dX6_columnOf_14 (by decide) ?_
    obtain ⟨o7, h8, hF⟩ := obd hF
    refine wcRVi (As := [.int p1, .int (2 : Int32)]) (rest := []) (b := (a 0)) ⟨hx, hb, hml, hown, hts⟩ (met_X6_of l dC dI cyI cyO cyL a N o3.2 p1 (2 : Int32) o7 h8) (cwV 2 hts (gV w_methodLink_X6_42 w_instanceMethod_X6_of w_selects_X6_of w_initialized_X6 w_code_X6_of) rfl rfl rfl (by decide +kernel) ⟨Nat.le_of_ble_eq_true rfl, Nat.le_of_ble_eq_true rfl⟩) (va_recv hK.1 hP (ci := 6) (q0 := 0) rfl rfl) hP hK [0, 1, 2, 3, 4, 5, 6, 7] rfl rfl hl.1 (Nat.le_of_ble_eq_true rfl) dX6_columnOf_15 ⟨Nat.le_of_ble_eq_true rfl, Nat.le_of_ble_eq_true rfl⟩ hS (fun r H locs hw hP hS => ?_)
    have hw := hw.symm
    subst hw
    refine lv_goto (tgt := 22) hx hb dX6_columnOf_18 (by decide) ?_
    exact hJ22 o7 _ _ _ hP hD hS (lv_sub hl [] rfl) hF
theorem dX6_isToucher_0 : decode cX6_isToucher 0 = .ok (.aload_n 0, 1) := by decide +kernel
theorem dX6_isToucher_1 : decode cX6_isToucher 1 = .ok (.aload_n 0, 1) := by decide +kernel
theorem dX6_isToucher_2 : decode cX6_isToucher 2 = .ok (.iload_n 1, 1) := by decide +kernel
theorem dX6_isToucher_3 : decode cX6_isToucher 3 = .ok (.invokevirtual 195, 3) := by decide +kernel
theorem dX6_isToucher_6 : decode cX6_isToucher 6 = .ok (.ifCond .eq 7, 3) := by decide +kernel
theorem dX6_isToucher_9 : decode cX6_isToucher 9 = .ok (.iconst 0, 1) := by decide +kernel
theorem dX6_isToucher_10 : decode cX6_isToucher 10 = .ok (.goto 4, 3) := by decide +kernel
theorem dX6_isToucher_13 : decode cX6_isToucher 13 = .ok (.iconst 1, 1) := by decide +kernel
theorem dX6_isToucher_14 : decode cX6_isToucher 14 = .ok (.invokevirtual 107, 3) := by decide +kernel
theorem dX6_isToucher_17 : decode cX6_isToucher 17 = .ok (.ifCond .eq 17, 3) := by decide +kernel
theorem dX6_isToucher_20 : decode cX6_isToucher 20 = .ok (.aload_n 0, 1) := by decide +kernel
theorem dX6_isToucher_21 : decode cX6_isToucher 21 = .ok (.iload_n 1, 1) := by decide +kernel
theorem dX6_isToucher_22 : decode cX6_isToucher 22 = .ok (.iconst 3, 1) := by decide +kernel
theorem dX6_isToucher_23 : decode cX6_isToucher 23 = .ok (.invokevirtual 42, 3) := by decide +kernel
theorem dX6_isToucher_26 : decode cX6_isToucher 26 = .ok (.iconst 1, 1) := by decide +kernel
theorem dX6_isToucher_27 : decode cX6_isToucher 27 = .ok (.if_icmp .ne 7, 3) := by decide +kernel
theorem dX6_isToucher_30 : decode cX6_isToucher 30 = .ok (.iconst 1, 1) := by decide +kernel
theorem dX6_isToucher_31 : decode cX6_isToucher 31 = .ok (.goto 4, 3) := by decide +kernel
theorem dX6_isToucher_34 : decode cX6_isToucher 34 = .ok (.iconst 0, 1) := by decide +kernel
theorem dX6_isToucher_35 : decode cX6_isToucher 35 = .ok (.ireturn, 1) := by decide +kernel
def f_X6_isToucher (N : Nat) (v : MV) (p1 : Int32) : Option (Int32 × MV) :=
  (f_X6_isBowl N v p1).bind (fun o1 => jn (fun (s14 : Int32) => (f_X6_holds N v s14).bind (fun o4 => jn (fun (s35 : Int32) => some (s35, o4.2)) (fun (j35 : (Int32) → Option (Int32 × MV)) => jn (fun (s34 : Unit) => j35 (0 : Int32)) (fun (j34 : (Unit) → Option (Int32 × MV)) => (if o4.1 = 0 then j34 () else (f_X6_of N o4.2 p1 (3 : Int32)).bind (fun o8 => (if o8 = (1 : Int32) then j35 (1 : Int32) else j34 ()))))))) (fun (j14 : (Int32) → Option (Int32 × MV)) => (if o1 = 0 then j14 (1 : Int32) else j14 (0 : Int32))))
set_option maxHeartbeats 4000000 in
set_option maxRecDepth 100000 in
theorem met_X6_isToucher (l : Launch) (dC : Nat → ClassId) (dI : Nat → Nat → Nat) (cyI cyO cyL : ClassId) (a : Nat → Nat) (sz : Nat) (N : Nat) (v : MV) (p1 : Int32) (out : Int32 × MV) (hF : f_X6_isToucher N v p1 = some out) : Met l yX6_isToucher (Cond.code yX6_isToucher cX6_isToucher 2 (some .boolean) :: wT) ({ frames := 2, cells := 0, slots := 0, locals := 43 } : Room) (wWr dC dI cyI cyO cyL [.ref (a 0), .int p1] (cM cyI a v) sz) (va_Qi (fun (r : Int32) (u : MV) => (r, u) = out ∧ b01 r) (fun u t => va_P (dC, dI) vwCl (cM cyI a u) t.heap ∧ va_D (va_A (cM cyI a v) sz) (cM cyI a u)) (va_A (cM cyI a v) sz)) 0 0 (va_A (cM cyI a v) sz) := by
  refine Met.ofW (cc := cX6_isToucher) (maxL := 2) (ret := (some .boolean)) (by decide) rfl ?_
  intro p e s m args below meth c s₁ B hml hv
  obtain ⟨rfl, hsz, hP, hK, hD0⟩ := hv
  have hx := B.exec
  have hb := B.bytes
  have hr := B.returns
  have hts0 := atoms_spec (ws := (Cond.code yX6_isToucher cX6_isToucher 2 (some .boolean) :: wT)) B.pre
  have hts := fun w h => hts0 w (List.mem_cons_of_mem _ h)
  clear hts0
  have hown : s.vm.findClass RX6 = some m.cls := findClass_of_methodNamed B.named
  have hlocks := B.notSynchronized
  subst hsz
  have hD := hD0.self (sz := s.heap.size)
  generalize hAe : va_A (cM cyI a v) s.heap.size = A at hD ⊢
  have hA : ∀ q : Nat, s.heap.size ≤ q → A q := fun q h => by rw [← hAe]; exact Or.inr h
  clear hD0
  have hS : va_S A s.heap s.heap [] := va_S.rf
  have hl := lv_entry [.ref (a 0), .int p1] (n := 2) (Nat.le_of_ble_eq_true rfl)
  rw [lg_entry_eq]
  generalize (lg_sl [.ref (a 0), .int p1] ++ List.replicate (2 - (lg_sl [.ref (a 0), .int p1]).length) Slot.unset).toArray = ls at hl ⊢
  have hl : lv_has ls 2 [(0, .ref (a 0)), (1, .int p1)] := hl
  unfold f_X6_isToucher at hF
  refine lv_aload_n hx hb dX6_isToucher_0 rfl (lv_at hl 0 rfl) ?_
  refine lv_aload_n hx hb dX6_isToucher_1 rfl (lv_at hl 0 rfl) ?_
  refine lv_iload_n hx hb dX6_isToucher_2 rfl (lv_at hl 1 rfl) ?_
  obtain ⟨o1, h2, hF⟩ := obd hF
  refine wcRVi (As := [.int p1]) (rest := [.ref (a 0)]) (b := (a 0)) ⟨hx, hb, hml, hown, hts⟩ (met_X6_isBowl l dC dI cyI cyO cyL a N v p1 o1 h2) (cwV 1 hts (gV w_methodLink_X6_195 w_instanceMethod_X6_isBowl w_selects_X6_isBowl w_initialized_X6 w_code_X6_isBowl) rfl rfl rfl (by decide +kernel) ⟨Nat.le_of_ble_eq_true rfl, Nat.le_of_ble_eq_true rfl⟩) (va_recv hK.1 hP (ci := 6) (q0 := 0) rfl rfl) hP hK [0, 1, 2, 3, 4, 5, 6, 7] rfl rfl hl.1 (Nat.le_of_ble_eq_true rfl) dX6_isToucher_3 ⟨Nat.le_of_ble_eq_true rfl, Nat.le_of_ble_eq_true rfl⟩ hS (fun r H locs hw hP hS => ?_)
  obtain ⟨hw, hz3⟩ := hw
  have hw := hw.symm
  subst hw
  obtain ⟨j14, hj14, hF⟩ := jn_use hF
  have hJ14 : ∀ (s14 : Int32) (H : Heap) (locs : List Loc) (ls : Array Slot) (hz_14_s1 : b01 s14), va_P (dC, dI) vwCl (cM cyI a v) H → va_D A (cM cyI a v) → va_S A s.heap H locs → lv_has ls 2 [(0, .ref (a 0)), (1, .int p1)] → j14 s14 = some out → W p l e (headSpec (Cond.code yX6_isToucher cX6_isToucher 2 (some .boolean) :: wT) ({ frames := 2, cells := 0, slots := 0, locals := 43 } : Room)).room s m ([.ref (a 0), .int p1] : List Value).toArray below meth c H locs 0 0 (MQ below (va_Qi (fun (r : Int32) (u : MV) => (r, u) = out ∧ b01 r) (fun u t => va_P (dC, dI) vwCl (cM cyI a u) t.heap ∧ va_D A (cM cyI a u)) A) ([.ref (a 0), .int p1] : List Value).toArray s 0 0 A) (F0 m 14 ls [.int s14, .ref (a 0)]) := by
    intro s14 H locs ls hz_14_s1 hP hD hS hl hF
    have hF := (congrFun hj14 s14).symm.trans hF
    obtain ⟨o4, h5, hF⟩ := obd hF
    refine wcWVi (As := [.int s14]) (rest := []) (wr := []) (b := (a 0)) ⟨hx, hb, hml, hown, hts⟩ (met_X6_holds l dC dI cyI cyO cyL a _ N v s14 o4 h5) (cwV 1 hts (gV w_methodLink_X6_107 w_instanceMethod_X6_holds w_selects_X6_holds w_initialized_X6 w_code_X6_holds) rfl rfl rfl (by decide +kernel) ⟨Nat.le_of_ble_eq_true rfl, Nat.le_of_ble_eq_true rfl⟩) (va_recv hK.1 hP (ci := 6) (q0 := 0) rfl rfl) hP hD hK [0, 1, 2, 3, 4, 5, 6, 7] [] rfl rfl (by decide) (by decide) (by decide) rfl hl.1 (Nat.le_of_ble_eq_true rfl) dX6_isToucher_14 ⟨Nat.le_of_ble_eq_true rfl, Nat.le_of_ble_eq_true rfl⟩ hS hA (fun r u H locs hw hP hD hS => ?_)
    obtain ⟨hw, hz6⟩ := hw
    obtain rfl : r = o4.1 := congrArg Prod.fst hw
    obtain rfl : u = o4.2 := congrArg Prod.snd hw
    clear hw
    have hP : va_P (dC, dI) vwCl (cM cyI a o4.2) H := hP
    have hD : va_D A (cM cyI a o4.2) := hD
    obtain ⟨j35, hj35, hF⟩ := jn_use hF
    have hJ35 : ∀ (s35 : Int32) (H : Heap) (locs : List Loc) (ls : Array Slot) (hz_35_s0 : b01 s35), va_P (dC, dI) vwCl (cM cyI a o4.2) H → va_D A (cM cyI a o4.2) → va_S A s.heap H locs → lv_has ls 2 [] → j35 s35 = some out → W p l e (headSpec (Cond.code yX6_isToucher cX6_isToucher 2 (some .boolean) :: wT) ({ frames := 2, cells := 0, slots := 0, locals := 43 } : Room)).room s m ([.ref (a 0), .int p1] : List Value).toArray below meth c H locs 0 0 (MQ below (va_Qi (fun (r : Int32) (u : MV) => (r, u) = out ∧ b01 r) (fun u t => va_P (dC, dI) vwCl (cM cyI a u) t.heap ∧ va_D A (cM cyI a u)) A) ([.ref (a 0), .int p1] : List Value).toArray s 0 0 A) (F0 m 35 ls [.int s35]) := by
      intro s35 H locs ls hz_35_s0 hP hD hS hl hF
      have hF := (congrFun hj35 s35).symm.trans hF
      exact W.zret (ty := .boolean) (v := s35) hx hb hr (b01_n hz_35_s0) (fun t ht hW => ⟨⟨_, o4.2, rfl, ⟨Option.some.inj hF, hz_35_s0⟩, by rw [ht]; exact hP, hD⟩, hS.F ht⟩) hS.2.2 dX6_isToucher_35
    obtain ⟨j34, hj34, hF⟩ := jn_use hF
    have hJ34 : ∀ (s34 : Unit) (H : Heap) (locs : List Loc) (ls : Array Slot), va_P (dC, dI) vwCl (cM cyI a o4.2) H → va_D A (cM cyI a o4.2) → va_S A s.heap H locs → lv_has ls 2 [] → j34 s34 = some out → W p l e (headSpec (Cond.code yX6_isToucher cX6_isToucher 2 (some .boolean) :: wT) ({ frames := 2, cells := 0, slots := 0, locals := 43 } : Room)).room s m ([.ref (a 0), .int p1] : List Value).toArray below meth c H locs 0 0 (MQ below (va_Qi (fun (r : Int32) (u : MV) => (r, u) = out ∧ b01 r) (fun u t => va_P (dC, dI) vwCl (cM cyI a u) t.heap ∧ va_D A (cM cyI a u)) A) ([.ref (a 0), .int p1] : List Value).toArray s 0 0 A) (F0 m 34 ls []) := by
      intro s34 H locs ls hP hD hS hl hF
      have hF := (congrFun hj34 s34).symm.trans hF
      refine lv_iconst (v := 0) hx hb dX6_isToucher_34 (by decide) ?_
      exact hJ35 (0 : Int32) _ _ _ b01_0 hP hD hS (lv_sub hl [] rfl) hF
    refine lv_if_eq (tgt := 34) hx hb dX6_isToucher_17 (by decide) (fun c7 => ?_) (fun c7 => ?_)
    · have hF := itp c7 hF
      exact hJ34 () _ _ _ hP hD hS (lv_sub hl [] rfl) hF
    · have hF := itn c7 hF
      refine lv_aload_n hx hb dX6_isToucher_20 rfl (lv_at hl 0 rfl) ?_
      refine lv_iload_n hx hb dX6_isToucher_21 rfl (lv_at hl 1 rfl) ?_
      refine lv_iconst (v := 3) hx hb dX6_isToucher_22 (by decide) ?_
      obtain ⟨o8, h9, hF⟩ := obd hF
      refine wcRVi (As := [.int p1, .int (3 : Int32)]) (rest := []) (b := (a 0)) ⟨hx, hb, hml, hown, hts⟩ (met_X6_of l dC dI cyI cyO cyL a N o4.2 p1 (3 : Int32) o8 h9) (cwV 2 hts (gV w_methodLink_X6_42 w_instanceMethod_X6_of w_selects_X6_of w_initialized_X6 w_code_X6_of) rfl rfl rfl (by decide +kernel) ⟨Nat.le_of_ble_eq_true rfl, Nat.le_of_ble_eq_true rfl⟩) (va_recv hK.1 hP (ci := 6) (q0 := 0) rfl rfl) hP hK [0, 1, 2, 3, 4, 5, 6, 7] rfl rfl hl.1 (Nat.le_of_ble_eq_true rfl) dX6_isToucher_23 ⟨Nat.le_of_ble_eq_true rfl, Nat.le_of_ble_eq_true rfl⟩ hS (fun r H locs hw hP hS => ?_)
      have hw := hw.symm
      subst hw
      refine lv_iconst (v := 1) hx hb dX6_isToucher_26 (by decide) ?_
      refine lv_icmp_ne (tgt := 34) hx hb dX6_isToucher_27 (by decide) (fun c10 => ?_) (fun c10 => ?_)
      · have hF := itn c10 hF
        exact hJ34 () _ _ _ hP hD hS (lv_sub hl [] rfl) hF
      · have hF := itp c10 hF
        refine lv_iconst (v := 1) hx hb dX6_isToucher_30 (by decide) ?_
        refine lv_goto (tgt := 35) hx hb dX6_isToucher_31 (by decide) ?_
        exact hJ35 (1 : Int32) _ _ _ b01_1 hP hD hS (lv_sub hl [] rfl) hF
  refine lv_if_eq (tgt := 13) hx hb dX6_isToucher_6 (by decide) (fun c11 => ?_) (fun c11 => ?_)
  · have hF := itp c11 hF
    refine lv_iconst (v := 1) hx hb dX6_isToucher_13 (by decide) ?_
    exact hJ14 (1 : Int32) _ _ _ b01_1 hP hD hS (lv_sub hl [0, 1] rfl) hF
  · have hF := itn c11 hF
    refine lv_iconst (v := 0) hx hb dX6_isToucher_9 (by decide) ?_
    refine lv_goto (tgt := 14) hx hb dX6_isToucher_10 (by decide) ?_
    exact hJ14 (0 : Int32) _ _ _ b01_0 hP hD hS (lv_sub hl [0, 1] rfl) hF
theorem dX6_distanceOf_0 : decode cX6_distanceOf 0 = .ok (.aload_n 0, 1) := by decide +kernel
theorem dX6_distanceOf_1 : decode cX6_distanceOf 1 = .ok (.aload_n 0, 1) := by decide +kernel
theorem dX6_distanceOf_2 : decode cX6_distanceOf 2 = .ok (.iload_n 1, 1) := by decide +kernel
theorem dX6_distanceOf_3 : decode cX6_distanceOf 3 = .ok (.invokevirtual 198, 3) := by decide +kernel
theorem dX6_distanceOf_6 : decode cX6_distanceOf 6 = .ok (.invokevirtual 107, 3) := by decide +kernel
theorem dX6_distanceOf_9 : decode cX6_distanceOf 9 = .ok (.ifCond .eq 11, 3) := by decide +kernel
theorem dX6_distanceOf_12 : decode cX6_distanceOf 12 = .ok (.aload_n 0, 1) := by decide +kernel
theorem dX6_distanceOf_13 : decode cX6_distanceOf 13 = .ok (.iload_n 1, 1) := by decide +kernel
theorem dX6_distanceOf_14 : decode cX6_distanceOf 14 = .ok (.invokevirtual 81, 3) := by decide +kernel
theorem dX6_distanceOf_17 : decode cX6_distanceOf 17 = .ok (.goto 4, 3) := by decide +kernel
theorem dX6_distanceOf_20 : decode cX6_distanceOf 20 = .ok (.iconst 0, 1) := by decide +kernel
theorem dX6_distanceOf_21 : decode cX6_distanceOf 21 = .ok (.ireturn, 1) := by decide +kernel
def f_X6_distanceOf (N : Nat) (v : MV) (p1 : Int32) : Option (Int32 × MV) :=
  (f_X6_errorOf N v p1).bind (fun o1 => (f_X6_holds N v o1).bind (fun o3 => jn (fun (s21 : Int32) => some (s21, o3.2)) (fun (j21 : (Int32) → Option (Int32 × MV)) => (if o3.1 = 0 then j21 (0 : Int32) else (f_X6_distance N o3.2 p1).bind (fun o7 => j21 o7)))))
set_option maxHeartbeats 4000000 in
set_option maxRecDepth 100000 in
theorem met_X6_distanceOf (l : Launch) (dC : Nat → ClassId) (dI : Nat → Nat → Nat) (cyI cyO cyL : ClassId) (a : Nat → Nat) (sz : Nat) (N : Nat) (v : MV) (p1 : Int32) (out : Int32 × MV) (hF : f_X6_distanceOf N v p1 = some out) : Met l yX6_distanceOf (Cond.code yX6_distanceOf cX6_distanceOf 2 (some .int) :: wT) ({ frames := 3, cells := 0, slots := 0, locals := 64 } : Room) (wWr dC dI cyI cyO cyL [.ref (a 0), .int p1] (cM cyI a v) sz) (va_Qi (fun (r : Int32) (u : MV) => (r, u) = out) (fun u t => va_P (dC, dI) vwCl (cM cyI a u) t.heap ∧ va_D (va_A (cM cyI a v) sz) (cM cyI a u)) (va_A (cM cyI a v) sz)) 0 0 (va_A (cM cyI a v) sz) := by
  refine Met.ofW (cc := cX6_distanceOf) (maxL := 2) (ret := (some .int)) (by decide) rfl ?_
  intro p e s m args below meth c s₁ B hml hv
  obtain ⟨rfl, hsz, hP, hK, hD0⟩ := hv
  have hx := B.exec
  have hb := B.bytes
  have hr := B.returns
  have hts0 := atoms_spec (ws := (Cond.code yX6_distanceOf cX6_distanceOf 2 (some .int) :: wT)) B.pre
  have hts := fun w h => hts0 w (List.mem_cons_of_mem _ h)
  clear hts0
  have hown : s.vm.findClass RX6 = some m.cls := findClass_of_methodNamed B.named
  have hlocks := B.notSynchronized
  subst hsz
  have hD := hD0.self (sz := s.heap.size)
  generalize hAe : va_A (cM cyI a v) s.heap.size = A at hD ⊢
  have hA : ∀ q : Nat, s.heap.size ≤ q → A q := fun q h => by rw [← hAe]; exact Or.inr h
  clear hD0
  have hS : va_S A s.heap s.heap [] := va_S.rf
  have hl := lv_entry [.ref (a 0), .int p1] (n := 2) (Nat.le_of_ble_eq_true rfl)
  rw [lg_entry_eq]
  generalize (lg_sl [.ref (a 0), .int p1] ++ List.replicate (2 - (lg_sl [.ref (a 0), .int p1]).length) Slot.unset).toArray = ls at hl ⊢
  have hl : lv_has ls 2 [(0, .ref (a 0)), (1, .int p1)] := hl
  unfold f_X6_distanceOf at hF
  refine lv_aload_n hx hb dX6_distanceOf_0 rfl (lv_at hl 0 rfl) ?_
  refine lv_aload_n hx hb dX6_distanceOf_1 rfl (lv_at hl 0 rfl) ?_
  refine lv_iload_n hx hb dX6_distanceOf_2 rfl (lv_at hl 1 rfl) ?_
  obtain ⟨o1, h2, hF⟩ := obd hF
  refine wcRVi (As := [.int p1]) (rest := [.ref (a 0)]) (b := (a 0)) ⟨hx, hb, hml, hown, hts⟩ (met_X6_errorOf l dC dI cyI cyO cyL a N v p1 o1 h2) (cwV 1 hts (gV w_methodLink_X6_198 w_instanceMethod_X6_errorOf w_selects_X6_errorOf w_initialized_X6 w_code_X6_errorOf) rfl rfl rfl (by decide +kernel) ⟨Nat.le_of_ble_eq_true rfl, Nat.le_of_ble_eq_true rfl⟩) (va_recv hK.1 hP (ci := 6) (q0 := 0) rfl rfl) hP hK [0, 1, 2, 3, 4, 5, 6, 7] rfl rfl hl.1 (Nat.le_of_ble_eq_true rfl) dX6_distanceOf_3 ⟨Nat.le_of_ble_eq_true rfl, Nat.le_of_ble_eq_true rfl⟩ hS (fun r H locs hw hP hS => ?_)
  have hw := hw.symm
  subst hw
  obtain ⟨o3, h4, hF⟩ := obd hF
  refine wcWVi (As := [.int o1]) (rest := []) (wr := []) (b := (a 0)) ⟨hx, hb, hml, hown, hts⟩ (met_X6_holds l dC dI cyI cyO cyL a _ N v o1 o3 h4) (cwV 1 hts (gV w_methodLink_X6_107 w_instanceMethod_X6_holds w_selects_X6_holds w_initialized_X6 w_code_X6_holds) rfl rfl rfl (by decide +kernel) ⟨Nat.le_of_ble_eq_true rfl, Nat.le_of_ble_eq_true rfl⟩) (va_recv hK.1 hP (ci := 6) (q0 := 0) rfl rfl) hP hD hK [0, 1, 2, 3, 4, 5, 6, 7] [] rfl rfl (by decide) (by decide) (by decide) rfl hl.1 (Nat.le_of_ble_eq_true rfl) dX6_distanceOf_6 ⟨Nat.le_of_ble_eq_true rfl, Nat.le_of_ble_eq_true rfl⟩ hS hA (fun r u H locs hw hP hD hS => ?_)
  obtain ⟨hw, hz5⟩ := hw
  obtain rfl : r = o3.1 := congrArg Prod.fst hw
  obtain rfl : u = o3.2 := congrArg Prod.snd hw
  clear hw
  have hP : va_P (dC, dI) vwCl (cM cyI a o3.2) H := hP
  have hD : va_D A (cM cyI a o3.2) := hD
  obtain ⟨j21, hj21, hF⟩ := jn_use hF
  have hJ21 : ∀ (s21 : Int32) (H : Heap) (locs : List Loc) (ls : Array Slot), va_P (dC, dI) vwCl (cM cyI a o3.2) H → va_D A (cM cyI a o3.2) → va_S A s.heap H locs → lv_has ls 2 [] → j21 s21 = some out → W p l e (headSpec (Cond.code yX6_distanceOf cX6_distanceOf 2 (some .int) :: wT) ({ frames := 3, cells := 0, slots := 0, locals := 64 } : Room)).room s m ([.ref (a 0), .int p1] : List Value).toArray below meth c H locs 0 0 (MQ below (va_Qi (fun (r : Int32) (u : MV) => (r, u) = out) (fun u t => va_P (dC, dI) vwCl (cM cyI a u) t.heap ∧ va_D A (cM cyI a u)) A) ([.ref (a 0), .int p1] : List Value).toArray s 0 0 A) (F0 m 21 ls [.int s21]) := by
    intro s21 H locs ls hP hD hS hl hF
    have hF := (congrFun hj21 s21).symm.trans hF
    exact W.iret (v := s21) hx hb hr (fun t ht hW => ⟨⟨_, o3.2, rfl, Option.some.inj hF, by rw [ht]; exact hP, hD⟩, hS.F ht⟩) hS.2.2 dX6_distanceOf_21
  refine lv_if_eq (tgt := 20) hx hb dX6_distanceOf_9 (by decide) (fun c6 => ?_) (fun c6 => ?_)
  · have hF := itp c6 hF
    refine lv_iconst (v := 0) hx hb dX6_distanceOf_20 (by decide) ?_
    exact hJ21 (0 : Int32) _ _ _ hP hD hS (lv_sub hl [] rfl) hF
  · have hF := itn c6 hF
    refine lv_aload_n hx hb dX6_distanceOf_12 rfl (lv_at hl 0 rfl) ?_
    refine lv_iload_n hx hb dX6_distanceOf_13 rfl (lv_at hl 1 rfl) ?_
    obtain ⟨o7, h8, hF⟩ := obd hF
    refine wcRVi (As := [.int p1]) (rest := []) (b := (a 0)) ⟨hx, hb, hml, hown, hts⟩ (met_X6_distance l dC dI cyI cyO cyL a N o3.2 p1 o7 h8) (cwV 1 hts (gV w_methodLink_X6_81 w_instanceMethod_X6_distance w_selects_X6_distance w_initialized_X6 w_code_X6_distance) rfl rfl rfl (by decide +kernel) ⟨Nat.le_of_ble_eq_true rfl, Nat.le_of_ble_eq_true rfl⟩) (va_recv hK.1 hP (ci := 6) (q0 := 0) rfl rfl) hP hK [0, 1, 2, 3, 4, 5, 6, 7] rfl rfl hl.1 (Nat.le_of_ble_eq_true rfl) dX6_distanceOf_14 ⟨Nat.le_of_ble_eq_true rfl, Nat.le_of_ble_eq_true rfl⟩ hS (fun r H locs hw hP hS => ?_)
    have hw := hw.symm
    subst hw
    refine lv_goto (tgt := 21) hx hb dX6_distanceOf_17 (by decide) ?_
    exact hJ21 o7 _ _ _ hP hD hS (lv_sub hl [] rfl) hF
theorem dX6_bowlAt_0 : decode cX6_bowlAt 0 = .ok (.aload_n 0, 1) := by decide +kernel
theorem dX6_bowlAt_1 : decode cX6_bowlAt 1 = .ok (.iload_n 1, 1) := by decide +kernel
theorem dX6_bowlAt_2 : decode cX6_bowlAt 2 = .ok (.iconst 0, 1) := by decide +kernel
theorem dX6_bowlAt_3 : decode cX6_bowlAt 3 = .ok (.bipush 59, 2) := by decide +kernel
theorem dX6_bowlAt_5 : decode cX6_bowlAt 5 = .ok (.invokestatic 35, 3) := by decide +kernel
theorem dX6_bowlAt_8 : decode cX6_bowlAt 8 = .ok (.ifCond .eq 17, 3) := by decide +kernel
theorem dX6_bowlAt_11 : decode cX6_bowlAt 11 = .ok (.iload_n 2, 1) := by decide +kernel
theorem dX6_bowlAt_12 : decode cX6_bowlAt 12 = .ok (.iconst 0, 1) := by decide +kernel
theorem dX6_bowlAt_13 : decode cX6_bowlAt 13 = .ok (.bipush 20, 2) := by decide +kernel
theorem dX6_bowlAt_15 : decode cX6_bowlAt 15 = .ok (.invokestatic 35, 3) := by decide +kernel
theorem dX6_bowlAt_18 : decode cX6_bowlAt 18 = .ok (.ifCond .eq 7, 3) := by decide +kernel
theorem dX6_bowlAt_21 : decode cX6_bowlAt 21 = .ok (.iconst 0, 1) := by decide +kernel
theorem dX6_bowlAt_22 : decode cX6_bowlAt 22 = .ok (.goto 4, 3) := by decide +kernel
theorem dX6_bowlAt_25 : decode cX6_bowlAt 25 = .ok (.iconst 1, 1) := by decide +kernel
theorem dX6_bowlAt_26 : decode cX6_bowlAt 26 = .ok (.invokevirtual 107, 3) := by decide +kernel
theorem dX6_bowlAt_29 : decode cX6_bowlAt 29 = .ok (.ifCond .ne 5, 3) := by decide +kernel
theorem dX6_bowlAt_32 : decode cX6_bowlAt 32 = .ok (.iconst 0, 1) := by decide +kernel
theorem dX6_bowlAt_33 : decode cX6_bowlAt 33 = .ok (.ireturn, 1) := by decide +kernel
theorem dX6_bowlAt_34 : decode cX6_bowlAt 34 = .ok (.aload_n 0, 1) := by decide +kernel
theorem dX6_bowlAt_35 : decode cX6_bowlAt 35 = .ok (.iload_n 1, 1) := by decide +kernel
theorem dX6_bowlAt_36 : decode cX6_bowlAt 36 = .ok (.iload_n 2, 1) := by decide +kernel
theorem dX6_bowlAt_37 : decode cX6_bowlAt 37 = .ok (.invokevirtual 53, 3) := by decide +kernel
theorem dX6_bowlAt_40 : decode cX6_bowlAt 40 = .ok (.istore_n 3, 1) := by decide +kernel
theorem dX6_bowlAt_41 : decode cX6_bowlAt 41 = .ok (.aload_n 0, 1) := by decide +kernel
theorem dX6_bowlAt_42 : decode cX6_bowlAt 42 = .ok (.iload_n 3, 1) := by decide +kernel
theorem dX6_bowlAt_43 : decode cX6_bowlAt 43 = .ok (.iconst 0, 1) := by decide +kernel
theorem dX6_bowlAt_44 : decode cX6_bowlAt 44 = .ok (.bipush 7, 2) := by decide +kernel
theorem dX6_bowlAt_46 : decode cX6_bowlAt 46 = .ok (.invokestatic 35, 3) := by decide +kernel
theorem dX6_bowlAt_49 : decode cX6_bowlAt 49 = .ok (.ifCond .eq 7, 3) := by decide +kernel
theorem dX6_bowlAt_52 : decode cX6_bowlAt 52 = .ok (.iconst 0, 1) := by decide +kernel
theorem dX6_bowlAt_53 : decode cX6_bowlAt 53 = .ok (.goto 4, 3) := by decide +kernel
theorem dX6_bowlAt_56 : decode cX6_bowlAt 56 = .ok (.iconst 2, 1) := by decide +kernel
theorem dX6_bowlAt_57 : decode cX6_bowlAt 57 = .ok (.invokevirtual 107, 3) := by decide +kernel
theorem dX6_bowlAt_60 : decode cX6_bowlAt 60 = .ok (.ifCond .eq 7, 3) := by decide +kernel
theorem dX6_bowlAt_63 : decode cX6_bowlAt 63 = .ok (.iload_n 3, 1) := by decide +kernel
theorem dX6_bowlAt_64 : decode cX6_bowlAt 64 = .ok (.goto 4, 3) := by decide +kernel
theorem dX6_bowlAt_67 : decode cX6_bowlAt 67 = .ok (.iconst 0, 1) := by decide +kernel
theorem dX6_bowlAt_68 : decode cX6_bowlAt 68 = .ok (.ireturn, 1) := by decide +kernel
def f_X6_bowlAt (N : Nat) (v : MV) (p1 : Int32) (p2 : Int32) : Option (Int32 × MV) :=
  (f_X6_in N p1 (0 : Int32) (59 : Int32)).bind (fun o1 => jn (fun (s26 : Int32) => (f_X6_holds N v s26).bind (fun o4 => (if o4.1 = 0 then some ((0 : Int32), o4.2) else (f_X6_thingAt N o4.2 p1 p2).bind (fun o8 => (f_X6_in N o8 (0 : Int32) (7 : Int32)).bind (fun o10 => jn (fun (s57 : Int32) => (f_X6_holds N o4.2 s57).bind (fun o13 => jn (fun (s68 : Int32) => some (s68, o13.2)) (fun (j68 : (Int32) → Option (Int32 × MV)) => (if o13.1 = 0 then j68 (0 : Int32) else j68 o8)))) (fun (j57 : (Int32) → Option (Int32 × MV)) => (if o10 = 0 then j57 (2 : Int32) else j57 (0 : Int32)))))))) (fun (j26 : (Int32) → Option (Int32 × MV)) => jn (fun (s25 : Unit) => j26 (1 : Int32)) (fun (j25 : (Unit) → Option (Int32 × MV)) => (if o1 = 0 then j25 () else (f_X6_in N p2 (0 : Int32) (20 : Int32)).bind (fun o19 => (if o19 = 0 then j25 () else j26 (0 : Int32)))))))
set_option maxHeartbeats 4000000 in
set_option maxRecDepth 100000 in
theorem met_X6_bowlAt (l : Launch) (dC : Nat → ClassId) (dI : Nat → Nat → Nat) (cyI cyO cyL : ClassId) (a : Nat → Nat) (sz : Nat) (N : Nat) (v : MV) (p1 : Int32) (p2 : Int32) (out : Int32 × MV) (hF : f_X6_bowlAt N v p1 p2 = some out) : Met l yX6_bowlAt (Cond.code yX6_bowlAt cX6_bowlAt 4 (some .int) :: wT) ({ frames := 2, cells := 0, slots := 0, locals := 46 } : Room) (wWr dC dI cyI cyO cyL [.ref (a 0), .int p1, .int p2] (cM cyI a v) sz) (va_Qi (fun (r : Int32) (u : MV) => (r, u) = out) (fun u t => va_P (dC, dI) vwCl (cM cyI a u) t.heap ∧ va_D (va_A (cM cyI a v) sz) (cM cyI a u)) (va_A (cM cyI a v) sz)) 0 0 (va_A (cM cyI a v) sz) := by
  refine Met.ofW (cc := cX6_bowlAt) (maxL := 4) (ret := (some .int)) (by decide) rfl ?_
  intro p e s m args below meth c s₁ B hml hv
  obtain ⟨rfl, hsz, hP, hK, hD0⟩ := hv
  have hx := B.exec
  have hb := B.bytes
  have hr := B.returns
  have hts0 := atoms_spec (ws := (Cond.code yX6_bowlAt cX6_bowlAt 4 (some .int) :: wT)) B.pre
  have hts := fun w h => hts0 w (List.mem_cons_of_mem _ h)
  clear hts0
  have hown : s.vm.findClass RX6 = some m.cls := findClass_of_methodNamed B.named
  have hlocks := B.notSynchronized
  subst hsz
  have hD := hD0.self (sz := s.heap.size)
  generalize hAe : va_A (cM cyI a v) s.heap.size = A at hD ⊢
  have hA : ∀ q : Nat, s.heap.size ≤ q → A q := fun q h => by rw [← hAe]; exact Or.inr h
  clear hD0
  have hS : va_S A s.heap s.heap [] := va_S.rf
  have hl := lv_entry [.ref (a 0), .int p1, .int p2] (n := 4) (Nat.le_of_ble_eq_true rfl)
  rw [lg_entry_eq]
  generalize (lg_sl [.ref (a 0), .int p1, .int p2] ++ List.replicate (4 - (lg_sl [.ref (a 0), .int p1, .int p2]).length) Slot.unset).toArray = ls at hl ⊢
  have hl : lv_has ls 4 [(0, .ref (a 0)), (1, .int p1), (2, .int p2)] := hl
  unfold f_X6_bowlAt at hF
  refine lv_aload_n hx hb dX6_bowlAt_0 rfl (lv_at hl 0 rfl) ?_
  refine lv_iload_n hx hb dX6_bowlAt_1 rfl (lv_at hl 1 rfl) ?_
  refine lv_iconst (v := 0) hx hb dX6_bowlAt_2 (by decide) ?_
  refine lv_bipush (v := 59) hx hb dX6_bowlAt_3 (by decide) ?_
  obtain ⟨o1, h2, hF⟩ := obd hF
  refine wcRSi (As := [.int p1, .int (0 : Int32), .int (59 : Int32)]) (rest := [.ref (a 0)]) ⟨hx, hb, hml, hown, hts⟩ (met_X6_in l dC dI cyI cyO cyL  N  p1 (0 : Int32) (59 : Int32) o1 h2) (va_cwS 3 hts (gS w_methodLink_X6_35 w_static_X6_in w_initialized_X6 w_code_X6_in) rfl rfl rfl (by decide +kernel) ⟨Nat.le_of_ble_eq_true rfl, Nat.le_of_ble_eq_true rfl⟩) hP hK [] rfl rfl hl.1 (Nat.le_of_ble_eq_true rfl) dX6_bowlAt_5 ⟨Nat.le_of_ble_eq_true rfl, Nat.le_of_ble_eq_true rfl⟩ hS (fun r H locs hw hP hS => ?_)
  obtain ⟨hw, hz3⟩ := hw
  have hw := hw.symm
  subst hw
  obtain ⟨j26, hj26, hF⟩ := jn_use hF
  have hJ26 : ∀ (s26 : Int32) (H : Heap) (locs : List Loc) (ls : Array Slot) (hz_26_s1 : b01 s26), va_P (dC, dI) vwCl (cM cyI a v) H → va_D A (cM cyI a v) → va_S A s.heap H locs → lv_has ls 4 [(0, .ref (a 0)), (1, .int p1), (2, .int p2)] → j26 s26 = some out → W p l e (headSpec (Cond.code yX6_bowlAt cX6_bowlAt 4 (some .int) :: wT) ({ frames := 2, cells := 0, slots := 0, locals := 46 } : Room)).room s m ([.ref (a 0), .int p1, .int p2] : List Value).toArray below meth c H locs 0 0 (MQ below (va_Qi (fun (r : Int32) (u : MV) => (r, u) = out) (fun u t => va_P (dC, dI) vwCl (cM cyI a u) t.heap ∧ va_D A (cM cyI a u)) A) ([.ref (a 0), .int p1, .int p2] : List Value).toArray s 0 0 A) (F0 m 26 ls [.int s26, .ref (a 0)]) := by
    intro s26 H locs ls hz_26_s1 hP hD hS hl hF
    have hF := (congrFun hj26 s26).symm.trans hF
    obtain ⟨o4, h5, hF⟩ := obd hF
    refine wcWVi (As := [.int s26]) (rest := []) (wr := []) (b := (a 0)) ⟨hx, hb, hml, hown, hts⟩ (met_X6_holds l dC dI cyI cyO cyL a _ N v s26 o4 h5) (cwV 1 hts (gV w_methodLink_X6_107 w_instanceMethod_X6_holds w_selects_X6_holds w_initialized_X6 w_code_X6_holds) rfl rfl rfl (by decide +kernel) ⟨Nat.le_of_ble_eq_true rfl, Nat.le_of_ble_eq_true rfl⟩) (va_recv hK.1 hP (ci := 6) (q0 := 0) rfl rfl) hP hD hK [0, 1, 2, 3, 4, 5, 6, 7] [] rfl rfl (by decide) (by decide) (by decide) rfl hl.1 (Nat.le_of_ble_eq_true rfl) dX6_bowlAt_26 ⟨Nat.le_of_ble_eq_true rfl, Nat.le_of_ble_eq_true rfl⟩ hS hA (fun r u H locs hw hP hD hS => ?_)
    obtain ⟨hw, hz6⟩ := hw
    obtain rfl : r = o4.1 := congrArg Prod.fst hw
    obtain rfl : u = o4.2 := congrArg Prod.snd hw
    clear hw
    have hP : va_P (dC, dI) vwCl (cM cyI a o4.2) H := hP
    have hD : va_D A (cM cyI a o4.2) := hD
    refine lv_if_ne (tgt := 34) hx hb dX6_bowlAt_29 (by decide) (fun c7 => ?_) (fun c7 => ?_)
    · have hF := itn c7 hF
      refine lv_aload_n hx hb dX6_bowlAt_34 rfl (lv_at hl 0 rfl) ?_
      refine lv_iload_n hx hb dX6_bowlAt_35 rfl (lv_at hl 1 rfl) ?_
      refine lv_iload_n hx hb dX6_bowlAt_36 rfl (lv_at hl 2 rfl) ?_
      obtain ⟨o8, h9, hF⟩ := obd hF
      refine wcRVi (As := [.int p1, .int p2]) (rest := []) (b := (a 0)) ⟨hx, hb, hml, hown, hts⟩ (met_X6_thingAt l dC dI cyI cyO cyL a N o4.2 p1 p2 o8 h9) (cwV 2 hts (gV w_methodLink_X6_53 w_instanceMethod_X6_thingAt w_selects_X6_thingAt w_initialized_X6 w_code_X6_thingAt) rfl rfl rfl (by decide +kernel) ⟨Nat.le_of_ble_eq_true rfl, Nat.le_of_ble_eq_true rfl⟩) (va_recv hK.1 hP (ci := 6) (q0 := 0) rfl rfl) hP hK [0, 1, 2, 3, 4, 5, 6, 7] rfl rfl hl.1 (Nat.le_of_ble_eq_true rfl) dX6_bowlAt_37 ⟨Nat.le_of_ble_eq_true rfl, Nat.le_of_ble_eq_true rfl⟩ hS (fun r H locs hw hP hS => ?_)
      have hw := hw.symm
      subst hw
      refine lv_istore_n (lv' := [(3, .int o8), (0, .ref (a 0)), (1, .int p1), (2, .int p2)]) hx hb dX6_bowlAt_40 rfl hl (by decide) rfl (fun ls hl => ?_)
      refine lv_aload_n hx hb dX6_bowlAt_41 rfl (lv_at hl 1 rfl) ?_
      refine lv_iload_n hx hb dX6_bowlAt_42 rfl (lv_at hl 0 rfl) ?_
      refine lv_iconst (v := 0) hx hb dX6_bowlAt_43 (by decide) ?_
      refine lv_bipush (v := 7) hx hb dX6_bowlAt_44 (by decide) ?_
      obtain ⟨o10, h11, hF⟩ := obd hF
      refine wcRSi (As := [.int o8, .int (0 : Int32), .int (7 : Int32)]) (rest := [.ref (a 0)]) ⟨hx, hb, hml, hown, hts⟩ (met_X6_in l dC dI cyI cyO cyL  N  o8 (0 : Int32) (7 : Int32) o10 h11) (va_cwS 3 hts (gS w_methodLink_X6_35 w_static_X6_in w_initialized_X6 w_code_X6_in) rfl rfl rfl (by decide +kernel) ⟨Nat.le_of_ble_eq_true rfl, Nat.le_of_ble_eq_true rfl⟩) hP hK [] rfl rfl hl.1 (Nat.le_of_ble_eq_true rfl) dX6_bowlAt_46 ⟨Nat.le_of_ble_eq_true rfl, Nat.le_of_ble_eq_true rfl⟩ hS (fun r H locs hw hP hS => ?_)
      obtain ⟨hw, hz12⟩ := hw
      have hw := hw.symm
      subst hw
      obtain ⟨j57, hj57, hF⟩ := jn_use hF
      have hJ57 : ∀ (s57 : Int32) (H : Heap) (locs : List Loc) (ls : Array Slot), va_P (dC, dI) vwCl (cM cyI a o4.2) H → va_D A (cM cyI a o4.2) → va_S A s.heap H locs → lv_has ls 4 [(3, .int o8)] → j57 s57 = some out → W p l e (headSpec (Cond.code yX6_bowlAt cX6_bowlAt 4 (some .int) :: wT) ({ frames := 2, cells := 0, slots := 0, locals := 46 } : Room)).room s m ([.ref (a 0), .int p1, .int p2] : List Value).toArray below meth c H locs 0 0 (MQ below (va_Qi (fun (r : Int32) (u : MV) => (r, u) = out) (fun u t => va_P (dC, dI) vwCl (cM cyI a u) t.heap ∧ va_D A (cM cyI a u)) A) ([.ref (a 0), .int p1, .int p2] : List Value).toArray s 0 0 A) (F0 m 57 ls [.int s57, .ref (a 0)]) := by
        intro s57 H locs ls hP hD hS hl hF
        have hF := (congrFun hj57 s57).symm.trans hF
        obtain ⟨o13, h14, hF⟩ := obd hF
        refine wcWVi (As := [.int s57]) (rest := []) (wr := []) (b := (a 0)) ⟨hx, hb, hml, hown, hts⟩ (met_X6_holds l dC dI cyI cyO cyL a _ N o4.2 s57 o13 h14) (cwV 1 hts (gV w_methodLink_X6_107 w_instanceMethod_X6_holds w_selects_X6_holds w_initialized_X6 w_code_X6_holds) rfl rfl rfl (by decide +kernel) ⟨Nat.le_of_ble_eq_true rfl, Nat.le_of_ble_eq_true rfl⟩) (va_recv hK.1 hP (ci := 6) (q0 := 0) rfl rfl) hP hD hK [0, 1, 2, 3, 4, 5, 6, 7] [] rfl rfl (by decide) (by decide) (by decide) rfl hl.1 (Nat.le_of_ble_eq_true rfl) dX6_bowlAt_57 ⟨Nat.le_of_ble_eq_true rfl, Nat.le_of_ble_eq_true rfl⟩ hS hA (fun r u H locs hw hP hD hS => ?_)
        obtain ⟨hw, hz15⟩ := hw
        obtain rfl : r = o13.1 := congrArg Prod.fst hw
        obtain rfl : u = o13.2 := congrArg Prod.snd hw
        clear hw
        have hP : va_P (dC, dI) vwCl (cM cyI a o13.2) H := hP
        have hD : va_D A (cM cyI a o13.2) := hD
        obtain ⟨j68, hj68, hF⟩ := jn_use hF
        have hJ68 : ∀ (s68 : Int32) (H : Heap) (locs : List Loc) (ls : Array Slot), va_P (dC, dI) vwCl (cM cyI a o13.2) H → va_D A (cM cyI a o13.2) → va_S A s.heap H locs → lv_has ls 4 [] → j68 s68 = some out → W p l e (headSpec (Cond.code yX6_bowlAt cX6_bowlAt 4 (some .int) :: wT) ({ frames := 2, cells := 0, slots := 0, locals := 46 } : Room)).room s m ([.ref (a 0), .int p1, .int p2] : List Value).toArray below meth c H locs 0 0 (MQ below (va_Qi (fun (r : Int32) (u : MV) => (r, u) = out) (fun u t => va_P (dC, dI) vwCl (cM cyI a u) t.heap ∧ va_D A (cM cyI a u)) A) ([.ref (a 0), .int p1, .int p2] : List Value).toArray s 0 0 A) (F0 m 68 ls [.int s68]) := by
          intro s68 H locs ls hP hD hS hl hF
          have hF := (congrFun hj68 s68).symm.trans hF
          exact W.iret (v := s68) hx hb hr (fun t ht hW => ⟨⟨_, o13.2, rfl, Option.some.inj hF, by rw [ht]; exact hP, hD⟩, hS.F ht⟩) hS.2.2 dX6_bowlAt_68
        refine lv_if_eq (tgt := 67) hx hb dX6_bowlAt_60 (by decide) (fun c16 => ?_) (fun c16 => ?_)
        · have hF := itp c16 hF
          refine lv_iconst (v := 0) hx hb dX6_bowlAt_67 (by decide) ?_
          exact hJ68 (0 : Int32) _ _ _ hP hD hS (lv_sub hl [] rfl) hF
        · have hF := itn c16 hF
          refine lv_iload_n hx hb dX6_bowlAt_63 rfl (lv_at hl 0 rfl) ?_
          refine lv_goto (tgt := 68) hx hb dX6_bowlAt_64 (by decide) ?_
          exact hJ68 o8 _ _ _ hP hD hS (lv_sub hl [] rfl) hF
      refine lv_if_eq (tgt := 56) hx hb dX6_bowlAt_49 (by decide) (fun c17 => ?_) (fun c17 => ?_)
      · have hF := itp c17 hF
        refine lv_iconst (v := 2) hx hb dX6_bowlAt_56 (by decide) ?_
        exact hJ57 (2 : Int32) _ _ _ hP hD hS (lv_sub hl [0] rfl) hF
      · have hF := itn c17 hF
        refine lv_iconst (v := 0) hx hb dX6_bowlAt_52 (by decide) ?_
        refine lv_goto (tgt := 57) hx hb dX6_bowlAt_53 (by decide) ?_
        exact hJ57 (0 : Int32) _ _ _ hP hD hS (lv_sub hl [0] rfl) hF
    · have hF := itp c7 hF
      refine lv_iconst (v := 0) hx hb dX6_bowlAt_32 (by decide) ?_
      exact W.iret (v := (0 : Int32)) hx hb hr (fun t ht hW => ⟨⟨_, o4.2, rfl, Option.some.inj hF, by rw [ht]; exact hP, hD⟩, hS.F ht⟩) hS.2.2 dX6_bowlAt_33
  obtain ⟨j25, hj25, hF⟩ := jn_use hF
  have hJ25 : ∀ (s25 : Unit) (H : Heap) (locs : List Loc) (ls : Array Slot), va_P (dC, dI) vwCl (cM cyI a v) H → va_D A (cM cyI a v) → va_S A s.heap H locs → lv_has ls 4 [(0, .ref (a 0)), (1, .int p1), (2, .int p2)] → j25 s25 = some out → W p l e (headSpec (Cond.code yX6_bowlAt cX6_bowlAt 4 (some .int) :: wT) ({ frames := 2, cells := 0, slots := 0, locals := 46 } : Room)).room s m ([.ref (a 0), .int p1, .int p2] : List Value).toArray below meth c H locs 0 0 (MQ below (va_Qi (fun (r : Int32) (u : MV) => (r, u) = out) (fun u t => va_P (dC, dI) vwCl (cM cyI a u) t.heap ∧ va_D A (cM cyI a u)) A) ([.ref (a 0), .int p1, .int p2] : List Value).toArray s 0 0 A) (F0 m 25 ls [.ref (a 0)]) := by
    intro s25 H locs ls hP hD hS hl hF
    have hF := (congrFun hj25 s25).symm.trans hF
    refine lv_iconst (v := 1) hx hb dX6_bowlAt_25 (by decide) ?_
    exact hJ26 (1 : Int32) _ _ _ b01_1 hP hD hS (lv_sub hl [0, 1, 2] rfl) hF
  refine lv_if_eq (tgt := 25) hx hb dX6_bowlAt_8 (by decide) (fun c18 => ?_) (fun c18 => ?_)
  · have hF := itp c18 hF
    exact hJ25 () _ _ _ hP hD hS (lv_sub hl [0, 1, 2] rfl) hF
  · have hF := itn c18 hF
    refine lv_iload_n hx hb dX6_bowlAt_11 rfl (lv_at hl 2 rfl) ?_
    refine lv_iconst (v := 0) hx hb dX6_bowlAt_12 (by decide) ?_
    refine lv_bipush (v := 20) hx hb dX6_bowlAt_13 (by decide) ?_
    obtain ⟨o19, h20, hF⟩ := obd hF
    refine wcRSi (As := [.int p2, .int (0 : Int32), .int (20 : Int32)]) (rest := [.ref (a 0)]) ⟨hx, hb, hml, hown, hts⟩ (met_X6_in l dC dI cyI cyO cyL  N  p2 (0 : Int32) (20 : Int32) o19 h20) (va_cwS 3 hts (gS w_methodLink_X6_35 w_static_X6_in w_initialized_X6 w_code_X6_in) rfl rfl rfl (by decide +kernel) ⟨Nat.le_of_ble_eq_true rfl, Nat.le_of_ble_eq_true rfl⟩) hP hK [] rfl rfl hl.1 (Nat.le_of_ble_eq_true rfl) dX6_bowlAt_15 ⟨Nat.le_of_ble_eq_true rfl, Nat.le_of_ble_eq_true rfl⟩ hS (fun r H locs hw hP hS => ?_)
    obtain ⟨hw, hz21⟩ := hw
    have hw := hw.symm
    subst hw
    refine lv_if_eq (tgt := 25) hx hb dX6_bowlAt_18 (by decide) (fun c22 => ?_) (fun c22 => ?_)
    · have hF := itp c22 hF
      exact hJ25 () _ _ _ hP hD hS (lv_sub hl [0, 1, 2] rfl) hF
    · have hF := itn c22 hF
      refine lv_iconst (v := 0) hx hb dX6_bowlAt_21 (by decide) ?_
      refine lv_goto (tgt := 26) hx hb dX6_bowlAt_22 (by decide) ?_
      exact hJ26 (0 : Int32) _ _ _ b01_0 hP hD hS (lv_sub hl [0, 1, 2] rfl) hF
theorem dX6_aimOf_0 : decode cX6_aimOf 0 = .ok (.aload_n 0, 1) := by decide +kernel
theorem dX6_aimOf_1 : decode cX6_aimOf 1 = .ok (.aload_n 0, 1) := by decide +kernel
theorem dX6_aimOf_2 : decode cX6_aimOf 2 = .ok (.iload_n 1, 1) := by decide +kernel
theorem dX6_aimOf_3 : decode cX6_aimOf 3 = .ok (.invokevirtual 195, 3) := by decide +kernel
theorem dX6_aimOf_6 : decode cX6_aimOf 6 = .ok (.ifCond .eq 7, 3) := by decide +kernel
theorem dX6_aimOf_9 : decode cX6_aimOf 9 = .ok (.iconst 0, 1) := by decide +kernel
theorem dX6_aimOf_10 : decode cX6_aimOf 10 = .ok (.goto 4, 3) := by decide +kernel
theorem dX6_aimOf_13 : decode cX6_aimOf 13 = .ok (.iconst 1, 1) := by decide +kernel
theorem dX6_aimOf_14 : decode cX6_aimOf 14 = .ok (.invokevirtual 107, 3) := by decide +kernel
theorem dX6_aimOf_17 : decode cX6_aimOf 17 = .ok (.ifCond .eq 12, 3) := by decide +kernel
theorem dX6_aimOf_20 : decode cX6_aimOf 20 = .ok (.aload_n 0, 1) := by decide +kernel
theorem dX6_aimOf_21 : decode cX6_aimOf 21 = .ok (.iload_n 1, 1) := by decide +kernel
theorem dX6_aimOf_22 : decode cX6_aimOf 22 = .ok (.iconst 4, 1) := by decide +kernel
theorem dX6_aimOf_23 : decode cX6_aimOf 23 = .ok (.invokevirtual 42, 3) := by decide +kernel
theorem dX6_aimOf_26 : decode cX6_aimOf 26 = .ok (.goto 4, 3) := by decide +kernel
theorem dX6_aimOf_29 : decode cX6_aimOf 29 = .ok (.iconst 0, 1) := by decide +kernel
theorem dX6_aimOf_30 : decode cX6_aimOf 30 = .ok (.ireturn, 1) := by decide +kernel
def f_X6_aimOf (N : Nat) (v : MV) (p1 : Int32) : Option (Int32 × MV) :=
  (f_X6_isBowl N v p1).bind (fun o1 => jn (fun (s14 : Int32) => (f_X6_holds N v s14).bind (fun o4 => jn (fun (s30 : Int32) => some (s30, o4.2)) (fun (j30 : (Int32) → Option (Int32 × MV)) => (if o4.1 = 0 then j30 (0 : Int32) else (f_X6_of N o4.2 p1 (4 : Int32)).bind (fun o8 => j30 o8))))) (fun (j14 : (Int32) → Option (Int32 × MV)) => (if o1 = 0 then j14 (1 : Int32) else j14 (0 : Int32))))
set_option maxHeartbeats 4000000 in
set_option maxRecDepth 100000 in
theorem met_X6_aimOf (l : Launch) (dC : Nat → ClassId) (dI : Nat → Nat → Nat) (cyI cyO cyL : ClassId) (a : Nat → Nat) (sz : Nat) (N : Nat) (v : MV) (p1 : Int32) (out : Int32 × MV) (hF : f_X6_aimOf N v p1 = some out) : Met l yX6_aimOf (Cond.code yX6_aimOf cX6_aimOf 2 (some .int) :: wT) ({ frames := 2, cells := 0, slots := 0, locals := 43 } : Room) (wWr dC dI cyI cyO cyL [.ref (a 0), .int p1] (cM cyI a v) sz) (va_Qi (fun (r : Int32) (u : MV) => (r, u) = out) (fun u t => va_P (dC, dI) vwCl (cM cyI a u) t.heap ∧ va_D (va_A (cM cyI a v) sz) (cM cyI a u)) (va_A (cM cyI a v) sz)) 0 0 (va_A (cM cyI a v) sz) := by
  refine Met.ofW (cc := cX6_aimOf) (maxL := 2) (ret := (some .int)) (by decide) rfl ?_
  intro p e s m args below meth c s₁ B hml hv
  obtain ⟨rfl, hsz, hP, hK, hD0⟩ := hv
  have hx := B.exec
  have hb := B.bytes
  have hr := B.returns
  have hts0 := atoms_spec (ws := (Cond.code yX6_aimOf cX6_aimOf 2 (some .int) :: wT)) B.pre
  have hts := fun w h => hts0 w (List.mem_cons_of_mem _ h)
  clear hts0
  have hown : s.vm.findClass RX6 = some m.cls := findClass_of_methodNamed B.named
  have hlocks := B.notSynchronized
  subst hsz
  have hD := hD0.self (sz := s.heap.size)
  generalize hAe : va_A (cM cyI a v) s.heap.size = A at hD ⊢
  have hA : ∀ q : Nat, s.heap.size ≤ q → A q := fun q h => by rw [← hAe]; exact Or.inr h
  clear hD0
  have hS : va_S A s.heap s.heap [] := va_S.rf
  have hl := lv_entry [.ref (a 0), .int p1] (n := 2) (Nat.le_of_ble_eq_true rfl)
  rw [lg_entry_eq]
  generalize (lg_sl [.ref (a 0), .int p1] ++ List.replicate (2 - (lg_sl [.ref (a 0), .int p1]).length) Slot.unset).toArray = ls at hl ⊢
  have hl : lv_has ls 2 [(0, .ref (a 0)), (1, .int p1)] := hl
  unfold f_X6_aimOf at hF
  refine lv_aload_n hx hb dX6_aimOf_0 rfl (lv_at hl 0 rfl) ?_
  refine lv_aload_n hx hb dX6_aimOf_1 rfl (lv_at hl 0 rfl) ?_
  refine lv_iload_n hx hb dX6_aimOf_2 rfl (lv_at hl 1 rfl) ?_
  obtain ⟨o1, h2, hF⟩ := obd hF
  refine wcRVi (As := [.int p1]) (rest := [.ref (a 0)]) (b := (a 0)) ⟨hx, hb, hml, hown, hts⟩ (met_X6_isBowl l dC dI cyI cyO cyL a N v p1 o1 h2) (cwV 1 hts (gV w_methodLink_X6_195 w_instanceMethod_X6_isBowl w_selects_X6_isBowl w_initialized_X6 w_code_X6_isBowl) rfl rfl rfl (by decide +kernel) ⟨Nat.le_of_ble_eq_true rfl, Nat.le_of_ble_eq_true rfl⟩) (va_recv hK.1 hP (ci := 6) (q0 := 0) rfl rfl) hP hK [0, 1, 2, 3, 4, 5, 6, 7] rfl rfl hl.1 (Nat.le_of_ble_eq_true rfl) dX6_aimOf_3 ⟨Nat.le_of_ble_eq_true rfl, Nat.le_of_ble_eq_true rfl⟩ hS (fun r H locs hw hP hS => ?_)
  obtain ⟨hw, hz3⟩ := hw
  have hw := hw.symm
  subst hw
  obtain ⟨j14, hj14, hF⟩ := jn_use hF
  have hJ14 : ∀ (s14 : Int32) (H : Heap) (locs : List Loc) (ls : Array Slot) (hz_14_s1 : b01 s14), va_P (dC, dI) vwCl (cM cyI a v) H → va_D A (cM cyI a v) → va_S A s.heap H locs → lv_has ls 2 [(0, .ref (a 0)), (1, .int p1)] → j14 s14 = some out → W p l e (headSpec (Cond.code yX6_aimOf cX6_aimOf 2 (some .int) :: wT) ({ frames := 2, cells := 0, slots := 0, locals := 43 } : Room)).room s m ([.ref (a 0), .int p1] : List Value).toArray below meth c H locs 0 0 (MQ below (va_Qi (fun (r : Int32) (u : MV) => (r, u) = out) (fun u t => va_P (dC, dI) vwCl (cM cyI a u) t.heap ∧ va_D A (cM cyI a u)) A) ([.ref (a 0), .int p1] : List Value).toArray s 0 0 A) (F0 m 14 ls [.int s14, .ref (a 0)]) := by
    intro s14 H locs ls hz_14_s1 hP hD hS hl hF
    have hF := (congrFun hj14 s14).symm.trans hF
    obtain ⟨o4, h5, hF⟩ := obd hF
    refine wcWVi (As := [.int s14]) (rest := []) (wr := []) (b := (a 0)) ⟨hx, hb, hml, hown, hts⟩ (met_X6_holds l dC dI cyI cyO cyL a _ N v s14 o4 h5) (cwV 1 hts (gV w_methodLink_X6_107 w_instanceMethod_X6_holds w_selects_X6_holds w_initialized_X6 w_code_X6_holds) rfl rfl rfl (by decide +kernel) ⟨Nat.le_of_ble_eq_true rfl, Nat.le_of_ble_eq_true rfl⟩) (va_recv hK.1 hP (ci := 6) (q0 := 0) rfl rfl) hP hD hK [0, 1, 2, 3, 4, 5, 6, 7] [] rfl rfl (by decide) (by decide) (by decide) rfl hl.1 (Nat.le_of_ble_eq_true rfl) dX6_aimOf_14 ⟨Nat.le_of_ble_eq_true rfl, Nat.le_of_ble_eq_true rfl⟩ hS hA (fun r u H locs hw hP hD hS => ?_)
    obtain ⟨hw, hz6⟩ := hw
    obtain rfl : r = o4.1 := congrArg Prod.fst hw
    obtain rfl : u = o4.2 := congrArg Prod.snd hw
    clear hw
    have hP : va_P (dC, dI) vwCl (cM cyI a o4.2) H := hP
    have hD : va_D A (cM cyI a o4.2) := hD
    obtain ⟨j30, hj30, hF⟩ := jn_use hF
    have hJ30 : ∀ (s30 : Int32) (H : Heap) (locs : List Loc) (ls : Array Slot), va_P (dC, dI) vwCl (cM cyI a o4.2) H → va_D A (cM cyI a o4.2) → va_S A s.heap H locs → lv_has ls 2 [] → j30 s30 = some out → W p l e (headSpec (Cond.code yX6_aimOf cX6_aimOf 2 (some .int) :: wT) ({ frames := 2, cells := 0, slots := 0, locals := 43 } : Room)).room s m ([.ref (a 0), .int p1] : List Value).toArray below meth c H locs 0 0 (MQ below (va_Qi (fun (r : Int32) (u : MV) => (r, u) = out) (fun u t => va_P (dC, dI) vwCl (cM cyI a u) t.heap ∧ va_D A (cM cyI a u)) A) ([.ref (a 0), .int p1] : List Value).toArray s 0 0 A) (F0 m 30 ls [.int s30]) := by
      intro s30 H locs ls hP hD hS hl hF
      have hF := (congrFun hj30 s30).symm.trans hF
      exact W.iret (v := s30) hx hb hr (fun t ht hW => ⟨⟨_, o4.2, rfl, Option.some.inj hF, by rw [ht]; exact hP, hD⟩, hS.F ht⟩) hS.2.2 dX6_aimOf_30
    refine lv_if_eq (tgt := 29) hx hb dX6_aimOf_17 (by decide) (fun c7 => ?_) (fun c7 => ?_)
    · have hF := itp c7 hF
      refine lv_iconst (v := 0) hx hb dX6_aimOf_29 (by decide) ?_
      exact hJ30 (0 : Int32) _ _ _ hP hD hS (lv_sub hl [] rfl) hF
    · have hF := itn c7 hF
      refine lv_aload_n hx hb dX6_aimOf_20 rfl (lv_at hl 0 rfl) ?_
      refine lv_iload_n hx hb dX6_aimOf_21 rfl (lv_at hl 1 rfl) ?_
      refine lv_iconst (v := 4) hx hb dX6_aimOf_22 (by decide) ?_
      obtain ⟨o8, h9, hF⟩ := obd hF
      refine wcRVi (As := [.int p1, .int (4 : Int32)]) (rest := []) (b := (a 0)) ⟨hx, hb, hml, hown, hts⟩ (met_X6_of l dC dI cyI cyO cyL a N o4.2 p1 (4 : Int32) o8 h9) (cwV 2 hts (gV w_methodLink_X6_42 w_instanceMethod_X6_of w_selects_X6_of w_initialized_X6 w_code_X6_of) rfl rfl rfl (by decide +kernel) ⟨Nat.le_of_ble_eq_true rfl, Nat.le_of_ble_eq_true rfl⟩) (va_recv hK.1 hP (ci := 6) (q0 := 0) rfl rfl) hP hK [0, 1, 2, 3, 4, 5, 6, 7] rfl rfl hl.1 (Nat.le_of_ble_eq_true rfl) dX6_aimOf_23 ⟨Nat.le_of_ble_eq_true rfl, Nat.le_of_ble_eq_true rfl⟩ hS (fun r H locs hw hP hS => ?_)
      have hw := hw.symm
      subst hw
      refine lv_goto (tgt := 30) hx hb dX6_aimOf_26 (by decide) ?_
      exact hJ30 o8 _ _ _ hP hD hS (lv_sub hl [] rfl) hF
  refine lv_if_eq (tgt := 13) hx hb dX6_aimOf_6 (by decide) (fun c10 => ?_) (fun c10 => ?_)
  · have hF := itp c10 hF
    refine lv_iconst (v := 1) hx hb dX6_aimOf_13 (by decide) ?_
    exact hJ14 (1 : Int32) _ _ _ b01_1 hP hD hS (lv_sub hl [0, 1] rfl) hF
  · have hF := itn c10 hF
    refine lv_iconst (v := 0) hx hb dX6_aimOf_9 (by decide) ?_
    refine lv_goto (tgt := 14) hx hb dX6_aimOf_10 (by decide) ?_
    exact hJ14 (0 : Int32) _ _ _ b01_0 hP hD hS (lv_sub hl [0, 1] rfl) hF
theorem dX6_weightOf_0 : decode cX6_weightOf 0 = .ok (.aload_n 0, 1) := by decide +kernel
theorem dX6_weightOf_1 : decode cX6_weightOf 1 = .ok (.aload_n 0, 1) := by decide +kernel
theorem dX6_weightOf_2 : decode cX6_weightOf 2 = .ok (.iload_n 1, 1) := by decide +kernel
theorem dX6_weightOf_3 : decode cX6_weightOf 3 = .ok (.invokevirtual 195, 3) := by decide +kernel
theorem dX6_weightOf_6 : decode cX6_weightOf 6 = .ok (.ifCond .eq 7, 3) := by decide +kernel
theorem dX6_weightOf_9 : decode cX6_weightOf 9 = .ok (.iconst 0, 1) := by decide +kernel
theorem dX6_weightOf_10 : decode cX6_weightOf 10 = .ok (.goto 4, 3) := by decide +kernel
theorem dX6_weightOf_13 : decode cX6_weightOf 13 = .ok (.iconst 1, 1) := by decide +kernel
theorem dX6_weightOf_14 : decode cX6_weightOf 14 = .ok (.invokevirtual 107, 3) := by decide +kernel
theorem dX6_weightOf_17 : decode cX6_weightOf 17 = .ok (.ifCond .eq 12, 3) := by decide +kernel
theorem dX6_weightOf_20 : decode cX6_weightOf 20 = .ok (.aload_n 0, 1) := by decide +kernel
theorem dX6_weightOf_21 : decode cX6_weightOf 21 = .ok (.iload_n 1, 1) := by decide +kernel
theorem dX6_weightOf_22 : decode cX6_weightOf 22 = .ok (.iconst 5, 1) := by decide +kernel
theorem dX6_weightOf_23 : decode cX6_weightOf 23 = .ok (.invokevirtual 42, 3) := by decide +kernel
theorem dX6_weightOf_26 : decode cX6_weightOf 26 = .ok (.goto 4, 3) := by decide +kernel
theorem dX6_weightOf_29 : decode cX6_weightOf 29 = .ok (.iconst 0, 1) := by decide +kernel
theorem dX6_weightOf_30 : decode cX6_weightOf 30 = .ok (.ireturn, 1) := by decide +kernel
def f_X6_weightOf (N : Nat) (v : MV) (p1 : Int32) : Option (Int32 × MV) :=
  (f_X6_isBowl N v p1).bind (fun o1 => jn (fun (s14 : Int32) => (f_X6_holds N v s14).bind (fun o4 => jn (fun (s30 : Int32) => some (s30, o4.2)) (fun (j30 : (Int32) → Option (Int32 × MV)) => (if o4.1 = 0 then j30 (0 : Int32) else (f_X6_of N o4.2 p1 (5 : Int32)).bind (fun o8 => j30 o8))))) (fun (j14 : (Int32) → Option (Int32 × MV)) => (if o1 = 0 then j14 (1 : Int32) else j14 (0 : Int32))))
set_option maxHeartbeats 4000000 in
set_option maxRecDepth 100000 in
theorem met_X6_weightOf (l : Launch) (dC : Nat → ClassId) (dI : Nat → Nat → Nat) (cyI cyO cyL : ClassId) (a : Nat → Nat) (sz : Nat) (N : Nat) (v : MV) (p1 : Int32) (out : Int32 × MV) (hF : f_X6_weightOf N v p1 = some out) : Met l yX6_weightOf (Cond.code yX6_weightOf cX6_weightOf 2 (some .int) :: wT) ({ frames := 2, cells := 0, slots := 0, locals := 43 } : Room) (wWr dC dI cyI cyO cyL [.ref (a 0), .int p1] (cM cyI a v) sz) (va_Qi (fun (r : Int32) (u : MV) => (r, u) = out) (fun u t => va_P (dC, dI) vwCl (cM cyI a u) t.heap ∧ va_D (va_A (cM cyI a v) sz) (cM cyI a u)) (va_A (cM cyI a v) sz)) 0 0 (va_A (cM cyI a v) sz) := by
  refine Met.ofW (cc := cX6_weightOf) (maxL := 2) (ret := (some .int)) (by decide) rfl ?_
  intro p e s m args below meth c s₁ B hml hv
  obtain ⟨rfl, hsz, hP, hK, hD0⟩ := hv
  have hx := B.exec
  have hb := B.bytes
  have hr := B.returns
  have hts0 := atoms_spec (ws := (Cond.code yX6_weightOf cX6_weightOf 2 (some .int) :: wT)) B.pre
  have hts := fun w h => hts0 w (List.mem_cons_of_mem _ h)
  clear hts0
  have hown : s.vm.findClass RX6 = some m.cls := findClass_of_methodNamed B.named
  have hlocks := B.notSynchronized
  subst hsz
  have hD := hD0.self (sz := s.heap.size)
  generalize hAe : va_A (cM cyI a v) s.heap.size = A at hD ⊢
  have hA : ∀ q : Nat, s.heap.size ≤ q → A q := fun q h => by rw [← hAe]; exact Or.inr h
  clear hD0
  have hS : va_S A s.heap s.heap [] := va_S.rf
  have hl := lv_entry [.ref (a 0), .int p1] (n := 2) (Nat.le_of_ble_eq_true rfl)
  rw [lg_entry_eq]
  generalize (lg_sl [.ref (a 0), .int p1] ++ List.replicate (2 - (lg_sl [.ref (a 0), .int p1]).length) Slot.unset).toArray = ls at hl ⊢
  have hl : lv_has ls 2 [(0, .ref (a 0)), (1, .int p1)] := hl
  unfold f_X6_weightOf at hF
  refine lv_aload_n hx hb dX6_weightOf_0 rfl (lv_at hl 0 rfl) ?_
  refine lv_aload_n hx hb dX6_weightOf_1 rfl (lv_at hl 0 rfl) ?_
  refine lv_iload_n hx hb dX6_weightOf_2 rfl (lv_at hl 1 rfl) ?_
  obtain ⟨o1, h2, hF⟩ := obd hF
  refine wcRVi (As := [.int p1]) (rest := [.ref (a 0)]) (b := (a 0)) ⟨hx, hb, hml, hown, hts⟩ (met_X6_isBowl l dC dI cyI cyO cyL a N v p1 o1 h2) (cwV 1 hts (gV w_methodLink_X6_195 w_instanceMethod_X6_isBowl w_selects_X6_isBowl w_initialized_X6 w_code_X6_isBowl) rfl rfl rfl (by decide +kernel) ⟨Nat.le_of_ble_eq_true rfl, Nat.le_of_ble_eq_true rfl⟩) (va_recv hK.1 hP (ci := 6) (q0 := 0) rfl rfl) hP hK [0, 1, 2, 3, 4, 5, 6, 7] rfl rfl hl.1 (Nat.le_of_ble_eq_true rfl) dX6_weightOf_3 ⟨Nat.le_of_ble_eq_true rfl, Nat.le_of_ble_eq_true rfl⟩ hS (fun r H locs hw hP hS => ?_)
  obtain ⟨hw, hz3⟩ := hw
  have hw := hw.symm
  subst hw
  obtain ⟨j14, hj14, hF⟩ := jn_use hF
  have hJ14 : ∀ (s14 : Int32) (H : Heap) (locs : List Loc) (ls : Array Slot) (hz_14_s1 : b01 s14), va_P (dC, dI) vwCl (cM cyI a v) H → va_D A (cM cyI a v) → va_S A s.heap H locs → lv_has ls 2 [(0, .ref (a 0)), (1, .int p1)] → j14 s14 = some out → W p l e (headSpec (Cond.code yX6_weightOf cX6_weightOf 2 (some .int) :: wT) ({ frames := 2, cells := 0, slots := 0, locals := 43 } : Room)).room s m ([.ref (a 0), .int p1] : List Value).toArray below meth c H locs 0 0 (MQ below (va_Qi (fun (r : Int32) (u : MV) => (r, u) = out) (fun u t => va_P (dC, dI) vwCl (cM cyI a u) t.heap ∧ va_D A (cM cyI a u)) A) ([.ref (a 0), .int p1] : List Value).toArray s 0 0 A) (F0 m 14 ls [.int s14, .ref (a 0)]) := by
    intro s14 H locs ls hz_14_s1 hP hD hS hl hF
    have hF := (congrFun hj14 s14).symm.trans hF
    obtain ⟨o4, h5, hF⟩ := obd hF
    refine wcWVi (As := [.int s14]) (rest := []) (wr := []) (b := (a 0)) ⟨hx, hb, hml, hown, hts⟩ (met_X6_holds l dC dI cyI cyO cyL a _ N v s14 o4 h5) (cwV 1 hts (gV w_methodLink_X6_107 w_instanceMethod_X6_holds w_selects_X6_holds w_initialized_X6 w_code_X6_holds) rfl rfl rfl (by decide +kernel) ⟨Nat.le_of_ble_eq_true rfl, Nat.le_of_ble_eq_true rfl⟩) (va_recv hK.1 hP (ci := 6) (q0 := 0) rfl rfl) hP hD hK [0, 1, 2, 3, 4, 5, 6, 7] [] rfl rfl (by decide) (by decide) (by decide) rfl hl.1 (Nat.le_of_ble_eq_true rfl) dX6_weightOf_14 ⟨Nat.le_of_ble_eq_true rfl, Nat.le_of_ble_eq_true rfl⟩ hS hA (fun r u H locs hw hP hD hS => ?_)
    obtain ⟨hw, hz6⟩ := hw
    obtain rfl : r = o4.1 := congrArg Prod.fst hw
    obtain rfl : u = o4.2 := congrArg Prod.snd hw
    clear hw
    have hP : va_P (dC, dI) vwCl (cM cyI a o4.2) H := hP
    have hD : va_D A (cM cyI a o4.2) := hD
    obtain ⟨j30, hj30, hF⟩ := jn_use hF
    have hJ30 : ∀ (s30 : Int32) (H : Heap) (locs : List Loc) (ls : Array Slot), va_P (dC, dI) vwCl (cM cyI a o4.2) H → va_D A (cM cyI a o4.2) → va_S A s.heap H locs → lv_has ls 2 [] → j30 s30 = some out → W p l e (headSpec (Cond.code yX6_weightOf cX6_weightOf 2 (some .int) :: wT) ({ frames := 2, cells := 0, slots := 0, locals := 43 } : Room)).room s m ([.ref (a 0), .int p1] : List Value).toArray below meth c H locs 0 0 (MQ below (va_Qi (fun (r : Int32) (u : MV) => (r, u) = out) (fun u t => va_P (dC, dI) vwCl (cM cyI a u) t.heap ∧ va_D A (cM cyI a u)) A) ([.ref (a 0), .int p1] : List Value).toArray s 0 0 A) (F0 m 30 ls [.int s30]) := by
      intro s30 H locs ls hP hD hS hl hF
      have hF := (congrFun hj30 s30).symm.trans hF
      exact W.iret (v := s30) hx hb hr (fun t ht hW => ⟨⟨_, o4.2, rfl, Option.some.inj hF, by rw [ht]; exact hP, hD⟩, hS.F ht⟩) hS.2.2 dX6_weightOf_30
    refine lv_if_eq (tgt := 29) hx hb dX6_weightOf_17 (by decide) (fun c7 => ?_) (fun c7 => ?_)
    · have hF := itp c7 hF
      refine lv_iconst (v := 0) hx hb dX6_weightOf_29 (by decide) ?_
      exact hJ30 (0 : Int32) _ _ _ hP hD hS (lv_sub hl [] rfl) hF
    · have hF := itn c7 hF
      refine lv_aload_n hx hb dX6_weightOf_20 rfl (lv_at hl 0 rfl) ?_
      refine lv_iload_n hx hb dX6_weightOf_21 rfl (lv_at hl 1 rfl) ?_
      refine lv_iconst (v := 5) hx hb dX6_weightOf_22 (by decide) ?_
      obtain ⟨o8, h9, hF⟩ := obd hF
      refine wcRVi (As := [.int p1, .int (5 : Int32)]) (rest := []) (b := (a 0)) ⟨hx, hb, hml, hown, hts⟩ (met_X6_of l dC dI cyI cyO cyL a N o4.2 p1 (5 : Int32) o8 h9) (cwV 2 hts (gV w_methodLink_X6_42 w_instanceMethod_X6_of w_selects_X6_of w_initialized_X6 w_code_X6_of) rfl rfl rfl (by decide +kernel) ⟨Nat.le_of_ble_eq_true rfl, Nat.le_of_ble_eq_true rfl⟩) (va_recv hK.1 hP (ci := 6) (q0 := 0) rfl rfl) hP hK [0, 1, 2, 3, 4, 5, 6, 7] rfl rfl hl.1 (Nat.le_of_ble_eq_true rfl) dX6_weightOf_23 ⟨Nat.le_of_ble_eq_true rfl, Nat.le_of_ble_eq_true rfl⟩ hS (fun r H locs hw hP hS => ?_)
      have hw := hw.symm
      subst hw
      refine lv_goto (tgt := 30) hx hb dX6_weightOf_26 (by decide) ?_
      exact hJ30 o8 _ _ _ hP hD hS (lv_sub hl [] rfl) hF
  refine lv_if_eq (tgt := 13) hx hb dX6_weightOf_6 (by decide) (fun c10 => ?_) (fun c10 => ?_)
  · have hF := itp c10 hF
    refine lv_iconst (v := 1) hx hb dX6_weightOf_13 (by decide) ?_
    exact hJ14 (1 : Int32) _ _ _ b01_1 hP hD hS (lv_sub hl [0, 1] rfl) hF
  · have hF := itn c10 hF
    refine lv_iconst (v := 0) hx hb dX6_weightOf_9 (by decide) ?_
    refine lv_goto (tgt := 14) hx hb dX6_weightOf_10 (by decide) ?_
    exact hJ14 (0 : Int32) _ _ _ b01_0 hP hD hS (lv_sub hl [0, 1] rfl) hF
theorem dX6_biasOf_0 : decode cX6_biasOf 0 = .ok (.aload_n 0, 1) := by decide +kernel
theorem dX6_biasOf_1 : decode cX6_biasOf 1 = .ok (.aload_n 0, 1) := by decide +kernel
theorem dX6_biasOf_2 : decode cX6_biasOf 2 = .ok (.iload_n 1, 1) := by decide +kernel
theorem dX6_biasOf_3 : decode cX6_biasOf 3 = .ok (.invokevirtual 195, 3) := by decide +kernel
theorem dX6_biasOf_6 : decode cX6_biasOf 6 = .ok (.ifCond .eq 7, 3) := by decide +kernel
theorem dX6_biasOf_9 : decode cX6_biasOf 9 = .ok (.iconst 0, 1) := by decide +kernel
theorem dX6_biasOf_10 : decode cX6_biasOf 10 = .ok (.goto 4, 3) := by decide +kernel
theorem dX6_biasOf_13 : decode cX6_biasOf 13 = .ok (.iconst 1, 1) := by decide +kernel
theorem dX6_biasOf_14 : decode cX6_biasOf 14 = .ok (.invokevirtual 107, 3) := by decide +kernel
theorem dX6_biasOf_17 : decode cX6_biasOf 17 = .ok (.ifCond .eq 13, 3) := by decide +kernel
theorem dX6_biasOf_20 : decode cX6_biasOf 20 = .ok (.aload_n 0, 1) := by decide +kernel
theorem dX6_biasOf_21 : decode cX6_biasOf 21 = .ok (.iload_n 1, 1) := by decide +kernel
theorem dX6_biasOf_22 : decode cX6_biasOf 22 = .ok (.bipush 6, 2) := by decide +kernel
theorem dX6_biasOf_24 : decode cX6_biasOf 24 = .ok (.invokevirtual 42, 3) := by decide +kernel
theorem dX6_biasOf_27 : decode cX6_biasOf 27 = .ok (.goto 4, 3) := by decide +kernel
theorem dX6_biasOf_30 : decode cX6_biasOf 30 = .ok (.iconst 0, 1) := by decide +kernel
theorem dX6_biasOf_31 : decode cX6_biasOf 31 = .ok (.ireturn, 1) := by decide +kernel
def f_X6_biasOf (N : Nat) (v : MV) (p1 : Int32) : Option (Int32 × MV) :=
  (f_X6_isBowl N v p1).bind (fun o1 => jn (fun (s14 : Int32) => (f_X6_holds N v s14).bind (fun o4 => jn (fun (s31 : Int32) => some (s31, o4.2)) (fun (j31 : (Int32) → Option (Int32 × MV)) => (if o4.1 = 0 then j31 (0 : Int32) else (f_X6_of N o4.2 p1 (6 : Int32)).bind (fun o8 => j31 o8))))) (fun (j14 : (Int32) → Option (Int32 × MV)) => (if o1 = 0 then j14 (1 : Int32) else j14 (0 : Int32))))
set_option maxHeartbeats 4000000 in
set_option maxRecDepth 100000 in
theorem met_X6_biasOf (l : Launch) (dC : Nat → ClassId) (dI : Nat → Nat → Nat) (cyI cyO cyL : ClassId) (a : Nat → Nat) (sz : Nat) (N : Nat) (v : MV) (p1 : Int32) (out : Int32 × MV) (hF : f_X6_biasOf N v p1 = some out) : Met l yX6_biasOf (Cond.code yX6_biasOf cX6_biasOf 2 (some .int) :: wT) ({ frames := 2, cells := 0, slots := 0, locals := 43 } : Room) (wWr dC dI cyI cyO cyL [.ref (a 0), .int p1] (cM cyI a v) sz) (va_Qi (fun (r : Int32) (u : MV) => (r, u) = out) (fun u t => va_P (dC, dI) vwCl (cM cyI a u) t.heap ∧ va_D (va_A (cM cyI a v) sz) (cM cyI a u)) (va_A (cM cyI a v) sz)) 0 0 (va_A (cM cyI a v) sz) := by
  refine Met.ofW (cc := cX6_biasOf) (maxL := 2) (ret := (some .int)) (by decide) rfl ?_
  intro p e s m args below meth c s₁ B hml hv
  obtain ⟨rfl, hsz, hP, hK, hD0⟩ := hv
  have hx := B.exec
  have hb := B.bytes
  have hr := B.returns
  have hts0 := atoms_spec (ws := (Cond.code yX6_biasOf cX6_biasOf 2 (some .int) :: wT)) B.pre
  have hts := fun w h => hts0 w (List.mem_cons_of_mem _ h)
  clear hts0
  have hown : s.vm.findClass RX6 = some m.cls := findClass_of_methodNamed B.named
  have hlocks := B.notSynchronized
  subst hsz
  have hD := hD0.self (sz := s.heap.size)
  generalize hAe : va_A (cM cyI a v) s.heap.size = A at hD ⊢
  have hA : ∀ q : Nat, s.heap.size ≤ q → A q := fun q h => by rw [← hAe]; exact Or.inr h
  clear hD0
  have hS : va_S A s.heap s.heap [] := va_S.rf
  have hl := lv_entry [.ref (a 0), .int p1] (n := 2) (Nat.le_of_ble_eq_true rfl)
  rw [lg_entry_eq]
  generalize (lg_sl [.ref (a 0), .int p1] ++ List.replicate (2 - (lg_sl [.ref (a 0), .int p1]).length) Slot.unset).toArray = ls at hl ⊢
  have hl : lv_has ls 2 [(0, .ref (a 0)), (1, .int p1)] := hl
  unfold f_X6_biasOf at hF
  refine lv_aload_n hx hb dX6_biasOf_0 rfl (lv_at hl 0 rfl) ?_
  refine lv_aload_n hx hb dX6_biasOf_1 rfl (lv_at hl 0 rfl) ?_
  refine lv_iload_n hx hb dX6_biasOf_2 rfl (lv_at hl 1 rfl) ?_
  obtain ⟨o1, h2, hF⟩ := obd hF
  refine wcRVi (As := [.int p1]) (rest := [.ref (a 0)]) (b := (a 0)) ⟨hx, hb, hml, hown, hts⟩ (met_X6_isBowl l dC dI cyI cyO cyL a N v p1 o1 h2) (cwV 1 hts (gV w_methodLink_X6_195 w_instanceMethod_X6_isBowl w_selects_X6_isBowl w_initialized_X6 w_code_X6_isBowl) rfl rfl rfl (by decide +kernel) ⟨Nat.le_of_ble_eq_true rfl, Nat.le_of_ble_eq_true rfl⟩) (va_recv hK.1 hP (ci := 6) (q0 := 0) rfl rfl) hP hK [0, 1, 2, 3, 4, 5, 6, 7] rfl rfl hl.1 (Nat.le_of_ble_eq_true rfl) dX6_biasOf_3 ⟨Nat.le_of_ble_eq_true rfl, Nat.le_of_ble_eq_true rfl⟩ hS (fun r H locs hw hP hS => ?_)
  obtain ⟨hw, hz3⟩ := hw
  have hw := hw.symm
  subst hw
  obtain ⟨j14, hj14, hF⟩ := jn_use hF
  have hJ14 : ∀ (s14 : Int32) (H : Heap) (locs : List Loc) (ls : Array Slot) (hz_14_s1 : b01 s14), va_P (dC, dI) vwCl (cM cyI a v) H → va_D A (cM cyI a v) → va_S A s.heap H locs → lv_has ls 2 [(0, .ref (a 0)), (1, .int p1)] → j14 s14 = some out → W p l e (headSpec (Cond.code yX6_biasOf cX6_biasOf 2 (some .int) :: wT) ({ frames := 2, cells := 0, slots := 0, locals := 43 } : Room)).room s m ([.ref (a 0), .int p1] : List Value).toArray below meth c H locs 0 0 (MQ below (va_Qi (fun (r : Int32) (u : MV) => (r, u) = out) (fun u t => va_P (dC, dI) vwCl (cM cyI a u) t.heap ∧ va_D A (cM cyI a u)) A) ([.ref (a 0), .int p1] : List Value).toArray s 0 0 A) (F0 m 14 ls [.int s14, .ref (a 0)]) := by
    intro s14 H locs ls hz_14_s1 hP hD hS hl hF
    have hF := (congrFun hj14 s14).symm.trans hF
    obtain ⟨o4, h5, hF⟩ := obd hF
    refine wcWVi (As := [.int s14]) (rest := []) (wr := []) (b := (a 0)) ⟨hx, hb, hml, hown, hts⟩ (met_X6_holds l dC dI cyI cyO cyL a _ N v s14 o4 h5) (cwV 1 hts (gV w_methodLink_X6_107 w_instanceMethod_X6_holds w_selects_X6_holds w_initialized_X6 w_code_X6_holds) rfl rfl rfl (by decide +kernel) ⟨Nat.le_of_ble_eq_true rfl, Nat.le_of_ble_eq_true rfl⟩) (va_recv hK.1 hP (ci := 6) (q0 := 0) rfl rfl) hP hD hK [0, 1, 2, 3, 4, 5, 6, 7] [] rfl rfl (by decide) (by decide) (by decide) rfl hl.1 (Nat.le_of_ble_eq_true rfl) dX6_biasOf_14 ⟨Nat.le_of_ble_eq_true rfl, Nat.le_of_ble_eq_true rfl⟩ hS hA (fun r u H locs hw hP hD hS => ?_)
    obtain ⟨hw, hz6⟩ := hw
    obtain rfl : r = o4.1 := congrArg Prod.fst hw
    obtain rfl : u = o4.2 := congrArg Prod.snd hw
    clear hw
    have hP : va_P (dC, dI) vwCl (cM cyI a o4.2) H := hP
    have hD : va_D A (cM cyI a o4.2) := hD
    obtain ⟨j31, hj31, hF⟩ := jn_use hF
    have hJ31 : ∀ (s31 : Int32) (H : Heap) (locs : List Loc) (ls : Array Slot), va_P (dC, dI) vwCl (cM cyI a o4.2) H → va_D A (cM cyI a o4.2) → va_S A s.heap H locs → lv_has ls 2 [] → j31 s31 = some out → W p l e (headSpec (Cond.code yX6_biasOf cX6_biasOf 2 (some .int) :: wT) ({ frames := 2, cells := 0, slots := 0, locals := 43 } : Room)).room s m ([.ref (a 0), .int p1] : List Value).toArray below meth c H locs 0 0 (MQ below (va_Qi (fun (r : Int32) (u : MV) => (r, u) = out) (fun u t => va_P (dC, dI) vwCl (cM cyI a u) t.heap ∧ va_D A (cM cyI a u)) A) ([.ref (a 0), .int p1] : List Value).toArray s 0 0 A) (F0 m 31 ls [.int s31]) := by
      intro s31 H locs ls hP hD hS hl hF
      have hF := (congrFun hj31 s31).symm.trans hF
      exact W.iret (v := s31) hx hb hr (fun t ht hW => ⟨⟨_, o4.2, rfl, Option.some.inj hF, by rw [ht]; exact hP, hD⟩, hS.F ht⟩) hS.2.2 dX6_biasOf_31
    refine lv_if_eq (tgt := 30) hx hb dX6_biasOf_17 (by decide) (fun c7 => ?_) (fun c7 => ?_)
    · have hF := itp c7 hF
      refine lv_iconst (v := 0) hx hb dX6_biasOf_30 (by decide) ?_
      exact hJ31 (0 : Int32) _ _ _ hP hD hS (lv_sub hl [] rfl) hF
    · have hF := itn c7 hF
      refine lv_aload_n hx hb dX6_biasOf_20 rfl (lv_at hl 0 rfl) ?_
      refine lv_iload_n hx hb dX6_biasOf_21 rfl (lv_at hl 1 rfl) ?_
      refine lv_bipush (v := 6) hx hb dX6_biasOf_22 (by decide) ?_
      obtain ⟨o8, h9, hF⟩ := obd hF
      refine wcRVi (As := [.int p1, .int (6 : Int32)]) (rest := []) (b := (a 0)) ⟨hx, hb, hml, hown, hts⟩ (met_X6_of l dC dI cyI cyO cyL a N o4.2 p1 (6 : Int32) o8 h9) (cwV 2 hts (gV w_methodLink_X6_42 w_instanceMethod_X6_of w_selects_X6_of w_initialized_X6 w_code_X6_of) rfl rfl rfl (by decide +kernel) ⟨Nat.le_of_ble_eq_true rfl, Nat.le_of_ble_eq_true rfl⟩) (va_recv hK.1 hP (ci := 6) (q0 := 0) rfl rfl) hP hK [0, 1, 2, 3, 4, 5, 6, 7] rfl rfl hl.1 (Nat.le_of_ble_eq_true rfl) dX6_biasOf_24 ⟨Nat.le_of_ble_eq_true rfl, Nat.le_of_ble_eq_true rfl⟩ hS (fun r H locs hw hP hS => ?_)
      have hw := hw.symm
      subst hw
      refine lv_goto (tgt := 31) hx hb dX6_biasOf_27 (by decide) ?_
      exact hJ31 o8 _ _ _ hP hD hS (lv_sub hl [] rfl) hF
  refine lv_if_eq (tgt := 13) hx hb dX6_biasOf_6 (by decide) (fun c10 => ?_) (fun c10 => ?_)
  · have hF := itp c10 hF
    refine lv_iconst (v := 1) hx hb dX6_biasOf_13 (by decide) ?_
    exact hJ14 (1 : Int32) _ _ _ b01_1 hP hD hS (lv_sub hl [0, 1] rfl) hF
  · have hF := itn c10 hF
    refine lv_iconst (v := 0) hx hb dX6_biasOf_9 (by decide) ?_
    refine lv_goto (tgt := 14) hx hb dX6_biasOf_10 (by decide) ?_
    exact hJ14 (0 : Int32) _ _ _ b01_0 hP hD hS (lv_sub hl [0, 1] rfl) hF
theorem dX6_leader_0 : decode cX6_leader 0 = .ok (.aload_n 0, 1) := by decide +kernel
theorem dX6_leader_1 : decode cX6_leader 1 = .ok (.invokevirtual 94, 3) := by decide +kernel
theorem dX6_leader_4 : decode cX6_leader 4 = .ok (.istore_n 1, 1) := by decide +kernel
theorem dX6_leader_5 : decode cX6_leader 5 = .ok (.aload_n 0, 1) := by decide +kernel
theorem dX6_leader_6 : decode cX6_leader 6 = .ok (.iload_n 1, 1) := by decide +kernel
theorem dX6_leader_7 : decode cX6_leader 7 = .ok (.ifCond .eq 7, 3) := by decide +kernel
theorem dX6_leader_10 : decode cX6_leader 10 = .ok (.iconst 0, 1) := by decide +kernel
theorem dX6_leader_11 : decode cX6_leader 11 = .ok (.goto 4, 3) := by decide +kernel
theorem dX6_leader_14 : decode cX6_leader 14 = .ok (.iconst 1, 1) := by decide +kernel
theorem dX6_leader_15 : decode cX6_leader 15 = .ok (.invokevirtual 107, 3) := by decide +kernel
theorem dX6_leader_18 : decode cX6_leader 18 = .ok (.ifCond .eq 15, 3) := by decide +kernel
theorem dX6_leader_21 : decode cX6_leader 21 = .ok (.iload_n 1, 1) := by decide +kernel
theorem dX6_leader_22 : decode cX6_leader 22 = .ok (.ifCond .le 7, 3) := by decide +kernel
theorem dX6_leader_25 : decode cX6_leader 25 = .ok (.iconst 0, 1) := by decide +kernel
theorem dX6_leader_26 : decode cX6_leader 26 = .ok (.goto 8, 3) := by decide +kernel
theorem dX6_leader_29 : decode cX6_leader 29 = .ok (.iconst 1, 1) := by decide +kernel
theorem dX6_leader_30 : decode cX6_leader 30 = .ok (.goto 4, 3) := by decide +kernel
theorem dX6_leader_33 : decode cX6_leader 33 = .ok (.iconst 0, 1) := by decide +kernel
theorem dX6_leader_34 : decode cX6_leader 34 = .ok (.ireturn, 1) := by decide +kernel
def f_X6_leader (N : Nat) (v : MV) : Option (Int32 × MV) :=
  (f_X6_score N v).bind (fun o1 => jn (fun (s15 : Int32) => (f_X6_holds N o1.2 s15).bind (fun o3 => jn (fun (s34 : Int32) => some (s34, o3.2)) (fun (j34 : (Int32) → Option (Int32 × MV)) => (if o3.1 = 0 then j34 (0 : Int32) else (if o1.1 ≤ 0 then j34 (1 : Int32) else j34 (0 : Int32)))))) (fun (j15 : (Int32) → Option (Int32 × MV)) => (if o1.1 = 0 then j15 (1 : Int32) else j15 (0 : Int32))))
set_option maxHeartbeats 4000000 in
set_option maxRecDepth 100000 in
theorem met_X6_leader (l : Launch) (dC : Nat → ClassId) (dI : Nat → Nat → Nat) (cyI cyO cyL : ClassId) (a : Nat → Nat) (sz : Nat) (N : Nat) (v : MV) (out : Int32 × MV) (hF : f_X6_leader N v = some out) : Met l yX6_leader (Cond.code yX6_leader cX6_leader 2 (some .int) :: wT) ({ frames := 4, cells := 0, slots := 0, locals := 92 } : Room) (wWr dC dI cyI cyO cyL [.ref (a 0)] (cM cyI a v) sz) (va_Qi (fun (r : Int32) (u : MV) => (r, u) = out) (fun u t => va_P (dC, dI) vwCl (cM cyI a u) t.heap ∧ va_D (va_A (cM cyI a v) sz) (cM cyI a u)) (va_A (cM cyI a v) sz)) 0 0 (va_A (cM cyI a v) sz) := by
  refine Met.ofW (cc := cX6_leader) (maxL := 2) (ret := (some .int)) (by decide) rfl ?_
  intro p e s m args below meth c s₁ B hml hv
  obtain ⟨rfl, hsz, hP, hK, hD0⟩ := hv
  have hx := B.exec
  have hb := B.bytes
  have hr := B.returns
  have hts0 := atoms_spec (ws := (Cond.code yX6_leader cX6_leader 2 (some .int) :: wT)) B.pre
  have hts := fun w h => hts0 w (List.mem_cons_of_mem _ h)
  clear hts0
  have hown : s.vm.findClass RX6 = some m.cls := findClass_of_methodNamed B.named
  have hlocks := B.notSynchronized
  subst hsz
  have hD := hD0.self (sz := s.heap.size)
  generalize hAe : va_A (cM cyI a v) s.heap.size = A at hD ⊢
  have hA : ∀ q : Nat, s.heap.size ≤ q → A q := fun q h => by rw [← hAe]; exact Or.inr h
  clear hD0
  have hS : va_S A s.heap s.heap [] := va_S.rf
  have hl := lv_entry [.ref (a 0)] (n := 2) (Nat.le_of_ble_eq_true rfl)
  rw [lg_entry_eq]
  generalize (lg_sl [.ref (a 0)] ++ List.replicate (2 - (lg_sl [.ref (a 0)]).length) Slot.unset).toArray = ls at hl ⊢
  have hl : lv_has ls 2 [(0, .ref (a 0))] := hl
  unfold f_X6_leader at hF
  refine lv_aload_n hx hb dX6_leader_0 rfl (lv_at hl 0 rfl) ?_
  obtain ⟨o1, h2, hF⟩ := obd hF
  refine wcWVi (As := []) (rest := []) (wr := []) (b := (a 0)) ⟨hx, hb, hml, hown, hts⟩ (met_X6_score l dC dI cyI cyO cyL a _ N v  o1 h2) (cwV 0 hts (gV w_methodLink_X6_94 w_instanceMethod_X6_score w_selects_X6_score w_initialized_X6 w_code_X6_score) rfl rfl rfl (by decide +kernel) ⟨Nat.le_of_ble_eq_true rfl, Nat.le_of_ble_eq_true rfl⟩) (va_recv hK.1 hP (ci := 6) (q0 := 0) rfl rfl) hP hD hK [0, 1, 2, 3, 4, 5, 6, 7] [] rfl rfl (by decide) (by decide) (by decide) rfl hl.1 (Nat.le_of_ble_eq_true rfl) dX6_leader_1 ⟨Nat.le_of_ble_eq_true rfl, Nat.le_of_ble_eq_true rfl⟩ hS hA (fun r u H locs hw hP hD hS => ?_)
  obtain rfl : r = o1.1 := congrArg Prod.fst hw
  obtain rfl : u = o1.2 := congrArg Prod.snd hw
  clear hw
  have hP : va_P (dC, dI) vwCl (cM cyI a o1.2) H := hP
  have hD : va_D A (cM cyI a o1.2) := hD
  refine lv_istore_n (lv' := [(1, .int o1.1), (0, .ref (a 0))]) hx hb dX6_leader_4 rfl hl (by decide) rfl (fun ls hl => ?_)
  refine lv_aload_n hx hb dX6_leader_5 rfl (lv_at hl 1 rfl) ?_
  refine lv_iload_n hx hb dX6_leader_6 rfl (lv_at hl 0 rfl) ?_
  obtain ⟨j15, hj15, hF⟩ := jn_use hF
  have hJ15 : ∀ (s15 : Int32) (H : Heap) (locs : List Loc) (ls : Array Slot) (hz_15_s1 : b01 s15), va_P (dC, dI) vwCl (cM cyI a o1.2) H → va_D A (cM cyI a o1.2) → va_S A s.heap H locs → lv_has ls 2 [(1, .int o1.1)] → j15 s15 = some out → W p l e (headSpec (Cond.code yX6_leader cX6_leader 2 (some .int) :: wT) ({ frames := 4, cells := 0, slots := 0, locals := 92 } : Room)).room s m ([.ref (a 0)] : List Value).toArray below meth c H locs 0 0 (MQ below (va_Qi (fun (r : Int32) (u : MV) => (r, u) = out) (fun u t => va_P (dC, dI) vwCl (cM cyI a u) t.heap ∧ va_D A (cM cyI a u)) A) ([.ref (a 0)] : List Value).toArray s 0 0 A) (F0 m 15 ls [.int s15, .ref (a 0)]) := by
    intro s15 H locs ls hz_15_s1 hP hD hS hl hF
    have hF := (congrFun hj15 s15).symm.trans hF
    obtain ⟨o3, h4, hF⟩ := obd hF
    refine wcWVi (As := [.int s15]) (rest := []) (wr := []) (b := (a 0)) ⟨hx, hb, hml, hown, hts⟩ (met_X6_holds l dC dI cyI cyO cyL a _ N o1.2 s15 o3 h4) (cwV 1 hts (gV w_methodLink_X6_107 w_instanceMethod_X6_holds w_selects_X6_holds w_initialized_X6 w_code_X6_holds) rfl rfl rfl (by decide +kernel) ⟨Nat.le_of_ble_eq_true rfl, Nat.le_of_ble_eq_true rfl⟩) (va_recv hK.1 hP (ci := 6) (q0 := 0) rfl rfl) hP hD hK [0, 1, 2, 3, 4, 5, 6, 7] [] rfl rfl (by decide) (by decide) (by decide) rfl hl.1 (Nat.le_of_ble_eq_true rfl) dX6_leader_15 ⟨Nat.le_of_ble_eq_true rfl, Nat.le_of_ble_eq_true rfl⟩ hS hA (fun r u H locs hw hP hD hS => ?_)
    obtain ⟨hw, hz5⟩ := hw
    obtain rfl : r = o3.1 := congrArg Prod.fst hw
    obtain rfl : u = o3.2 := congrArg Prod.snd hw
    clear hw
    have hP : va_P (dC, dI) vwCl (cM cyI a o3.2) H := hP
    have hD : va_D A (cM cyI a o3.2) := hD
    obtain ⟨j34, hj34, hF⟩ := jn_use hF
    have hJ34 : ∀ (s34 : Int32) (H : Heap) (locs : List Loc) (ls : Array Slot) (hz_34_s0 : b01 s34), va_P (dC, dI) vwCl (cM cyI a o3.2) H → va_D A (cM cyI a o3.2) → va_S A s.heap H locs → lv_has ls 2 [] → j34 s34 = some out → W p l e (headSpec (Cond.code yX6_leader cX6_leader 2 (some .int) :: wT) ({ frames := 4, cells := 0, slots := 0, locals := 92 } : Room)).room s m ([.ref (a 0)] : List Value).toArray below meth c H locs 0 0 (MQ below (va_Qi (fun (r : Int32) (u : MV) => (r, u) = out) (fun u t => va_P (dC, dI) vwCl (cM cyI a u) t.heap ∧ va_D A (cM cyI a u)) A) ([.ref (a 0)] : List Value).toArray s 0 0 A) (F0 m 34 ls [.int s34]) := by
      intro s34 H locs ls hz_34_s0 hP hD hS hl hF
      have hF := (congrFun hj34 s34).symm.trans hF
      exact W.iret (v := s34) hx hb hr (fun t ht hW => ⟨⟨_, o3.2, rfl, Option.some.inj hF, by rw [ht]; exact hP, hD⟩, hS.F ht⟩) hS.2.2 dX6_leader_34
    refine lv_if_eq (tgt := 33) hx hb dX6_leader_18 (by decide) (fun c6 => ?_) (fun c6 => ?_)
    · have hF := itp c6 hF
      refine lv_iconst (v := 0) hx hb dX6_leader_33 (by decide) ?_
      exact hJ34 (0 : Int32) _ _ _ b01_0 hP hD hS (lv_sub hl [] rfl) hF
    · have hF := itn c6 hF
      refine lv_iload_n hx hb dX6_leader_21 rfl (lv_at hl 0 rfl) ?_
      refine lv_if_le (tgt := 29) hx hb dX6_leader_22 (by decide) (fun c7 => ?_) (fun c7 => ?_)
      · have hF := itp c7 hF
        refine lv_iconst (v := 1) hx hb dX6_leader_29 (by decide) ?_
        refine lv_goto (tgt := 34) hx hb dX6_leader_30 (by decide) ?_
        exact hJ34 (1 : Int32) _ _ _ b01_1 hP hD hS (lv_sub hl [] rfl) hF
      · have hF := itn c7 hF
        refine lv_iconst (v := 0) hx hb dX6_leader_25 (by decide) ?_
        refine lv_goto (tgt := 34) hx hb dX6_leader_26 (by decide) ?_
        exact hJ34 (0 : Int32) _ _ _ b01_0 hP hD hS (lv_sub hl [] rfl) hF
  refine lv_if_eq (tgt := 14) hx hb dX6_leader_7 (by decide) (fun c8 => ?_) (fun c8 => ?_)
  · have hF := itp c8 hF
    refine lv_iconst (v := 1) hx hb dX6_leader_14 (by decide) ?_
    exact hJ15 (1 : Int32) _ _ _ b01_1 hP hD hS (lv_sub hl [0] rfl) hF
  · have hF := itn c8 hF
    refine lv_iconst (v := 0) hx hb dX6_leader_10 (by decide) ?_
    refine lv_goto (tgt := 15) hx hb dX6_leader_11 (by decide) ?_
    exact hJ15 (0 : Int32) _ _ _ b01_0 hP hD hS (lv_sub hl [0] rfl) hF
theorem dX6_pointsByOrder_0 : decode cX6_pointsByOrder 0 = .ok (.aload_n 0, 1) := by decide +kernel
theorem dX6_pointsByOrder_1 : decode cX6_pointsByOrder 1 = .ok (.iconst 0, 1) := by decide +kernel
theorem dX6_pointsByOrder_2 : decode cX6_pointsByOrder 2 = .ok (.putfield 31, 3) := by decide +kernel
theorem dX6_pointsByOrder_5 : decode cX6_pointsByOrder 5 = .ok (.aload_n 0, 1) := by decide +kernel
theorem dX6_pointsByOrder_6 : decode cX6_pointsByOrder 6 = .ok (.invokevirtual 94, 3) := by decide +kernel
theorem dX6_pointsByOrder_9 : decode cX6_pointsByOrder 9 = .ok (.invokestatic 101, 3) := by decide +kernel
theorem dX6_pointsByOrder_12 : decode cX6_pointsByOrder 12 = .ok (.ireturn, 1) := by decide +kernel
def f_X6_pointsByOrder (N : Nat) (v : MV) : Option (Int32 × MV) :=
  (f_X6_score N (M_set_thrown v (0 : Int32))).bind (fun o1 => (f_X6_abs N o1.1).bind (fun o3 => some (o3, o1.2)))
set_option maxHeartbeats 4000000 in
set_option maxRecDepth 100000 in
theorem met_X6_pointsByOrder (l : Launch) (dC : Nat → ClassId) (dI : Nat → Nat → Nat) (cyI cyO cyL : ClassId) (a : Nat → Nat) (sz : Nat) (N : Nat) (v : MV) (out : Int32 × MV) (hF : f_X6_pointsByOrder N v = some out) : Met l yX6_pointsByOrder (Cond.code yX6_pointsByOrder cX6_pointsByOrder 1 (some .int) :: wT) ({ frames := 4, cells := 0, slots := 0, locals := 92 } : Room) (wWr dC dI cyI cyO cyL [.ref (a 0)] (cM cyI a v) sz) (va_Qi (fun (r : Int32) (u : MV) => (r, u) = out) (fun u t => va_P (dC, dI) vwCl (cM cyI a u) t.heap ∧ va_D (va_A (cM cyI a v) sz) (cM cyI a u)) (va_A (cM cyI a v) sz)) 0 0 (va_A (cM cyI a v) sz) := by
  refine Met.ofW (cc := cX6_pointsByOrder) (maxL := 1) (ret := (some .int)) (by decide) rfl ?_
  intro p e s m args below meth c s₁ B hml hv
  obtain ⟨rfl, hsz, hP, hK, hD0⟩ := hv
  have hx := B.exec
  have hb := B.bytes
  have hr := B.returns
  have hts0 := atoms_spec (ws := (Cond.code yX6_pointsByOrder cX6_pointsByOrder 1 (some .int) :: wT)) B.pre
  have hts := fun w h => hts0 w (List.mem_cons_of_mem _ h)
  clear hts0
  have hown : s.vm.findClass RX6 = some m.cls := findClass_of_methodNamed B.named
  have hlocks := B.notSynchronized
  subst hsz
  have hD := hD0.self (sz := s.heap.size)
  generalize hAe : va_A (cM cyI a v) s.heap.size = A at hD ⊢
  have hA : ∀ q : Nat, s.heap.size ≤ q → A q := fun q h => by rw [← hAe]; exact Or.inr h
  clear hD0
  have hS : va_S A s.heap s.heap [] := va_S.rf
  have hl := lv_entry [.ref (a 0)] (n := 1) (Nat.le_of_ble_eq_true rfl)
  rw [lg_entry_eq]
  generalize (lg_sl [.ref (a 0)] ++ List.replicate (1 - (lg_sl [.ref (a 0)]).length) Slot.unset).toArray = ls at hl ⊢
  have hl : lv_has ls 1 [(0, .ref (a 0))] := hl
  unfold f_X6_pointsByOrder at hF
  refine lv_aload_n hx hb dX6_pointsByOrder_0 rfl (lv_at hl 0 rfl) ?_
  refine lv_iconst (v := 0) hx hb dX6_pointsByOrder_1 (by decide) ?_
  refine va_put (D := (dC, dI)) (ci := 6) (v := .int (0 : Int32)) (ty := .int) (C := RX6) (T := TX6) (N := 23) hx hb hts inX6 tyX6 tyX6_ok nmX6 hown hK.1 hP hD hS 0 rfl rfl 0 (by decide) (hts _ w_fieldLink_X6_31) (fun _ h9 => h9) rfl (by decide +kernel) rfl rfl (Nat.le_of_ble_eq_true rfl) dX6_pointsByOrder_2 (fun H locs hP hD hS => ?_)
  have hP : va_P (dC, dI) vwCl (cM cyI a (M_set_thrown v (0 : Int32))) H := hP
  have hD : va_D A (cM cyI a (M_set_thrown v (0 : Int32))) := hD
  refine lv_aload_n hx hb dX6_pointsByOrder_5 rfl (lv_at hl 0 rfl) ?_
  obtain ⟨o1, h2, hF⟩ := obd hF
  refine wcWVi (As := []) (rest := []) (wr := []) (b := (a 0)) ⟨hx, hb, hml, hown, hts⟩ (met_X6_score l dC dI cyI cyO cyL a _ N (M_set_thrown v (0 : Int32))  o1 h2) (cwV 0 hts (gV w_methodLink_X6_94 w_instanceMethod_X6_score w_selects_X6_score w_initialized_X6 w_code_X6_score) rfl rfl rfl (by decide +kernel) ⟨Nat.le_of_ble_eq_true rfl, Nat.le_of_ble_eq_true rfl⟩) (va_recv hK.1 hP (ci := 6) (q0 := 0) rfl rfl) hP hD hK [0, 1, 2, 3, 4, 5, 6, 7] [] rfl rfl (by decide) (by decide) (by decide) rfl hl.1 (Nat.le_of_ble_eq_true rfl) dX6_pointsByOrder_6 ⟨Nat.le_of_ble_eq_true rfl, Nat.le_of_ble_eq_true rfl⟩ hS hA (fun r u H locs hw hP hD hS => ?_)
  obtain rfl : r = o1.1 := congrArg Prod.fst hw
  obtain rfl : u = o1.2 := congrArg Prod.snd hw
  clear hw
  have hP : va_P (dC, dI) vwCl (cM cyI a o1.2) H := hP
  have hD : va_D A (cM cyI a o1.2) := hD
  obtain ⟨o3, h4, hF⟩ := obd hF
  refine wcRSi (As := [.int o1.1]) (rest := []) ⟨hx, hb, hml, hown, hts⟩ (met_X6_abs l dC dI cyI cyO cyL  N  o1.1 o3 h4) (va_cwS 1 hts (gS w_methodLink_X6_101 w_static_X6_abs w_initialized_X6 w_code_X6_abs) rfl rfl rfl (by decide +kernel) ⟨Nat.le_of_ble_eq_true rfl, Nat.le_of_ble_eq_true rfl⟩) hP hK [] rfl rfl hl.1 (Nat.le_of_ble_eq_true rfl) dX6_pointsByOrder_9 ⟨Nat.le_of_ble_eq_true rfl, Nat.le_of_ble_eq_true rfl⟩ hS (fun r H locs hw hP hS => ?_)
  have hw := hw.symm
  subst hw
  exact W.iret (v := o3) hx hb hr (fun t ht hW => ⟨⟨_, o1.2, rfl, Option.some.inj hF, by rw [ht]; exact hP, hD⟩, hS.F ht⟩) hS.2.2 dX6_pointsByOrder_12
theorem dX6_pointsByPairs_0 : decode cX6_pointsByPairs 0 = .ok (.aload_n 0, 1) := by decide +kernel
theorem dX6_pointsByPairs_1 : decode cX6_pointsByPairs 1 = .ok (.iconst 0, 1) := by decide +kernel
theorem dX6_pointsByPairs_2 : decode cX6_pointsByPairs 2 = .ok (.putfield 31, 3) := by decide +kernel
theorem dX6_pointsByPairs_5 : decode cX6_pointsByPairs 5 = .ok (.aload_n 0, 1) := by decide +kernel
theorem dX6_pointsByPairs_6 : decode cX6_pointsByPairs 6 = .ok (.invokevirtual 94, 3) := by decide +kernel
theorem dX6_pointsByPairs_9 : decode cX6_pointsByPairs 9 = .ok (.invokestatic 101, 3) := by decide +kernel
theorem dX6_pointsByPairs_12 : decode cX6_pointsByPairs 12 = .ok (.ireturn, 1) := by decide +kernel
def f_X6_pointsByPairs (N : Nat) (v : MV) : Option (Int32 × MV) :=
  (f_X6_score N (M_set_thrown v (0 : Int32))).bind (fun o1 => (f_X6_abs N o1.1).bind (fun o3 => some (o3, o1.2)))
set_option maxHeartbeats 4000000 in
set_option maxRecDepth 100000 in
theorem met_X6_pointsByPairs (l : Launch) (dC : Nat → ClassId) (dI : Nat → Nat → Nat) (cyI cyO cyL : ClassId) (a : Nat → Nat) (sz : Nat) (N : Nat) (v : MV) (out : Int32 × MV) (hF : f_X6_pointsByPairs N v = some out) : Met l yX6_pointsByPairs (Cond.code yX6_pointsByPairs cX6_pointsByPairs 1 (some .int) :: wT) ({ frames := 4, cells := 0, slots := 0, locals := 92 } : Room) (wWr dC dI cyI cyO cyL [.ref (a 0)] (cM cyI a v) sz) (va_Qi (fun (r : Int32) (u : MV) => (r, u) = out) (fun u t => va_P (dC, dI) vwCl (cM cyI a u) t.heap ∧ va_D (va_A (cM cyI a v) sz) (cM cyI a u)) (va_A (cM cyI a v) sz)) 0 0 (va_A (cM cyI a v) sz) := by
  refine Met.ofW (cc := cX6_pointsByPairs) (maxL := 1) (ret := (some .int)) (by decide) rfl ?_
  intro p e s m args below meth c s₁ B hml hv
  obtain ⟨rfl, hsz, hP, hK, hD0⟩ := hv
  have hx := B.exec
  have hb := B.bytes
  have hr := B.returns
  have hts0 := atoms_spec (ws := (Cond.code yX6_pointsByPairs cX6_pointsByPairs 1 (some .int) :: wT)) B.pre
  have hts := fun w h => hts0 w (List.mem_cons_of_mem _ h)
  clear hts0
  have hown : s.vm.findClass RX6 = some m.cls := findClass_of_methodNamed B.named
  have hlocks := B.notSynchronized
  subst hsz
  have hD := hD0.self (sz := s.heap.size)
  generalize hAe : va_A (cM cyI a v) s.heap.size = A at hD ⊢
  have hA : ∀ q : Nat, s.heap.size ≤ q → A q := fun q h => by rw [← hAe]; exact Or.inr h
  clear hD0
  have hS : va_S A s.heap s.heap [] := va_S.rf
  have hl := lv_entry [.ref (a 0)] (n := 1) (Nat.le_of_ble_eq_true rfl)
  rw [lg_entry_eq]
  generalize (lg_sl [.ref (a 0)] ++ List.replicate (1 - (lg_sl [.ref (a 0)]).length) Slot.unset).toArray = ls at hl ⊢
  have hl : lv_has ls 1 [(0, .ref (a 0))] := hl
  unfold f_X6_pointsByPairs at hF
  refine lv_aload_n hx hb dX6_pointsByPairs_0 rfl (lv_at hl 0 rfl) ?_
  refine lv_iconst (v := 0) hx hb dX6_pointsByPairs_1 (by decide) ?_
  refine va_put (D := (dC, dI)) (ci := 6) (v := .int (0 : Int32)) (ty := .int) (C := RX6) (T := TX6) (N := 23) hx hb hts inX6 tyX6 tyX6_ok nmX6 hown hK.1 hP hD hS 0 rfl rfl 0 (by decide) (hts _ w_fieldLink_X6_31) (fun _ h9 => h9) rfl (by decide +kernel) rfl rfl (Nat.le_of_ble_eq_true rfl) dX6_pointsByPairs_2 (fun H locs hP hD hS => ?_)
  have hP : va_P (dC, dI) vwCl (cM cyI a (M_set_thrown v (0 : Int32))) H := hP
  have hD : va_D A (cM cyI a (M_set_thrown v (0 : Int32))) := hD
  refine lv_aload_n hx hb dX6_pointsByPairs_5 rfl (lv_at hl 0 rfl) ?_
  obtain ⟨o1, h2, hF⟩ := obd hF
  refine wcWVi (As := []) (rest := []) (wr := []) (b := (a 0)) ⟨hx, hb, hml, hown, hts⟩ (met_X6_score l dC dI cyI cyO cyL a _ N (M_set_thrown v (0 : Int32))  o1 h2) (cwV 0 hts (gV w_methodLink_X6_94 w_instanceMethod_X6_score w_selects_X6_score w_initialized_X6 w_code_X6_score) rfl rfl rfl (by decide +kernel) ⟨Nat.le_of_ble_eq_true rfl, Nat.le_of_ble_eq_true rfl⟩) (va_recv hK.1 hP (ci := 6) (q0 := 0) rfl rfl) hP hD hK [0, 1, 2, 3, 4, 5, 6, 7] [] rfl rfl (by decide) (by decide) (by decide) rfl hl.1 (Nat.le_of_ble_eq_true rfl) dX6_pointsByPairs_6 ⟨Nat.le_of_ble_eq_true rfl, Nat.le_of_ble_eq_true rfl⟩ hS hA (fun r u H locs hw hP hD hS => ?_)
  obtain rfl : r = o1.1 := congrArg Prod.fst hw
  obtain rfl : u = o1.2 := congrArg Prod.snd hw
  clear hw
  have hP : va_P (dC, dI) vwCl (cM cyI a o1.2) H := hP
  have hD : va_D A (cM cyI a o1.2) := hD
  obtain ⟨o3, h4, hF⟩ := obd hF
  refine wcRSi (As := [.int o1.1]) (rest := []) ⟨hx, hb, hml, hown, hts⟩ (met_X6_abs l dC dI cyI cyO cyL  N  o1.1 o3 h4) (va_cwS 1 hts (gS w_methodLink_X6_101 w_static_X6_abs w_initialized_X6 w_code_X6_abs) rfl rfl rfl (by decide +kernel) ⟨Nat.le_of_ble_eq_true rfl, Nat.le_of_ble_eq_true rfl⟩) hP hK [] rfl rfl hl.1 (Nat.le_of_ble_eq_true rfl) dX6_pointsByPairs_9 ⟨Nat.le_of_ble_eq_true rfl, Nat.le_of_ble_eq_true rfl⟩ hS (fun r H locs hw hP hS => ?_)
  have hw := hw.symm
  subst hw
  exact W.iret (v := o3) hx hb hr (fun t ht hW => ⟨⟨_, o1.2, rfl, Option.some.inj hF, by rw [ht]; exact hP, hD⟩, hS.F ht⟩) hS.2.2 dX6_pointsByPairs_12
