/-! written by program from the bytecode: what each method computes, and its contract -/

theorem dX5_at_0 : decode cX5_at 0 = .ok (.iload_n 1, 1) := by decide +kernel
theorem dX5_at_1 : decode cX5_at 1 = .ok (.ifCond .lt 15, 3) := by decide +kernel
theorem dX5_at_4 : decode cX5_at 4 = .ok (.iload_n 1, 1) := by decide +kernel
theorem dX5_at_5 : decode cX5_at 5 = .ok (.aload_n 0, 1) := by decide +kernel
theorem dX5_at_6 : decode cX5_at 6 = .ok (.arraylength, 1) := by decide +kernel
theorem dX5_at_7 : decode cX5_at 7 = .ok (.if_icmp .ge 9, 3) := by decide +kernel
theorem dX5_at_10 : decode cX5_at 10 = .ok (.aload_n 0, 1) := by decide +kernel
theorem dX5_at_11 : decode cX5_at 11 = .ok (.iload_n 1, 1) := by decide +kernel
theorem dX5_at_12 : decode cX5_at 12 = .ok (.iaload, 1) := by decide +kernel
theorem dX5_at_13 : decode cX5_at 13 = .ok (.goto 4, 3) := by decide +kernel
theorem dX5_at_16 : decode cX5_at 16 = .ok (.iconst 0, 1) := by decide +kernel
theorem dX5_at_17 : decode cX5_at 17 = .ok (.ireturn, 1) := by decide +kernel
def f_X5_at (N : Nat) (n1 : Nat) (f1 : (Nat → Int32)) (p2 : Int32) : Option (Int32) :=
  jn (fun (s17 : Int32) => some s17) (fun (j17 : (Int32) → Option (Int32)) => jn (fun (s16 : Unit) => j17 (0 : Int32)) (fun (j16 : (Unit) → Option (Int32)) => (if p2 < 0 then j16 () else (if (Int32.ofNat n1) ≤ p2 then j16 () else gd (ixok p2 n1) (j17 (f1 p2.toNatClampNeg))))))
set_option maxHeartbeats 4000000 in
set_option maxRecDepth 100000 in
theorem met_X5_at (l : Launch) (dC : Nat → ClassId) (dI : Nat → Nat → Nat) (cyI cyO : ClassId) (q1 : Nat) (n1 : Nat) (N : Nat) (f1 : (Nat → Int32)) (p2 : Int32) (out : Int32) (hF : f_X5_at N n1 f1 p2 = some out) : Met l yX5_at (Cond.code yX5_at cX5_at 2 (some .int) :: wT) ({ frames := 0, cells := 0, slots := 0, locals := 0 } : Room) (wRd dC dI cyI cyO [.ref q1, .int p2] [cI cyI q1 n1 f1]) (va_Qi (fun (r : Int32) (_ : Unit) => r = out) (fun _ _ => True) wN0) 0 0 wN0 := by
  refine Met.ofW (cc := cX5_at) (maxL := 2) (ret := (some .int)) (by decide) rfl ?_
  intro p e s m args below meth c s₁ B hml hv
  obtain ⟨rfl, hP, hK⟩ := hv
  have hx := B.exec
  have hb := B.bytes
  have hr := B.returns
  have hts0 := atoms_spec (ws := (Cond.code yX5_at cX5_at 2 (some .int) :: wT)) B.pre
  have hts := fun w h => hts0 w (List.mem_cons_of_mem _ h)
  clear hts0
  have hown : s.vm.findClass RX5 = some m.cls := findClass_of_methodNamed B.named
  have hlocks := B.notSynchronized
  have hS : va_S wN0 s.heap s.heap [] := va_S.rf
  have hl := lv_entry [.ref q1, .int p2] (n := 2) (Nat.le_of_ble_eq_true rfl)
  rw [lg_entry_eq]
  generalize (lg_sl [.ref q1, .int p2] ++ List.replicate (2 - (lg_sl [.ref q1, .int p2]).length) Slot.unset).toArray = ls at hl ⊢
  have hl : lv_has ls 2 [(0, .ref q1), (1, .int p2)] := hl
  unfold f_X5_at at hF
  refine lv_iload_n hx hb dX5_at_0 rfl (lv_at hl 1 rfl) ?_
  obtain ⟨j17, hj17, hF⟩ := jn_use hF
  have hJ17 : ∀ (s17 : Int32) (H : Heap) (locs : List Loc) (ls : Array Slot), va_P (dC, dI) vwCl [cI cyI q1 n1 f1] H → va_S wN0 s.heap H locs → lv_has ls 2 [] → j17 s17 = some out → W p l e (headSpec (Cond.code yX5_at cX5_at 2 (some .int) :: wT) ({ frames := 0, cells := 0, slots := 0, locals := 0 } : Room)).room s m ([.ref q1, .int p2] : List Value).toArray below meth c H locs 0 0 (MQ below (va_Qi (fun (r : Int32) (_ : Unit) => r = out) (fun _ _ => True) wN0) ([.ref q1, .int p2] : List Value).toArray s 0 0 wN0) (F0 m 17 ls [.int s17]) := by
    intro s17 H locs ls hP hS hl hF
    have hF := (congrFun hj17 s17).symm.trans hF
    exact W.iret (v := s17) hx hb hr (fun t ht hW => ⟨⟨_, (), rfl, Option.some.inj hF, trivial⟩, hS.F ht⟩) hS.2.2 dX5_at_17
  obtain ⟨j16, hj16, hF⟩ := jn_use hF
  have hJ16 : ∀ (s16 : Unit) (H : Heap) (locs : List Loc) (ls : Array Slot), va_P (dC, dI) vwCl [cI cyI q1 n1 f1] H → va_S wN0 s.heap H locs → lv_has ls 2 [] → j16 s16 = some out → W p l e (headSpec (Cond.code yX5_at cX5_at 2 (some .int) :: wT) ({ frames := 0, cells := 0, slots := 0, locals := 0 } : Room)).room s m ([.ref q1, .int p2] : List Value).toArray below meth c H locs 0 0 (MQ below (va_Qi (fun (r : Int32) (_ : Unit) => r = out) (fun _ _ => True) wN0) ([.ref q1, .int p2] : List Value).toArray s 0 0 wN0) (F0 m 16 ls []) := by
    intro s16 H locs ls hP hS hl hF
    have hF := (congrFun hj16 s16).symm.trans hF
    refine lv_iconst (v := 0) hx hb dX5_at_16 (by decide) ?_
    exact hJ17 (0 : Int32) _ _ _ hP hS (lv_sub hl [] rfl) hF
  refine lv_if_lt (tgt := 16) hx hb dX5_at_1 (by decide) (fun c1 => ?_) (fun c1 => ?_)
  · have hF := itp c1 hF
    exact hJ16 () _ _ _ hP hS (lv_sub hl [] rfl) hF
  · have hF := itn c1 hF
    refine lv_iload_n hx hb dX5_at_4 rfl (lv_at hl 1 rfl) ?_
    refine lv_aload_n hx hb dX5_at_5 rfl (lv_at hl 0 rfl) ?_
    refine va_alen hx hb hK.1 hP 0 0 rfl rfl (v := (Int32.ofNat n1)) rfl dX5_at_6 ?_
    refine lv_icmp_ge (tgt := 16) hx hb dX5_at_7 (by decide) (fun c2 => ?_) (fun c2 => ?_)
    · have hF := itp c2 hF
      exact hJ16 () _ _ _ hP hS (lv_sub hl [] rfl) hF
    · have hF := itn c2 hF
      refine lv_aload_n hx hb dX5_at_10 rfl (lv_at hl 0 rfl) ?_
      refine lv_iload_n hx hb dX5_at_11 rfl (lv_at hl 1 rfl) ?_
      obtain ⟨hg3, hF⟩ := gd_use hF
      refine va_iald hx hb hK.1 hP 0 0 rfl rfl (i := p2) hg3 dX5_at_12 ?_
      refine lv_goto (tgt := 17) hx hb dX5_at_13 (by decide) ?_
      exact hJ17 (f1 p2.toNatClampNeg) _ _ _ hP hS (lv_sub hl [] rfl) hF
theorem dX5_put_0 : decode cX5_put 0 = .ok (.iload_n 1, 1) := by decide +kernel
theorem dX5_put_1 : decode cX5_put 1 = .ok (.ifCond .lt 13, 3) := by decide +kernel
theorem dX5_put_4 : decode cX5_put 4 = .ok (.iload_n 1, 1) := by decide +kernel
theorem dX5_put_5 : decode cX5_put 5 = .ok (.aload_n 0, 1) := by decide +kernel
theorem dX5_put_6 : decode cX5_put 6 = .ok (.arraylength, 1) := by decide +kernel
theorem dX5_put_7 : decode cX5_put 7 = .ok (.if_icmp .ge 7, 3) := by decide +kernel
theorem dX5_put_10 : decode cX5_put 10 = .ok (.aload_n 0, 1) := by decide +kernel
theorem dX5_put_11 : decode cX5_put 11 = .ok (.iload_n 1, 1) := by decide +kernel
theorem dX5_put_12 : decode cX5_put 12 = .ok (.iload_n 2, 1) := by decide +kernel
theorem dX5_put_13 : decode cX5_put 13 = .ok (.iastore, 1) := by decide +kernel
theorem dX5_put_14 : decode cX5_put 14 = .ok (.return_, 1) := by decide +kernel
def f_X5_put (N : Nat) (n1 : Nat) (f1 : (Nat → Int32)) (p2 : Int32) (p3 : Int32) : Option ((Nat → Int32)) :=
  jn (fun (s14 : (Nat → Int32)) => some s14) (fun (j14 : ((Nat → Int32)) → Option ((Nat → Int32))) => (if p2 < 0 then j14 f1 else (if (Int32.ofNat n1) ≤ p2 then j14 f1 else gd (ixok p2 n1) (j14 (upd f1 p2.toNatClampNeg p3)))))
set_option maxHeartbeats 4000000 in
set_option maxRecDepth 100000 in
theorem met_X5_put (l : Launch) (dC : Nat → ClassId) (dI : Nat → Nat → Nat) (cyI cyO : ClassId) (q1 : Nat) (n1 : Nat) (sz : Nat) (N : Nat) (f1 : (Nat → Int32)) (p2 : Int32) (p3 : Int32) (out : (Nat → Int32)) (hF : f_X5_put N n1 f1 p2 p3 = some out) : Met l yX5_put (Cond.code yX5_put cX5_put 3 none :: wT) ({ frames := 0, cells := 0, slots := 0, locals := 0 } : Room) (wWr dC dI cyI cyO [.ref q1, .int p2, .int p3] [cI cyI q1 n1 f1] sz) (va_Qv (fun (u : (Nat → Int32)) => u = out) (fun u t => va_P (dC, dI) vwCl [cI cyI q1 n1 u] t.heap ∧ va_D (va_A [cI cyI q1 n1 f1] sz) [cI cyI q1 n1 u]) (va_A [cI cyI q1 n1 f1] sz)) 0 0 (va_A [cI cyI q1 n1 f1] sz) := by
  refine Met.ofW (cc := cX5_put) (maxL := 3) (ret := none) (by decide) rfl ?_
  intro p e s m args below meth c s₁ B hml hv
  obtain ⟨rfl, hsz, hP, hK, hD0⟩ := hv
  have hx := B.exec
  have hb := B.bytes
  have hr := B.returns
  have hts0 := atoms_spec (ws := (Cond.code yX5_put cX5_put 3 none :: wT)) B.pre
  have hts := fun w h => hts0 w (List.mem_cons_of_mem _ h)
  clear hts0
  have hown : s.vm.findClass RX5 = some m.cls := findClass_of_methodNamed B.named
  have hlocks := B.notSynchronized
  subst hsz
  have hD := hD0.self (sz := s.heap.size)
  generalize hAe : va_A [cI cyI q1 n1 f1] s.heap.size = A at hD ⊢
  have hA : ∀ q : Nat, s.heap.size ≤ q → A q := fun q h => by rw [← hAe]; exact Or.inr h
  clear hD0
  have hS : va_S A s.heap s.heap [] := va_S.rf
  have hl := lv_entry [.ref q1, .int p2, .int p3] (n := 3) (Nat.le_of_ble_eq_true rfl)
  rw [lg_entry_eq]
  generalize (lg_sl [.ref q1, .int p2, .int p3] ++ List.replicate (3 - (lg_sl [.ref q1, .int p2, .int p3]).length) Slot.unset).toArray = ls at hl ⊢
  have hl : lv_has ls 3 [(0, .ref q1), (1, .int p2), (2, .int p3)] := hl
  unfold f_X5_put at hF
  refine lv_iload_n hx hb dX5_put_0 rfl (lv_at hl 1 rfl) ?_
  obtain ⟨j14, hj14, hF⟩ := jn_use hF
  have hJ14 : ∀ (s14 : (Nat → Int32)) (H : Heap) (locs : List Loc) (ls : Array Slot), va_P (dC, dI) vwCl [cI cyI q1 n1 s14] H → va_D A [cI cyI q1 n1 s14] → va_S A s.heap H locs → lv_has ls 3 [] → j14 s14 = some out → W p l e (headSpec (Cond.code yX5_put cX5_put 3 none :: wT) ({ frames := 0, cells := 0, slots := 0, locals := 0 } : Room)).room s m ([.ref q1, .int p2, .int p3] : List Value).toArray below meth c H locs 0 0 (MQ below (va_Qv (fun (u : (Nat → Int32)) => u = out) (fun u t => va_P (dC, dI) vwCl [cI cyI q1 n1 u] t.heap ∧ va_D A [cI cyI q1 n1 u]) A) ([.ref q1, .int p2, .int p3] : List Value).toArray s 0 0 A) (F0 m 14 ls []) := by
    intro s14 H locs ls hP hD hS hl hF
    have hF := (congrFun hj14 s14).symm.trans hF
    exact W.vret hx hb hr (fun t ht hW => ⟨⟨_, rfl, Option.some.inj hF, by rw [ht]; exact hP, hD⟩, hS.F ht⟩) hS.2.2 dX5_put_14
  refine lv_if_lt (tgt := 14) hx hb dX5_put_1 (by decide) (fun c1 => ?_) (fun c1 => ?_)
  · have hF := itp c1 hF
    exact hJ14 f1 _ _ _ hP hD hS (lv_sub hl [] rfl) hF
  · have hF := itn c1 hF
    refine lv_iload_n hx hb dX5_put_4 rfl (lv_at hl 1 rfl) ?_
    refine lv_aload_n hx hb dX5_put_5 rfl (lv_at hl 0 rfl) ?_
    refine va_alen hx hb hK.1 hP 0 0 rfl rfl (v := (Int32.ofNat n1)) rfl dX5_put_6 ?_
    refine lv_icmp_ge (tgt := 14) hx hb dX5_put_7 (by decide) (fun c2 => ?_) (fun c2 => ?_)
    · have hF := itp c2 hF
      exact hJ14 f1 _ _ _ hP hD hS (lv_sub hl [] rfl) hF
    · have hF := itn c2 hF
      refine lv_aload_n hx hb dX5_put_10 rfl (lv_at hl 0 rfl) ?_
      refine lv_iload_n hx hb dX5_put_11 rfl (lv_at hl 1 rfl) ?_
      refine lv_iload_n hx hb dX5_put_12 rfl (lv_at hl 2 rfl) ?_
      obtain ⟨hg3, hF⟩ := gd_use hF
      refine va_iast hx hb hK.1 hP hD hS 0 0 rfl rfl (i := p2) (x := p3) hg3 dX5_put_13 (fun H locs hP hD hS => ?_)
      have hP : va_P (dC, dI) vwCl [cI cyI q1 n1 (upd f1 p2.toNatClampNeg p3)] H := hP
      have hD : va_D A [cI cyI q1 n1 (upd f1 p2.toNatClampNeg p3)] := hD
      exact hJ14 (upd f1 p2.toNatClampNeg p3) _ _ _ hP hD hS (lv_sub hl [] rfl) hF
theorem dX5_fillAll_0 : decode cX5_fillAll 0 = .ok (.iconst 0, 1) := by decide +kernel
theorem dX5_fillAll_1 : decode cX5_fillAll 1 = .ok (.istore_n 2, 1) := by decide +kernel
theorem dX5_fillAll_2 : decode cX5_fillAll 2 = .ok (.iload_n 2, 1) := by decide +kernel
theorem dX5_fillAll_3 : decode cX5_fillAll 3 = .ok (.aload_n 0, 1) := by decide +kernel
theorem dX5_fillAll_4 : decode cX5_fillAll 4 = .ok (.arraylength, 1) := by decide +kernel
theorem dX5_fillAll_5 : decode cX5_fillAll 5 = .ok (.if_icmp .ge 13, 3) := by decide +kernel
theorem dX5_fillAll_8 : decode cX5_fillAll 8 = .ok (.aload_n 0, 1) := by decide +kernel
theorem dX5_fillAll_9 : decode cX5_fillAll 9 = .ok (.iload_n 2, 1) := by decide +kernel
theorem dX5_fillAll_10 : decode cX5_fillAll 10 = .ok (.iload_n 1, 1) := by decide +kernel
theorem dX5_fillAll_11 : decode cX5_fillAll 11 = .ok (.iastore, 1) := by decide +kernel
theorem dX5_fillAll_12 : decode cX5_fillAll 12 = .ok (.iinc 2 1, 3) := by decide +kernel
theorem dX5_fillAll_15 : decode cX5_fillAll 15 = .ok (.goto (-13), 3) := by decide +kernel
theorem dX5_fillAll_18 : decode cX5_fillAll 18 = .ok (.return_, 1) := by decide +kernel
def f_X5_fillAll (N : Nat) (n1 : Nat) (f1 : (Nat → Int32)) (p2 : Int32) : Option ((Nat → Int32)) :=
  lpN (fun (s2 : Int32 × (Nat → Int32)) (k2 : (Int32 × (Nat → Int32)) → Option ((Nat → Int32))) => (if (Int32.ofNat n1) ≤ s2.1 then some s2.2 else gd (ixok s2.1 n1) (k2 ((s2.1 + (1 : Int32)), (upd s2.2 s2.1.toNatClampNeg p2))))) N ((0 : Int32), f1)
set_option maxHeartbeats 4000000 in
set_option maxRecDepth 100000 in
theorem met_X5_fillAll (l : Launch) (dC : Nat → ClassId) (dI : Nat → Nat → Nat) (cyI cyO : ClassId) (q1 : Nat) (n1 : Nat) (sz : Nat) (N : Nat) (f1 : (Nat → Int32)) (p2 : Int32) (out : (Nat → Int32)) (hF : f_X5_fillAll N n1 f1 p2 = some out) : Met l yX5_fillAll (Cond.code yX5_fillAll cX5_fillAll 3 none :: wT) ({ frames := 0, cells := 0, slots := 0, locals := 0 } : Room) (wWr dC dI cyI cyO [.ref q1, .int p2] [cI cyI q1 n1 f1] sz) (va_Qv (fun (u : (Nat → Int32)) => u = out) (fun u t => va_P (dC, dI) vwCl [cI cyI q1 n1 u] t.heap ∧ va_D (va_A [cI cyI q1 n1 f1] sz) [cI cyI q1 n1 u]) (va_A [cI cyI q1 n1 f1] sz)) 0 0 (va_A [cI cyI q1 n1 f1] sz) := by
  refine Met.ofW (cc := cX5_fillAll) (maxL := 3) (ret := none) (by decide) rfl ?_
  intro p e s m args below meth c s₁ B hml hv
  obtain ⟨rfl, hsz, hP, hK, hD0⟩ := hv
  have hx := B.exec
  have hb := B.bytes
  have hr := B.returns
  have hts0 := atoms_spec (ws := (Cond.code yX5_fillAll cX5_fillAll 3 none :: wT)) B.pre
  have hts := fun w h => hts0 w (List.mem_cons_of_mem _ h)
  clear hts0
  have hown : s.vm.findClass RX5 = some m.cls := findClass_of_methodNamed B.named
  have hlocks := B.notSynchronized
  subst hsz
  have hD := hD0.self (sz := s.heap.size)
  generalize hAe : va_A [cI cyI q1 n1 f1] s.heap.size = A at hD ⊢
  have hA : ∀ q : Nat, s.heap.size ≤ q → A q := fun q h => by rw [← hAe]; exact Or.inr h
  clear hD0
  have hS : va_S A s.heap s.heap [] := va_S.rf
  have hl := lv_entry [.ref q1, .int p2] (n := 3) (Nat.le_of_ble_eq_true rfl)
  rw [lg_entry_eq]
  generalize (lg_sl [.ref q1, .int p2] ++ List.replicate (3 - (lg_sl [.ref q1, .int p2]).length) Slot.unset).toArray = ls at hl ⊢
  have hl : lv_has ls 3 [(0, .ref q1), (1, .int p2)] := hl
  unfold f_X5_fillAll at hF
  refine lv_iconst (v := 0) hx hb dX5_fillAll_0 (by decide) ?_
  refine lv_istore_n (lv' := [(2, .int (0 : Int32)), (0, .ref q1), (1, .int p2)]) hx hb dX5_fillAll_1 rfl hl (by decide) rfl (fun ls hl => ?_)
  obtain ⟨st2, hst2, hF⟩ := lpN_use hF
  have hL2 : ∀ (n : Nat) (s2 : Int32 × (Nat → Int32)) (H : Heap) (locs : List Loc) (ls : Array Slot), va_P (dC, dI) vwCl [cI cyI q1 n1 s2.2] H → va_D A [cI cyI q1 n1 s2.2] → va_S A s.heap H locs → lv_has ls 3 [(0, .ref q1), (1, .int p2), (2, .int s2.1)] → lpN st2 n s2 = some out → W p l e (headSpec (Cond.code yX5_fillAll cX5_fillAll 3 none :: wT) ({ frames := 0, cells := 0, slots := 0, locals := 0 } : Room)).room s m ([.ref q1, .int p2] : List Value).toArray below meth c H locs 0 0 (MQ below (va_Qv (fun (u : (Nat → Int32)) => u = out) (fun u t => va_P (dC, dI) vwCl [cI cyI q1 n1 u] t.heap ∧ va_D A [cI cyI q1 n1 u]) A) ([.ref q1, .int p2] : List Value).toArray s 0 0 A) (F0 m 2 ls []) := by
    intro n
    induction n with
    | zero => intro s2 H locs ls hP hD hS hl hF; exact lpN_0 hF
    | succ n ih2 =>
      intro s2 H locs ls hP hD hS hl hF
      have hF := (congrFun (congrFun hst2 s2) (lpN st2 n)).symm.trans (lpN_s hF)
      refine lv_iload_n hx hb dX5_fillAll_2 rfl (lv_at hl 2 rfl) ?_
      refine lv_aload_n hx hb dX5_fillAll_3 rfl (lv_at hl 0 rfl) ?_
      refine va_alen hx hb hK.1 hP 0 0 rfl rfl (v := (Int32.ofNat n1)) rfl dX5_fillAll_4 ?_
      refine lv_icmp_ge (tgt := 18) hx hb dX5_fillAll_5 (by decide) (fun c1 => ?_) (fun c1 => ?_)
      · have hF := itp c1 hF
        exact W.vret hx hb hr (fun t ht hW => ⟨⟨_, rfl, Option.some.inj hF, by rw [ht]; exact hP, hD⟩, hS.F ht⟩) hS.2.2 dX5_fillAll_18
      · have hF := itn c1 hF
        refine lv_aload_n hx hb dX5_fillAll_8 rfl (lv_at hl 0 rfl) ?_
        refine lv_iload_n hx hb dX5_fillAll_9 rfl (lv_at hl 2 rfl) ?_
        refine lv_iload_n hx hb dX5_fillAll_10 rfl (lv_at hl 1 rfl) ?_
        obtain ⟨hg2, hF⟩ := gd_use hF
        refine va_iast hx hb hK.1 hP hD hS 0 0 rfl rfl (i := s2.1) (x := p2) hg2 dX5_fillAll_11 (fun H locs hP hD hS => ?_)
        have hP : va_P (dC, dI) vwCl [cI cyI q1 n1 (upd s2.2 s2.1.toNatClampNeg p2)] H := hP
        have hD : va_D A [cI cyI q1 n1 (upd s2.2 s2.1.toNatClampNeg p2)] := hD
        refine lv_iinc (v := (s2.1 + (1 : Int32))) (lv' := [(2, .int (s2.1 + (1 : Int32))), (0, .ref q1), (1, .int p2)]) hx hb dX5_fillAll_12 hl (k := 2) rfl rfl (by decide) rfl (fun ls hl => ?_)
        refine lv_goto (tgt := 2) hx hb dX5_fillAll_15 (by decide) ?_
        exact ih2 ((s2.1 + (1 : Int32)), (upd s2.2 s2.1.toNatClampNeg p2)) _ _ _ hP hD hS (lv_sub hl [1, 2, 0] rfl) hF
  exact hL2 N ((0 : Int32), f1) _ _ _ hP hD hS (lv_sub hl [1, 2, 0] rfl) hF
theorem dX5_copyAll_0 : decode cX5_copyAll 0 = .ok (.iconst 0, 1) := by decide +kernel
theorem dX5_copyAll_1 : decode cX5_copyAll 1 = .ok (.istore_n 2, 1) := by decide +kernel
theorem dX5_copyAll_2 : decode cX5_copyAll 2 = .ok (.iload_n 2, 1) := by decide +kernel
theorem dX5_copyAll_3 : decode cX5_copyAll 3 = .ok (.aload_n 0, 1) := by decide +kernel
theorem dX5_copyAll_4 : decode cX5_copyAll 4 = .ok (.arraylength, 1) := by decide +kernel
theorem dX5_copyAll_5 : decode cX5_copyAll 5 = .ok (.if_icmp .ge 21, 3) := by decide +kernel
theorem dX5_copyAll_8 : decode cX5_copyAll 8 = .ok (.iload_n 2, 1) := by decide +kernel
theorem dX5_copyAll_9 : decode cX5_copyAll 9 = .ok (.aload_n 1, 1) := by decide +kernel
theorem dX5_copyAll_10 : decode cX5_copyAll 10 = .ok (.arraylength, 1) := by decide +kernel
theorem dX5_copyAll_11 : decode cX5_copyAll 11 = .ok (.if_icmp .ge 15, 3) := by decide +kernel
theorem dX5_copyAll_14 : decode cX5_copyAll 14 = .ok (.aload_n 1, 1) := by decide +kernel
theorem dX5_copyAll_15 : decode cX5_copyAll 15 = .ok (.iload_n 2, 1) := by decide +kernel
theorem dX5_copyAll_16 : decode cX5_copyAll 16 = .ok (.aload_n 0, 1) := by decide +kernel
theorem dX5_copyAll_17 : decode cX5_copyAll 17 = .ok (.iload_n 2, 1) := by decide +kernel
theorem dX5_copyAll_18 : decode cX5_copyAll 18 = .ok (.iaload, 1) := by decide +kernel
theorem dX5_copyAll_19 : decode cX5_copyAll 19 = .ok (.iastore, 1) := by decide +kernel
theorem dX5_copyAll_20 : decode cX5_copyAll 20 = .ok (.iinc 2 1, 3) := by decide +kernel
theorem dX5_copyAll_23 : decode cX5_copyAll 23 = .ok (.goto (-21), 3) := by decide +kernel
theorem dX5_copyAll_26 : decode cX5_copyAll 26 = .ok (.return_, 1) := by decide +kernel
def f_X5_copyAll (N : Nat) (n1 : Nat) (n2 : Nat) (f1 : (Nat → Int32)) (f2 : (Nat → Int32)) : Option ((Nat → Int32) × (Nat → Int32)) :=
  lpN (fun (s2 : Int32 × (Nat → Int32) × (Nat → Int32)) (k2 : (Int32 × (Nat → Int32) × (Nat → Int32)) → Option ((Nat → Int32) × (Nat → Int32))) => jn (fun (s26 : Unit) => some (s2.2.1, s2.2.2)) (fun (j26 : (Unit) → Option ((Nat → Int32) × (Nat → Int32))) => (if (Int32.ofNat n1) ≤ s2.1 then j26 () else (if (Int32.ofNat n2) ≤ s2.1 then j26 () else gd (ixok s2.1 n1) (gd (ixok s2.1 n2) (k2 ((s2.1 + (1 : Int32)), s2.2.1, (upd s2.2.2 s2.1.toNatClampNeg (s2.2.1 s2.1.toNatClampNeg))))))))) N ((0 : Int32), f1, f2)
set_option maxHeartbeats 4000000 in
set_option maxRecDepth 100000 in
theorem met_X5_copyAll (l : Launch) (dC : Nat → ClassId) (dI : Nat → Nat → Nat) (cyI cyO : ClassId) (q1 : Nat) (n1 : Nat) (q2 : Nat) (n2 : Nat) (sz : Nat) (N : Nat) (f1 : (Nat → Int32)) (f2 : (Nat → Int32)) (out : (Nat → Int32) × (Nat → Int32)) (hF : f_X5_copyAll N n1 n2 f1 f2 = some out) : Met l yX5_copyAll (Cond.code yX5_copyAll cX5_copyAll 3 none :: wT) ({ frames := 0, cells := 0, slots := 0, locals := 0 } : Room) (wWr dC dI cyI cyO [.ref q1, .ref q2] ([cI cyI q1 n1 f1] ++ [cI cyI q2 n2 f2]) sz) (va_Qv (fun (u : (Nat → Int32) × (Nat → Int32)) => u = out) (fun u t => va_P (dC, dI) vwCl ([cI cyI q1 n1 u.1] ++ [cI cyI q2 n2 u.2]) t.heap ∧ va_D (va_A ([cI cyI q1 n1 f1] ++ [cI cyI q2 n2 f2]) sz) ([cI cyI q1 n1 u.1] ++ [cI cyI q2 n2 u.2])) (va_A ([cI cyI q1 n1 f1] ++ [cI cyI q2 n2 f2]) sz)) 0 0 (va_A ([cI cyI q1 n1 f1] ++ [cI cyI q2 n2 f2]) sz) := by
  refine Met.ofW (cc := cX5_copyAll) (maxL := 3) (ret := none) (by decide) rfl ?_
  intro p e s m args below meth c s₁ B hml hv
  obtain ⟨rfl, hsz, hP, hK, hD0⟩ := hv
  have hx := B.exec
  have hb := B.bytes
  have hr := B.returns
  have hts0 := atoms_spec (ws := (Cond.code yX5_copyAll cX5_copyAll 3 none :: wT)) B.pre
  have hts := fun w h => hts0 w (List.mem_cons_of_mem _ h)
  clear hts0
  have hown : s.vm.findClass RX5 = some m.cls := findClass_of_methodNamed B.named
  have hlocks := B.notSynchronized
  subst hsz
  have hD := hD0.self (sz := s.heap.size)
  generalize hAe : va_A ([cI cyI q1 n1 f1] ++ [cI cyI q2 n2 f2]) s.heap.size = A at hD ⊢
  have hA : ∀ q : Nat, s.heap.size ≤ q → A q := fun q h => by rw [← hAe]; exact Or.inr h
  clear hD0
  have hS : va_S A s.heap s.heap [] := va_S.rf
  have hl := lv_entry [.ref q1, .ref q2] (n := 3) (Nat.le_of_ble_eq_true rfl)
  rw [lg_entry_eq]
  generalize (lg_sl [.ref q1, .ref q2] ++ List.replicate (3 - (lg_sl [.ref q1, .ref q2]).length) Slot.unset).toArray = ls at hl ⊢
  have hl : lv_has ls 3 [(0, .ref q1), (1, .ref q2)] := hl
  unfold f_X5_copyAll at hF
  refine lv_iconst (v := 0) hx hb dX5_copyAll_0 (by decide) ?_
  refine lv_istore_n (lv' := [(2, .int (0 : Int32)), (0, .ref q1), (1, .ref q2)]) hx hb dX5_copyAll_1 rfl hl (by decide) rfl (fun ls hl => ?_)
  obtain ⟨st2, hst2, hF⟩ := lpN_use hF
  have hL2 : ∀ (n : Nat) (s2 : Int32 × (Nat → Int32) × (Nat → Int32)) (H : Heap) (locs : List Loc) (ls : Array Slot), va_P (dC, dI) vwCl ([cI cyI q1 n1 s2.2.1] ++ [cI cyI q2 n2 s2.2.2]) H → va_D A ([cI cyI q1 n1 s2.2.1] ++ [cI cyI q2 n2 s2.2.2]) → va_S A s.heap H locs → lv_has ls 3 [(0, .ref q1), (1, .ref q2), (2, .int s2.1)] → lpN st2 n s2 = some out → W p l e (headSpec (Cond.code yX5_copyAll cX5_copyAll 3 none :: wT) ({ frames := 0, cells := 0, slots := 0, locals := 0 } : Room)).room s m ([.ref q1, .ref q2] : List Value).toArray below meth c H locs 0 0 (MQ below (va_Qv (fun (u : (Nat → Int32) × (Nat → Int32)) => u = out) (fun u t => va_P (dC, dI) vwCl ([cI cyI q1 n1 u.1] ++ [cI cyI q2 n2 u.2]) t.heap ∧ va_D A ([cI cyI q1 n1 u.1] ++ [cI cyI q2 n2 u.2])) A) ([.ref q1, .ref q2] : List Value).toArray s 0 0 A) (F0 m 2 ls []) := by
    intro n
    induction n with
    | zero => intro s2 H locs ls hP hD hS hl hF; exact lpN_0 hF
    | succ n ih2 =>
      intro s2 H locs ls hP hD hS hl hF
      have hF := (congrFun (congrFun hst2 s2) (lpN st2 n)).symm.trans (lpN_s hF)
      refine lv_iload_n hx hb dX5_copyAll_2 rfl (lv_at hl 2 rfl) ?_
      refine lv_aload_n hx hb dX5_copyAll_3 rfl (lv_at hl 0 rfl) ?_
      refine va_alen hx hb hK.1 hP 0 0 rfl rfl (v := (Int32.ofNat n1)) rfl dX5_copyAll_4 ?_
      obtain ⟨j26, hj26, hF⟩ := jn_use hF
      have hJ26 : ∀ (s26 : Unit) (H : Heap) (locs : List Loc) (ls : Array Slot), va_P (dC, dI) vwCl ([cI cyI q1 n1 s2.2.1] ++ [cI cyI q2 n2 s2.2.2]) H → va_D A ([cI cyI q1 n1 s2.2.1] ++ [cI cyI q2 n2 s2.2.2]) → va_S A s.heap H locs → lv_has ls 3 [] → j26 s26 = some out → W p l e (headSpec (Cond.code yX5_copyAll cX5_copyAll 3 none :: wT) ({ frames := 0, cells := 0, slots := 0, locals := 0 } : Room)).room s m ([.ref q1, .ref q2] : List Value).toArray below meth c H locs 0 0 (MQ below (va_Qv (fun (u : (Nat → Int32) × (Nat → Int32)) => u = out) (fun u t => va_P (dC, dI) vwCl ([cI cyI q1 n1 u.1] ++ [cI cyI q2 n2 u.2]) t.heap ∧ va_D A ([cI cyI q1 n1 u.1] ++ [cI cyI q2 n2 u.2])) A) ([.ref q1, .ref q2] : List Value).toArray s 0 0 A) (F0 m 26 ls []) := by
        intro s26 H locs ls hP hD hS hl hF
        have hF := (congrFun hj26 s26).symm.trans hF
        exact W.vret hx hb hr (fun t ht hW => ⟨⟨_, rfl, Option.some.inj hF, by rw [ht]; exact hP, hD⟩, hS.F ht⟩) hS.2.2 dX5_copyAll_26
      refine lv_icmp_ge (tgt := 26) hx hb dX5_copyAll_5 (by decide) (fun c1 => ?_) (fun c1 => ?_)
      · have hF := itp c1 hF
        exact hJ26 () _ _ _ hP hD hS (lv_sub hl [] rfl) hF
      · have hF := itn c1 hF
        refine lv_iload_n hx hb dX5_copyAll_8 rfl (lv_at hl 2 rfl) ?_
        refine lv_aload_n hx hb dX5_copyAll_9 rfl (lv_at hl 1 rfl) ?_
        refine va_alen hx hb hK.1 hP 1 0 rfl rfl (v := (Int32.ofNat n2)) rfl dX5_copyAll_10 ?_
        refine lv_icmp_ge (tgt := 26) hx hb dX5_copyAll_11 (by decide) (fun c2 => ?_) (fun c2 => ?_)
        · have hF := itp c2 hF
          exact hJ26 () _ _ _ hP hD hS (lv_sub hl [] rfl) hF
        · have hF := itn c2 hF
          refine lv_aload_n hx hb dX5_copyAll_14 rfl (lv_at hl 1 rfl) ?_
          refine lv_iload_n hx hb dX5_copyAll_15 rfl (lv_at hl 2 rfl) ?_
          refine lv_aload_n hx hb dX5_copyAll_16 rfl (lv_at hl 0 rfl) ?_
          refine lv_iload_n hx hb dX5_copyAll_17 rfl (lv_at hl 2 rfl) ?_
          obtain ⟨hg3, hF⟩ := gd_use hF
          refine va_iald hx hb hK.1 hP 0 0 rfl rfl (i := s2.1) hg3 dX5_copyAll_18 ?_
          obtain ⟨hg4, hF⟩ := gd_use hF
          refine va_iast hx hb hK.1 hP hD hS 1 0 rfl rfl (i := s2.1) (x := (s2.2.1 s2.1.toNatClampNeg)) hg4 dX5_copyAll_19 (fun H locs hP hD hS => ?_)
          have hP : va_P (dC, dI) vwCl ([cI cyI q1 n1 s2.2.1] ++ [cI cyI q2 n2 (upd s2.2.2 s2.1.toNatClampNeg (s2.2.1 s2.1.toNatClampNeg))]) H := hP
          have hD : va_D A ([cI cyI q1 n1 s2.2.1] ++ [cI cyI q2 n2 (upd s2.2.2 s2.1.toNatClampNeg (s2.2.1 s2.1.toNatClampNeg))]) := hD
          refine lv_iinc (v := (s2.1 + (1 : Int32))) (lv' := [(2, .int (s2.1 + (1 : Int32))), (0, .ref q1), (1, .ref q2)]) hx hb dX5_copyAll_20 hl (k := 2) rfl rfl (by decide) rfl (fun ls hl => ?_)
          refine lv_goto (tgt := 2) hx hb dX5_copyAll_23 (by decide) ?_
          exact ih2 ((s2.1 + (1 : Int32)), s2.2.1, (upd s2.2.2 s2.1.toNatClampNeg (s2.2.1 s2.1.toNatClampNeg))) _ _ _ hP hD hS (lv_sub hl [1, 2, 0] rfl) hF
  exact hL2 N ((0 : Int32), f1, f2) _ _ _ hP hD hS (lv_sub hl [1, 2, 0] rfl) hF
theorem dX5_isOut_0 : decode cX5_isOut 0 = .ok (.iload_n 0, 1) := by decide +kernel
theorem dX5_isOut_1 : decode cX5_isOut 1 = .ok (.ifCond .lt 9, 3) := by decide +kernel
theorem dX5_isOut_4 : decode cX5_isOut 4 = .ok (.iload_n 0, 1) := by decide +kernel
theorem dX5_isOut_5 : decode cX5_isOut 5 = .ok (.bipush 21, 2) := by decide +kernel
theorem dX5_isOut_7 : decode cX5_isOut 7 = .ok (.if_icmp .lt 7, 3) := by decide +kernel
theorem dX5_isOut_10 : decode cX5_isOut 10 = .ok (.iconst 1, 1) := by decide +kernel
theorem dX5_isOut_11 : decode cX5_isOut 11 = .ok (.goto 4, 3) := by decide +kernel
theorem dX5_isOut_14 : decode cX5_isOut 14 = .ok (.iconst 0, 1) := by decide +kernel
theorem dX5_isOut_15 : decode cX5_isOut 15 = .ok (.ireturn, 1) := by decide +kernel
def f_X5_isOut (N : Nat) (p1 : Int32) : Option (Int32) :=
  jn (fun (s15 : Int32) => some s15) (fun (j15 : (Int32) → Option (Int32)) => jn (fun (s10 : Unit) => j15 (1 : Int32)) (fun (j10 : (Unit) → Option (Int32)) => (if p1 < 0 then j10 () else (if p1 < (21 : Int32) then j15 (0 : Int32) else j10 ()))))
set_option maxHeartbeats 4000000 in
set_option maxRecDepth 100000 in
theorem met_X5_isOut (l : Launch) (dC : Nat → ClassId) (dI : Nat → Nat → Nat) (cyI cyO : ClassId)  (N : Nat) (p1 : Int32) (out : Int32) (hF : f_X5_isOut N p1 = some out) : Met l yX5_isOut (Cond.code yX5_isOut cX5_isOut 1 (some .boolean) :: wT) ({ frames := 0, cells := 0, slots := 0, locals := 0 } : Room) (wRd dC dI cyI cyO [.int p1] ([] : va_W)) (va_Qi (fun (r : Int32) (_ : Unit) => r = out ∧ b01 r) (fun _ _ => True) wN0) 0 0 wN0 := by
  refine Met.ofW (cc := cX5_isOut) (maxL := 1) (ret := (some .boolean)) (by decide) rfl ?_
  intro p e s m args below meth c s₁ B hml hv
  obtain ⟨rfl, hP, hK⟩ := hv
  have hx := B.exec
  have hb := B.bytes
  have hr := B.returns
  have hts0 := atoms_spec (ws := (Cond.code yX5_isOut cX5_isOut 1 (some .boolean) :: wT)) B.pre
  have hts := fun w h => hts0 w (List.mem_cons_of_mem _ h)
  clear hts0
  have hown : s.vm.findClass RX5 = some m.cls := findClass_of_methodNamed B.named
  have hlocks := B.notSynchronized
  have hS : va_S wN0 s.heap s.heap [] := va_S.rf
  have hl := lv_entry [.int p1] (n := 1) (Nat.le_of_ble_eq_true rfl)
  rw [lg_entry_eq]
  generalize (lg_sl [.int p1] ++ List.replicate (1 - (lg_sl [.int p1]).length) Slot.unset).toArray = ls at hl ⊢
  have hl : lv_has ls 1 [(0, .int p1)] := hl
  unfold f_X5_isOut at hF
  refine lv_iload_n hx hb dX5_isOut_0 rfl (lv_at hl 0 rfl) ?_
  obtain ⟨j15, hj15, hF⟩ := jn_use hF
  have hJ15 : ∀ (s15 : Int32) (H : Heap) (locs : List Loc) (ls : Array Slot) (hz_15_s0 : b01 s15), va_P (dC, dI) vwCl ([] : va_W) H → va_S wN0 s.heap H locs → lv_has ls 1 [] → j15 s15 = some out → W p l e (headSpec (Cond.code yX5_isOut cX5_isOut 1 (some .boolean) :: wT) ({ frames := 0, cells := 0, slots := 0, locals := 0 } : Room)).room s m ([.int p1] : List Value).toArray below meth c H locs 0 0 (MQ below (va_Qi (fun (r : Int32) (_ : Unit) => r = out ∧ b01 r) (fun _ _ => True) wN0) ([.int p1] : List Value).toArray s 0 0 wN0) (F0 m 15 ls [.int s15]) := by
    intro s15 H locs ls hz_15_s0 hP hS hl hF
    have hF := (congrFun hj15 s15).symm.trans hF
    exact W.zret (ty := .boolean) (v := s15) hx hb hr (b01_n hz_15_s0) (fun t ht hW => ⟨⟨_, (), rfl, ⟨Option.some.inj hF, hz_15_s0⟩, trivial⟩, hS.F ht⟩) hS.2.2 dX5_isOut_15
  obtain ⟨j10, hj10, hF⟩ := jn_use hF
  have hJ10 : ∀ (s10 : Unit) (H : Heap) (locs : List Loc) (ls : Array Slot), va_P (dC, dI) vwCl ([] : va_W) H → va_S wN0 s.heap H locs → lv_has ls 1 [] → j10 s10 = some out → W p l e (headSpec (Cond.code yX5_isOut cX5_isOut 1 (some .boolean) :: wT) ({ frames := 0, cells := 0, slots := 0, locals := 0 } : Room)).room s m ([.int p1] : List Value).toArray below meth c H locs 0 0 (MQ below (va_Qi (fun (r : Int32) (_ : Unit) => r = out ∧ b01 r) (fun _ _ => True) wN0) ([.int p1] : List Value).toArray s 0 0 wN0) (F0 m 10 ls []) := by
    intro s10 H locs ls hP hS hl hF
    have hF := (congrFun hj10 s10).symm.trans hF
    refine lv_iconst (v := 1) hx hb dX5_isOut_10 (by decide) ?_
    refine lv_goto (tgt := 15) hx hb dX5_isOut_11 (by decide) ?_
    exact hJ15 (1 : Int32) _ _ _ b01_1 hP hS (lv_sub hl [] rfl) hF
  refine lv_if_lt (tgt := 10) hx hb dX5_isOut_1 (by decide) (fun c1 => ?_) (fun c1 => ?_)
  · have hF := itp c1 hF
    exact hJ10 () _ _ _ hP hS (lv_sub hl [] rfl) hF
  · have hF := itn c1 hF
    refine lv_iload_n hx hb dX5_isOut_4 rfl (lv_at hl 0 rfl) ?_
    refine lv_bipush (v := 21) hx hb dX5_isOut_5 (by decide) ?_
    refine lv_icmp_lt (tgt := 14) hx hb dX5_isOut_7 (by decide) (fun c2 => ?_) (fun c2 => ?_)
    · have hF := itp c2 hF
      refine lv_iconst (v := 0) hx hb dX5_isOut_14 (by decide) ?_
      exact hJ15 (0 : Int32) _ _ _ b01_0 hP hS (lv_sub hl [] rfl) hF
    · have hF := itn c2 hF
      exact hJ10 () _ _ _ hP hS (lv_sub hl [] rfl) hF
theorem dJ9_floorDiv_7cf53_0 : decode cJ9_floorDiv_7cf53 0 = .ok (.iload_n 0, 1) := by decide +kernel
theorem dJ9_floorDiv_7cf53_1 : decode cJ9_floorDiv_7cf53 1 = .ok (.iload_n 1, 1) := by decide +kernel
theorem dJ9_floorDiv_7cf53_2 : decode cJ9_floorDiv_7cf53 2 = .ok (.idiv, 1) := by decide +kernel
theorem dJ9_floorDiv_7cf53_3 : decode cJ9_floorDiv_7cf53 3 = .ok (.istore_n 2, 1) := by decide +kernel
theorem dJ9_floorDiv_7cf53_4 : decode cJ9_floorDiv_7cf53 4 = .ok (.iload_n 0, 1) := by decide +kernel
theorem dJ9_floorDiv_7cf53_5 : decode cJ9_floorDiv_7cf53 5 = .ok (.iload_n 1, 1) := by decide +kernel
theorem dJ9_floorDiv_7cf53_6 : decode cJ9_floorDiv_7cf53 6 = .ok (.ixor, 1) := by decide +kernel
theorem dJ9_floorDiv_7cf53_7 : decode cJ9_floorDiv_7cf53 7 = .ok (.ifCond .ge 14, 3) := by decide +kernel
theorem dJ9_floorDiv_7cf53_10 : decode cJ9_floorDiv_7cf53 10 = .ok (.iload_n 2, 1) := by decide +kernel
theorem dJ9_floorDiv_7cf53_11 : decode cJ9_floorDiv_7cf53 11 = .ok (.iload_n 1, 1) := by decide +kernel
theorem dJ9_floorDiv_7cf53_12 : decode cJ9_floorDiv_7cf53 12 = .ok (.imul, 1) := by decide +kernel
theorem dJ9_floorDiv_7cf53_13 : decode cJ9_floorDiv_7cf53 13 = .ok (.iload_n 0, 1) := by decide +kernel
theorem dJ9_floorDiv_7cf53_14 : decode cJ9_floorDiv_7cf53 14 = .ok (.if_icmp .eq 7, 3) := by decide +kernel
theorem dJ9_floorDiv_7cf53_17 : decode cJ9_floorDiv_7cf53 17 = .ok (.iload_n 2, 1) := by decide +kernel
theorem dJ9_floorDiv_7cf53_18 : decode cJ9_floorDiv_7cf53 18 = .ok (.iconst 1, 1) := by decide +kernel
theorem dJ9_floorDiv_7cf53_19 : decode cJ9_floorDiv_7cf53 19 = .ok (.isub, 1) := by decide +kernel
theorem dJ9_floorDiv_7cf53_20 : decode cJ9_floorDiv_7cf53 20 = .ok (.ireturn, 1) := by decide +kernel
theorem dJ9_floorDiv_7cf53_21 : decode cJ9_floorDiv_7cf53 21 = .ok (.iload_n 2, 1) := by decide +kernel
theorem dJ9_floorDiv_7cf53_22 : decode cJ9_floorDiv_7cf53 22 = .ok (.ireturn, 1) := by decide +kernel
def f_J9_floorDiv_7cf53 (N : Nat) (p1 : Int32) (p2 : Int32) : Option (Int32) :=
  gd (¬ p2 = 0) (jn (fun (s21 : Unit) => some (p1 / p2)) (fun (j21 : (Unit) → Option (Int32)) => (if 0 ≤ (p1 ^^^ p2) then j21 () else (if ((p1 / p2) * p2) = p1 then j21 () else some ((p1 / p2) - (1 : Int32))))))
set_option maxHeartbeats 4000000 in
set_option maxRecDepth 100000 in
theorem met_J9_floorDiv_7cf53 (l : Launch) (dC : Nat → ClassId) (dI : Nat → Nat → Nat) (cyI cyO : ClassId)  (N : Nat) (p1 : Int32) (p2 : Int32) (out : Int32) (hF : f_J9_floorDiv_7cf53 N p1 p2 = some out) : Met l yJ9_floorDiv_7cf53 (Cond.code yJ9_floorDiv_7cf53 cJ9_floorDiv_7cf53 3 (some .int) :: wT) ({ frames := 0, cells := 0, slots := 0, locals := 0 } : Room) (wRd dC dI cyI cyO [.int p1, .int p2] ([] : va_W)) (va_Qi (fun (r : Int32) (_ : Unit) => r = out) (fun _ _ => True) wN0) 0 0 wN0 := by
  refine Met.ofWF (cc := cJ9_floorDiv_7cf53) (maxL := 3) (ret := (some .int)) (by decide +kernel) rfl ?_
  intro p e s m args below meth c s₁ B hml hv
  obtain ⟨rfl, hP, hK⟩ := hv
  have hx := B.exec
  have hb := B.bytes
  have hr := B.returns
  have hts0 := atoms_spec (ws := (Cond.code yJ9_floorDiv_7cf53 cJ9_floorDiv_7cf53 3 (some .int) :: wT)) B.pre
  have hts := fun w h => hts0 w (List.mem_cons_of_mem _ h)
  clear hts0
  have hown : s.vm.findClass RJ9 = some m.cls := findClass_of_methodNamed B.named
  have hlocks := B.notSynchronized
  have hS : va_S wN0 s.heap s.heap [] := va_S.rf
  have hl := lv_entry [.int p1, .int p2] (n := 3) (Nat.le_of_ble_eq_true rfl)
  rw [lg_entry_eq]
  generalize (lg_sl [.int p1, .int p2] ++ List.replicate (3 - (lg_sl [.int p1, .int p2]).length) Slot.unset).toArray = ls at hl ⊢
  have hl : lv_has ls 3 [(0, .int p1), (1, .int p2)] := hl
  unfold f_J9_floorDiv_7cf53 at hF
  refine lv_iload_n hx hb dJ9_floorDiv_7cf53_0 rfl (lv_at hl 0 rfl) ?_
  refine lv_iload_n hx hb dJ9_floorDiv_7cf53_1 rfl (lv_at hl 1 rfl) ?_
  obtain ⟨hg1, hF⟩ := gd_use hF
  refine lv_idiv hx hb dJ9_floorDiv_7cf53_2 hg1 ?_
  refine lv_istore_n (lv' := [(2, .int (p1 / p2)), (0, .int p1), (1, .int p2)]) hx hb dJ9_floorDiv_7cf53_3 rfl hl (by decide) rfl (fun ls hl => ?_)
  refine lv_iload_n hx hb dJ9_floorDiv_7cf53_4 rfl (lv_at hl 1 rfl) ?_
  refine lv_iload_n hx hb dJ9_floorDiv_7cf53_5 rfl (lv_at hl 2 rfl) ?_
  refine lv_ixor hx hb dJ9_floorDiv_7cf53_6 ?_
  obtain ⟨j21, hj21, hF⟩ := jn_use hF
  have hJ21 : ∀ (s21 : Unit) (H : Heap) (locs : List Loc) (ls : Array Slot), va_P (dC, dI) vwCl ([] : va_W) H → va_S wN0 s.heap H locs → lv_has ls 3 [(2, .int (p1 / p2))] → j21 s21 = some out → W p l e (headSpec (Cond.code yJ9_floorDiv_7cf53 cJ9_floorDiv_7cf53 3 (some .int) :: wT) ({ frames := 0, cells := 0, slots := 0, locals := 0 } : Room)).room s m ([.int p1, .int p2] : List Value).toArray below meth c H locs 0 0 (MQ below (va_Qi (fun (r : Int32) (_ : Unit) => r = out) (fun _ _ => True) wN0) ([.int p1, .int p2] : List Value).toArray s 0 0 wN0) (F0 m 21 ls []) := by
    intro s21 H locs ls hP hS hl hF
    have hF := (congrFun hj21 s21).symm.trans hF
    refine lv_iload_n hx hb dJ9_floorDiv_7cf53_21 rfl (lv_at hl 0 rfl) ?_
    exact W.iret (v := (p1 / p2)) hx hb hr (fun t ht hW => ⟨⟨_, (), rfl, Option.some.inj hF, trivial⟩, hS.F ht⟩) hS.2.2 dJ9_floorDiv_7cf53_22
  refine lv_if_ge (tgt := 21) hx hb dJ9_floorDiv_7cf53_7 (by decide) (fun c2 => ?_) (fun c2 => ?_)
  · have hF := itp c2 hF
    exact hJ21 () _ _ _ hP hS (lv_sub hl [0] rfl) hF
  · have hF := itn c2 hF
    refine lv_iload_n hx hb dJ9_floorDiv_7cf53_10 rfl (lv_at hl 0 rfl) ?_
    refine lv_iload_n hx hb dJ9_floorDiv_7cf53_11 rfl (lv_at hl 2 rfl) ?_
    refine lv_imul hx hb dJ9_floorDiv_7cf53_12 ?_
    refine lv_iload_n hx hb dJ9_floorDiv_7cf53_13 rfl (lv_at hl 1 rfl) ?_
    refine lv_icmp_eq (tgt := 21) hx hb dJ9_floorDiv_7cf53_14 (by decide) (fun c3 => ?_) (fun c3 => ?_)
    · have hF := itp c3 hF
      exact hJ21 () _ _ _ hP hS (lv_sub hl [0] rfl) hF
    · have hF := itn c3 hF
      refine lv_iload_n hx hb dJ9_floorDiv_7cf53_17 rfl (lv_at hl 0 rfl) ?_
      refine lv_iconst (v := 1) hx hb dJ9_floorDiv_7cf53_18 (by decide) ?_
      refine lv_isub hx hb dJ9_floorDiv_7cf53_19 ?_
      exact W.iret (v := ((p1 / p2) - (1 : Int32))) hx hb hr (fun t ht hW => ⟨⟨_, (), rfl, Option.some.inj hF, trivial⟩, hS.F ht⟩) hS.2.2 dJ9_floorDiv_7cf53_20
theorem dJ9_abs_0f7a4_0 : decode cJ9_abs_0f7a4 0 = .ok (.iload_n 0, 1) := by decide +kernel
theorem dJ9_abs_0f7a4_1 : decode cJ9_abs_0f7a4 1 = .ok (.ifCond .ge 8, 3) := by decide +kernel
theorem dJ9_abs_0f7a4_4 : decode cJ9_abs_0f7a4 4 = .ok (.iload_n 0, 1) := by decide +kernel
theorem dJ9_abs_0f7a4_5 : decode cJ9_abs_0f7a4 5 = .ok (.ineg, 1) := by decide +kernel
theorem dJ9_abs_0f7a4_6 : decode cJ9_abs_0f7a4 6 = .ok (.goto 4, 3) := by decide +kernel
theorem dJ9_abs_0f7a4_9 : decode cJ9_abs_0f7a4 9 = .ok (.iload_n 0, 1) := by decide +kernel
theorem dJ9_abs_0f7a4_10 : decode cJ9_abs_0f7a4 10 = .ok (.ireturn, 1) := by decide +kernel
def f_J9_abs_0f7a4 (N : Nat) (p1 : Int32) : Option (Int32) :=
  jn (fun (s10 : Int32) => some s10) (fun (j10 : (Int32) → Option (Int32)) => (if 0 ≤ p1 then j10 p1 else j10 (-p1)))
set_option maxHeartbeats 4000000 in
set_option maxRecDepth 100000 in
theorem met_J9_abs_0f7a4 (l : Launch) (dC : Nat → ClassId) (dI : Nat → Nat → Nat) (cyI cyO : ClassId)  (N : Nat) (p1 : Int32) (out : Int32) (hF : f_J9_abs_0f7a4 N p1 = some out) : Met l yJ9_abs_0f7a4 (Cond.code yJ9_abs_0f7a4 cJ9_abs_0f7a4 1 (some .int) :: wT) ({ frames := 0, cells := 0, slots := 0, locals := 0 } : Room) (wRd dC dI cyI cyO [.int p1] ([] : va_W)) (va_Qi (fun (r : Int32) (_ : Unit) => r = out) (fun _ _ => True) wN0) 0 0 wN0 := by
  refine Met.ofWF (cc := cJ9_abs_0f7a4) (maxL := 1) (ret := (some .int)) (by decide +kernel) rfl ?_
  intro p e s m args below meth c s₁ B hml hv
  obtain ⟨rfl, hP, hK⟩ := hv
  have hx := B.exec
  have hb := B.bytes
  have hr := B.returns
  have hts0 := atoms_spec (ws := (Cond.code yJ9_abs_0f7a4 cJ9_abs_0f7a4 1 (some .int) :: wT)) B.pre
  have hts := fun w h => hts0 w (List.mem_cons_of_mem _ h)
  clear hts0
  have hown : s.vm.findClass RJ9 = some m.cls := findClass_of_methodNamed B.named
  have hlocks := B.notSynchronized
  have hS : va_S wN0 s.heap s.heap [] := va_S.rf
  have hl := lv_entry [.int p1] (n := 1) (Nat.le_of_ble_eq_true rfl)
  rw [lg_entry_eq]
  generalize (lg_sl [.int p1] ++ List.replicate (1 - (lg_sl [.int p1]).length) Slot.unset).toArray = ls at hl ⊢
  have hl : lv_has ls 1 [(0, .int p1)] := hl
  unfold f_J9_abs_0f7a4 at hF
  refine lv_iload_n hx hb dJ9_abs_0f7a4_0 rfl (lv_at hl 0 rfl) ?_
  obtain ⟨j10, hj10, hF⟩ := jn_use hF
  have hJ10 : ∀ (s10 : Int32) (H : Heap) (locs : List Loc) (ls : Array Slot), va_P (dC, dI) vwCl ([] : va_W) H → va_S wN0 s.heap H locs → lv_has ls 1 [] → j10 s10 = some out → W p l e (headSpec (Cond.code yJ9_abs_0f7a4 cJ9_abs_0f7a4 1 (some .int) :: wT) ({ frames := 0, cells := 0, slots := 0, locals := 0 } : Room)).room s m ([.int p1] : List Value).toArray below meth c H locs 0 0 (MQ below (va_Qi (fun (r : Int32) (_ : Unit) => r = out) (fun _ _ => True) wN0) ([.int p1] : List Value).toArray s 0 0 wN0) (F0 m 10 ls [.int s10]) := by
    intro s10 H locs ls hP hS hl hF
    have hF := (congrFun hj10 s10).symm.trans hF
    exact W.iret (v := s10) hx hb hr (fun t ht hW => ⟨⟨_, (), rfl, Option.some.inj hF, trivial⟩, hS.F ht⟩) hS.2.2 dJ9_abs_0f7a4_10
  refine lv_if_ge (tgt := 9) hx hb dJ9_abs_0f7a4_1 (by decide) (fun c1 => ?_) (fun c1 => ?_)
  · have hF := itp c1 hF
    refine lv_iload_n hx hb dJ9_abs_0f7a4_9 rfl (lv_at hl 0 rfl) ?_
    exact hJ10 p1 _ _ _ hP hS (lv_sub hl [] rfl) hF
  · have hF := itn c1 hF
    refine lv_iload_n hx hb dJ9_abs_0f7a4_4 rfl (lv_at hl 0 rfl) ?_
    refine lv_ineg hx hb dJ9_abs_0f7a4_5 ?_
    refine lv_goto (tgt := 10) hx hb dJ9_abs_0f7a4_6 (by decide) ?_
    exact hJ10 (-p1) _ _ _ hP hS (lv_sub hl [] rfl) hF
theorem dJ9_max_7cf53_0 : decode cJ9_max_7cf53 0 = .ok (.iload_n 0, 1) := by decide +kernel
theorem dJ9_max_7cf53_1 : decode cJ9_max_7cf53 1 = .ok (.iload_n 1, 1) := by decide +kernel
theorem dJ9_max_7cf53_2 : decode cJ9_max_7cf53 2 = .ok (.if_icmp .lt 7, 3) := by decide +kernel
theorem dJ9_max_7cf53_5 : decode cJ9_max_7cf53 5 = .ok (.iload_n 0, 1) := by decide +kernel
theorem dJ9_max_7cf53_6 : decode cJ9_max_7cf53 6 = .ok (.goto 4, 3) := by decide +kernel
theorem dJ9_max_7cf53_9 : decode cJ9_max_7cf53 9 = .ok (.iload_n 1, 1) := by decide +kernel
theorem dJ9_max_7cf53_10 : decode cJ9_max_7cf53 10 = .ok (.ireturn, 1) := by decide +kernel
def f_J9_max_7cf53 (N : Nat) (p1 : Int32) (p2 : Int32) : Option (Int32) :=
  jn (fun (s10 : Int32) => some s10) (fun (j10 : (Int32) → Option (Int32)) => (if p1 < p2 then j10 p2 else j10 p1))
set_option maxHeartbeats 4000000 in
set_option maxRecDepth 100000 in
theorem met_J9_max_7cf53 (l : Launch) (dC : Nat → ClassId) (dI : Nat → Nat → Nat) (cyI cyO : ClassId)  (N : Nat) (p1 : Int32) (p2 : Int32) (out : Int32) (hF : f_J9_max_7cf53 N p1 p2 = some out) : Met l yJ9_max_7cf53 (Cond.code yJ9_max_7cf53 cJ9_max_7cf53 2 (some .int) :: wT) ({ frames := 0, cells := 0, slots := 0, locals := 0 } : Room) (wRd dC dI cyI cyO [.int p1, .int p2] ([] : va_W)) (va_Qi (fun (r : Int32) (_ : Unit) => r = out) (fun _ _ => True) wN0) 0 0 wN0 := by
  refine Met.ofWF (cc := cJ9_max_7cf53) (maxL := 2) (ret := (some .int)) (by decide +kernel) rfl ?_
  intro p e s m args below meth c s₁ B hml hv
  obtain ⟨rfl, hP, hK⟩ := hv
  have hx := B.exec
  have hb := B.bytes
  have hr := B.returns
  have hts0 := atoms_spec (ws := (Cond.code yJ9_max_7cf53 cJ9_max_7cf53 2 (some .int) :: wT)) B.pre
  have hts := fun w h => hts0 w (List.mem_cons_of_mem _ h)
  clear hts0
  have hown : s.vm.findClass RJ9 = some m.cls := findClass_of_methodNamed B.named
  have hlocks := B.notSynchronized
  have hS : va_S wN0 s.heap s.heap [] := va_S.rf
  have hl := lv_entry [.int p1, .int p2] (n := 2) (Nat.le_of_ble_eq_true rfl)
  rw [lg_entry_eq]
  generalize (lg_sl [.int p1, .int p2] ++ List.replicate (2 - (lg_sl [.int p1, .int p2]).length) Slot.unset).toArray = ls at hl ⊢
  have hl : lv_has ls 2 [(0, .int p1), (1, .int p2)] := hl
  unfold f_J9_max_7cf53 at hF
  refine lv_iload_n hx hb dJ9_max_7cf53_0 rfl (lv_at hl 0 rfl) ?_
  refine lv_iload_n hx hb dJ9_max_7cf53_1 rfl (lv_at hl 1 rfl) ?_
  obtain ⟨j10, hj10, hF⟩ := jn_use hF
  have hJ10 : ∀ (s10 : Int32) (H : Heap) (locs : List Loc) (ls : Array Slot), va_P (dC, dI) vwCl ([] : va_W) H → va_S wN0 s.heap H locs → lv_has ls 2 [] → j10 s10 = some out → W p l e (headSpec (Cond.code yJ9_max_7cf53 cJ9_max_7cf53 2 (some .int) :: wT) ({ frames := 0, cells := 0, slots := 0, locals := 0 } : Room)).room s m ([.int p1, .int p2] : List Value).toArray below meth c H locs 0 0 (MQ below (va_Qi (fun (r : Int32) (_ : Unit) => r = out) (fun _ _ => True) wN0) ([.int p1, .int p2] : List Value).toArray s 0 0 wN0) (F0 m 10 ls [.int s10]) := by
    intro s10 H locs ls hP hS hl hF
    have hF := (congrFun hj10 s10).symm.trans hF
    exact W.iret (v := s10) hx hb hr (fun t ht hW => ⟨⟨_, (), rfl, Option.some.inj hF, trivial⟩, hS.F ht⟩) hS.2.2 dJ9_max_7cf53_10
  refine lv_icmp_lt (tgt := 9) hx hb dJ9_max_7cf53_2 (by decide) (fun c1 => ?_) (fun c1 => ?_)
  · have hF := itp c1 hF
    refine lv_iload_n hx hb dJ9_max_7cf53_9 rfl (lv_at hl 1 rfl) ?_
    exact hJ10 p2 _ _ _ hP hS (lv_sub hl [] rfl) hF
  · have hF := itn c1 hF
    refine lv_iload_n hx hb dJ9_max_7cf53_5 rfl (lv_at hl 0 rfl) ?_
    refine lv_goto (tgt := 10) hx hb dJ9_max_7cf53_6 (by decide) ?_
    exact hJ10 p1 _ _ _ hP hS (lv_sub hl [] rfl) hF
theorem dJ6_signum_0f7a4_0 : decode cJ6_signum_0f7a4 0 = .ok (.iload_n 0, 1) := by decide +kernel
theorem dJ6_signum_0f7a4_1 : decode cJ6_signum_0f7a4 1 = .ok (.bipush 31, 2) := by decide +kernel
theorem dJ6_signum_0f7a4_3 : decode cJ6_signum_0f7a4 3 = .ok (.ishr, 1) := by decide +kernel
theorem dJ6_signum_0f7a4_4 : decode cJ6_signum_0f7a4 4 = .ok (.iload_n 0, 1) := by decide +kernel
theorem dJ6_signum_0f7a4_5 : decode cJ6_signum_0f7a4 5 = .ok (.ineg, 1) := by decide +kernel
theorem dJ6_signum_0f7a4_6 : decode cJ6_signum_0f7a4 6 = .ok (.bipush 31, 2) := by decide +kernel
theorem dJ6_signum_0f7a4_8 : decode cJ6_signum_0f7a4 8 = .ok (.iushr, 1) := by decide +kernel
theorem dJ6_signum_0f7a4_9 : decode cJ6_signum_0f7a4 9 = .ok (.ior, 1) := by decide +kernel
theorem dJ6_signum_0f7a4_10 : decode cJ6_signum_0f7a4 10 = .ok (.ireturn, 1) := by decide +kernel
def f_J6_signum_0f7a4 (N : Nat) (p1 : Int32) : Option (Int32) :=
  some ((p1 >>> ((31 : Int32) &&& 31)) ||| (((-p1).toUInt32 >>> ((31 : Int32).toUInt32 &&& Int32.toUInt32 31)).toInt32))
set_option maxHeartbeats 4000000 in
set_option maxRecDepth 100000 in
theorem met_J6_signum_0f7a4 (l : Launch) (dC : Nat → ClassId) (dI : Nat → Nat → Nat) (cyI cyO : ClassId)  (N : Nat) (p1 : Int32) (out : Int32) (hF : f_J6_signum_0f7a4 N p1 = some out) : Met l yJ6_signum_0f7a4 (Cond.code yJ6_signum_0f7a4 cJ6_signum_0f7a4 1 (some .int) :: wT) ({ frames := 0, cells := 0, slots := 0, locals := 0 } : Room) (wRd dC dI cyI cyO [.int p1] ([] : va_W)) (va_Qi (fun (r : Int32) (_ : Unit) => r = out) (fun _ _ => True) wN0) 0 0 wN0 := by
  refine Met.ofWF (cc := cJ6_signum_0f7a4) (maxL := 1) (ret := (some .int)) (by decide +kernel) rfl ?_
  intro p e s m args below meth c s₁ B hml hv
  obtain ⟨rfl, hP, hK⟩ := hv
  have hx := B.exec
  have hb := B.bytes
  have hr := B.returns
  have hts0 := atoms_spec (ws := (Cond.code yJ6_signum_0f7a4 cJ6_signum_0f7a4 1 (some .int) :: wT)) B.pre
  have hts := fun w h => hts0 w (List.mem_cons_of_mem _ h)
  clear hts0
  have hown : s.vm.findClass RJ6 = some m.cls := findClass_of_methodNamed B.named
  have hlocks := B.notSynchronized
  have hS : va_S wN0 s.heap s.heap [] := va_S.rf
  have hl := lv_entry [.int p1] (n := 1) (Nat.le_of_ble_eq_true rfl)
  rw [lg_entry_eq]
  generalize (lg_sl [.int p1] ++ List.replicate (1 - (lg_sl [.int p1]).length) Slot.unset).toArray = ls at hl ⊢
  have hl : lv_has ls 1 [(0, .int p1)] := hl
  unfold f_J6_signum_0f7a4 at hF
  refine lv_iload_n hx hb dJ6_signum_0f7a4_0 rfl (lv_at hl 0 rfl) ?_
  refine lv_bipush (v := 31) hx hb dJ6_signum_0f7a4_1 (by decide) ?_
  refine lv_ishr hx hb dJ6_signum_0f7a4_3 ?_
  refine lv_iload_n hx hb dJ6_signum_0f7a4_4 rfl (lv_at hl 0 rfl) ?_
  refine lv_ineg hx hb dJ6_signum_0f7a4_5 ?_
  refine lv_bipush (v := 31) hx hb dJ6_signum_0f7a4_6 (by decide) ?_
  refine lv_iushr (v := ((-p1).toUInt32 >>> ((31 : Int32).toUInt32 &&& Int32.toUInt32 31)).toInt32) hx hb dJ6_signum_0f7a4_8 rfl ?_
  refine lv_ior hx hb dJ6_signum_0f7a4_9 ?_
  exact W.iret (v := ((p1 >>> ((31 : Int32) &&& 31)) ||| (((-p1).toUInt32 >>> ((31 : Int32).toUInt32 &&& Int32.toUInt32 31)).toInt32))) hx hb hr (fun t ht hW => ⟨⟨_, (), rfl, Option.some.inj hF, trivial⟩, hS.F ht⟩) hS.2.2 dJ6_signum_0f7a4_10
theorem dX5_columnAfter_0 : decode cX5_columnAfter 0 = .ok (.iload_n 0, 1) := by decide +kernel
theorem dX5_columnAfter_1 : decode cX5_columnAfter 1 = .ok (.iload_n 0, 1) := by decide +kernel
theorem dX5_columnAfter_2 : decode cX5_columnAfter 2 = .ok (.iconst 1, 1) := by decide +kernel
theorem dX5_columnAfter_3 : decode cX5_columnAfter 3 = .ok (.iadd, 1) := by decide +kernel
theorem dX5_columnAfter_4 : decode cX5_columnAfter 4 = .ok (.imul, 1) := by decide +kernel
theorem dX5_columnAfter_5 : decode cX5_columnAfter 5 = .ok (.iconst 2, 1) := by decide +kernel
theorem dX5_columnAfter_6 : decode cX5_columnAfter 6 = .ok (.idiv, 1) := by decide +kernel
theorem dX5_columnAfter_7 : decode cX5_columnAfter 7 = .ok (.istore_n 3, 1) := by decide +kernel
theorem dX5_columnAfter_8 : decode cX5_columnAfter 8 = .ok (.sipush 1050, 3) := by decide +kernel
theorem dX5_columnAfter_11 : decode cX5_columnAfter 11 = .ok (.bipush 10, 2) := by decide +kernel
theorem dX5_columnAfter_13 : decode cX5_columnAfter 13 = .ok (.iload_n 0, 1) := by decide +kernel
theorem dX5_columnAfter_14 : decode cX5_columnAfter 14 = .ok (.imul, 1) := by decide +kernel
theorem dX5_columnAfter_15 : decode cX5_columnAfter 15 = .ok (.iload_n 1, 1) := by decide +kernel
theorem dX5_columnAfter_16 : decode cX5_columnAfter 16 = .ok (.imul, 1) := by decide +kernel
theorem dX5_columnAfter_17 : decode cX5_columnAfter 17 = .ok (.iadd, 1) := by decide +kernel
theorem dX5_columnAfter_18 : decode cX5_columnAfter 18 = .ok (.iload_n 2, 1) := by decide +kernel
theorem dX5_columnAfter_19 : decode cX5_columnAfter 19 = .ok (.iload_n 3, 1) := by decide +kernel
theorem dX5_columnAfter_20 : decode cX5_columnAfter 20 = .ok (.imul, 1) := by decide +kernel
theorem dX5_columnAfter_21 : decode cX5_columnAfter 21 = .ok (.iadd, 1) := by decide +kernel
theorem dX5_columnAfter_22 : decode cX5_columnAfter 22 = .ok (.bipush 100, 2) := by decide +kernel
theorem dX5_columnAfter_24 : decode cX5_columnAfter 24 = .ok (.invokestatic 403, 3) := by decide +kernel
theorem dX5_columnAfter_27 : decode cX5_columnAfter 27 = .ok (.ireturn, 1) := by decide +kernel
def f_X5_columnAfter (N : Nat) (p1 : Int32) (p2 : Int32) (p3 : Int32) : Option (Int32) :=
  (f_J9_floorDiv_7cf53 N (((1050 : Int32) + (((10 : Int32) * p1) * p2)) + (p3 * ((p1 * (p1 + (1 : Int32))) / (2 : Int32)))) (100 : Int32)).bind (fun o1 => some o1)
set_option maxHeartbeats 4000000 in
set_option maxRecDepth 100000 in
theorem met_X5_columnAfter (l : Launch) (dC : Nat → ClassId) (dI : Nat → Nat → Nat) (cyI cyO : ClassId)  (N : Nat) (p1 : Int32) (p2 : Int32) (p3 : Int32) (out : Int32) (hF : f_X5_columnAfter N p1 p2 p3 = some out) : Met l yX5_columnAfter (Cond.code yX5_columnAfter cX5_columnAfter 4 (some .int) :: wT) ({ frames := 1, cells := 0, slots := 0, locals := 22 } : Room) (wRd dC dI cyI cyO [.int p1, .int p2, .int p3] ([] : va_W)) (va_Qi (fun (r : Int32) (_ : Unit) => r = out) (fun _ _ => True) wN0) 0 0 wN0 := by
  refine Met.ofW (cc := cX5_columnAfter) (maxL := 4) (ret := (some .int)) (by decide) rfl ?_
  intro p e s m args below meth c s₁ B hml hv
  obtain ⟨rfl, hP, hK⟩ := hv
  have hx := B.exec
  have hb := B.bytes
  have hr := B.returns
  have hts0 := atoms_spec (ws := (Cond.code yX5_columnAfter cX5_columnAfter 4 (some .int) :: wT)) B.pre
  have hts := fun w h => hts0 w (List.mem_cons_of_mem _ h)
  clear hts0
  have hown : s.vm.findClass RX5 = some m.cls := findClass_of_methodNamed B.named
  have hlocks := B.notSynchronized
  have hS : va_S wN0 s.heap s.heap [] := va_S.rf
  have hl := lv_entry [.int p1, .int p2, .int p3] (n := 4) (Nat.le_of_ble_eq_true rfl)
  rw [lg_entry_eq]
  generalize (lg_sl [.int p1, .int p2, .int p3] ++ List.replicate (4 - (lg_sl [.int p1, .int p2, .int p3]).length) Slot.unset).toArray = ls at hl ⊢
  have hl : lv_has ls 4 [(0, .int p1), (1, .int p2), (2, .int p3)] := hl
  unfold f_X5_columnAfter at hF
  refine lv_iload_n hx hb dX5_columnAfter_0 rfl (lv_at hl 0 rfl) ?_
  refine lv_iload_n hx hb dX5_columnAfter_1 rfl (lv_at hl 0 rfl) ?_
  refine lv_iconst (v := 1) hx hb dX5_columnAfter_2 (by decide) ?_
  refine lv_iadd hx hb dX5_columnAfter_3 ?_
  refine lv_imul hx hb dX5_columnAfter_4 ?_
  refine lv_iconst (v := 2) hx hb dX5_columnAfter_5 (by decide) ?_
  refine lv_idiv hx hb dX5_columnAfter_6 (by decide) ?_
  refine lv_istore_n (lv' := [(3, .int ((p1 * (p1 + (1 : Int32))) / (2 : Int32))), (0, .int p1), (1, .int p2), (2, .int p3)]) hx hb dX5_columnAfter_7 rfl hl (by decide) rfl (fun ls hl => ?_)
  refine lv_sipush (v := 1050) hx hb dX5_columnAfter_8 (by decide) ?_
  refine lv_bipush (v := 10) hx hb dX5_columnAfter_11 (by decide) ?_
  refine lv_iload_n hx hb dX5_columnAfter_13 rfl (lv_at hl 1 rfl) ?_
  refine lv_imul hx hb dX5_columnAfter_14 ?_
  refine lv_iload_n hx hb dX5_columnAfter_15 rfl (lv_at hl 2 rfl) ?_
  refine lv_imul hx hb dX5_columnAfter_16 ?_
  refine lv_iadd hx hb dX5_columnAfter_17 ?_
  refine lv_iload_n hx hb dX5_columnAfter_18 rfl (lv_at hl 3 rfl) ?_
  refine lv_iload_n hx hb dX5_columnAfter_19 rfl (lv_at hl 0 rfl) ?_
  refine lv_imul hx hb dX5_columnAfter_20 ?_
  refine lv_iadd hx hb dX5_columnAfter_21 ?_
  refine lv_bipush (v := 100) hx hb dX5_columnAfter_22 (by decide) ?_
  obtain ⟨o1, h2, hF⟩ := obd hF
  refine wcRSi (As := [.int (((1050 : Int32) + (((10 : Int32) * p1) * p2)) + (p3 * ((p1 * (p1 + (1 : Int32))) / (2 : Int32)))), .int (100 : Int32)]) (rest := []) ⟨hx, hb, hml, hown, hts⟩ (met_J9_floorDiv_7cf53 l dC dI cyI cyO  N  (((1050 : Int32) + (((10 : Int32) * p1) * p2)) + (p3 * ((p1 * (p1 + (1 : Int32))) / (2 : Int32)))) (100 : Int32) o1 h2) (va_cwS 2 hts (gS w_methodLink_X5_403 w_static_J9_floorDiv_7cf53 w_initialized_J9 w_code_J9_floorDiv_7cf53) rfl rfl rfl (by decide +kernel) ⟨Nat.le_of_ble_eq_true rfl, Nat.le_of_ble_eq_true rfl⟩) hP hK [] rfl rfl hl.1 (Nat.le_of_ble_eq_true rfl) dX5_columnAfter_24 ⟨Nat.le_of_ble_eq_true rfl, Nat.le_of_ble_eq_true rfl⟩ hS (fun r H locs hw hP hS => ?_)
  have hw := hw.symm
  subst hw
  exact W.iret (v := o1) hx hb hr (fun t ht hW => ⟨⟨_, (), rfl, Option.some.inj hF, trivial⟩, hS.F ht⟩) hS.2.2 dX5_columnAfter_27
theorem dX5_isPlay_0 : decode cX5_isPlay 0 = .ok (.iload_n 0, 1) := by decide +kernel
theorem dX5_isPlay_1 : decode cX5_isPlay 1 = .ok (.bipush (-9), 2) := by decide +kernel
theorem dX5_isPlay_3 : decode cX5_isPlay 3 = .ok (.if_icmp .lt 36, 3) := by decide +kernel
theorem dX5_isPlay_6 : decode cX5_isPlay 6 = .ok (.iload_n 0, 1) := by decide +kernel
theorem dX5_isPlay_7 : decode cX5_isPlay 7 = .ok (.bipush 9, 2) := by decide +kernel
theorem dX5_isPlay_9 : decode cX5_isPlay 9 = .ok (.if_icmp .gt 30, 3) := by decide +kernel
theorem dX5_isPlay_12 : decode cX5_isPlay 12 = .ok (.iload_n 1, 1) := by decide +kernel
theorem dX5_isPlay_13 : decode cX5_isPlay 13 = .ok (.bipush 15, 2) := by decide +kernel
theorem dX5_isPlay_15 : decode cX5_isPlay 15 = .ok (.if_icmp .lt 24, 3) := by decide +kernel
theorem dX5_isPlay_18 : decode cX5_isPlay 18 = .ok (.iload_n 1, 1) := by decide +kernel
theorem dX5_isPlay_19 : decode cX5_isPlay 19 = .ok (.bipush 70, 2) := by decide +kernel
theorem dX5_isPlay_21 : decode cX5_isPlay 21 = .ok (.if_icmp .gt 18, 3) := by decide +kernel
theorem dX5_isPlay_24 : decode cX5_isPlay 24 = .ok (.iload_n 2, 1) := by decide +kernel
theorem dX5_isPlay_25 : decode cX5_isPlay 25 = .ok (.bipush (-3), 2) := by decide +kernel
theorem dX5_isPlay_27 : decode cX5_isPlay 27 = .ok (.if_icmp .lt 12, 3) := by decide +kernel
theorem dX5_isPlay_30 : decode cX5_isPlay 30 = .ok (.iload_n 2, 1) := by decide +kernel
theorem dX5_isPlay_31 : decode cX5_isPlay 31 = .ok (.iconst 3, 1) := by decide +kernel
theorem dX5_isPlay_32 : decode cX5_isPlay 32 = .ok (.if_icmp .gt 7, 3) := by decide +kernel
theorem dX5_isPlay_35 : decode cX5_isPlay 35 = .ok (.iconst 1, 1) := by decide +kernel
theorem dX5_isPlay_36 : decode cX5_isPlay 36 = .ok (.goto 4, 3) := by decide +kernel
theorem dX5_isPlay_39 : decode cX5_isPlay 39 = .ok (.iconst 0, 1) := by decide +kernel
theorem dX5_isPlay_40 : decode cX5_isPlay 40 = .ok (.ireturn, 1) := by decide +kernel
def f_X5_isPlay (N : Nat) (p1 : Int32) (p2 : Int32) (p3 : Int32) : Option (Int32) :=
  jn (fun (s40 : Int32) => some s40) (fun (j40 : (Int32) → Option (Int32)) => jn (fun (s39 : Unit) => j40 (0 : Int32)) (fun (j39 : (Unit) → Option (Int32)) => (if p1 < (-9 : Int32) then j39 () else (if (9 : Int32) < p1 then j39 () else (if p2 < (15 : Int32) then j39 () else (if (70 : Int32) < p2 then j39 () else (if p3 < (-3 : Int32) then j39 () else (if (3 : Int32) < p3 then j39 () else j40 (1 : Int32)))))))))
set_option maxHeartbeats 4000000 in
set_option maxRecDepth 100000 in
theorem met_X5_isPlay (l : Launch) (dC : Nat → ClassId) (dI : Nat → Nat → Nat) (cyI cyO : ClassId)  (N : Nat) (p1 : Int32) (p2 : Int32) (p3 : Int32) (out : Int32) (hF : f_X5_isPlay N p1 p2 p3 = some out) : Met l yX5_isPlay (Cond.code yX5_isPlay cX5_isPlay 3 (some .boolean) :: wT) ({ frames := 0, cells := 0, slots := 0, locals := 0 } : Room) (wRd dC dI cyI cyO [.int p1, .int p2, .int p3] ([] : va_W)) (va_Qi (fun (r : Int32) (_ : Unit) => r = out ∧ b01 r) (fun _ _ => True) wN0) 0 0 wN0 := by
  refine Met.ofW (cc := cX5_isPlay) (maxL := 3) (ret := (some .boolean)) (by decide) rfl ?_
  intro p e s m args below meth c s₁ B hml hv
  obtain ⟨rfl, hP, hK⟩ := hv
  have hx := B.exec
  have hb := B.bytes
  have hr := B.returns
  have hts0 := atoms_spec (ws := (Cond.code yX5_isPlay cX5_isPlay 3 (some .boolean) :: wT)) B.pre
  have hts := fun w h => hts0 w (List.mem_cons_of_mem _ h)
  clear hts0
  have hown : s.vm.findClass RX5 = some m.cls := findClass_of_methodNamed B.named
  have hlocks := B.notSynchronized
  have hS : va_S wN0 s.heap s.heap [] := va_S.rf
  have hl := lv_entry [.int p1, .int p2, .int p3] (n := 3) (Nat.le_of_ble_eq_true rfl)
  rw [lg_entry_eq]
  generalize (lg_sl [.int p1, .int p2, .int p3] ++ List.replicate (3 - (lg_sl [.int p1, .int p2, .int p3]).length) Slot.unset).toArray = ls at hl ⊢
  have hl : lv_has ls 3 [(0, .int p1), (1, .int p2), (2, .int p3)] := hl
  unfold f_X5_isPlay at hF
  refine lv_iload_n hx hb dX5_isPlay_0 rfl (lv_at hl 0 rfl) ?_
  refine lv_bipush (v := -9) hx hb dX5_isPlay_1 (by decide) ?_
  obtain ⟨j40, hj40, hF⟩ := jn_use hF
  have hJ40 : ∀ (s40 : Int32) (H : Heap) (locs : List Loc) (ls : Array Slot) (hz_40_s0 : b01 s40), va_P (dC, dI) vwCl ([] : va_W) H → va_S wN0 s.heap H locs → lv_has ls 3 [] → j40 s40 = some out → W p l e (headSpec (Cond.code yX5_isPlay cX5_isPlay 3 (some .boolean) :: wT) ({ frames := 0, cells := 0, slots := 0, locals := 0 } : Room)).room s m ([.int p1, .int p2, .int p3] : List Value).toArray below meth c H locs 0 0 (MQ below (va_Qi (fun (r : Int32) (_ : Unit) => r = out ∧ b01 r) (fun _ _ => True) wN0) ([.int p1, .int p2, .int p3] : List Value).toArray s 0 0 wN0) (F0 m 40 ls [.int s40]) := by
    intro s40 H locs ls hz_40_s0 hP hS hl hF
    have hF := (congrFun hj40 s40).symm.trans hF
    exact W.zret (ty := .boolean) (v := s40) hx hb hr (b01_n hz_40_s0) (fun t ht hW => ⟨⟨_, (), rfl, ⟨Option.some.inj hF, hz_40_s0⟩, trivial⟩, hS.F ht⟩) hS.2.2 dX5_isPlay_40
  obtain ⟨j39, hj39, hF⟩ := jn_use hF
  have hJ39 : ∀ (s39 : Unit) (H : Heap) (locs : List Loc) (ls : Array Slot), va_P (dC, dI) vwCl ([] : va_W) H → va_S wN0 s.heap H locs → lv_has ls 3 [] → j39 s39 = some out → W p l e (headSpec (Cond.code yX5_isPlay cX5_isPlay 3 (some .boolean) :: wT) ({ frames := 0, cells := 0, slots := 0, locals := 0 } : Room)).room s m ([.int p1, .int p2, .int p3] : List Value).toArray below meth c H locs 0 0 (MQ below (va_Qi (fun (r : Int32) (_ : Unit) => r = out ∧ b01 r) (fun _ _ => True) wN0) ([.int p1, .int p2, .int p3] : List Value).toArray s 0 0 wN0) (F0 m 39 ls []) := by
    intro s39 H locs ls hP hS hl hF
    have hF := (congrFun hj39 s39).symm.trans hF
    refine lv_iconst (v := 0) hx hb dX5_isPlay_39 (by decide) ?_
    exact hJ40 (0 : Int32) _ _ _ b01_0 hP hS (lv_sub hl [] rfl) hF
  refine lv_icmp_lt (tgt := 39) hx hb dX5_isPlay_3 (by decide) (fun c1 => ?_) (fun c1 => ?_)
  · have hF := itp c1 hF
    exact hJ39 () _ _ _ hP hS (lv_sub hl [] rfl) hF
  · have hF := itn c1 hF
    refine lv_iload_n hx hb dX5_isPlay_6 rfl (lv_at hl 0 rfl) ?_
    refine lv_bipush (v := 9) hx hb dX5_isPlay_7 (by decide) ?_
    refine lv_icmp_gt (tgt := 39) hx hb dX5_isPlay_9 (by decide) (fun c2 => ?_) (fun c2 => ?_)
    · have hF := itp c2 hF
      exact hJ39 () _ _ _ hP hS (lv_sub hl [] rfl) hF
    · have hF := itn c2 hF
      refine lv_iload_n hx hb dX5_isPlay_12 rfl (lv_at hl 1 rfl) ?_
      refine lv_bipush (v := 15) hx hb dX5_isPlay_13 (by decide) ?_
      refine lv_icmp_lt (tgt := 39) hx hb dX5_isPlay_15 (by decide) (fun c3 => ?_) (fun c3 => ?_)
      · have hF := itp c3 hF
        exact hJ39 () _ _ _ hP hS (lv_sub hl [] rfl) hF
      · have hF := itn c3 hF
        refine lv_iload_n hx hb dX5_isPlay_18 rfl (lv_at hl 1 rfl) ?_
        refine lv_bipush (v := 70) hx hb dX5_isPlay_19 (by decide) ?_
        refine lv_icmp_gt (tgt := 39) hx hb dX5_isPlay_21 (by decide) (fun c4 => ?_) (fun c4 => ?_)
        · have hF := itp c4 hF
          exact hJ39 () _ _ _ hP hS (lv_sub hl [] rfl) hF
        · have hF := itn c4 hF
          refine lv_iload_n hx hb dX5_isPlay_24 rfl (lv_at hl 2 rfl) ?_
          refine lv_bipush (v := -3) hx hb dX5_isPlay_25 (by decide) ?_
          refine lv_icmp_lt (tgt := 39) hx hb dX5_isPlay_27 (by decide) (fun c5 => ?_) (fun c5 => ?_)
          · have hF := itp c5 hF
            exact hJ39 () _ _ _ hP hS (lv_sub hl [] rfl) hF
          · have hF := itn c5 hF
            refine lv_iload_n hx hb dX5_isPlay_30 rfl (lv_at hl 2 rfl) ?_
            refine lv_iconst (v := 3) hx hb dX5_isPlay_31 (by decide) ?_
            refine lv_icmp_gt (tgt := 39) hx hb dX5_isPlay_32 (by decide) (fun c6 => ?_) (fun c6 => ?_)
            · have hF := itp c6 hF
              exact hJ39 () _ _ _ hP hS (lv_sub hl [] rfl) hF
            · have hF := itn c6 hF
              refine lv_iconst (v := 1) hx hb dX5_isPlay_35 (by decide) ?_
              refine lv_goto (tgt := 40) hx hb dX5_isPlay_36 (by decide) ?_
              exact hJ40 (1 : Int32) _ _ _ b01_1 hP hS (lv_sub hl [] rfl) hF
theorem dX5_placeBySteps_0 : decode cX5_placeBySteps 0 = .ok (.sipush 1050, 3) := by decide +kernel
theorem dX5_placeBySteps_3 : decode cX5_placeBySteps 3 = .ok (.istore_n 3, 1) := by decide +kernel
theorem dX5_placeBySteps_4 : decode cX5_placeBySteps 4 = .ok (.bipush 10, 2) := by decide +kernel
theorem dX5_placeBySteps_6 : decode cX5_placeBySteps 6 = .ok (.istore 4, 2) := by decide +kernel
theorem dX5_placeBySteps_8 : decode cX5_placeBySteps 8 = .ok (.iconst 1, 1) := by decide +kernel
theorem dX5_placeBySteps_9 : decode cX5_placeBySteps 9 = .ok (.istore 5, 2) := by decide +kernel
theorem dX5_placeBySteps_11 : decode cX5_placeBySteps 11 = .ok (.iload 5, 2) := by decide +kernel
theorem dX5_placeBySteps_13 : decode cX5_placeBySteps 13 = .ok (.iload_n 2, 1) := by decide +kernel
theorem dX5_placeBySteps_14 : decode cX5_placeBySteps 14 = .ok (.if_icmp .gt 56, 3) := by decide +kernel
theorem dX5_placeBySteps_17 : decode cX5_placeBySteps 17 = .ok (.iload_n 3, 1) := by decide +kernel
theorem dX5_placeBySteps_18 : decode cX5_placeBySteps 18 = .ok (.bipush 10, 2) := by decide +kernel
theorem dX5_placeBySteps_20 : decode cX5_placeBySteps 20 = .ok (.iload_n 0, 1) := by decide +kernel
theorem dX5_placeBySteps_21 : decode cX5_placeBySteps 21 = .ok (.imul, 1) := by decide +kernel
theorem dX5_placeBySteps_22 : decode cX5_placeBySteps 22 = .ok (.iadd, 1) := by decide +kernel
theorem dX5_placeBySteps_23 : decode cX5_placeBySteps 23 = .ok (.iload_n 1, 1) := by decide +kernel
theorem dX5_placeBySteps_24 : decode cX5_placeBySteps 24 = .ok (.iload 5, 2) := by decide +kernel
theorem dX5_placeBySteps_26 : decode cX5_placeBySteps 26 = .ok (.imul, 1) := by decide +kernel
theorem dX5_placeBySteps_27 : decode cX5_placeBySteps 27 = .ok (.iadd, 1) := by decide +kernel
theorem dX5_placeBySteps_28 : decode cX5_placeBySteps 28 = .ok (.istore_n 3, 1) := by decide +kernel
theorem dX5_placeBySteps_29 : decode cX5_placeBySteps 29 = .ok (.iload_n 3, 1) := by decide +kernel
theorem dX5_placeBySteps_30 : decode cX5_placeBySteps 30 = .ok (.bipush 100, 2) := by decide +kernel
theorem dX5_placeBySteps_32 : decode cX5_placeBySteps 32 = .ok (.invokestatic 403, 3) := by decide +kernel
theorem dX5_placeBySteps_35 : decode cX5_placeBySteps 35 = .ok (.istore 6, 2) := by decide +kernel
theorem dX5_placeBySteps_37 : decode cX5_placeBySteps 37 = .ok (.iload 5, 2) := by decide +kernel
theorem dX5_placeBySteps_39 : decode cX5_placeBySteps 39 = .ok (.bipush 60, 2) := by decide +kernel
theorem dX5_placeBySteps_41 : decode cX5_placeBySteps 41 = .ok (.if_icmp .ge 11, 3) := by decide +kernel
theorem dX5_placeBySteps_44 : decode cX5_placeBySteps 44 = .ok (.iload 6, 2) := by decide +kernel
theorem dX5_placeBySteps_46 : decode cX5_placeBySteps 46 = .ok (.invokestatic 232, 3) := by decide +kernel
theorem dX5_placeBySteps_49 : decode cX5_placeBySteps 49 = .ok (.ifCond .eq 5, 3) := by decide +kernel
theorem dX5_placeBySteps_52 : decode cX5_placeBySteps 52 = .ok (.iconst (-1), 1) := by decide +kernel
theorem dX5_placeBySteps_53 : decode cX5_placeBySteps 53 = .ok (.ireturn, 1) := by decide +kernel
theorem dX5_placeBySteps_54 : decode cX5_placeBySteps 54 = .ok (.iload 5, 2) := by decide +kernel
theorem dX5_placeBySteps_56 : decode cX5_placeBySteps 56 = .ok (.bipush 21, 2) := by decide +kernel
theorem dX5_placeBySteps_58 : decode cX5_placeBySteps 58 = .ok (.imul, 1) := by decide +kernel
theorem dX5_placeBySteps_59 : decode cX5_placeBySteps 59 = .ok (.iload 6, 2) := by decide +kernel
theorem dX5_placeBySteps_61 : decode cX5_placeBySteps 61 = .ok (.iadd, 1) := by decide +kernel
theorem dX5_placeBySteps_62 : decode cX5_placeBySteps 62 = .ok (.istore 4, 2) := by decide +kernel
theorem dX5_placeBySteps_64 : decode cX5_placeBySteps 64 = .ok (.iinc 5 1, 3) := by decide +kernel
theorem dX5_placeBySteps_67 : decode cX5_placeBySteps 67 = .ok (.goto (-56), 3) := by decide +kernel
theorem dX5_placeBySteps_70 : decode cX5_placeBySteps 70 = .ok (.iload 4, 2) := by decide +kernel
theorem dX5_placeBySteps_72 : decode cX5_placeBySteps 72 = .ok (.ireturn, 1) := by decide +kernel
def f_X5_placeBySteps (N : Nat) (p1 : Int32) (p2 : Int32) (p3 : Int32) : Option (Int32) :=
  lpN (fun (s11 : Int32 × Int32 × Int32) (k11 : (Int32 × Int32 × Int32) → Option (Int32)) => (if p3 < s11.2.2 then some s11.2.1 else (f_J9_floorDiv_7cf53 N ((s11.1 + ((10 : Int32) * p1)) + (p2 * s11.2.2)) (100 : Int32)).bind (fun o2 => jn (fun (s52 : Unit) => some (-1 : Int32)) (fun (j52 : (Unit) → Option (Int32)) => (if (60 : Int32) ≤ s11.2.2 then j52 () else (f_X5_isOut N o2).bind (fun o5 => (if o5 = 0 then k11 (((s11.1 + ((10 : Int32) * p1)) + (p2 * s11.2.2)), ((s11.2.2 * (21 : Int32)) + o2), (s11.2.2 + (1 : Int32))) else j52 ()))))))) N ((1050 : Int32), (10 : Int32), (1 : Int32))
set_option maxHeartbeats 4000000 in
set_option maxRecDepth 100000 in
theorem met_X5_placeBySteps (l : Launch) (dC : Nat → ClassId) (dI : Nat → Nat → Nat) (cyI cyO : ClassId)  (N : Nat) (p1 : Int32) (p2 : Int32) (p3 : Int32) (out : Int32) (hF : f_X5_placeBySteps N p1 p2 p3 = some out) : Met l yX5_placeBySteps (Cond.code yX5_placeBySteps cX5_placeBySteps 7 (some .int) :: wT) ({ frames := 1, cells := 0, slots := 0, locals := 22 } : Room) (wRd dC dI cyI cyO [.int p1, .int p2, .int p3] ([] : va_W)) (va_Qi (fun (r : Int32) (_ : Unit) => r = out) (fun _ _ => True) wN0) 0 0 wN0 := by
  refine Met.ofW (cc := cX5_placeBySteps) (maxL := 7) (ret := (some .int)) (by decide) rfl ?_
  intro p e s m args below meth c s₁ B hml hv
  obtain ⟨rfl, hP, hK⟩ := hv
  have hx := B.exec
  have hb := B.bytes
  have hr := B.returns
  have hts0 := atoms_spec (ws := (Cond.code yX5_placeBySteps cX5_placeBySteps 7 (some .int) :: wT)) B.pre
  have hts := fun w h => hts0 w (List.mem_cons_of_mem _ h)
  clear hts0
  have hown : s.vm.findClass RX5 = some m.cls := findClass_of_methodNamed B.named
  have hlocks := B.notSynchronized
  have hS : va_S wN0 s.heap s.heap [] := va_S.rf
  have hl := lv_entry [.int p1, .int p2, .int p3] (n := 7) (Nat.le_of_ble_eq_true rfl)
  rw [lg_entry_eq]
  generalize (lg_sl [.int p1, .int p2, .int p3] ++ List.replicate (7 - (lg_sl [.int p1, .int p2, .int p3]).length) Slot.unset).toArray = ls at hl ⊢
  have hl : lv_has ls 7 [(0, .int p1), (1, .int p2), (2, .int p3)] := hl
  unfold f_X5_placeBySteps at hF
  refine lv_sipush (v := 1050) hx hb dX5_placeBySteps_0 (by decide) ?_
  refine lv_istore_n (lv' := [(3, .int (1050 : Int32)), (0, .int p1), (1, .int p2), (2, .int p3)]) hx hb dX5_placeBySteps_3 rfl hl (by decide) rfl (fun ls hl => ?_)
  refine lv_bipush (v := 10) hx hb dX5_placeBySteps_4 (by decide) ?_
  refine lv_istore (lv' := [(4, .int (10 : Int32)), (3, .int (1050 : Int32)), (0, .int p1), (1, .int p2), (2, .int p3)]) hx hb dX5_placeBySteps_6 hl (by decide) rfl (fun ls hl => ?_)
  refine lv_iconst (v := 1) hx hb dX5_placeBySteps_8 (by decide) ?_
  refine lv_istore (lv' := [(5, .int (1 : Int32)), (4, .int (10 : Int32)), (3, .int (1050 : Int32)), (0, .int p1), (1, .int p2), (2, .int p3)]) hx hb dX5_placeBySteps_9 hl (by decide) rfl (fun ls hl => ?_)
  obtain ⟨st11, hst11, hF⟩ := lpN_use hF
  have hL11 : ∀ (n : Nat) (s11 : Int32 × Int32 × Int32) (H : Heap) (locs : List Loc) (ls : Array Slot), va_P (dC, dI) vwCl ([] : va_W) H → va_S wN0 s.heap H locs → lv_has ls 7 [(0, .int p1), (1, .int p2), (2, .int p3), (3, .int s11.1), (4, .int s11.2.1), (5, .int s11.2.2)] → lpN st11 n s11 = some out → W p l e (headSpec (Cond.code yX5_placeBySteps cX5_placeBySteps 7 (some .int) :: wT) ({ frames := 1, cells := 0, slots := 0, locals := 22 } : Room)).room s m ([.int p1, .int p2, .int p3] : List Value).toArray below meth c H locs 0 0 (MQ below (va_Qi (fun (r : Int32) (_ : Unit) => r = out) (fun _ _ => True) wN0) ([.int p1, .int p2, .int p3] : List Value).toArray s 0 0 wN0) (F0 m 11 ls []) := by
    intro n
    induction n with
    | zero => intro s11 H locs ls hP hS hl hF; exact lpN_0 hF
    | succ n ih11 =>
      intro s11 H locs ls hP hS hl hF
      have hF := (congrFun (congrFun hst11 s11) (lpN st11 n)).symm.trans (lpN_s hF)
      refine lv_iload hx hb dX5_placeBySteps_11 (lv_at hl 5 rfl) ?_
      refine lv_iload_n hx hb dX5_placeBySteps_13 rfl (lv_at hl 2 rfl) ?_
      refine lv_icmp_gt (tgt := 70) hx hb dX5_placeBySteps_14 (by decide) (fun c1 => ?_) (fun c1 => ?_)
      · have hF := itp c1 hF
        refine lv_iload hx hb dX5_placeBySteps_70 (lv_at hl 4 rfl) ?_
        exact W.iret (v := s11.2.1) hx hb hr (fun t ht hW => ⟨⟨_, (), rfl, Option.some.inj hF, trivial⟩, hS.F ht⟩) hS.2.2 dX5_placeBySteps_72
      · have hF := itn c1 hF
        refine lv_iload_n hx hb dX5_placeBySteps_17 rfl (lv_at hl 3 rfl) ?_
        refine lv_bipush (v := 10) hx hb dX5_placeBySteps_18 (by decide) ?_
        refine lv_iload_n hx hb dX5_placeBySteps_20 rfl (lv_at hl 0 rfl) ?_
        refine lv_imul hx hb dX5_placeBySteps_21 ?_
        refine lv_iadd hx hb dX5_placeBySteps_22 ?_
        refine lv_iload_n hx hb dX5_placeBySteps_23 rfl (lv_at hl 1 rfl) ?_
        refine lv_iload hx hb dX5_placeBySteps_24 (lv_at hl 5 rfl) ?_
        refine lv_imul hx hb dX5_placeBySteps_26 ?_
        refine lv_iadd hx hb dX5_placeBySteps_27 ?_
        refine lv_istore_n (lv' := [(3, .int ((s11.1 + ((10 : Int32) * p1)) + (p2 * s11.2.2))), (0, .int p1), (1, .int p2), (2, .int p3), (4, .int s11.2.1), (5, .int s11.2.2)]) hx hb dX5_placeBySteps_28 rfl hl (by decide) rfl (fun ls hl => ?_)
        refine lv_iload_n hx hb dX5_placeBySteps_29 rfl (lv_at hl 0 rfl) ?_
        refine lv_bipush (v := 100) hx hb dX5_placeBySteps_30 (by decide) ?_
        obtain ⟨o2, h3, hF⟩ := obd hF
        refine wcRSi (As := [.int ((s11.1 + ((10 : Int32) * p1)) + (p2 * s11.2.2)), .int (100 : Int32)]) (rest := []) ⟨hx, hb, hml, hown, hts⟩ (met_J9_floorDiv_7cf53 l dC dI cyI cyO  N  ((s11.1 + ((10 : Int32) * p1)) + (p2 * s11.2.2)) (100 : Int32) o2 h3) (va_cwS 2 hts (gS w_methodLink_X5_403 w_static_J9_floorDiv_7cf53 w_initialized_J9 w_code_J9_floorDiv_7cf53) rfl rfl rfl (by decide +kernel) ⟨Nat.le_of_ble_eq_true rfl, Nat.le_of_ble_eq_true rfl⟩) hP hK [] rfl rfl hl.1 (Nat.le_of_ble_eq_true rfl) dX5_placeBySteps_32 ⟨Nat.le_of_ble_eq_true rfl, Nat.le_of_ble_eq_true rfl⟩ hS (fun r H locs hw hP hS => ?_)
        have hw := hw.symm
        subst hw
        refine lv_istore (lv' := [(6, .int o2), (3, .int ((s11.1 + ((10 : Int32) * p1)) + (p2 * s11.2.2))), (0, .int p1), (1, .int p2), (2, .int p3), (4, .int s11.2.1), (5, .int s11.2.2)]) hx hb dX5_placeBySteps_35 hl (by decide) rfl (fun ls hl => ?_)
        refine lv_iload hx hb dX5_placeBySteps_37 (lv_at hl 6 rfl) ?_
        refine lv_bipush (v := 60) hx hb dX5_placeBySteps_39 (by decide) ?_
        obtain ⟨j52, hj52, hF⟩ := jn_use hF
        have hJ52 : ∀ (s52 : Unit) (H : Heap) (locs : List Loc) (ls : Array Slot), va_P (dC, dI) vwCl ([] : va_W) H → va_S wN0 s.heap H locs → lv_has ls 7 [] → j52 s52 = some out → W p l e (headSpec (Cond.code yX5_placeBySteps cX5_placeBySteps 7 (some .int) :: wT) ({ frames := 1, cells := 0, slots := 0, locals := 22 } : Room)).room s m ([.int p1, .int p2, .int p3] : List Value).toArray below meth c H locs 0 0 (MQ below (va_Qi (fun (r : Int32) (_ : Unit) => r = out) (fun _ _ => True) wN0) ([.int p1, .int p2, .int p3] : List Value).toArray s 0 0 wN0) (F0 m 52 ls []) := by
          intro s52 H locs ls hP hS hl hF
          have hF := (congrFun hj52 s52).symm.trans hF
          refine lv_iconst (v := -1) hx hb dX5_placeBySteps_52 (by decide) ?_
          exact W.iret (v := (-1 : Int32)) hx hb hr (fun t ht hW => ⟨⟨_, (), rfl, Option.some.inj hF, trivial⟩, hS.F ht⟩) hS.2.2 dX5_placeBySteps_53
        refine lv_icmp_ge (tgt := 52) hx hb dX5_placeBySteps_41 (by decide) (fun c4 => ?_) (fun c4 => ?_)
        · have hF := itp c4 hF
          exact hJ52 () _ _ _ hP hS (lv_sub hl [] rfl) hF
        · have hF := itn c4 hF
          refine lv_iload hx hb dX5_placeBySteps_44 (lv_at hl 0 rfl) ?_
          obtain ⟨o5, h6, hF⟩ := obd hF
          refine wcRSi (As := [.int o2]) (rest := []) ⟨hx, hb, hml, hown, hts⟩ (met_X5_isOut l dC dI cyI cyO  N  o2 o5 h6) (va_cwS 1 hts (gS w_methodLink_X5_232 w_static_X5_isOut w_initialized_X5 w_code_X5_isOut) rfl rfl rfl (by decide +kernel) ⟨Nat.le_of_ble_eq_true rfl, Nat.le_of_ble_eq_true rfl⟩) hP hK [] rfl rfl hl.1 (Nat.le_of_ble_eq_true rfl) dX5_placeBySteps_46 ⟨Nat.le_of_ble_eq_true rfl, Nat.le_of_ble_eq_true rfl⟩ hS (fun r H locs hw hP hS => ?_)
          obtain ⟨hw, hz7⟩ := hw
          have hw := hw.symm
          subst hw
          refine lv_if_eq (tgt := 54) hx hb dX5_placeBySteps_49 (by decide) (fun c8 => ?_) (fun c8 => ?_)
          · have hF := itp c8 hF
            refine lv_iload hx hb dX5_placeBySteps_54 (lv_at hl 6 rfl) ?_
            refine lv_bipush (v := 21) hx hb dX5_placeBySteps_56 (by decide) ?_
            refine lv_imul hx hb dX5_placeBySteps_58 ?_
            refine lv_iload hx hb dX5_placeBySteps_59 (lv_at hl 0 rfl) ?_
            refine lv_iadd hx hb dX5_placeBySteps_61 ?_
            refine lv_istore (lv' := [(4, .int ((s11.2.2 * (21 : Int32)) + o2)), (6, .int o2), (3, .int ((s11.1 + ((10 : Int32) * p1)) + (p2 * s11.2.2))), (0, .int p1), (1, .int p2), (2, .int p3), (5, .int s11.2.2)]) hx hb dX5_placeBySteps_62 hl (by decide) rfl (fun ls hl => ?_)
            refine lv_iinc (v := (s11.2.2 + (1 : Int32))) (lv' := [(5, .int (s11.2.2 + (1 : Int32))), (4, .int ((s11.2.2 * (21 : Int32)) + o2)), (6, .int o2), (3, .int ((s11.1 + ((10 : Int32) * p1)) + (p2 * s11.2.2))), (0, .int p1), (1, .int p2), (2, .int p3)]) hx hb dX5_placeBySteps_64 hl (k := 6) rfl rfl (by decide) rfl (fun ls hl => ?_)
            refine lv_goto (tgt := 11) hx hb dX5_placeBySteps_67 (by decide) ?_
            exact ih11 (((s11.1 + ((10 : Int32) * p1)) + (p2 * s11.2.2)), ((s11.2.2 * (21 : Int32)) + o2), (s11.2.2 + (1 : Int32))) _ _ _ hP hS (lv_sub hl [4, 5, 6, 3, 1, 0] rfl) hF
          · have hF := itn c8 hF
            exact hJ52 () _ _ _ hP hS (lv_sub hl [] rfl) hF
  exact hL11 N ((1050 : Int32), (10 : Int32), (1 : Int32)) _ _ _ hP hS (lv_sub hl [3, 4, 5, 2, 1, 0] rfl) hF
theorem dX5_placeByFormula_0 : decode cX5_placeByFormula 0 = .ok (.iconst 1, 1) := by decide +kernel
theorem dX5_placeByFormula_1 : decode cX5_placeByFormula 1 = .ok (.istore_n 3, 1) := by decide +kernel
theorem dX5_placeByFormula_2 : decode cX5_placeByFormula 2 = .ok (.iload_n 3, 1) := by decide +kernel
theorem dX5_placeByFormula_3 : decode cX5_placeByFormula 3 = .ok (.iload_n 2, 1) := by decide +kernel
theorem dX5_placeByFormula_4 : decode cX5_placeByFormula 4 = .ok (.if_icmp .gt 23, 3) := by decide +kernel
theorem dX5_placeByFormula_7 : decode cX5_placeByFormula 7 = .ok (.iload_n 3, 1) := by decide +kernel
theorem dX5_placeByFormula_8 : decode cX5_placeByFormula 8 = .ok (.iload_n 0, 1) := by decide +kernel
theorem dX5_placeByFormula_9 : decode cX5_placeByFormula 9 = .ok (.iload_n 1, 1) := by decide +kernel
theorem dX5_placeByFormula_10 : decode cX5_placeByFormula 10 = .ok (.invokestatic 409, 3) := by decide +kernel
theorem dX5_placeByFormula_13 : decode cX5_placeByFormula 13 = .ok (.invokestatic 232, 3) := by decide +kernel
theorem dX5_placeByFormula_16 : decode cX5_placeByFormula 16 = .ok (.ifCond .eq 5, 3) := by decide +kernel
theorem dX5_placeByFormula_19 : decode cX5_placeByFormula 19 = .ok (.iconst (-1), 1) := by decide +kernel
theorem dX5_placeByFormula_20 : decode cX5_placeByFormula 20 = .ok (.ireturn, 1) := by decide +kernel
theorem dX5_placeByFormula_21 : decode cX5_placeByFormula 21 = .ok (.iinc 3 1, 3) := by decide +kernel
theorem dX5_placeByFormula_24 : decode cX5_placeByFormula 24 = .ok (.goto (-22), 3) := by decide +kernel
theorem dX5_placeByFormula_27 : decode cX5_placeByFormula 27 = .ok (.iload_n 2, 1) := by decide +kernel
theorem dX5_placeByFormula_28 : decode cX5_placeByFormula 28 = .ok (.bipush 60, 2) := by decide +kernel
theorem dX5_placeByFormula_30 : decode cX5_placeByFormula 30 = .ok (.if_icmp .lt 7, 3) := by decide +kernel
theorem dX5_placeByFormula_33 : decode cX5_placeByFormula 33 = .ok (.iconst (-1), 1) := by decide +kernel
theorem dX5_placeByFormula_34 : decode cX5_placeByFormula 34 = .ok (.goto 14, 3) := by decide +kernel
theorem dX5_placeByFormula_37 : decode cX5_placeByFormula 37 = .ok (.iload_n 2, 1) := by decide +kernel
theorem dX5_placeByFormula_38 : decode cX5_placeByFormula 38 = .ok (.bipush 21, 2) := by decide +kernel
theorem dX5_placeByFormula_40 : decode cX5_placeByFormula 40 = .ok (.imul, 1) := by decide +kernel
theorem dX5_placeByFormula_41 : decode cX5_placeByFormula 41 = .ok (.iload_n 2, 1) := by decide +kernel
theorem dX5_placeByFormula_42 : decode cX5_placeByFormula 42 = .ok (.iload_n 0, 1) := by decide +kernel
theorem dX5_placeByFormula_43 : decode cX5_placeByFormula 43 = .ok (.iload_n 1, 1) := by decide +kernel
theorem dX5_placeByFormula_44 : decode cX5_placeByFormula 44 = .ok (.invokestatic 409, 3) := by decide +kernel
theorem dX5_placeByFormula_47 : decode cX5_placeByFormula 47 = .ok (.iadd, 1) := by decide +kernel
theorem dX5_placeByFormula_48 : decode cX5_placeByFormula 48 = .ok (.ireturn, 1) := by decide +kernel
def f_X5_placeByFormula (N : Nat) (p1 : Int32) (p2 : Int32) (p3 : Int32) : Option (Int32) :=
  lpN (fun (s2 : Int32) (k2 : (Int32) → Option (Int32)) => (if p3 < s2 then jn (fun (s48 : Int32) => some s48) (fun (j48 : (Int32) → Option (Int32)) => (if p3 < (60 : Int32) then (f_X5_columnAfter N p3 p1 p2).bind (fun o3 => j48 ((p3 * (21 : Int32)) + o3)) else j48 (-1 : Int32))) else (f_X5_columnAfter N s2 p1 p2).bind (fun o5 => (f_X5_isOut N o5).bind (fun o7 => (if o7 = 0 then k2 (s2 + (1 : Int32)) else some (-1 : Int32)))))) N (1 : Int32)
set_option maxHeartbeats 4000000 in
set_option maxRecDepth 100000 in
theorem met_X5_placeByFormula (l : Launch) (dC : Nat → ClassId) (dI : Nat → Nat → Nat) (cyI cyO : ClassId)  (N : Nat) (p1 : Int32) (p2 : Int32) (p3 : Int32) (out : Int32) (hF : f_X5_placeByFormula N p1 p2 p3 = some out) : Met l yX5_placeByFormula (Cond.code yX5_placeByFormula cX5_placeByFormula 4 (some .int) :: wT) ({ frames := 2, cells := 0, slots := 0, locals := 45 } : Room) (wRd dC dI cyI cyO [.int p1, .int p2, .int p3] ([] : va_W)) (va_Qi (fun (r : Int32) (_ : Unit) => r = out) (fun _ _ => True) wN0) 0 0 wN0 := by
  refine Met.ofW (cc := cX5_placeByFormula) (maxL := 4) (ret := (some .int)) (by decide) rfl ?_
  intro p e s m args below meth c s₁ B hml hv
  obtain ⟨rfl, hP, hK⟩ := hv
  have hx := B.exec
  have hb := B.bytes
  have hr := B.returns
  have hts0 := atoms_spec (ws := (Cond.code yX5_placeByFormula cX5_placeByFormula 4 (some .int) :: wT)) B.pre
  have hts := fun w h => hts0 w (List.mem_cons_of_mem _ h)
  clear hts0
  have hown : s.vm.findClass RX5 = some m.cls := findClass_of_methodNamed B.named
  have hlocks := B.notSynchronized
  have hS : va_S wN0 s.heap s.heap [] := va_S.rf
  have hl := lv_entry [.int p1, .int p2, .int p3] (n := 4) (Nat.le_of_ble_eq_true rfl)
  rw [lg_entry_eq]
  generalize (lg_sl [.int p1, .int p2, .int p3] ++ List.replicate (4 - (lg_sl [.int p1, .int p2, .int p3]).length) Slot.unset).toArray = ls at hl ⊢
  have hl : lv_has ls 4 [(0, .int p1), (1, .int p2), (2, .int p3)] := hl
  unfold f_X5_placeByFormula at hF
  refine lv_iconst (v := 1) hx hb dX5_placeByFormula_0 (by decide) ?_
  refine lv_istore_n (lv' := [(3, .int (1 : Int32)), (0, .int p1), (1, .int p2), (2, .int p3)]) hx hb dX5_placeByFormula_1 rfl hl (by decide) rfl (fun ls hl => ?_)
  obtain ⟨st2, hst2, hF⟩ := lpN_use hF
  have hL2 : ∀ (n : Nat) (s2 : Int32) (H : Heap) (locs : List Loc) (ls : Array Slot), va_P (dC, dI) vwCl ([] : va_W) H → va_S wN0 s.heap H locs → lv_has ls 4 [(0, .int p1), (1, .int p2), (2, .int p3), (3, .int s2)] → lpN st2 n s2 = some out → W p l e (headSpec (Cond.code yX5_placeByFormula cX5_placeByFormula 4 (some .int) :: wT) ({ frames := 2, cells := 0, slots := 0, locals := 45 } : Room)).room s m ([.int p1, .int p2, .int p3] : List Value).toArray below meth c H locs 0 0 (MQ below (va_Qi (fun (r : Int32) (_ : Unit) => r = out) (fun _ _ => True) wN0) ([.int p1, .int p2, .int p3] : List Value).toArray s 0 0 wN0) (F0 m 2 ls []) := by
    intro n
    induction n with
    | zero => intro s2 H locs ls hP hS hl hF; exact lpN_0 hF
    | succ n ih2 =>
      intro s2 H locs ls hP hS hl hF
      have hF := (congrFun (congrFun hst2 s2) (lpN st2 n)).symm.trans (lpN_s hF)
      refine lv_iload_n hx hb dX5_placeByFormula_2 rfl (lv_at hl 3 rfl) ?_
      refine lv_iload_n hx hb dX5_placeByFormula_3 rfl (lv_at hl 2 rfl) ?_
      refine lv_icmp_gt (tgt := 27) hx hb dX5_placeByFormula_4 (by decide) (fun c1 => ?_) (fun c1 => ?_)
      · have hF := itp c1 hF
        refine lv_iload_n hx hb dX5_placeByFormula_27 rfl (lv_at hl 2 rfl) ?_
        refine lv_bipush (v := 60) hx hb dX5_placeByFormula_28 (by decide) ?_
        obtain ⟨j48, hj48, hF⟩ := jn_use hF
        have hJ48 : ∀ (s48 : Int32) (H : Heap) (locs : List Loc) (ls : Array Slot), va_P (dC, dI) vwCl ([] : va_W) H → va_S wN0 s.heap H locs → lv_has ls 4 [] → j48 s48 = some out → W p l e (headSpec (Cond.code yX5_placeByFormula cX5_placeByFormula 4 (some .int) :: wT) ({ frames := 2, cells := 0, slots := 0, locals := 45 } : Room)).room s m ([.int p1, .int p2, .int p3] : List Value).toArray below meth c H locs 0 0 (MQ below (va_Qi (fun (r : Int32) (_ : Unit) => r = out) (fun _ _ => True) wN0) ([.int p1, .int p2, .int p3] : List Value).toArray s 0 0 wN0) (F0 m 48 ls [.int s48]) := by
          intro s48 H locs ls hP hS hl hF
          have hF := (congrFun hj48 s48).symm.trans hF
          exact W.iret (v := s48) hx hb hr (fun t ht hW => ⟨⟨_, (), rfl, Option.some.inj hF, trivial⟩, hS.F ht⟩) hS.2.2 dX5_placeByFormula_48
        refine lv_icmp_lt (tgt := 37) hx hb dX5_placeByFormula_30 (by decide) (fun c2 => ?_) (fun c2 => ?_)
        · have hF := itp c2 hF
          refine lv_iload_n hx hb dX5_placeByFormula_37 rfl (lv_at hl 2 rfl) ?_
          refine lv_bipush (v := 21) hx hb dX5_placeByFormula_38 (by decide) ?_
          refine lv_imul hx hb dX5_placeByFormula_40 ?_
          refine lv_iload_n hx hb dX5_placeByFormula_41 rfl (lv_at hl 2 rfl) ?_
          refine lv_iload_n hx hb dX5_placeByFormula_42 rfl (lv_at hl 0 rfl) ?_
          refine lv_iload_n hx hb dX5_placeByFormula_43 rfl (lv_at hl 1 rfl) ?_
          obtain ⟨o3, h4, hF⟩ := obd hF
          refine wcRSi (As := [.int p3, .int p1, .int p2]) (rest := [.int (p3 * (21 : Int32))]) ⟨hx, hb, hml, hown, hts⟩ (met_X5_columnAfter l dC dI cyI cyO  N  p3 p1 p2 o3 h4) (va_cwS 3 hts (gS w_methodLink_X5_409 w_static_X5_columnAfter w_initialized_X5 w_code_X5_columnAfter) rfl rfl rfl (by decide +kernel) ⟨Nat.le_of_ble_eq_true rfl, Nat.le_of_ble_eq_true rfl⟩) hP hK [] rfl rfl hl.1 (Nat.le_of_ble_eq_true rfl) dX5_placeByFormula_44 ⟨Nat.le_of_ble_eq_true rfl, Nat.le_of_ble_eq_true rfl⟩ hS (fun r H locs hw hP hS => ?_)
          have hw := hw.symm
          subst hw
          refine lv_iadd hx hb dX5_placeByFormula_47 ?_
          exact hJ48 ((p3 * (21 : Int32)) + o3) _ _ _ hP hS (lv_sub hl [] rfl) hF
        · have hF := itn c2 hF
          refine lv_iconst (v := -1) hx hb dX5_placeByFormula_33 (by decide) ?_
          refine lv_goto (tgt := 48) hx hb dX5_placeByFormula_34 (by decide) ?_
          exact hJ48 (-1 : Int32) _ _ _ hP hS (lv_sub hl [] rfl) hF
      · have hF := itn c1 hF
        refine lv_iload_n hx hb dX5_placeByFormula_7 rfl (lv_at hl 3 rfl) ?_
        refine lv_iload_n hx hb dX5_placeByFormula_8 rfl (lv_at hl 0 rfl) ?_
        refine lv_iload_n hx hb dX5_placeByFormula_9 rfl (lv_at hl 1 rfl) ?_
        obtain ⟨o5, h6, hF⟩ := obd hF
        refine wcRSi (As := [.int s2, .int p1, .int p2]) (rest := []) ⟨hx, hb, hml, hown, hts⟩ (met_X5_columnAfter l dC dI cyI cyO  N  s2 p1 p2 o5 h6) (va_cwS 3 hts (gS w_methodLink_X5_409 w_static_X5_columnAfter w_initialized_X5 w_code_X5_columnAfter) rfl rfl rfl (by decide +kernel) ⟨Nat.le_of_ble_eq_true rfl, Nat.le_of_ble_eq_true rfl⟩) hP hK [] rfl rfl hl.1 (Nat.le_of_ble_eq_true rfl) dX5_placeByFormula_10 ⟨Nat.le_of_ble_eq_true rfl, Nat.le_of_ble_eq_true rfl⟩ hS (fun r H locs hw hP hS => ?_)
        have hw := hw.symm
        subst hw
        obtain ⟨o7, h8, hF⟩ := obd hF
        refine wcRSi (As := [.int o5]) (rest := []) ⟨hx, hb, hml, hown, hts⟩ (met_X5_isOut l dC dI cyI cyO  N  o5 o7 h8) (va_cwS 1 hts (gS w_methodLink_X5_232 w_static_X5_isOut w_initialized_X5 w_code_X5_isOut) rfl rfl rfl (by decide +kernel) ⟨Nat.le_of_ble_eq_true rfl, Nat.le_of_ble_eq_true rfl⟩) hP hK [] rfl rfl hl.1 (Nat.le_of_ble_eq_true rfl) dX5_placeByFormula_13 ⟨Nat.le_of_ble_eq_true rfl, Nat.le_of_ble_eq_true rfl⟩ hS (fun r H locs hw hP hS => ?_)
        obtain ⟨hw, hz9⟩ := hw
        have hw := hw.symm
        subst hw
        refine lv_if_eq (tgt := 21) hx hb dX5_placeByFormula_16 (by decide) (fun c10 => ?_) (fun c10 => ?_)
        · have hF := itp c10 hF
          refine lv_iinc (v := (s2 + (1 : Int32))) (lv' := [(3, .int (s2 + (1 : Int32))), (0, .int p1), (1, .int p2), (2, .int p3)]) hx hb dX5_placeByFormula_21 hl (k := 3) rfl rfl (by decide) rfl (fun ls hl => ?_)
          refine lv_goto (tgt := 2) hx hb dX5_placeByFormula_24 (by decide) ?_
          exact ih2 (s2 + (1 : Int32)) _ _ _ hP hS (lv_sub hl [1, 2, 3, 0] rfl) hF
        · have hF := itn c10 hF
          refine lv_iconst (v := -1) hx hb dX5_placeByFormula_19 (by decide) ?_
          exact W.iret (v := (-1 : Int32)) hx hb hr (fun t ht hW => ⟨⟨_, (), rfl, Option.some.inj hF, trivial⟩, hS.F ht⟩) hS.2.2 dX5_placeByFormula_20
  exact hL2 N (1 : Int32) _ _ _ hP hS (lv_sub hl [1, 2, 3, 0] rfl) hF
