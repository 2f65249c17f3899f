/-! shelves of states -/
def shI (k : Int32) (f : Nat → Option Nat) (i : Int32) : Option Nat := if i < 0 then none else if k ≤ i then none else f i.toNatClampNeg
section SH
variable {p : Program} {l : Launch} {e : Env} {R : Room} {s : State} {m : MethodId} {args : Array Value} {below : List Frame} {meth : Method} {c : Code} {H : Heap} {locs : List Loc} {cells slots : Nat} {Q : State → Prop}
variable {y : MethodName} {bytes cc : ByteArray} {maxL nL n index : Nat} {ret : Option FieldType} {wsy : List Cond} {rm : Room} {Ts : List Cond} {own C host : String} {b : Nat} {As rest : List Value} {pc : Nat} {ls : Array Slot} {A : Nat → Prop} {H0 : Heap}
variable {dC : Nat → ClassId} {dI : Nat → Nat → Nat} {cyI cyO : ClassId} {ws wc : va_W} {r0 : Option Nat}
theorem wcRVqS {x : Nat}  (S : CallFix p m c cc nL s args Ts own) (hM : Met l y wsy rm (wRd dC dI cyI cyO (.ref b :: As) wc) (va_Qq (fun (r : Option Nat) (_ : Unit) => r = r0) (fun _ _ => True) wN0) 0 0 wN0) (cw : CallW R s args own C index y bytes maxL ret wsy rm 0 0 n) (hr : ∃ cellB : Cell, H[b]? = some cellB ∧ cellB.vm.isStatics = false ∧ s.vm.findClass C = some cellB.cls) (hP : va_P (dC, dI) vwCl ws H) (hK : wK dC dI cyI cyO s) (is : List Nat) (hsub : is.filterMap (fun i => ws[i]?) = wc) (hn : As.length = n) (hsize : ls.size = nL) (hst : (rest.map fun v => v.category).sum ≤ 8) (hdg : decode cc pc = .ok (.invokevirtual index, 3)) (hf : cells ≤ R.cells ∧ slots ≤ R.slots) (hS : va_S A H0 H locs) (hq : r0 = some x) (kk : ∀ (H1 : Heap) (locs1 : List Loc), va_P (dC, dI) vwCl ws H1 → va_S A H0 H1 locs1 → W p l e R s m args below meth c H1 locs1 cells slots Q (F0 m (pc + 3) ls (.ref x :: rest))) : W p l e R s m args below meth c H locs cells slots Q (F0 m pc ls (As.reverse ++ .ref b :: rest)) :=
  va_callq (va_runV (rest := rest) S hM cw ⟨wRd_blind, hr, fun U hU hW => ⟨rfl, by rw [hU]; exact hP.sub is hsub, wK_warm hW hK⟩⟩ rfl hn hsize rfl (lv_room hst) hdg hf) hS (fun q _ h => h.elim) (fun q h => h.elim) (fun r u t H1 locs1 ht hvm hw hB hz1 hk1 hS1 => by rw [hw, hq]; exact kk H1 locs1 (hP.kept (fun k q hk => hk1 q.1 (hP k q hk).lt id)) hS1)
theorem wcRVqN  (S : CallFix p m c cc nL s args Ts own) (hM : Met l y wsy rm (wRd dC dI cyI cyO (.ref b :: As) wc) (va_Qq (fun (r : Option Nat) (_ : Unit) => r = r0) (fun _ _ => True) wN0) 0 0 wN0) (cw : CallW R s args own C index y bytes maxL ret wsy rm 0 0 n) (hr : ∃ cellB : Cell, H[b]? = some cellB ∧ cellB.vm.isStatics = false ∧ s.vm.findClass C = some cellB.cls) (hP : va_P (dC, dI) vwCl ws H) (hK : wK dC dI cyI cyO s) (is : List Nat) (hsub : is.filterMap (fun i => ws[i]?) = wc) (hn : As.length = n) (hsize : ls.size = nL) (hst : (rest.map fun v => v.category).sum ≤ 8) (hdg : decode cc pc = .ok (.invokevirtual index, 3)) (hf : cells ≤ R.cells ∧ slots ≤ R.slots) (hS : va_S A H0 H locs) (hq : r0 = none) (kk : ∀ (H1 : Heap) (locs1 : List Loc), va_P (dC, dI) vwCl ws H1 → va_S A H0 H1 locs1 → W p l e R s m args below meth c H1 locs1 cells slots Q (F0 m (pc + 3) ls (.null :: rest))) : W p l e R s m args below meth c H locs cells slots Q (F0 m pc ls (As.reverse ++ .ref b :: rest)) :=
  va_callq (va_runV (rest := rest) S hM cw ⟨wRd_blind, hr, fun U hU hW => ⟨rfl, by rw [hU]; exact hP.sub is hsub, wK_warm hW hK⟩⟩ rfl hn hsize rfl (lv_room hst) hdg hf) hS (fun q _ h => h.elim) (fun q h => h.elim) (fun r u t H1 locs1 ht hvm hw hB hz1 hk1 hS1 => by rw [hw, hq]; exact kk H1 locs1 (hP.kept (fun k q hk => hk1 q.1 (hP k q hk).lt id)) hS1)
end SH
theorem ix_sh {i k : Int32} {n : Nat} (hk : k.toInt = (n : Int)) (h0 : ¬ i < 0) (h1 : ¬ k ≤ i) : ¬ (i < 0 ∨ n ≤ i.toNatClampNeg) := by
  intro h
  rcases h with h | h
  · exact h0 h
  · apply h1
    rw [Int32.le_iff_toInt_le, hk]
    have h2 : ¬ i.toInt < 0 := fun q => h0 (Int32.lt_iff_toInt_lt.mpr q)
    have h3 : i.toNatClampNeg = i.toInt.toNat := rfl
    omega
theorem shI_out2 {f : Nat → Option Nat} {i : Int32} (h0 : ¬ i = (0 : Int32)) (h1 : ¬ i = (1 : Int32)) : shI (2 : Int32) f i = none := by
  unfold shI
  by_cases c0 : i < 0
  · exact if_pos c0
  · rw [if_neg c0]
    by_cases c1 : (2 : Int32) ≤ i
    · exact if_pos c1
    · exfalso
      have a0 : ¬ i.toInt < 0 := fun q => c0 (Int32.lt_iff_toInt_lt.mpr q)
      have a1 : ¬ (2 : Int) ≤ i.toInt := fun q => c1 (Int32.le_iff_toInt_le.mpr (by rw [show ((2 : Int32)).toInt = 2 from rfl]; exact q))
      have b0 : ¬ i.toInt = 0 := fun q => h0 (Int32.toInt_inj.mp (q.trans (show (0 : Int) = ((0 : Int32)).toInt from rfl)))
      have b1 : ¬ i.toInt = 1 := fun q => h1 (Int32.toInt_inj.mp (q.trans (show (1 : Int) = ((1 : Int32)).toInt from rfl)))
      omega
theorem shI_out6 {f : Nat → Option Nat} {i : Int32} (h0 : ¬ i = (0 : Int32)) (h1 : ¬ i = (1 : Int32)) (h2 : ¬ i = (2 : Int32)) (h3 : ¬ i = (3 : Int32)) (h4 : ¬ i = (4 : Int32)) (h5 : ¬ i = (5 : Int32)) : shI (6 : Int32) f i = none := by
  unfold shI
  by_cases c0 : i < 0
  · exact if_pos c0
  · rw [if_neg c0]
    by_cases c1 : (6 : Int32) ≤ i
    · exact if_pos c1
    · exfalso
      have a0 : ¬ i.toInt < 0 := fun q => c0 (Int32.lt_iff_toInt_lt.mpr q)
      have a1 : ¬ (6 : Int) ≤ i.toInt := fun q => c1 (Int32.le_iff_toInt_le.mpr (by rw [show ((6 : Int32)).toInt = 6 from rfl]; exact q))
      have b0 : ¬ i.toInt = 0 := fun q => h0 (Int32.toInt_inj.mp (q.trans (show (0 : Int) = ((0 : Int32)).toInt from rfl)))
      have b1 : ¬ i.toInt = 1 := fun q => h1 (Int32.toInt_inj.mp (q.trans (show (1 : Int) = ((1 : Int32)).toInt from rfl)))
      have b2 : ¬ i.toInt = 2 := fun q => h2 (Int32.toInt_inj.mp (q.trans (show (2 : Int) = ((2 : Int32)).toInt from rfl)))
      have b3 : ¬ i.toInt = 3 := fun q => h3 (Int32.toInt_inj.mp (q.trans (show (3 : Int) = ((3 : Int32)).toInt from rfl)))
      have b4 : ¬ i.toInt = 4 := fun q => h4 (Int32.toInt_inj.mp (q.trans (show (4 : Int) = ((4 : Int32)).toInt from rfl)))
      have b5 : ¬ i.toInt = 5 := fun q => h5 (Int32.toInt_inj.mp (q.trans (show (5 : Int) = ((5 : Int32)).toInt from rfl)))
      omega
theorem dX2_stateAt_0 : decode cX2_stateAt 0 = .ok (.iload_n 1, 1) := by decide +kernel
theorem dX2_stateAt_1 : decode cX2_stateAt 1 = .ok (.ifCond .lt 21, 3) := by decide +kernel
theorem dX2_stateAt_4 : decode cX2_stateAt 4 = .ok (.iload_n 1, 1) := by decide +kernel
theorem dX2_stateAt_5 : decode cX2_stateAt 5 = .ok (.aload_n 0, 1) := by decide +kernel
theorem dX2_stateAt_6 : decode cX2_stateAt 6 = .ok (.getfield 15, 3) := by decide +kernel
theorem dX2_stateAt_9 : decode cX2_stateAt 9 = .ok (.arraylength, 1) := by decide +kernel
theorem dX2_stateAt_10 : decode cX2_stateAt 10 = .ok (.if_icmp .ge 12, 3) := by decide +kernel
theorem dX2_stateAt_13 : decode cX2_stateAt 13 = .ok (.aload_n 0, 1) := by decide +kernel
theorem dX2_stateAt_14 : decode cX2_stateAt 14 = .ok (.getfield 15, 3) := by decide +kernel
theorem dX2_stateAt_17 : decode cX2_stateAt 17 = .ok (.iload_n 1, 1) := by decide +kernel
theorem dX2_stateAt_18 : decode cX2_stateAt 18 = .ok (.aaload, 1) := by decide +kernel
theorem dX2_stateAt_19 : decode cX2_stateAt 19 = .ok (.goto 4, 3) := by decide +kernel
theorem dX2_stateAt_22 : decode cX2_stateAt 22 = .ok (.aconst_null, 1) := by decide +kernel
theorem dX2_stateAt_23 : decode cX2_stateAt 23 = .ok (.areturn, 1) := by decide +kernel
set_option maxHeartbeats 4000000 in
theorem met_X2_stateAt2 (l : Launch) (dC : Nat → ClassId) (dI : Nat → Nat → Nat) (cyI cyO : ClassId) (q r : Nat) (f : Nat → Option Nat) (p1 : Int32) : Met l yX2_stateAt (Cond.code yX2_stateAt cX2_stateAt 2 (some (.object "WombatBowls$State")) :: wT) ({ frames := 0, cells := 0, slots := 0, locals := 0 } : Room) (wRd dC dI cyI cyO [.ref q, .int p1] (cH cyO q r 2 f)) (va_Qq (fun (x : Option Nat) (_ : Unit) => x = shI (2 : Int32) f p1) (fun _ _ => True) wN0) 0 0 wN0 := by
  refine Met.ofW (cc := cX2_stateAt) (maxL := 2) (ret := (some (.object "WombatBowls$State"))) (by decide) rfl ?_
  intro p e s m args below meth c s₁ B hml hv
  obtain ⟨rfl, hP, hK⟩ := hv
  have hx := B.exec
  have hb := B.bytes
  have hr := B.returns
  have hts0 := atoms_spec (ws := (Cond.code yX2_stateAt cX2_stateAt 2 (some (.object "WombatBowls$State")) :: wT)) B.pre
  have hts := fun w h => hts0 w (List.mem_cons_of_mem _ h)
  clear hts0
  have hown : s.vm.findClass RX2 = some m.cls := findClass_of_methodNamed B.named
  have hlocks := B.notSynchronized
  have hS : va_S wN0 s.heap s.heap [] := va_S.rf
  have hl := lv_entry [.ref q, .int p1] (n := 2) (Nat.le_of_ble_eq_true rfl)
  rw [lg_entry_eq]
  generalize (lg_sl [.ref q, .int p1] ++ List.replicate (2 - (lg_sl [.ref q, .int p1]).length) Slot.unset).toArray = ls at hl ⊢
  have hl : lv_has ls 2 [(0, .ref q), (1, .int p1)] := hl
  refine lv_iload_n hx hb dX2_stateAt_0 rfl (lv_at hl 1 rfl) ?_
  refine lv_if_lt (tgt := 22) hx hb dX2_stateAt_1 (by decide) (fun c0 => ?_) (fun c0 => ?_)
  · refine lv_null hx hb dX2_stateAt_22 ?_
    exact W.aret (v := .null) hx hb hr (Or.inl ⟨_, rfl⟩) (Or.inl rfl) (fun t ht hW => ⟨⟨none, (), rfl, (if_pos c0).symm, trivial⟩, hS.F ht⟩) hS.2.2 dX2_stateAt_23
  refine lv_iload_n hx hb dX2_stateAt_4 rfl (lv_at hl 1 rfl) ?_
  refine lv_aload_n hx hb dX2_stateAt_5 rfl (lv_at hl 0 rfl) ?_
  refine va_get (D := (dC, dI)) (ci := 2) (v := .ref r) (C := RX2) (T := TX2) (N := 1) hx hb hts inX2 hown hK.1 hP 0 rfl rfl 0 (by decide) (hts _ w_fieldLink_X2_15) (fun _ h9 => h9) rfl dX2_stateAt_6 ?_
  refine va_alen hx hb hK.1 hP 1 1 rfl rfl (v := (2 : Int32)) rfl dX2_stateAt_9 ?_
  refine lv_icmp_ge (tgt := 22) hx hb dX2_stateAt_10 (by decide) (fun c1 => ?_) (fun c1 => ?_)
  · refine lv_null hx hb dX2_stateAt_22 ?_
    exact W.aret (v := .null) hx hb hr (Or.inl ⟨_, rfl⟩) (Or.inl rfl) (fun t ht hW => ⟨⟨none, (), rfl, ((if_neg c0).trans (if_pos c1)).symm, trivial⟩, hS.F ht⟩) hS.2.2 dX2_stateAt_23
  refine lv_aload_n hx hb dX2_stateAt_13 rfl (lv_at hl 0 rfl) ?_
  refine va_get (D := (dC, dI)) (ci := 2) (v := .ref r) (C := RX2) (T := TX2) (N := 1) hx hb hts inX2 hown hK.1 hP 0 rfl rfl 0 (by decide) (hts _ w_fieldLink_X2_15) (fun _ h9 => h9) rfl dX2_stateAt_14 ?_
  refine lv_iload_n hx hb dX2_stateAt_17 rfl (lv_at hl 1 rfl) ?_
  refine va_aldq hx hb hK.1 hP 1 1 rfl rfl (ix_sh rfl c0 c1) dX2_stateAt_18 ?_
  refine lv_goto (tgt := 23) hx hb dX2_stateAt_19 (by decide) ?_
  exact W.aret (v := va_rf (f p1.toNatClampNeg)) hx hb hr (Or.inl ⟨_, rfl⟩) (va_rf_or _) (fun t ht hW => ⟨⟨f p1.toNatClampNeg, (), rfl, ((if_neg c0).trans (if_neg c1)).symm, trivial⟩, hS.F ht⟩) hS.2.2 dX2_stateAt_23
set_option maxHeartbeats 4000000 in
theorem met_X2_stateAt6 (l : Launch) (dC : Nat → ClassId) (dI : Nat → Nat → Nat) (cyI cyO : ClassId) (q r : Nat) (f : Nat → Option Nat) (p1 : Int32) : Met l yX2_stateAt (Cond.code yX2_stateAt cX2_stateAt 2 (some (.object "WombatBowls$State")) :: wT) ({ frames := 0, cells := 0, slots := 0, locals := 0 } : Room) (wRd dC dI cyI cyO [.ref q, .int p1] (cH cyO q r 6 f)) (va_Qq (fun (x : Option Nat) (_ : Unit) => x = shI (6 : Int32) f p1) (fun _ _ => True) wN0) 0 0 wN0 := by
  refine Met.ofW (cc := cX2_stateAt) (maxL := 2) (ret := (some (.object "WombatBowls$State"))) (by decide) rfl ?_
  intro p e s m args below meth c s₁ B hml hv
  obtain ⟨rfl, hP, hK⟩ := hv
  have hx := B.exec
  have hb := B.bytes
  have hr := B.returns
  have hts0 := atoms_spec (ws := (Cond.code yX2_stateAt cX2_stateAt 2 (some (.object "WombatBowls$State")) :: wT)) B.pre
  have hts := fun w h => hts0 w (List.mem_cons_of_mem _ h)
  clear hts0
  have hown : s.vm.findClass RX2 = some m.cls := findClass_of_methodNamed B.named
  have hlocks := B.notSynchronized
  have hS : va_S wN0 s.heap s.heap [] := va_S.rf
  have hl := lv_entry [.ref q, .int p1] (n := 2) (Nat.le_of_ble_eq_true rfl)
  rw [lg_entry_eq]
  generalize (lg_sl [.ref q, .int p1] ++ List.replicate (2 - (lg_sl [.ref q, .int p1]).length) Slot.unset).toArray = ls at hl ⊢
  have hl : lv_has ls 2 [(0, .ref q), (1, .int p1)] := hl
  refine lv_iload_n hx hb dX2_stateAt_0 rfl (lv_at hl 1 rfl) ?_
  refine lv_if_lt (tgt := 22) hx hb dX2_stateAt_1 (by decide) (fun c0 => ?_) (fun c0 => ?_)
  · refine lv_null hx hb dX2_stateAt_22 ?_
    exact W.aret (v := .null) hx hb hr (Or.inl ⟨_, rfl⟩) (Or.inl rfl) (fun t ht hW => ⟨⟨none, (), rfl, (if_pos c0).symm, trivial⟩, hS.F ht⟩) hS.2.2 dX2_stateAt_23
  refine lv_iload_n hx hb dX2_stateAt_4 rfl (lv_at hl 1 rfl) ?_
  refine lv_aload_n hx hb dX2_stateAt_5 rfl (lv_at hl 0 rfl) ?_
  refine va_get (D := (dC, dI)) (ci := 2) (v := .ref r) (C := RX2) (T := TX2) (N := 1) hx hb hts inX2 hown hK.1 hP 0 rfl rfl 0 (by decide) (hts _ w_fieldLink_X2_15) (fun _ h9 => h9) rfl dX2_stateAt_6 ?_
  refine va_alen hx hb hK.1 hP 1 1 rfl rfl (v := (6 : Int32)) rfl dX2_stateAt_9 ?_
  refine lv_icmp_ge (tgt := 22) hx hb dX2_stateAt_10 (by decide) (fun c1 => ?_) (fun c1 => ?_)
  · refine lv_null hx hb dX2_stateAt_22 ?_
    exact W.aret (v := .null) hx hb hr (Or.inl ⟨_, rfl⟩) (Or.inl rfl) (fun t ht hW => ⟨⟨none, (), rfl, ((if_neg c0).trans (if_pos c1)).symm, trivial⟩, hS.F ht⟩) hS.2.2 dX2_stateAt_23
  refine lv_aload_n hx hb dX2_stateAt_13 rfl (lv_at hl 0 rfl) ?_
  refine va_get (D := (dC, dI)) (ci := 2) (v := .ref r) (C := RX2) (T := TX2) (N := 1) hx hb hts inX2 hown hK.1 hP 0 rfl rfl 0 (by decide) (hts _ w_fieldLink_X2_15) (fun _ h9 => h9) rfl dX2_stateAt_14 ?_
  refine lv_iload_n hx hb dX2_stateAt_17 rfl (lv_at hl 1 rfl) ?_
  refine va_aldq hx hb hK.1 hP 1 1 rfl rfl (ix_sh rfl c0 c1) dX2_stateAt_18 ?_
  refine lv_goto (tgt := 23) hx hb dX2_stateAt_19 (by decide) ?_
  exact W.aret (v := va_rf (f p1.toNatClampNeg)) hx hb hr (Or.inl ⟨_, rfl⟩) (va_rf_or _) (fun t ht hW => ⟨⟨f p1.toNatClampNeg, (), rfl, ((if_neg c0).trans (if_neg c1)).symm, trivial⟩, hS.F ht⟩) hS.2.2 dX2_stateAt_23
theorem dX2_write_0 : decode cX2_write 0 = .ok (.aload_n 0, 1) := by decide +kernel
theorem dX2_write_1 : decode cX2_write 1 = .ok (.iload_n 1, 1) := by decide +kernel
theorem dX2_write_2 : decode cX2_write 2 = .ok (.invokevirtual 22, 3) := by decide +kernel
theorem dX2_write_5 : decode cX2_write 5 = .ok (.astore_n 3, 1) := by decide +kernel
theorem dX2_write_6 : decode cX2_write 6 = .ok (.aload_n 3, 1) := by decide +kernel
theorem dX2_write_7 : decode cX2_write 7 = .ok (.ifnull 8, 3) := by decide +kernel
theorem dX2_write_10 : decode cX2_write 10 = .ok (.aload_n 3, 1) := by decide +kernel
theorem dX2_write_11 : decode cX2_write 11 = .ok (.aload_n 2, 1) := by decide +kernel
theorem dX2_write_12 : decode cX2_write 12 = .ok (.invokevirtual 26, 3) := by decide +kernel
theorem dX2_write_15 : decode cX2_write 15 = .ok (.return_, 1) := by decide +kernel
def f_X2_write2 (N : Nat) (v : SV) (v0 : SV) (v1 : SV) (p1 : Int32) : Option (SV × SV × SV) :=
  (if p1 = (0 : Int32) then jn (fun (s15 : SV × SV × SV) => some (s15.1, s15.2.1, s15.2.2)) (fun (j15 : (SV × SV × SV) → Option (SV × SV × SV)) => (f_X3_copyFrom N v0 v).bind (fun o2 => j15 (o2.2, o2.1, v1))) else if p1 = (1 : Int32) then jn (fun (s15 : SV × SV × SV) => some (s15.1, s15.2.1, s15.2.2)) (fun (j15 : (SV × SV × SV) → Option (SV × SV × SV)) => (f_X3_copyFrom N v1 v).bind (fun o5 => j15 (o5.2, v0, o5.1))) else jn (fun (s15 : SV × SV × SV) => some (s15.1, s15.2.1, s15.2.2)) (fun (j15 : (SV × SV × SV) → Option (SV × SV × SV)) => j15 (v, v0, v1)))
set_option maxHeartbeats 4000000 in
set_option maxRecDepth 100000 in
theorem met_X2_write2 (l : Launch) (dC : Nat → ClassId) (dI : Nat → Nat → Nat) (cyI cyO : ClassId) (q r : Nat) (f : Nat → Option Nat) (a : Nat → Nat) (b0 : Nat → Nat) (b1 : Nat → Nat) (sz : Nat) (N : Nat) (v : SV) (v0 : SV) (v1 : SV) (p1 : Int32) (hb0 : f 0 = some (b0 0)) (hb1 : f 1 = some (b1 0)) (out : SV × SV × SV) (hF : f_X2_write2 N v v0 v1 p1 = some out) : Met l yX2_write (Cond.code yX2_write cX2_write 4 none :: wT) ({ frames := 3, cells := 0, slots := 0, locals := 64 } : Room) (wWr dC dI cyI cyO [.ref q, .int p1, .ref (a 0)] (([(cH cyO q r 2 f), (cS cyI a v), (cS cyI b0 v0), (cS cyI b1 v1)] : List va_W).flatten) sz) (va_Qv (fun (u : SV × SV × SV) => u = out) (fun u t => va_P (dC, dI) vwCl (([(cH cyO q r 2 f), (cS cyI a u.1), (cS cyI b0 u.2.1), (cS cyI b1 u.2.2)] : List va_W).flatten) t.heap ∧ va_D (va_A (([(cH cyO q r 2 f), (cS cyI a v), (cS cyI b0 v0), (cS cyI b1 v1)] : List va_W).flatten) sz) (([(cH cyO q r 2 f), (cS cyI a u.1), (cS cyI b0 u.2.1), (cS cyI b1 u.2.2)] : List va_W).flatten)) (va_A (([(cH cyO q r 2 f), (cS cyI a v), (cS cyI b0 v0), (cS cyI b1 v1)] : List va_W).flatten) sz)) 0 0 (va_A (([(cH cyO q r 2 f), (cS cyI a v), (cS cyI b0 v0), (cS cyI b1 v1)] : List va_W).flatten) sz) := by
  refine Met.ofW (cc := cX2_write) (maxL := 4) (ret := none) (by decide) rfl ?_
  intro p e s m args below meth c s₁ B hml hv
  obtain ⟨rfl, hsz, hP, hK, hD0⟩ := hv
  have hx := B.exec
  have hb := B.bytes
  have hr := B.returns
  have hts0 := atoms_spec (ws := (Cond.code yX2_write cX2_write 4 none :: wT)) B.pre
  have hts := fun w h => hts0 w (List.mem_cons_of_mem _ h)
  clear hts0
  have hown : s.vm.findClass RX2 = some m.cls := findClass_of_methodNamed B.named
  have hlocks := B.notSynchronized
  subst hsz
  have hD := hD0.self (sz := s.heap.size)
  generalize hAe : va_A (([(cH cyO q r 2 f), (cS cyI a v), (cS cyI b0 v0), (cS cyI b1 v1)] : List va_W).flatten) s.heap.size = A at hD ⊢
  have hA : ∀ q : Nat, s.heap.size ≤ q → A q := fun q h => by rw [← hAe]; exact Or.inr h
  clear hD0
  have hS : va_S A s.heap s.heap [] := va_S.rf
  have hl := lv_entry [.ref q, .int p1, .ref (a 0)] (n := 4) (Nat.le_of_ble_eq_true rfl)
  rw [lg_entry_eq]
  generalize (lg_sl [.ref q, .int p1, .ref (a 0)] ++ List.replicate (4 - (lg_sl [.ref q, .int p1, .ref (a 0)]).length) Slot.unset).toArray = ls at hl ⊢
  have hl : lv_has ls 4 [(0, .ref q), (1, .int p1), (2, .ref (a 0))] := hl
  unfold f_X2_write2 at hF
  refine lv_aload_n hx hb dX2_write_0 rfl (lv_at hl 0 rfl) ?_
  refine lv_iload_n hx hb dX2_write_1 rfl (lv_at hl 1 rfl) ?_
  by_cases c1 : p1 = (0 : Int32)
  · have hF := itp c1 hF
    refine wcRVqS (As := [.int p1]) (rest := []) (b := q) ⟨hx, hb, hml, hown, hts⟩ (met_X2_stateAt2 l dC dI cyI cyO q r f p1) (cwV 1 hts (gV w_methodLink_X2_22 w_instanceMethod_X2_stateAt w_selects_X2_stateAt w_initialized_X2 w_code_X2_stateAt) rfl rfl rfl (by decide +kernel) ⟨Nat.le_of_ble_eq_true rfl, Nat.le_of_ble_eq_true rfl⟩) (va_recv hK.1 hP (ci := 2) (q0 := 0) rfl rfl) hP hK [0, 1] rfl rfl hl.1 (Nat.le_of_ble_eq_true rfl) dX2_write_2 ⟨Nat.le_of_ble_eq_true rfl, Nat.le_of_ble_eq_true rfl⟩ hS (x := b0 0) (by rw [c1]; exact (if_neg (by decide)).trans ((if_neg (by decide)).trans hb0)) (fun H locs hP hS => ?_)
    refine lv_astore_n (lv' := [(3, .ref (b0 0)), (0, .ref q), (1, .int p1), (2, .ref (a 0))]) hx hb dX2_write_5 rfl hl (by decide) rfl (fun ls hl => ?_)
    refine lv_aload_n hx hb dX2_write_6 rfl (lv_at hl 0 rfl) ?_
    obtain ⟨j15, hj15, hF⟩ := jn_use hF
    have hJ15 : ∀ (s15 : SV × SV × SV) (H : Heap) (locs : List Loc) (ls : Array Slot), va_P (dC, dI) vwCl (([(cH cyO q r 2 f), (cS cyI a s15.1), (cS cyI b0 s15.2.1), (cS cyI b1 s15.2.2)] : List va_W).flatten) H → va_D A (([(cH cyO q r 2 f), (cS cyI a s15.1), (cS cyI b0 s15.2.1), (cS cyI b1 s15.2.2)] : List va_W).flatten) → va_S A s.heap H locs → lv_has ls 4 [] → j15 s15 = some out → W p l e (headSpec (Cond.code yX2_write cX2_write 4 none :: wT) ({ frames := 3, cells := 0, slots := 0, locals := 64 } : Room)).room s m ([.ref q, .int p1, .ref (a 0)] : List Value).toArray below meth c H locs 0 0 (MQ below (va_Qv (fun (u : SV × SV × SV) => u = out) (fun u t => va_P (dC, dI) vwCl (([(cH cyO q r 2 f), (cS cyI a u.1), (cS cyI b0 u.2.1), (cS cyI b1 u.2.2)] : List va_W).flatten) t.heap ∧ va_D A (([(cH cyO q r 2 f), (cS cyI a u.1), (cS cyI b0 u.2.1), (cS cyI b1 u.2.2)] : List va_W).flatten)) A) ([.ref q, .int p1, .ref (a 0)] : List Value).toArray s 0 0 A) (F0 m 15 ls []) := by
      intro s15 H locs ls hP hD hS hl hF
      have hF := (congrFun hj15 s15).symm.trans hF
      exact W.vret hx hb hr (fun t ht hW => ⟨⟨_, rfl, Option.some.inj hF, by rw [ht]; exact hP, hD⟩, hS.F ht⟩) hS.2.2 dX2_write_15
    refine lv_ifnull hx hb dX2_write_7 ?_
    refine lv_aload_n hx hb dX2_write_10 rfl (lv_at hl 0 rfl) ?_
    refine lv_aload_n hx hb dX2_write_11 rfl (lv_at hl 3 rfl) ?_
    obtain ⟨o2, h3, hF⟩ := obd hF
    refine wcPVv (As := [.ref (a 0)]) (rest := []) (wr := ([(cH cyO q r 2 f), (cS cyI b1 v1)] : List va_W).flatten) (b := (b0 0)) ⟨hx, hb, hml, hown, hts⟩ (met_X3_copyFrom l dC dI cyI cyO b0 a _ N v0 v  o2 h3) (cwV 1 hts (gV w_methodLink_X2_26 w_instanceMethod_X3_copyFrom w_selects_X3_copyFrom w_initialized_X3 w_code_X3_copyFrom) rfl rfl rfl (by decide +kernel) ⟨Nat.le_of_ble_eq_true rfl, Nat.le_of_ble_eq_true rfl⟩) (va_recv hK.1 hP (ci := 3) (q0 := 15) rfl rfl) hP hD hK (seg_perm (n := 4) (R := [(cH cyO q r 2 f), (cS cyI b1 v1)]) (C := [(cS cyI b0 v0), (cS cyI a v)]) [0, 3] [2, 1] rfl rfl rfl (by decide) rfl) rfl hl.1 (Nat.le_of_ble_eq_true rfl) dX2_write_12 ⟨Nat.le_of_ble_eq_true rfl, Nat.le_of_ble_eq_true rfl⟩ hS hA (fun u H locs hw hP hD hS => ?_)
    have hw := hw.symm
    subst hw
    have hq := seg_permS (segs := [(cH cyO q r 2 f), (cS cyI a o2.2), (cS cyI b0 o2.1), (cS cyI b1 v1)]) (R := [(cH cyO q r 2 f), (cS cyI b1 v1)]) (C := [(cS cyI b0 o2.1), (cS cyI a o2.2)]) (n := 4) [0, 3] [2, 1] rfl rfl rfl (by decide)
    have hP : va_P (dC, dI) vwCl (([(cH cyO q r 2 f), (cS cyI a o2.2), (cS cyI b0 o2.1), (cS cyI b1 v1)] : List va_W).flatten) H := hP.perm hq
    have hD : va_D A (([(cH cyO q r 2 f), (cS cyI a o2.2), (cS cyI b0 o2.1), (cS cyI b1 v1)] : List va_W).flatten) := hD.perm hq
    clear hq
    exact hJ15 (o2.2, o2.1, v1) _ _ _ hP hD hS (lv_sub hl [] rfl) hF
  · have hF := itn c1 hF
    by_cases c4 : p1 = (1 : Int32)
    · have hF := itp c4 hF
      refine wcRVqS (As := [.int p1]) (rest := []) (b := q) ⟨hx, hb, hml, hown, hts⟩ (met_X2_stateAt2 l dC dI cyI cyO q r f p1) (cwV 1 hts (gV w_methodLink_X2_22 w_instanceMethod_X2_stateAt w_selects_X2_stateAt w_initialized_X2 w_code_X2_stateAt) rfl rfl rfl (by decide +kernel) ⟨Nat.le_of_ble_eq_true rfl, Nat.le_of_ble_eq_true rfl⟩) (va_recv hK.1 hP (ci := 2) (q0 := 0) rfl rfl) hP hK [0, 1] rfl rfl hl.1 (Nat.le_of_ble_eq_true rfl) dX2_write_2 ⟨Nat.le_of_ble_eq_true rfl, Nat.le_of_ble_eq_true rfl⟩ hS (x := b1 0) (by rw [c4]; exact (if_neg (by decide)).trans ((if_neg (by decide)).trans hb1)) (fun H locs hP hS => ?_)
      refine lv_astore_n (lv' := [(3, .ref (b1 0)), (0, .ref q), (1, .int p1), (2, .ref (a 0))]) hx hb dX2_write_5 rfl hl (by decide) rfl (fun ls hl => ?_)
      refine lv_aload_n hx hb dX2_write_6 rfl (lv_at hl 0 rfl) ?_
      obtain ⟨j15, hj15, hF⟩ := jn_use hF
      have hJ15 : ∀ (s15 : SV × SV × SV) (H : Heap) (locs : List Loc) (ls : Array Slot), va_P (dC, dI) vwCl (([(cH cyO q r 2 f), (cS cyI a s15.1), (cS cyI b0 s15.2.1), (cS cyI b1 s15.2.2)] : List va_W).flatten) H → va_D A (([(cH cyO q r 2 f), (cS cyI a s15.1), (cS cyI b0 s15.2.1), (cS cyI b1 s15.2.2)] : List va_W).flatten) → va_S A s.heap H locs → lv_has ls 4 [] → j15 s15 = some out → W p l e (headSpec (Cond.code yX2_write cX2_write 4 none :: wT) ({ frames := 3, cells := 0, slots := 0, locals := 64 } : Room)).room s m ([.ref q, .int p1, .ref (a 0)] : List Value).toArray below meth c H locs 0 0 (MQ below (va_Qv (fun (u : SV × SV × SV) => u = out) (fun u t => va_P (dC, dI) vwCl (([(cH cyO q r 2 f), (cS cyI a u.1), (cS cyI b0 u.2.1), (cS cyI b1 u.2.2)] : List va_W).flatten) t.heap ∧ va_D A (([(cH cyO q r 2 f), (cS cyI a u.1), (cS cyI b0 u.2.1), (cS cyI b1 u.2.2)] : List va_W).flatten)) A) ([.ref q, .int p1, .ref (a 0)] : List Value).toArray s 0 0 A) (F0 m 15 ls []) := by
        intro s15 H locs ls hP hD hS hl hF
        have hF := (congrFun hj15 s15).symm.trans hF
        exact W.vret hx hb hr (fun t ht hW => ⟨⟨_, rfl, Option.some.inj hF, by rw [ht]; exact hP, hD⟩, hS.F ht⟩) hS.2.2 dX2_write_15
      refine lv_ifnull hx hb dX2_write_7 ?_
      refine lv_aload_n hx hb dX2_write_10 rfl (lv_at hl 0 rfl) ?_
      refine lv_aload_n hx hb dX2_write_11 rfl (lv_at hl 3 rfl) ?_
      obtain ⟨o5, h6, hF⟩ := obd hF
      refine wcPVv (As := [.ref (a 0)]) (rest := []) (wr := ([(cH cyO q r 2 f), (cS cyI b0 v0)] : List va_W).flatten) (b := (b1 0)) ⟨hx, hb, hml, hown, hts⟩ (met_X3_copyFrom l dC dI cyI cyO b1 a _ N v1 v  o5 h6) (cwV 1 hts (gV w_methodLink_X2_26 w_instanceMethod_X3_copyFrom w_selects_X3_copyFrom w_initialized_X3 w_code_X3_copyFrom) rfl rfl rfl (by decide +kernel) ⟨Nat.le_of_ble_eq_true rfl, Nat.le_of_ble_eq_true rfl⟩) (va_recv hK.1 hP (ci := 3) (q0 := 28) rfl rfl) hP hD hK (seg_perm (n := 4) (R := [(cH cyO q r 2 f), (cS cyI b0 v0)]) (C := [(cS cyI b1 v1), (cS cyI a v)]) [0, 2] [3, 1] rfl rfl rfl (by decide) rfl) rfl hl.1 (Nat.le_of_ble_eq_true rfl) dX2_write_12 ⟨Nat.le_of_ble_eq_true rfl, Nat.le_of_ble_eq_true rfl⟩ hS hA (fun u H locs hw hP hD hS => ?_)
      have hw := hw.symm
      subst hw
      have hq := seg_permS (segs := [(cH cyO q r 2 f), (cS cyI a o5.2), (cS cyI b0 v0), (cS cyI b1 o5.1)]) (R := [(cH cyO q r 2 f), (cS cyI b0 v0)]) (C := [(cS cyI b1 o5.1), (cS cyI a o5.2)]) (n := 4) [0, 2] [3, 1] rfl rfl rfl (by decide)
      have hP : va_P (dC, dI) vwCl (([(cH cyO q r 2 f), (cS cyI a o5.2), (cS cyI b0 v0), (cS cyI b1 o5.1)] : List va_W).flatten) H := hP.perm hq
      have hD : va_D A (([(cH cyO q r 2 f), (cS cyI a o5.2), (cS cyI b0 v0), (cS cyI b1 o5.1)] : List va_W).flatten) := hD.perm hq
      clear hq
      exact hJ15 (o5.2, v0, o5.1) _ _ _ hP hD hS (lv_sub hl [] rfl) hF
    · have hF := itn c4 hF
      refine wcRVqN (As := [.int p1]) (rest := []) (b := q) ⟨hx, hb, hml, hown, hts⟩ (met_X2_stateAt2 l dC dI cyI cyO q r f p1) (cwV 1 hts (gV w_methodLink_X2_22 w_instanceMethod_X2_stateAt w_selects_X2_stateAt w_initialized_X2 w_code_X2_stateAt) rfl rfl rfl (by decide +kernel) ⟨Nat.le_of_ble_eq_true rfl, Nat.le_of_ble_eq_true rfl⟩) (va_recv hK.1 hP (ci := 2) (q0 := 0) rfl rfl) hP hK [0, 1] rfl rfl hl.1 (Nat.le_of_ble_eq_true rfl) dX2_write_2 ⟨Nat.le_of_ble_eq_true rfl, Nat.le_of_ble_eq_true rfl⟩ hS (shI_out2 c1 c4) (fun H locs hP hS => ?_)
      refine lv_astore_nN (lv' := [(3, .null), (0, .ref q), (1, .int p1), (2, .ref (a 0))]) hx hb dX2_write_5 rfl hl (by decide) rfl (fun ls hl => ?_)
      refine lv_aload_nN hx hb dX2_write_6 rfl (lv_at hl 0 rfl) ?_
      obtain ⟨j15, hj15, hF⟩ := jn_use hF
      have hJ15 : ∀ (s15 : SV × SV × SV) (H : Heap) (locs : List Loc) (ls : Array Slot), va_P (dC, dI) vwCl (([(cH cyO q r 2 f), (cS cyI a s15.1), (cS cyI b0 s15.2.1), (cS cyI b1 s15.2.2)] : List va_W).flatten) H → va_D A (([(cH cyO q r 2 f), (cS cyI a s15.1), (cS cyI b0 s15.2.1), (cS cyI b1 s15.2.2)] : List va_W).flatten) → va_S A s.heap H locs → lv_has ls 4 [] → j15 s15 = some out → W p l e (headSpec (Cond.code yX2_write cX2_write 4 none :: wT) ({ frames := 3, cells := 0, slots := 0, locals := 64 } : Room)).room s m ([.ref q, .int p1, .ref (a 0)] : List Value).toArray below meth c H locs 0 0 (MQ below (va_Qv (fun (u : SV × SV × SV) => u = out) (fun u t => va_P (dC, dI) vwCl (([(cH cyO q r 2 f), (cS cyI a u.1), (cS cyI b0 u.2.1), (cS cyI b1 u.2.2)] : List va_W).flatten) t.heap ∧ va_D A (([(cH cyO q r 2 f), (cS cyI a u.1), (cS cyI b0 u.2.1), (cS cyI b1 u.2.2)] : List va_W).flatten)) A) ([.ref q, .int p1, .ref (a 0)] : List Value).toArray s 0 0 A) (F0 m 15 ls []) := by
        intro s15 H locs ls hP hD hS hl hF
        have hF := (congrFun hj15 s15).symm.trans hF
        exact W.vret hx hb hr (fun t ht hW => ⟨⟨_, rfl, Option.some.inj hF, by rw [ht]; exact hP, hD⟩, hS.F ht⟩) hS.2.2 dX2_write_15
      refine lv_ifnullN (tgt := 15) hx hb dX2_write_7 (by decide) ?_
      exact hJ15 (v, v0, v1) _ _ _ hP hD hS (lv_sub hl [] rfl) hF
theorem dX2_read_0 : decode cX2_read 0 = .ok (.aload_n 0, 1) := by decide +kernel
theorem dX2_read_1 : decode cX2_read 1 = .ok (.iload_n 1, 1) := by decide +kernel
theorem dX2_read_2 : decode cX2_read 2 = .ok (.invokevirtual 22, 3) := by decide +kernel
theorem dX2_read_5 : decode cX2_read 5 = .ok (.astore_n 3, 1) := by decide +kernel
theorem dX2_read_6 : decode cX2_read 6 = .ok (.aload_n 3, 1) := by decide +kernel
theorem dX2_read_7 : decode cX2_read 7 = .ok (.ifnull 8, 3) := by decide +kernel
theorem dX2_read_10 : decode cX2_read 10 = .ok (.aload_n 2, 1) := by decide +kernel
theorem dX2_read_11 : decode cX2_read 11 = .ok (.aload_n 3, 1) := by decide +kernel
theorem dX2_read_12 : decode cX2_read 12 = .ok (.invokevirtual 26, 3) := by decide +kernel
theorem dX2_read_15 : decode cX2_read 15 = .ok (.return_, 1) := by decide +kernel
def f_X2_read2 (N : Nat) (v : SV) (v0 : SV) (v1 : SV) (p1 : Int32) : Option (SV × SV × SV) :=
  (if p1 = (0 : Int32) then jn (fun (s15 : SV × SV × SV) => some (s15.1, s15.2.1, s15.2.2)) (fun (j15 : (SV × SV × SV) → Option (SV × SV × SV)) => (f_X3_copyFrom N v v0).bind (fun o2 => j15 (o2.1, o2.2, v1))) else if p1 = (1 : Int32) then jn (fun (s15 : SV × SV × SV) => some (s15.1, s15.2.1, s15.2.2)) (fun (j15 : (SV × SV × SV) → Option (SV × SV × SV)) => (f_X3_copyFrom N v v1).bind (fun o5 => j15 (o5.1, v0, o5.2))) else jn (fun (s15 : SV × SV × SV) => some (s15.1, s15.2.1, s15.2.2)) (fun (j15 : (SV × SV × SV) → Option (SV × SV × SV)) => j15 (v, v0, v1)))
set_option maxHeartbeats 4000000 in
set_option maxRecDepth 100000 in
theorem met_X2_read2 (l : Launch) (dC : Nat → ClassId) (dI : Nat → Nat → Nat) (cyI cyO : ClassId) (q r : Nat) (f : Nat → Option Nat) (a : Nat → Nat) (b0 : Nat → Nat) (b1 : Nat → Nat) (sz : Nat) (N : Nat) (v : SV) (v0 : SV) (v1 : SV) (p1 : Int32) (hb0 : f 0 = some (b0 0)) (hb1 : f 1 = some (b1 0)) (out : SV × SV × SV) (hF : f_X2_read2 N v v0 v1 p1 = some out) : Met l yX2_read (Cond.code yX2_read cX2_read 4 none :: wT) ({ frames := 3, cells := 0, slots := 0, locals := 64 } : Room) (wWr dC dI cyI cyO [.ref q, .int p1, .ref (a 0)] (([(cH cyO q r 2 f), (cS cyI a v), (cS cyI b0 v0), (cS cyI b1 v1)] : List va_W).flatten) sz) (va_Qv (fun (u : SV × SV × SV) => u = out) (fun u t => va_P (dC, dI) vwCl (([(cH cyO q r 2 f), (cS cyI a u.1), (cS cyI b0 u.2.1), (cS cyI b1 u.2.2)] : List va_W).flatten) t.heap ∧ va_D (va_A (([(cH cyO q r 2 f), (cS cyI a v), (cS cyI b0 v0), (cS cyI b1 v1)] : List va_W).flatten) sz) (([(cH cyO q r 2 f), (cS cyI a u.1), (cS cyI b0 u.2.1), (cS cyI b1 u.2.2)] : List va_W).flatten)) (va_A (([(cH cyO q r 2 f), (cS cyI a v), (cS cyI b0 v0), (cS cyI b1 v1)] : List va_W).flatten) sz)) 0 0 (va_A (([(cH cyO q r 2 f), (cS cyI a v), (cS cyI b0 v0), (cS cyI b1 v1)] : List va_W).flatten) sz) := by
  refine Met.ofW (cc := cX2_read) (maxL := 4) (ret := none) (by decide) rfl ?_
  intro p e s m args below meth c s₁ B hml hv
  obtain ⟨rfl, hsz, hP, hK, hD0⟩ := hv
  have hx := B.exec
  have hb := B.bytes
  have hr := B.returns
  have hts0 := atoms_spec (ws := (Cond.code yX2_read cX2_read 4 none :: wT)) B.pre
  have hts := fun w h => hts0 w (List.mem_cons_of_mem _ h)
  clear hts0
  have hown : s.vm.findClass RX2 = some m.cls := findClass_of_methodNamed B.named
  have hlocks := B.notSynchronized
  subst hsz
  have hD := hD0.self (sz := s.heap.size)
  generalize hAe : va_A (([(cH cyO q r 2 f), (cS cyI a v), (cS cyI b0 v0), (cS cyI b1 v1)] : List va_W).flatten) s.heap.size = A at hD ⊢
  have hA : ∀ q : Nat, s.heap.size ≤ q → A q := fun q h => by rw [← hAe]; exact Or.inr h
  clear hD0
  have hS : va_S A s.heap s.heap [] := va_S.rf
  have hl := lv_entry [.ref q, .int p1, .ref (a 0)] (n := 4) (Nat.le_of_ble_eq_true rfl)
  rw [lg_entry_eq]
  generalize (lg_sl [.ref q, .int p1, .ref (a 0)] ++ List.replicate (4 - (lg_sl [.ref q, .int p1, .ref (a 0)]).length) Slot.unset).toArray = ls at hl ⊢
  have hl : lv_has ls 4 [(0, .ref q), (1, .int p1), (2, .ref (a 0))] := hl
  unfold f_X2_read2 at hF
  refine lv_aload_n hx hb dX2_read_0 rfl (lv_at hl 0 rfl) ?_
  refine lv_iload_n hx hb dX2_read_1 rfl (lv_at hl 1 rfl) ?_
  by_cases c1 : p1 = (0 : Int32)
  · have hF := itp c1 hF
    refine wcRVqS (As := [.int p1]) (rest := []) (b := q) ⟨hx, hb, hml, hown, hts⟩ (met_X2_stateAt2 l dC dI cyI cyO q r f p1) (cwV 1 hts (gV w_methodLink_X2_22 w_instanceMethod_X2_stateAt w_selects_X2_stateAt w_initialized_X2 w_code_X2_stateAt) rfl rfl rfl (by decide +kernel) ⟨Nat.le_of_ble_eq_true rfl, Nat.le_of_ble_eq_true rfl⟩) (va_recv hK.1 hP (ci := 2) (q0 := 0) rfl rfl) hP hK [0, 1] rfl rfl hl.1 (Nat.le_of_ble_eq_true rfl) dX2_read_2 ⟨Nat.le_of_ble_eq_true rfl, Nat.le_of_ble_eq_true rfl⟩ hS (x := b0 0) (by rw [c1]; exact (if_neg (by decide)).trans ((if_neg (by decide)).trans hb0)) (fun H locs hP hS => ?_)
    refine lv_astore_n (lv' := [(3, .ref (b0 0)), (0, .ref q), (1, .int p1), (2, .ref (a 0))]) hx hb dX2_read_5 rfl hl (by decide) rfl (fun ls hl => ?_)
    refine lv_aload_n hx hb dX2_read_6 rfl (lv_at hl 0 rfl) ?_
    obtain ⟨j15, hj15, hF⟩ := jn_use hF
    have hJ15 : ∀ (s15 : SV × SV × SV) (H : Heap) (locs : List Loc) (ls : Array Slot), va_P (dC, dI) vwCl (([(cH cyO q r 2 f), (cS cyI a s15.1), (cS cyI b0 s15.2.1), (cS cyI b1 s15.2.2)] : List va_W).flatten) H → va_D A (([(cH cyO q r 2 f), (cS cyI a s15.1), (cS cyI b0 s15.2.1), (cS cyI b1 s15.2.2)] : List va_W).flatten) → va_S A s.heap H locs → lv_has ls 4 [] → j15 s15 = some out → W p l e (headSpec (Cond.code yX2_read cX2_read 4 none :: wT) ({ frames := 3, cells := 0, slots := 0, locals := 64 } : Room)).room s m ([.ref q, .int p1, .ref (a 0)] : List Value).toArray below meth c H locs 0 0 (MQ below (va_Qv (fun (u : SV × SV × SV) => u = out) (fun u t => va_P (dC, dI) vwCl (([(cH cyO q r 2 f), (cS cyI a u.1), (cS cyI b0 u.2.1), (cS cyI b1 u.2.2)] : List va_W).flatten) t.heap ∧ va_D A (([(cH cyO q r 2 f), (cS cyI a u.1), (cS cyI b0 u.2.1), (cS cyI b1 u.2.2)] : List va_W).flatten)) A) ([.ref q, .int p1, .ref (a 0)] : List Value).toArray s 0 0 A) (F0 m 15 ls []) := by
      intro s15 H locs ls hP hD hS hl hF
      have hF := (congrFun hj15 s15).symm.trans hF
      exact W.vret hx hb hr (fun t ht hW => ⟨⟨_, rfl, Option.some.inj hF, by rw [ht]; exact hP, hD⟩, hS.F ht⟩) hS.2.2 dX2_read_15
    refine lv_ifnull hx hb dX2_read_7 ?_
    refine lv_aload_n hx hb dX2_read_10 rfl (lv_at hl 3 rfl) ?_
    refine lv_aload_n hx hb dX2_read_11 rfl (lv_at hl 0 rfl) ?_
    obtain ⟨o2, h3, hF⟩ := obd hF
    refine wcPVv (As := [.ref (b0 0)]) (rest := []) (wr := ([(cH cyO q r 2 f), (cS cyI b1 v1)] : List va_W).flatten) (b := (a 0)) ⟨hx, hb, hml, hown, hts⟩ (met_X3_copyFrom l dC dI cyI cyO a b0 _ N v v0  o2 h3) (cwV 1 hts (gV w_methodLink_X2_26 w_instanceMethod_X3_copyFrom w_selects_X3_copyFrom w_initialized_X3 w_code_X3_copyFrom) rfl rfl rfl (by decide +kernel) ⟨Nat.le_of_ble_eq_true rfl, Nat.le_of_ble_eq_true rfl⟩) (va_recv hK.1 hP (ci := 3) (q0 := 2) rfl rfl) hP hD hK (seg_perm (n := 4) (R := [(cH cyO q r 2 f), (cS cyI b1 v1)]) (C := [(cS cyI a v), (cS cyI b0 v0)]) [0, 3] [1, 2] rfl rfl rfl (by decide) rfl) rfl hl.1 (Nat.le_of_ble_eq_true rfl) dX2_read_12 ⟨Nat.le_of_ble_eq_true rfl, Nat.le_of_ble_eq_true rfl⟩ hS hA (fun u H locs hw hP hD hS => ?_)
    have hw := hw.symm
    subst hw
    have hq := seg_permS (segs := [(cH cyO q r 2 f), (cS cyI a o2.1), (cS cyI b0 o2.2), (cS cyI b1 v1)]) (R := [(cH cyO q r 2 f), (cS cyI b1 v1)]) (C := [(cS cyI a o2.1), (cS cyI b0 o2.2)]) (n := 4) [0, 3] [1, 2] rfl rfl rfl (by decide)
    have hP : va_P (dC, dI) vwCl (([(cH cyO q r 2 f), (cS cyI a o2.1), (cS cyI b0 o2.2), (cS cyI b1 v1)] : List va_W).flatten) H := hP.perm hq
    have hD : va_D A (([(cH cyO q r 2 f), (cS cyI a o2.1), (cS cyI b0 o2.2), (cS cyI b1 v1)] : List va_W).flatten) := hD.perm hq
    clear hq
    exact hJ15 (o2.1, o2.2, v1) _ _ _ hP hD hS (lv_sub hl [] rfl) hF
  · have hF := itn c1 hF
    by_cases c4 : p1 = (1 : Int32)
    · have hF := itp c4 hF
      refine wcRVqS (As := [.int p1]) (rest := []) (b := q) ⟨hx, hb, hml, hown, hts⟩ (met_X2_stateAt2 l dC dI cyI cyO q r f p1) (cwV 1 hts (gV w_methodLink_X2_22 w_instanceMethod_X2_stateAt w_selects_X2_stateAt w_initialized_X2 w_code_X2_stateAt) rfl rfl rfl (by decide +kernel) ⟨Nat.le_of_ble_eq_true rfl, Nat.le_of_ble_eq_true rfl⟩) (va_recv hK.1 hP (ci := 2) (q0 := 0) rfl rfl) hP hK [0, 1] rfl rfl hl.1 (Nat.le_of_ble_eq_true rfl) dX2_read_2 ⟨Nat.le_of_ble_eq_true rfl, Nat.le_of_ble_eq_true rfl⟩ hS (x := b1 0) (by rw [c4]; exact (if_neg (by decide)).trans ((if_neg (by decide)).trans hb1)) (fun H locs hP hS => ?_)
      refine lv_astore_n (lv' := [(3, .ref (b1 0)), (0, .ref q), (1, .int p1), (2, .ref (a 0))]) hx hb dX2_read_5 rfl hl (by decide) rfl (fun ls hl => ?_)
      refine lv_aload_n hx hb dX2_read_6 rfl (lv_at hl 0 rfl) ?_
      obtain ⟨j15, hj15, hF⟩ := jn_use hF
      have hJ15 : ∀ (s15 : SV × SV × SV) (H : Heap) (locs : List Loc) (ls : Array Slot), va_P (dC, dI) vwCl (([(cH cyO q r 2 f), (cS cyI a s15.1), (cS cyI b0 s15.2.1), (cS cyI b1 s15.2.2)] : List va_W).flatten) H → va_D A (([(cH cyO q r 2 f), (cS cyI a s15.1), (cS cyI b0 s15.2.1), (cS cyI b1 s15.2.2)] : List va_W).flatten) → va_S A s.heap H locs → lv_has ls 4 [] → j15 s15 = some out → W p l e (headSpec (Cond.code yX2_read cX2_read 4 none :: wT) ({ frames := 3, cells := 0, slots := 0, locals := 64 } : Room)).room s m ([.ref q, .int p1, .ref (a 0)] : List Value).toArray below meth c H locs 0 0 (MQ below (va_Qv (fun (u : SV × SV × SV) => u = out) (fun u t => va_P (dC, dI) vwCl (([(cH cyO q r 2 f), (cS cyI a u.1), (cS cyI b0 u.2.1), (cS cyI b1 u.2.2)] : List va_W).flatten) t.heap ∧ va_D A (([(cH cyO q r 2 f), (cS cyI a u.1), (cS cyI b0 u.2.1), (cS cyI b1 u.2.2)] : List va_W).flatten)) A) ([.ref q, .int p1, .ref (a 0)] : List Value).toArray s 0 0 A) (F0 m 15 ls []) := by
        intro s15 H locs ls hP hD hS hl hF
        have hF := (congrFun hj15 s15).symm.trans hF
        exact W.vret hx hb hr (fun t ht hW => ⟨⟨_, rfl, Option.some.inj hF, by rw [ht]; exact hP, hD⟩, hS.F ht⟩) hS.2.2 dX2_read_15
      refine lv_ifnull hx hb dX2_read_7 ?_
      refine lv_aload_n hx hb dX2_read_10 rfl (lv_at hl 3 rfl) ?_
      refine lv_aload_n hx hb dX2_read_11 rfl (lv_at hl 0 rfl) ?_
      obtain ⟨o5, h6, hF⟩ := obd hF
      refine wcPVv (As := [.ref (b1 0)]) (rest := []) (wr := ([(cH cyO q r 2 f), (cS cyI b0 v0)] : List va_W).flatten) (b := (a 0)) ⟨hx, hb, hml, hown, hts⟩ (met_X3_copyFrom l dC dI cyI cyO a b1 _ N v v1  o5 h6) (cwV 1 hts (gV w_methodLink_X2_26 w_instanceMethod_X3_copyFrom w_selects_X3_copyFrom w_initialized_X3 w_code_X3_copyFrom) rfl rfl rfl (by decide +kernel) ⟨Nat.le_of_ble_eq_true rfl, Nat.le_of_ble_eq_true rfl⟩) (va_recv hK.1 hP (ci := 3) (q0 := 2) rfl rfl) hP hD hK (seg_perm (n := 4) (R := [(cH cyO q r 2 f), (cS cyI b0 v0)]) (C := [(cS cyI a v), (cS cyI b1 v1)]) [0, 2] [1, 3] rfl rfl rfl (by decide) rfl) rfl hl.1 (Nat.le_of_ble_eq_true rfl) dX2_read_12 ⟨Nat.le_of_ble_eq_true rfl, Nat.le_of_ble_eq_true rfl⟩ hS hA (fun u H locs hw hP hD hS => ?_)
      have hw := hw.symm
      subst hw
      have hq := seg_permS (segs := [(cH cyO q r 2 f), (cS cyI a o5.1), (cS cyI b0 v0), (cS cyI b1 o5.2)]) (R := [(cH cyO q r 2 f), (cS cyI b0 v0)]) (C := [(cS cyI a o5.1), (cS cyI b1 o5.2)]) (n := 4) [0, 2] [1, 3] rfl rfl rfl (by decide)
      have hP : va_P (dC, dI) vwCl (([(cH cyO q r 2 f), (cS cyI a o5.1), (cS cyI b0 v0), (cS cyI b1 o5.2)] : List va_W).flatten) H := hP.perm hq
      have hD : va_D A (([(cH cyO q r 2 f), (cS cyI a o5.1), (cS cyI b0 v0), (cS cyI b1 o5.2)] : List va_W).flatten) := hD.perm hq
      clear hq
      exact hJ15 (o5.1, v0, o5.2) _ _ _ hP hD hS (lv_sub hl [] rfl) hF
    · have hF := itn c4 hF
      refine wcRVqN (As := [.int p1]) (rest := []) (b := q) ⟨hx, hb, hml, hown, hts⟩ (met_X2_stateAt2 l dC dI cyI cyO q r f p1) (cwV 1 hts (gV w_methodLink_X2_22 w_instanceMethod_X2_stateAt w_selects_X2_stateAt w_initialized_X2 w_code_X2_stateAt) rfl rfl rfl (by decide +kernel) ⟨Nat.le_of_ble_eq_true rfl, Nat.le_of_ble_eq_true rfl⟩) (va_recv hK.1 hP (ci := 2) (q0 := 0) rfl rfl) hP hK [0, 1] rfl rfl hl.1 (Nat.le_of_ble_eq_true rfl) dX2_read_2 ⟨Nat.le_of_ble_eq_true rfl, Nat.le_of_ble_eq_true rfl⟩ hS (shI_out2 c1 c4) (fun H locs hP hS => ?_)
      refine lv_astore_nN (lv' := [(3, .null), (0, .ref q), (1, .int p1), (2, .ref (a 0))]) hx hb dX2_read_5 rfl hl (by decide) rfl (fun ls hl => ?_)
      refine lv_aload_nN hx hb dX2_read_6 rfl (lv_at hl 0 rfl) ?_
      obtain ⟨j15, hj15, hF⟩ := jn_use hF
      have hJ15 : ∀ (s15 : SV × SV × SV) (H : Heap) (locs : List Loc) (ls : Array Slot), va_P (dC, dI) vwCl (([(cH cyO q r 2 f), (cS cyI a s15.1), (cS cyI b0 s15.2.1), (cS cyI b1 s15.2.2)] : List va_W).flatten) H → va_D A (([(cH cyO q r 2 f), (cS cyI a s15.1), (cS cyI b0 s15.2.1), (cS cyI b1 s15.2.2)] : List va_W).flatten) → va_S A s.heap H locs → lv_has ls 4 [] → j15 s15 = some out → W p l e (headSpec (Cond.code yX2_read cX2_read 4 none :: wT) ({ frames := 3, cells := 0, slots := 0, locals := 64 } : Room)).room s m ([.ref q, .int p1, .ref (a 0)] : List Value).toArray below meth c H locs 0 0 (MQ below (va_Qv (fun (u : SV × SV × SV) => u = out) (fun u t => va_P (dC, dI) vwCl (([(cH cyO q r 2 f), (cS cyI a u.1), (cS cyI b0 u.2.1), (cS cyI b1 u.2.2)] : List va_W).flatten) t.heap ∧ va_D A (([(cH cyO q r 2 f), (cS cyI a u.1), (cS cyI b0 u.2.1), (cS cyI b1 u.2.2)] : List va_W).flatten)) A) ([.ref q, .int p1, .ref (a 0)] : List Value).toArray s 0 0 A) (F0 m 15 ls []) := by
        intro s15 H locs ls hP hD hS hl hF
        have hF := (congrFun hj15 s15).symm.trans hF
        exact W.vret hx hb hr (fun t ht hW => ⟨⟨_, rfl, Option.some.inj hF, by rw [ht]; exact hP, hD⟩, hS.F ht⟩) hS.2.2 dX2_read_15
      refine lv_ifnullN (tgt := 15) hx hb dX2_read_7 (by decide) ?_
      exact hJ15 (v, v0, v1) _ _ _ hP hD hS (lv_sub hl [] rfl) hF
def f_X2_write6 (N : Nat) (v : SV) (v0 : SV) (v1 : SV) (v2 : SV) (v3 : SV) (v4 : SV) (v5 : SV) (p1 : Int32) : Option (SV × SV × SV × SV × SV × SV × SV) :=
  (if p1 = (0 : Int32) then jn (fun (s15 : SV × SV × SV × SV × SV × SV × SV) => some (s15.1, s15.2.1, s15.2.2.1, s15.2.2.2.1, s15.2.2.2.2.1, s15.2.2.2.2.2.1, s15.2.2.2.2.2.2)) (fun (j15 : (SV × SV × SV × SV × SV × SV × SV) → Option (SV × SV × SV × SV × SV × SV × SV)) => (f_X3_copyFrom N v0 v).bind (fun o2 => j15 (o2.2, o2.1, v1, v2, v3, v4, v5))) else if p1 = (1 : Int32) then jn (fun (s15 : SV × SV × SV × SV × SV × SV × SV) => some (s15.1, s15.2.1, s15.2.2.1, s15.2.2.2.1, s15.2.2.2.2.1, s15.2.2.2.2.2.1, s15.2.2.2.2.2.2)) (fun (j15 : (SV × SV × SV × SV × SV × SV × SV) → Option (SV × SV × SV × SV × SV × SV × SV)) => (f_X3_copyFrom N v1 v).bind (fun o5 => j15 (o5.2, v0, o5.1, v2, v3, v4, v5))) else if p1 = (2 : Int32) then jn (fun (s15 : SV × SV × SV × SV × SV × SV × SV) => some (s15.1, s15.2.1, s15.2.2.1, s15.2.2.2.1, s15.2.2.2.2.1, s15.2.2.2.2.2.1, s15.2.2.2.2.2.2)) (fun (j15 : (SV × SV × SV × SV × SV × SV × SV) → Option (SV × SV × SV × SV × SV × SV × SV)) => (f_X3_copyFrom N v2 v).bind (fun o8 => j15 (o8.2, v0, v1, o8.1, v3, v4, v5))) else if p1 = (3 : Int32) then jn (fun (s15 : SV × SV × SV × SV × SV × SV × SV) => some (s15.1, s15.2.1, s15.2.2.1, s15.2.2.2.1, s15.2.2.2.2.1, s15.2.2.2.2.2.1, s15.2.2.2.2.2.2)) (fun (j15 : (SV × SV × SV × SV × SV × SV × SV) → Option (SV × SV × SV × SV × SV × SV × SV)) => (f_X3_copyFrom N v3 v).bind (fun o11 => j15 (o11.2, v0, v1, v2, o11.1, v4, v5))) else if p1 = (4 : Int32) then jn (fun (s15 : SV × SV × SV × SV × SV × SV × SV) => some (s15.1, s15.2.1, s15.2.2.1, s15.2.2.2.1, s15.2.2.2.2.1, s15.2.2.2.2.2.1, s15.2.2.2.2.2.2)) (fun (j15 : (SV × SV × SV × SV × SV × SV × SV) → Option (SV × SV × SV × SV × SV × SV × SV)) => (f_X3_copyFrom N v4 v).bind (fun o14 => j15 (o14.2, v0, v1, v2, v3, o14.1, v5))) else if p1 = (5 : Int32) then jn (fun (s15 : SV × SV × SV × SV × SV × SV × SV) => some (s15.1, s15.2.1, s15.2.2.1, s15.2.2.2.1, s15.2.2.2.2.1, s15.2.2.2.2.2.1, s15.2.2.2.2.2.2)) (fun (j15 : (SV × SV × SV × SV × SV × SV × SV) → Option (SV × SV × SV × SV × SV × SV × SV)) => (f_X3_copyFrom N v5 v).bind (fun o17 => j15 (o17.2, v0, v1, v2, v3, v4, o17.1))) else jn (fun (s15 : SV × SV × SV × SV × SV × SV × SV) => some (s15.1, s15.2.1, s15.2.2.1, s15.2.2.2.1, s15.2.2.2.2.1, s15.2.2.2.2.2.1, s15.2.2.2.2.2.2)) (fun (j15 : (SV × SV × SV × SV × SV × SV × SV) → Option (SV × SV × SV × SV × SV × SV × SV)) => j15 (v, v0, v1, v2, v3, v4, v5)))
set_option maxHeartbeats 4000000 in
set_option maxRecDepth 100000 in
theorem met_X2_write6 (l : Launch) (dC : Nat → ClassId) (dI : Nat → Nat → Nat) (cyI cyO : ClassId) (q r : Nat) (f : Nat → Option Nat) (a : Nat → Nat) (b0 : Nat → Nat) (b1 : Nat → Nat) (b2 : Nat → Nat) (b3 : Nat → Nat) (b4 : Nat → Nat) (b5 : Nat → Nat) (sz : Nat) (N : Nat) (v : SV) (v0 : SV) (v1 : SV) (v2 : SV) (v3 : SV) (v4 : SV) (v5 : SV) (p1 : Int32) (hb0 : f 0 = some (b0 0)) (hb1 : f 1 = some (b1 0)) (hb2 : f 2 = some (b2 0)) (hb3 : f 3 = some (b3 0)) (hb4 : f 4 = some (b4 0)) (hb5 : f 5 = some (b5 0)) (out : SV × SV × SV × SV × SV × SV × SV) (hF : f_X2_write6 N v v0 v1 v2 v3 v4 v5 p1 = some out) : Met l yX2_write (Cond.code yX2_write cX2_write 4 none :: wT) ({ frames := 3, cells := 0, slots := 0, locals := 64 } : Room) (wWr dC dI cyI cyO [.ref q, .int p1, .ref (a 0)] (([(cH cyO q r 6 f), (cS cyI a v), (cS cyI b0 v0), (cS cyI b1 v1), (cS cyI b2 v2), (cS cyI b3 v3), (cS cyI b4 v4), (cS cyI b5 v5)] : List va_W).flatten) sz) (va_Qv (fun (u : SV × SV × SV × SV × SV × SV × SV) => u = out) (fun u t => va_P (dC, dI) vwCl (([(cH cyO q r 6 f), (cS cyI a u.1), (cS cyI b0 u.2.1), (cS cyI b1 u.2.2.1), (cS cyI b2 u.2.2.2.1), (cS cyI b3 u.2.2.2.2.1), (cS cyI b4 u.2.2.2.2.2.1), (cS cyI b5 u.2.2.2.2.2.2)] : List va_W).flatten) t.heap ∧ va_D (va_A (([(cH cyO q r 6 f), (cS cyI a v), (cS cyI b0 v0), (cS cyI b1 v1), (cS cyI b2 v2), (cS cyI b3 v3), (cS cyI b4 v4), (cS cyI b5 v5)] : List va_W).flatten) sz) (([(cH cyO q r 6 f), (cS cyI a u.1), (cS cyI b0 u.2.1), (cS cyI b1 u.2.2.1), (cS cyI b2 u.2.2.2.1), (cS cyI b3 u.2.2.2.2.1), (cS cyI b4 u.2.2.2.2.2.1), (cS cyI b5 u.2.2.2.2.2.2)] : List va_W).flatten)) (va_A (([(cH cyO q r 6 f), (cS cyI a v), (cS cyI b0 v0), (cS cyI b1 v1), (cS cyI b2 v2), (cS cyI b3 v3), (cS cyI b4 v4), (cS cyI b5 v5)] : List va_W).flatten) sz)) 0 0 (va_A (([(cH cyO q r 6 f), (cS cyI a v), (cS cyI b0 v0), (cS cyI b1 v1), (cS cyI b2 v2), (cS cyI b3 v3), (cS cyI b4 v4), (cS cyI b5 v5)] : List va_W).flatten) sz) := by
  refine Met.ofW (cc := cX2_write) (maxL := 4) (ret := none) (by decide) rfl ?_
  intro p e s m args below meth c s₁ B hml hv
  obtain ⟨rfl, hsz, hP, hK, hD0⟩ := hv
  have hx := B.exec
  have hb := B.bytes
  have hr := B.returns
  have hts0 := atoms_spec (ws := (Cond.code yX2_write cX2_write 4 none :: wT)) B.pre
  have hts := fun w h => hts0 w (List.mem_cons_of_mem _ h)
  clear hts0
  have hown : s.vm.findClass RX2 = some m.cls := findClass_of_methodNamed B.named
  have hlocks := B.notSynchronized
  subst hsz
  have hD := hD0.self (sz := s.heap.size)
  generalize hAe : va_A (([(cH cyO q r 6 f), (cS cyI a v), (cS cyI b0 v0), (cS cyI b1 v1), (cS cyI b2 v2), (cS cyI b3 v3), (cS cyI b4 v4), (cS cyI b5 v5)] : List va_W).flatten) s.heap.size = A at hD ⊢
  have hA : ∀ q : Nat, s.heap.size ≤ q → A q := fun q h => by rw [← hAe]; exact Or.inr h
  clear hD0
  have hS : va_S A s.heap s.heap [] := va_S.rf
  have hl := lv_entry [.ref q, .int p1, .ref (a 0)] (n := 4) (Nat.le_of_ble_eq_true rfl)
  rw [lg_entry_eq]
  generalize (lg_sl [.ref q, .int p1, .ref (a 0)] ++ List.replicate (4 - (lg_sl [.ref q, .int p1, .ref (a 0)]).length) Slot.unset).toArray = ls at hl ⊢
  have hl : lv_has ls 4 [(0, .ref q), (1, .int p1), (2, .ref (a 0))] := hl
  unfold f_X2_write6 at hF
  refine lv_aload_n hx hb dX2_write_0 rfl (lv_at hl 0 rfl) ?_
  refine lv_iload_n hx hb dX2_write_1 rfl (lv_at hl 1 rfl) ?_
  by_cases c1 : p1 = (0 : Int32)
  · have hF := itp c1 hF
    refine wcRVqS (As := [.int p1]) (rest := []) (b := q) ⟨hx, hb, hml, hown, hts⟩ (met_X2_stateAt6 l dC dI cyI cyO q r f p1) (cwV 1 hts (gV w_methodLink_X2_22 w_instanceMethod_X2_stateAt w_selects_X2_stateAt w_initialized_X2 w_code_X2_stateAt) rfl rfl rfl (by decide +kernel) ⟨Nat.le_of_ble_eq_true rfl, Nat.le_of_ble_eq_true rfl⟩) (va_recv hK.1 hP (ci := 2) (q0 := 0) rfl rfl) hP hK [0, 1] rfl rfl hl.1 (Nat.le_of_ble_eq_true rfl) dX2_write_2 ⟨Nat.le_of_ble_eq_true rfl, Nat.le_of_ble_eq_true rfl⟩ hS (x := b0 0) (by rw [c1]; exact (if_neg (by decide)).trans ((if_neg (by decide)).trans hb0)) (fun H locs hP hS => ?_)
    refine lv_astore_n (lv' := [(3, .ref (b0 0)), (0, .ref q), (1, .int p1), (2, .ref (a 0))]) hx hb dX2_write_5 rfl hl (by decide) rfl (fun ls hl => ?_)
    refine lv_aload_n hx hb dX2_write_6 rfl (lv_at hl 0 rfl) ?_
    obtain ⟨j15, hj15, hF⟩ := jn_use hF
    have hJ15 : ∀ (s15 : SV × SV × SV × SV × SV × SV × SV) (H : Heap) (locs : List Loc) (ls : Array Slot), va_P (dC, dI) vwCl (([(cH cyO q r 6 f), (cS cyI a s15.1), (cS cyI b0 s15.2.1), (cS cyI b1 s15.2.2.1), (cS cyI b2 s15.2.2.2.1), (cS cyI b3 s15.2.2.2.2.1), (cS cyI b4 s15.2.2.2.2.2.1), (cS cyI b5 s15.2.2.2.2.2.2)] : List va_W).flatten) H → va_D A (([(cH cyO q r 6 f), (cS cyI a s15.1), (cS cyI b0 s15.2.1), (cS cyI b1 s15.2.2.1), (cS cyI b2 s15.2.2.2.1), (cS cyI b3 s15.2.2.2.2.1), (cS cyI b4 s15.2.2.2.2.2.1), (cS cyI b5 s15.2.2.2.2.2.2)] : List va_W).flatten) → va_S A s.heap H locs → lv_has ls 4 [] → j15 s15 = some out → W p l e (headSpec (Cond.code yX2_write cX2_write 4 none :: wT) ({ frames := 3, cells := 0, slots := 0, locals := 64 } : Room)).room s m ([.ref q, .int p1, .ref (a 0)] : List Value).toArray below meth c H locs 0 0 (MQ below (va_Qv (fun (u : SV × SV × SV × SV × SV × SV × SV) => u = out) (fun u t => va_P (dC, dI) vwCl (([(cH cyO q r 6 f), (cS cyI a u.1), (cS cyI b0 u.2.1), (cS cyI b1 u.2.2.1), (cS cyI b2 u.2.2.2.1), (cS cyI b3 u.2.2.2.2.1), (cS cyI b4 u.2.2.2.2.2.1), (cS cyI b5 u.2.2.2.2.2.2)] : List va_W).flatten) t.heap ∧ va_D A (([(cH cyO q r 6 f), (cS cyI a u.1), (cS cyI b0 u.2.1), (cS cyI b1 u.2.2.1), (cS cyI b2 u.2.2.2.1), (cS cyI b3 u.2.2.2.2.1), (cS cyI b4 u.2.2.2.2.2.1), (cS cyI b5 u.2.2.2.2.2.2)] : List va_W).flatten)) A) ([.ref q, .int p1, .ref (a 0)] : List Value).toArray s 0 0 A) (F0 m 15 ls []) := by
      intro s15 H locs ls hP hD hS hl hF
      have hF := (congrFun hj15 s15).symm.trans hF
      exact W.vret hx hb hr (fun t ht hW => ⟨⟨_, rfl, Option.some.inj hF, by rw [ht]; exact hP, hD⟩, hS.F ht⟩) hS.2.2 dX2_write_15
    refine lv_ifnull hx hb dX2_write_7 ?_
    refine lv_aload_n hx hb dX2_write_10 rfl (lv_at hl 0 rfl) ?_
    refine lv_aload_n hx hb dX2_write_11 rfl (lv_at hl 3 rfl) ?_
    obtain ⟨o2, h3, hF⟩ := obd hF
    refine wcPVv (As := [.ref (a 0)]) (rest := []) (wr := ([(cH cyO q r 6 f), (cS cyI b1 v1), (cS cyI b2 v2), (cS cyI b3 v3), (cS cyI b4 v4), (cS cyI b5 v5)] : List va_W).flatten) (b := (b0 0)) ⟨hx, hb, hml, hown, hts⟩ (met_X3_copyFrom l dC dI cyI cyO b0 a _ N v0 v  o2 h3) (cwV 1 hts (gV w_methodLink_X2_26 w_instanceMethod_X3_copyFrom w_selects_X3_copyFrom w_initialized_X3 w_code_X3_copyFrom) rfl rfl rfl (by decide +kernel) ⟨Nat.le_of_ble_eq_true rfl, Nat.le_of_ble_eq_true rfl⟩) (va_recv hK.1 hP (ci := 3) (q0 := 15) rfl rfl) hP hD hK (seg_perm (n := 8) (R := [(cH cyO q r 6 f), (cS cyI b1 v1), (cS cyI b2 v2), (cS cyI b3 v3), (cS cyI b4 v4), (cS cyI b5 v5)]) (C := [(cS cyI b0 v0), (cS cyI a v)]) [0, 3, 4, 5, 6, 7] [2, 1] rfl rfl rfl (by decide) rfl) rfl hl.1 (Nat.le_of_ble_eq_true rfl) dX2_write_12 ⟨Nat.le_of_ble_eq_true rfl, Nat.le_of_ble_eq_true rfl⟩ hS hA (fun u H locs hw hP hD hS => ?_)
    have hw := hw.symm
    subst hw
    have hq := seg_permS (segs := [(cH cyO q r 6 f), (cS cyI a o2.2), (cS cyI b0 o2.1), (cS cyI b1 v1), (cS cyI b2 v2), (cS cyI b3 v3), (cS cyI b4 v4), (cS cyI b5 v5)]) (R := [(cH cyO q r 6 f), (cS cyI b1 v1), (cS cyI b2 v2), (cS cyI b3 v3), (cS cyI b4 v4), (cS cyI b5 v5)]) (C := [(cS cyI b0 o2.1), (cS cyI a o2.2)]) (n := 8) [0, 3, 4, 5, 6, 7] [2, 1] rfl rfl rfl (by decide)
    have hP : va_P (dC, dI) vwCl (([(cH cyO q r 6 f), (cS cyI a o2.2), (cS cyI b0 o2.1), (cS cyI b1 v1), (cS cyI b2 v2), (cS cyI b3 v3), (cS cyI b4 v4), (cS cyI b5 v5)] : List va_W).flatten) H := hP.perm hq
    have hD : va_D A (([(cH cyO q r 6 f), (cS cyI a o2.2), (cS cyI b0 o2.1), (cS cyI b1 v1), (cS cyI b2 v2), (cS cyI b3 v3), (cS cyI b4 v4), (cS cyI b5 v5)] : List va_W).flatten) := hD.perm hq
    clear hq
    exact hJ15 (o2.2, o2.1, v1, v2, v3, v4, v5) _ _ _ hP hD hS (lv_sub hl [] rfl) hF
  · have hF := itn c1 hF
    by_cases c4 : p1 = (1 : Int32)
    · have hF := itp c4 hF
      refine wcRVqS (As := [.int p1]) (rest := []) (b := q) ⟨hx, hb, hml, hown, hts⟩ (met_X2_stateAt6 l dC dI cyI cyO q r f p1) (cwV 1 hts (gV w_methodLink_X2_22 w_instanceMethod_X2_stateAt w_selects_X2_stateAt w_initialized_X2 w_code_X2_stateAt) rfl rfl rfl (by decide +kernel) ⟨Nat.le_of_ble_eq_true rfl, Nat.le_of_ble_eq_true rfl⟩) (va_recv hK.1 hP (ci := 2) (q0 := 0) rfl rfl) hP hK [0, 1] rfl rfl hl.1 (Nat.le_of_ble_eq_true rfl) dX2_write_2 ⟨Nat.le_of_ble_eq_true rfl, Nat.le_of_ble_eq_true rfl⟩ hS (x := b1 0) (by rw [c4]; exact (if_neg (by decide)).trans ((if_neg (by decide)).trans hb1)) (fun H locs hP hS => ?_)
      refine lv_astore_n (lv' := [(3, .ref (b1 0)), (0, .ref q), (1, .int p1), (2, .ref (a 0))]) hx hb dX2_write_5 rfl hl (by decide) rfl (fun ls hl => ?_)
      refine lv_aload_n hx hb dX2_write_6 rfl (lv_at hl 0 rfl) ?_
      obtain ⟨j15, hj15, hF⟩ := jn_use hF
      have hJ15 : ∀ (s15 : SV × SV × SV × SV × SV × SV × SV) (H : Heap) (locs : List Loc) (ls : Array Slot), va_P (dC, dI) vwCl (([(cH cyO q r 6 f), (cS cyI a s15.1), (cS cyI b0 s15.2.1), (cS cyI b1 s15.2.2.1), (cS cyI b2 s15.2.2.2.1), (cS cyI b3 s15.2.2.2.2.1), (cS cyI b4 s15.2.2.2.2.2.1), (cS cyI b5 s15.2.2.2.2.2.2)] : List va_W).flatten) H → va_D A (([(cH cyO q r 6 f), (cS cyI a s15.1), (cS cyI b0 s15.2.1), (cS cyI b1 s15.2.2.1), (cS cyI b2 s15.2.2.2.1), (cS cyI b3 s15.2.2.2.2.1), (cS cyI b4 s15.2.2.2.2.2.1), (cS cyI b5 s15.2.2.2.2.2.2)] : List va_W).flatten) → va_S A s.heap H locs → lv_has ls 4 [] → j15 s15 = some out → W p l e (headSpec (Cond.code yX2_write cX2_write 4 none :: wT) ({ frames := 3, cells := 0, slots := 0, locals := 64 } : Room)).room s m ([.ref q, .int p1, .ref (a 0)] : List Value).toArray below meth c H locs 0 0 (MQ below (va_Qv (fun (u : SV × SV × SV × SV × SV × SV × SV) => u = out) (fun u t => va_P (dC, dI) vwCl (([(cH cyO q r 6 f), (cS cyI a u.1), (cS cyI b0 u.2.1), (cS cyI b1 u.2.2.1), (cS cyI b2 u.2.2.2.1), (cS cyI b3 u.2.2.2.2.1), (cS cyI b4 u.2.2.2.2.2.1), (cS cyI b5 u.2.2.2.2.2.2)] : List va_W).flatten) t.heap ∧ va_D A (([(cH cyO q r 6 f), (cS cyI a u.1), (cS cyI b0 u.2.1), (cS cyI b1 u.2.2.1), (cS cyI b2 u.2.2.2.1), (cS cyI b3 u.2.2.2.2.1), (cS cyI b4 u.2.2.2.2.2.1), (cS cyI b5 u.2.2.2.2.2.2)] : List va_W).flatten)) A) ([.ref q, .int p1, .ref (a 0)] : List Value).toArray s 0 0 A) (F0 m 15 ls []) := by
        intro s15 H locs ls hP hD hS hl hF
        have hF := (congrFun hj15 s15).symm.trans hF
        exact W.vret hx hb hr (fun t ht hW => ⟨⟨_, rfl, Option.some.inj hF, by rw [ht]; exact hP, hD⟩, hS.F ht⟩) hS.2.2 dX2_write_15
      refine lv_ifnull hx hb dX2_write_7 ?_
      refine lv_aload_n hx hb dX2_write_10 rfl (lv_at hl 0 rfl) ?_
      refine lv_aload_n hx hb dX2_write_11 rfl (lv_at hl 3 rfl) ?_
      obtain ⟨o5, h6, hF⟩ := obd hF
      refine wcPVv (As := [.ref (a 0)]) (rest := []) (wr := ([(cH cyO q r 6 f), (cS cyI b0 v0), (cS cyI b2 v2), (cS cyI b3 v3), (cS cyI b4 v4), (cS cyI b5 v5)] : List va_W).flatten) (b := (b1 0)) ⟨hx, hb, hml, hown, hts⟩ (met_X3_copyFrom l dC dI cyI cyO b1 a _ N v1 v  o5 h6) (cwV 1 hts (gV w_methodLink_X2_26 w_instanceMethod_X3_copyFrom w_selects_X3_copyFrom w_initialized_X3 w_code_X3_copyFrom) rfl rfl rfl (by decide +kernel) ⟨Nat.le_of_ble_eq_true rfl, Nat.le_of_ble_eq_true rfl⟩) (va_recv hK.1 hP (ci := 3) (q0 := 28) rfl rfl) hP hD hK (seg_perm (n := 8) (R := [(cH cyO q r 6 f), (cS cyI b0 v0), (cS cyI b2 v2), (cS cyI b3 v3), (cS cyI b4 v4), (cS cyI b5 v5)]) (C := [(cS cyI b1 v1), (cS cyI a v)]) [0, 2, 4, 5, 6, 7] [3, 1] rfl rfl rfl (by decide) rfl) rfl hl.1 (Nat.le_of_ble_eq_true rfl) dX2_write_12 ⟨Nat.le_of_ble_eq_true rfl, Nat.le_of_ble_eq_true rfl⟩ hS hA (fun u H locs hw hP hD hS => ?_)
      have hw := hw.symm
      subst hw
      have hq := seg_permS (segs := [(cH cyO q r 6 f), (cS cyI a o5.2), (cS cyI b0 v0), (cS cyI b1 o5.1), (cS cyI b2 v2), (cS cyI b3 v3), (cS cyI b4 v4), (cS cyI b5 v5)]) (R := [(cH cyO q r 6 f), (cS cyI b0 v0), (cS cyI b2 v2), (cS cyI b3 v3), (cS cyI b4 v4), (cS cyI b5 v5)]) (C := [(cS cyI b1 o5.1), (cS cyI a o5.2)]) (n := 8) [0, 2, 4, 5, 6, 7] [3, 1] rfl rfl rfl (by decide)
      have hP : va_P (dC, dI) vwCl (([(cH cyO q r 6 f), (cS cyI a o5.2), (cS cyI b0 v0), (cS cyI b1 o5.1), (cS cyI b2 v2), (cS cyI b3 v3), (cS cyI b4 v4), (cS cyI b5 v5)] : List va_W).flatten) H := hP.perm hq
      have hD : va_D A (([(cH cyO q r 6 f), (cS cyI a o5.2), (cS cyI b0 v0), (cS cyI b1 o5.1), (cS cyI b2 v2), (cS cyI b3 v3), (cS cyI b4 v4), (cS cyI b5 v5)] : List va_W).flatten) := hD.perm hq
      clear hq
      exact hJ15 (o5.2, v0, o5.1, v2, v3, v4, v5) _ _ _ hP hD hS (lv_sub hl [] rfl) hF
    · have hF := itn c4 hF
      by_cases c7 : p1 = (2 : Int32)
      · have hF := itp c7 hF
        refine wcRVqS (As := [.int p1]) (rest := []) (b := q) ⟨hx, hb, hml, hown, hts⟩ (met_X2_stateAt6 l dC dI cyI cyO q r f p1) (cwV 1 hts (gV w_methodLink_X2_22 w_instanceMethod_X2_stateAt w_selects_X2_stateAt w_initialized_X2 w_code_X2_stateAt) rfl rfl rfl (by decide +kernel) ⟨Nat.le_of_ble_eq_true rfl, Nat.le_of_ble_eq_true rfl⟩) (va_recv hK.1 hP (ci := 2) (q0 := 0) rfl rfl) hP hK [0, 1] rfl rfl hl.1 (Nat.le_of_ble_eq_true rfl) dX2_write_2 ⟨Nat.le_of_ble_eq_true rfl, Nat.le_of_ble_eq_true rfl⟩ hS (x := b2 0) (by rw [c7]; exact (if_neg (by decide)).trans ((if_neg (by decide)).trans hb2)) (fun H locs hP hS => ?_)
        refine lv_astore_n (lv' := [(3, .ref (b2 0)), (0, .ref q), (1, .int p1), (2, .ref (a 0))]) hx hb dX2_write_5 rfl hl (by decide) rfl (fun ls hl => ?_)
        refine lv_aload_n hx hb dX2_write_6 rfl (lv_at hl 0 rfl) ?_
        obtain ⟨j15, hj15, hF⟩ := jn_use hF
        have hJ15 : ∀ (s15 : SV × SV × SV × SV × SV × SV × SV) (H : Heap) (locs : List Loc) (ls : Array Slot), va_P (dC, dI) vwCl (([(cH cyO q r 6 f), (cS cyI a s15.1), (cS cyI b0 s15.2.1), (cS cyI b1 s15.2.2.1), (cS cyI b2 s15.2.2.2.1), (cS cyI b3 s15.2.2.2.2.1), (cS cyI b4 s15.2.2.2.2.2.1), (cS cyI b5 s15.2.2.2.2.2.2)] : List va_W).flatten) H → va_D A (([(cH cyO q r 6 f), (cS cyI a s15.1), (cS cyI b0 s15.2.1), (cS cyI b1 s15.2.2.1), (cS cyI b2 s15.2.2.2.1), (cS cyI b3 s15.2.2.2.2.1), (cS cyI b4 s15.2.2.2.2.2.1), (cS cyI b5 s15.2.2.2.2.2.2)] : List va_W).flatten) → va_S A s.heap H locs → lv_has ls 4 [] → j15 s15 = some out → W p l e (headSpec (Cond.code yX2_write cX2_write 4 none :: wT) ({ frames := 3, cells := 0, slots := 0, locals := 64 } : Room)).room s m ([.ref q, .int p1, .ref (a 0)] : List Value).toArray below meth c H locs 0 0 (MQ below (va_Qv (fun (u : SV × SV × SV × SV × SV × SV × SV) => u = out) (fun u t => va_P (dC, dI) vwCl (([(cH cyO q r 6 f), (cS cyI a u.1), (cS cyI b0 u.2.1), (cS cyI b1 u.2.2.1), (cS cyI b2 u.2.2.2.1), (cS cyI b3 u.2.2.2.2.1), (cS cyI b4 u.2.2.2.2.2.1), (cS cyI b5 u.2.2.2.2.2.2)] : List va_W).flatten) t.heap ∧ va_D A (([(cH cyO q r 6 f), (cS cyI a u.1), (cS cyI b0 u.2.1), (cS cyI b1 u.2.2.1), (cS cyI b2 u.2.2.2.1), (cS cyI b3 u.2.2.2.2.1), (cS cyI b4 u.2.2.2.2.2.1), (cS cyI b5 u.2.2.2.2.2.2)] : List va_W).flatten)) A) ([.ref q, .int p1, .ref (a 0)] : List Value).toArray s 0 0 A) (F0 m 15 ls []) := by
          intro s15 H locs ls hP hD hS hl hF
          have hF := (congrFun hj15 s15).symm.trans hF
          exact W.vret hx hb hr (fun t ht hW => ⟨⟨_, rfl, Option.some.inj hF, by rw [ht]; exact hP, hD⟩, hS.F ht⟩) hS.2.2 dX2_write_15
        refine lv_ifnull hx hb dX2_write_7 ?_
        refine lv_aload_n hx hb dX2_write_10 rfl (lv_at hl 0 rfl) ?_
        refine lv_aload_n hx hb dX2_write_11 rfl (lv_at hl 3 rfl) ?_
        obtain ⟨o8, h9, hF⟩ := obd hF
        refine wcPVv (As := [.ref (a 0)]) (rest := []) (wr := ([(cH cyO q r 6 f), (cS cyI b0 v0), (cS cyI b1 v1), (cS cyI b3 v3), (cS cyI b4 v4), (cS cyI b5 v5)] : List va_W).flatten) (b := (b2 0)) ⟨hx, hb, hml, hown, hts⟩ (met_X3_copyFrom l dC dI cyI cyO b2 a _ N v2 v  o8 h9) (cwV 1 hts (gV w_methodLink_X2_26 w_instanceMethod_X3_copyFrom w_selects_X3_copyFrom w_initialized_X3 w_code_X3_copyFrom) rfl rfl rfl (by decide +kernel) ⟨Nat.le_of_ble_eq_true rfl, Nat.le_of_ble_eq_true rfl⟩) (va_recv hK.1 hP (ci := 3) (q0 := 41) rfl rfl) hP hD hK (seg_perm (n := 8) (R := [(cH cyO q r 6 f), (cS cyI b0 v0), (cS cyI b1 v1), (cS cyI b3 v3), (cS cyI b4 v4), (cS cyI b5 v5)]) (C := [(cS cyI b2 v2), (cS cyI a v)]) [0, 2, 3, 5, 6, 7] [4, 1] rfl rfl rfl (by decide) rfl) rfl hl.1 (Nat.le_of_ble_eq_true rfl) dX2_write_12 ⟨Nat.le_of_ble_eq_true rfl, Nat.le_of_ble_eq_true rfl⟩ hS hA (fun u H locs hw hP hD hS => ?_)
        have hw := hw.symm
        subst hw
        have hq := seg_permS (segs := [(cH cyO q r 6 f), (cS cyI a o8.2), (cS cyI b0 v0), (cS cyI b1 v1), (cS cyI b2 o8.1), (cS cyI b3 v3), (cS cyI b4 v4), (cS cyI b5 v5)]) (R := [(cH cyO q r 6 f), (cS cyI b0 v0), (cS cyI b1 v1), (cS cyI b3 v3), (cS cyI b4 v4), (cS cyI b5 v5)]) (C := [(cS cyI b2 o8.1), (cS cyI a o8.2)]) (n := 8) [0, 2, 3, 5, 6, 7] [4, 1] rfl rfl rfl (by decide)
        have hP : va_P (dC, dI) vwCl (([(cH cyO q r 6 f), (cS cyI a o8.2), (cS cyI b0 v0), (cS cyI b1 v1), (cS cyI b2 o8.1), (cS cyI b3 v3), (cS cyI b4 v4), (cS cyI b5 v5)] : List va_W).flatten) H := hP.perm hq
        have hD : va_D A (([(cH cyO q r 6 f), (cS cyI a o8.2), (cS cyI b0 v0), (cS cyI b1 v1), (cS cyI b2 o8.1), (cS cyI b3 v3), (cS cyI b4 v4), (cS cyI b5 v5)] : List va_W).flatten) := hD.perm hq
        clear hq
        exact hJ15 (o8.2, v0, v1, o8.1, v3, v4, v5) _ _ _ hP hD hS (lv_sub hl [] rfl) hF
      · have hF := itn c7 hF
        by_cases c10 : p1 = (3 : Int32)
        · have hF := itp c10 hF
          refine wcRVqS (As := [.int p1]) (rest := []) (b := q) ⟨hx, hb, hml, hown, hts⟩ (met_X2_stateAt6 l dC dI cyI cyO q r f p1) (cwV 1 hts (gV w_methodLink_X2_22 w_instanceMethod_X2_stateAt w_selects_X2_stateAt w_initialized_X2 w_code_X2_stateAt) rfl rfl rfl (by decide +kernel) ⟨Nat.le_of_ble_eq_true rfl, Nat.le_of_ble_eq_true rfl⟩) (va_recv hK.1 hP (ci := 2) (q0 := 0) rfl rfl) hP hK [0, 1] rfl rfl hl.1 (Nat.le_of_ble_eq_true rfl) dX2_write_2 ⟨Nat.le_of_ble_eq_true rfl, Nat.le_of_ble_eq_true rfl⟩ hS (x := b3 0) (by rw [c10]; exact (if_neg (by decide)).trans ((if_neg (by decide)).trans hb3)) (fun H locs hP hS => ?_)
          refine lv_astore_n (lv' := [(3, .ref (b3 0)), (0, .ref q), (1, .int p1), (2, .ref (a 0))]) hx hb dX2_write_5 rfl hl (by decide) rfl (fun ls hl => ?_)
          refine lv_aload_n hx hb dX2_write_6 rfl (lv_at hl 0 rfl) ?_
          obtain ⟨j15, hj15, hF⟩ := jn_use hF
          have hJ15 : ∀ (s15 : SV × SV × SV × SV × SV × SV × SV) (H : Heap) (locs : List Loc) (ls : Array Slot), va_P (dC, dI) vwCl (([(cH cyO q r 6 f), (cS cyI a s15.1), (cS cyI b0 s15.2.1), (cS cyI b1 s15.2.2.1), (cS cyI b2 s15.2.2.2.1), (cS cyI b3 s15.2.2.2.2.1), (cS cyI b4 s15.2.2.2.2.2.1), (cS cyI b5 s15.2.2.2.2.2.2)] : List va_W).flatten) H → va_D A (([(cH cyO q r 6 f), (cS cyI a s15.1), (cS cyI b0 s15.2.1), (cS cyI b1 s15.2.2.1), (cS cyI b2 s15.2.2.2.1), (cS cyI b3 s15.2.2.2.2.1), (cS cyI b4 s15.2.2.2.2.2.1), (cS cyI b5 s15.2.2.2.2.2.2)] : List va_W).flatten) → va_S A s.heap H locs → lv_has ls 4 [] → j15 s15 = some out → W p l e (headSpec (Cond.code yX2_write cX2_write 4 none :: wT) ({ frames := 3, cells := 0, slots := 0, locals := 64 } : Room)).room s m ([.ref q, .int p1, .ref (a 0)] : List Value).toArray below meth c H locs 0 0 (MQ below (va_Qv (fun (u : SV × SV × SV × SV × SV × SV × SV) => u = out) (fun u t => va_P (dC, dI) vwCl (([(cH cyO q r 6 f), (cS cyI a u.1), (cS cyI b0 u.2.1), (cS cyI b1 u.2.2.1), (cS cyI b2 u.2.2.2.1), (cS cyI b3 u.2.2.2.2.1), (cS cyI b4 u.2.2.2.2.2.1), (cS cyI b5 u.2.2.2.2.2.2)] : List va_W).flatten) t.heap ∧ va_D A (([(cH cyO q r 6 f), (cS cyI a u.1), (cS cyI b0 u.2.1), (cS cyI b1 u.2.2.1), (cS cyI b2 u.2.2.2.1), (cS cyI b3 u.2.2.2.2.1), (cS cyI b4 u.2.2.2.2.2.1), (cS cyI b5 u.2.2.2.2.2.2)] : List va_W).flatten)) A) ([.ref q, .int p1, .ref (a 0)] : List Value).toArray s 0 0 A) (F0 m 15 ls []) := by
            intro s15 H locs ls hP hD hS hl hF
            have hF := (congrFun hj15 s15).symm.trans hF
            exact W.vret hx hb hr (fun t ht hW => ⟨⟨_, rfl, Option.some.inj hF, by rw [ht]; exact hP, hD⟩, hS.F ht⟩) hS.2.2 dX2_write_15
          refine lv_ifnull hx hb dX2_write_7 ?_
          refine lv_aload_n hx hb dX2_write_10 rfl (lv_at hl 0 rfl) ?_
          refine lv_aload_n hx hb dX2_write_11 rfl (lv_at hl 3 rfl) ?_
          obtain ⟨o11, h12, hF⟩ := obd hF
          refine wcPVv (As := [.ref (a 0)]) (rest := []) (wr := ([(cH cyO q r 6 f), (cS cyI b0 v0), (cS cyI b1 v1), (cS cyI b2 v2), (cS cyI b4 v4), (cS cyI b5 v5)] : List va_W).flatten) (b := (b3 0)) ⟨hx, hb, hml, hown, hts⟩ (met_X3_copyFrom l dC dI cyI cyO b3 a _ N v3 v  o11 h12) (cwV 1 hts (gV w_methodLink_X2_26 w_instanceMethod_X3_copyFrom w_selects_X3_copyFrom w_initialized_X3 w_code_X3_copyFrom) rfl rfl rfl (by decide +kernel) ⟨Nat.le_of_ble_eq_true rfl, Nat.le_of_ble_eq_true rfl⟩) (va_recv hK.1 hP (ci := 3) (q0 := 54) rfl rfl) hP hD hK (seg_perm (n := 8) (R := [(cH cyO q r 6 f), (cS cyI b0 v0), (cS cyI b1 v1), (cS cyI b2 v2), (cS cyI b4 v4), (cS cyI b5 v5)]) (C := [(cS cyI b3 v3), (cS cyI a v)]) [0, 2, 3, 4, 6, 7] [5, 1] rfl rfl rfl (by decide) rfl) rfl hl.1 (Nat.le_of_ble_eq_true rfl) dX2_write_12 ⟨Nat.le_of_ble_eq_true rfl, Nat.le_of_ble_eq_true rfl⟩ hS hA (fun u H locs hw hP hD hS => ?_)
          have hw := hw.symm
          subst hw
          have hq := seg_permS (segs := [(cH cyO q r 6 f), (cS cyI a o11.2), (cS cyI b0 v0), (cS cyI b1 v1), (cS cyI b2 v2), (cS cyI b3 o11.1), (cS cyI b4 v4), (cS cyI b5 v5)]) (R := [(cH cyO q r 6 f), (cS cyI b0 v0), (cS cyI b1 v1), (cS cyI b2 v2), (cS cyI b4 v4), (cS cyI b5 v5)]) (C := [(cS cyI b3 o11.1), (cS cyI a o11.2)]) (n := 8) [0, 2, 3, 4, 6, 7] [5, 1] rfl rfl rfl (by decide)
          have hP : va_P (dC, dI) vwCl (([(cH cyO q r 6 f), (cS cyI a o11.2), (cS cyI b0 v0), (cS cyI b1 v1), (cS cyI b2 v2), (cS cyI b3 o11.1), (cS cyI b4 v4), (cS cyI b5 v5)] : List va_W).flatten) H := hP.perm hq
          have hD : va_D A (([(cH cyO q r 6 f), (cS cyI a o11.2), (cS cyI b0 v0), (cS cyI b1 v1), (cS cyI b2 v2), (cS cyI b3 o11.1), (cS cyI b4 v4), (cS cyI b5 v5)] : List va_W).flatten) := hD.perm hq
          clear hq
          exact hJ15 (o11.2, v0, v1, v2, o11.1, v4, v5) _ _ _ hP hD hS (lv_sub hl [] rfl) hF
        · have hF := itn c10 hF
          by_cases c13 : p1 = (4 : Int32)
          · have hF := itp c13 hF
            refine wcRVqS (As := [.int p1]) (rest := []) (b := q) ⟨hx, hb, hml, hown, hts⟩ (met_X2_stateAt6 l dC dI cyI cyO q r f p1) (cwV 1 hts (gV w_methodLink_X2_22 w_instanceMethod_X2_stateAt w_selects_X2_stateAt w_initialized_X2 w_code_X2_stateAt) rfl rfl rfl (by decide +kernel) ⟨Nat.le_of_ble_eq_true rfl, Nat.le_of_ble_eq_true rfl⟩) (va_recv hK.1 hP (ci := 2) (q0 := 0) rfl rfl) hP hK [0, 1] rfl rfl hl.1 (Nat.le_of_ble_eq_true rfl) dX2_write_2 ⟨Nat.le_of_ble_eq_true rfl, Nat.le_of_ble_eq_true rfl⟩ hS (x := b4 0) (by rw [c13]; exact (if_neg (by decide)).trans ((if_neg (by decide)).trans hb4)) (fun H locs hP hS => ?_)
            refine lv_astore_n (lv' := [(3, .ref (b4 0)), (0, .ref q), (1, .int p1), (2, .ref (a 0))]) hx hb dX2_write_5 rfl hl (by decide) rfl (fun ls hl => ?_)
            refine lv_aload_n hx hb dX2_write_6 rfl (lv_at hl 0 rfl) ?_
            obtain ⟨j15, hj15, hF⟩ := jn_use hF
            have hJ15 : ∀ (s15 : SV × SV × SV × SV × SV × SV × SV) (H : Heap) (locs : List Loc) (ls : Array Slot), va_P (dC, dI) vwCl (([(cH cyO q r 6 f), (cS cyI a s15.1), (cS cyI b0 s15.2.1), (cS cyI b1 s15.2.2.1), (cS cyI b2 s15.2.2.2.1), (cS cyI b3 s15.2.2.2.2.1), (cS cyI b4 s15.2.2.2.2.2.1), (cS cyI b5 s15.2.2.2.2.2.2)] : List va_W).flatten) H → va_D A (([(cH cyO q r 6 f), (cS cyI a s15.1), (cS cyI b0 s15.2.1), (cS cyI b1 s15.2.2.1), (cS cyI b2 s15.2.2.2.1), (cS cyI b3 s15.2.2.2.2.1), (cS cyI b4 s15.2.2.2.2.2.1), (cS cyI b5 s15.2.2.2.2.2.2)] : List va_W).flatten) → va_S A s.heap H locs → lv_has ls 4 [] → j15 s15 = some out → W p l e (headSpec (Cond.code yX2_write cX2_write 4 none :: wT) ({ frames := 3, cells := 0, slots := 0, locals := 64 } : Room)).room s m ([.ref q, .int p1, .ref (a 0)] : List Value).toArray below meth c H locs 0 0 (MQ below (va_Qv (fun (u : SV × SV × SV × SV × SV × SV × SV) => u = out) (fun u t => va_P (dC, dI) vwCl (([(cH cyO q r 6 f), (cS cyI a u.1), (cS cyI b0 u.2.1), (cS cyI b1 u.2.2.1), (cS cyI b2 u.2.2.2.1), (cS cyI b3 u.2.2.2.2.1), (cS cyI b4 u.2.2.2.2.2.1), (cS cyI b5 u.2.2.2.2.2.2)] : List va_W).flatten) t.heap ∧ va_D A (([(cH cyO q r 6 f), (cS cyI a u.1), (cS cyI b0 u.2.1), (cS cyI b1 u.2.2.1), (cS cyI b2 u.2.2.2.1), (cS cyI b3 u.2.2.2.2.1), (cS cyI b4 u.2.2.2.2.2.1), (cS cyI b5 u.2.2.2.2.2.2)] : List va_W).flatten)) A) ([.ref q, .int p1, .ref (a 0)] : List Value).toArray s 0 0 A) (F0 m 15 ls []) := by
              intro s15 H locs ls hP hD hS hl hF
              have hF := (congrFun hj15 s15).symm.trans hF
              exact W.vret hx hb hr (fun t ht hW => ⟨⟨_, rfl, Option.some.inj hF, by rw [ht]; exact hP, hD⟩, hS.F ht⟩) hS.2.2 dX2_write_15
            refine lv_ifnull hx hb dX2_write_7 ?_
            refine lv_aload_n hx hb dX2_write_10 rfl (lv_at hl 0 rfl) ?_
            refine lv_aload_n hx hb dX2_write_11 rfl (lv_at hl 3 rfl) ?_
            obtain ⟨o14, h15, hF⟩ := obd hF
            refine wcPVv (As := [.ref (a 0)]) (rest := []) (wr := ([(cH cyO q r 6 f), (cS cyI b0 v0), (cS cyI b1 v1), (cS cyI b2 v2), (cS cyI b3 v3), (cS cyI b5 v5)] : List va_W).flatten) (b := (b4 0)) ⟨hx, hb, hml, hown, hts⟩ (met_X3_copyFrom l dC dI cyI cyO b4 a _ N v4 v  o14 h15) (cwV 1 hts (gV w_methodLink_X2_26 w_instanceMethod_X3_copyFrom w_selects_X3_copyFrom w_initialized_X3 w_code_X3_copyFrom) rfl rfl rfl (by decide +kernel) ⟨Nat.le_of_ble_eq_true rfl, Nat.le_of_ble_eq_true rfl⟩) (va_recv hK.1 hP (ci := 3) (q0 := 67) rfl rfl) hP hD hK (seg_perm (n := 8) (R := [(cH cyO q r 6 f), (cS cyI b0 v0), (cS cyI b1 v1), (cS cyI b2 v2), (cS cyI b3 v3), (cS cyI b5 v5)]) (C := [(cS cyI b4 v4), (cS cyI a v)]) [0, 2, 3, 4, 5, 7] [6, 1] rfl rfl rfl (by decide) rfl) rfl hl.1 (Nat.le_of_ble_eq_true rfl) dX2_write_12 ⟨Nat.le_of_ble_eq_true rfl, Nat.le_of_ble_eq_true rfl⟩ hS hA (fun u H locs hw hP hD hS => ?_)
            have hw := hw.symm
            subst hw
            have hq := seg_permS (segs := [(cH cyO q r 6 f), (cS cyI a o14.2), (cS cyI b0 v0), (cS cyI b1 v1), (cS cyI b2 v2), (cS cyI b3 v3), (cS cyI b4 o14.1), (cS cyI b5 v5)]) (R := [(cH cyO q r 6 f), (cS cyI b0 v0), (cS cyI b1 v1), (cS cyI b2 v2), (cS cyI b3 v3), (cS cyI b5 v5)]) (C := [(cS cyI b4 o14.1), (cS cyI a o14.2)]) (n := 8) [0, 2, 3, 4, 5, 7] [6, 1] rfl rfl rfl (by decide)
            have hP : va_P (dC, dI) vwCl (([(cH cyO q r 6 f), (cS cyI a o14.2), (cS cyI b0 v0), (cS cyI b1 v1), (cS cyI b2 v2), (cS cyI b3 v3), (cS cyI b4 o14.1), (cS cyI b5 v5)] : List va_W).flatten) H := hP.perm hq
            have hD : va_D A (([(cH cyO q r 6 f), (cS cyI a o14.2), (cS cyI b0 v0), (cS cyI b1 v1), (cS cyI b2 v2), (cS cyI b3 v3), (cS cyI b4 o14.1), (cS cyI b5 v5)] : List va_W).flatten) := hD.perm hq
            clear hq
            exact hJ15 (o14.2, v0, v1, v2, v3, o14.1, v5) _ _ _ hP hD hS (lv_sub hl [] rfl) hF
          · have hF := itn c13 hF
            by_cases c16 : p1 = (5 : Int32)
            · have hF := itp c16 hF
              refine wcRVqS (As := [.int p1]) (rest := []) (b := q) ⟨hx, hb, hml, hown, hts⟩ (met_X2_stateAt6 l dC dI cyI cyO q r f p1) (cwV 1 hts (gV w_methodLink_X2_22 w_instanceMethod_X2_stateAt w_selects_X2_stateAt w_initialized_X2 w_code_X2_stateAt) rfl rfl rfl (by decide +kernel) ⟨Nat.le_of_ble_eq_true rfl, Nat.le_of_ble_eq_true rfl⟩) (va_recv hK.1 hP (ci := 2) (q0 := 0) rfl rfl) hP hK [0, 1] rfl rfl hl.1 (Nat.le_of_ble_eq_true rfl) dX2_write_2 ⟨Nat.le_of_ble_eq_true rfl, Nat.le_of_ble_eq_true rfl⟩ hS (x := b5 0) (by rw [c16]; exact (if_neg (by decide)).trans ((if_neg (by decide)).trans hb5)) (fun H locs hP hS => ?_)
              refine lv_astore_n (lv' := [(3, .ref (b5 0)), (0, .ref q), (1, .int p1), (2, .ref (a 0))]) hx hb dX2_write_5 rfl hl (by decide) rfl (fun ls hl => ?_)
              refine lv_aload_n hx hb dX2_write_6 rfl (lv_at hl 0 rfl) ?_
              obtain ⟨j15, hj15, hF⟩ := jn_use hF
              have hJ15 : ∀ (s15 : SV × SV × SV × SV × SV × SV × SV) (H : Heap) (locs : List Loc) (ls : Array Slot), va_P (dC, dI) vwCl (([(cH cyO q r 6 f), (cS cyI a s15.1), (cS cyI b0 s15.2.1), (cS cyI b1 s15.2.2.1), (cS cyI b2 s15.2.2.2.1), (cS cyI b3 s15.2.2.2.2.1), (cS cyI b4 s15.2.2.2.2.2.1), (cS cyI b5 s15.2.2.2.2.2.2)] : List va_W).flatten) H → va_D A (([(cH cyO q r 6 f), (cS cyI a s15.1), (cS cyI b0 s15.2.1), (cS cyI b1 s15.2.2.1), (cS cyI b2 s15.2.2.2.1), (cS cyI b3 s15.2.2.2.2.1), (cS cyI b4 s15.2.2.2.2.2.1), (cS cyI b5 s15.2.2.2.2.2.2)] : List va_W).flatten) → va_S A s.heap H locs → lv_has ls 4 [] → j15 s15 = some out → W p l e (headSpec (Cond.code yX2_write cX2_write 4 none :: wT) ({ frames := 3, cells := 0, slots := 0, locals := 64 } : Room)).room s m ([.ref q, .int p1, .ref (a 0)] : List Value).toArray below meth c H locs 0 0 (MQ below (va_Qv (fun (u : SV × SV × SV × SV × SV × SV × SV) => u = out) (fun u t => va_P (dC, dI) vwCl (([(cH cyO q r 6 f), (cS cyI a u.1), (cS cyI b0 u.2.1), (cS cyI b1 u.2.2.1), (cS cyI b2 u.2.2.2.1), (cS cyI b3 u.2.2.2.2.1), (cS cyI b4 u.2.2.2.2.2.1), (cS cyI b5 u.2.2.2.2.2.2)] : List va_W).flatten) t.heap ∧ va_D A (([(cH cyO q r 6 f), (cS cyI a u.1), (cS cyI b0 u.2.1), (cS cyI b1 u.2.2.1), (cS cyI b2 u.2.2.2.1), (cS cyI b3 u.2.2.2.2.1), (cS cyI b4 u.2.2.2.2.2.1), (cS cyI b5 u.2.2.2.2.2.2)] : List va_W).flatten)) A) ([.ref q, .int p1, .ref (a 0)] : List Value).toArray s 0 0 A) (F0 m 15 ls []) := by
                intro s15 H locs ls hP hD hS hl hF
                have hF := (congrFun hj15 s15).symm.trans hF
                exact W.vret hx hb hr (fun t ht hW => ⟨⟨_, rfl, Option.some.inj hF, by rw [ht]; exact hP, hD⟩, hS.F ht⟩) hS.2.2 dX2_write_15
              refine lv_ifnull hx hb dX2_write_7 ?_
              refine lv_aload_n hx hb dX2_write_10 rfl (lv_at hl 0 rfl) ?_
              refine lv_aload_n hx hb dX2_write_11 rfl (lv_at hl 3 rfl) ?_
              obtain ⟨o17, h18, hF⟩ := obd hF
              refine wcPVv (As := [.ref (a 0)]) (rest := []) (wr := ([(cH cyO q r 6 f), (cS cyI b0 v0), (cS cyI b1 v1), (cS cyI b2 v2), (cS cyI b3 v3), (cS cyI b4 v4)] : List va_W).flatten) (b := (b5 0)) ⟨hx, hb, hml, hown, hts⟩ (met_X3_copyFrom l dC dI cyI cyO b5 a _ N v5 v  o17 h18) (cwV 1 hts (gV w_methodLink_X2_26 w_instanceMethod_X3_copyFrom w_selects_X3_copyFrom w_initialized_X3 w_code_X3_copyFrom) rfl rfl rfl (by decide +kernel) ⟨Nat.le_of_ble_eq_true rfl, Nat.le_of_ble_eq_true rfl⟩) (va_recv hK.1 hP (ci := 3) (q0 := 80) rfl rfl) hP hD hK (seg_perm (n := 8) (R := [(cH cyO q r 6 f), (cS cyI b0 v0), (cS cyI b1 v1), (cS cyI b2 v2), (cS cyI b3 v3), (cS cyI b4 v4)]) (C := [(cS cyI b5 v5), (cS cyI a v)]) [0, 2, 3, 4, 5, 6] [7, 1] rfl rfl rfl (by decide) rfl) rfl hl.1 (Nat.le_of_ble_eq_true rfl) dX2_write_12 ⟨Nat.le_of_ble_eq_true rfl, Nat.le_of_ble_eq_true rfl⟩ hS hA (fun u H locs hw hP hD hS => ?_)
              have hw := hw.symm
              subst hw
              have hq := seg_permS (segs := [(cH cyO q r 6 f), (cS cyI a o17.2), (cS cyI b0 v0), (cS cyI b1 v1), (cS cyI b2 v2), (cS cyI b3 v3), (cS cyI b4 v4), (cS cyI b5 o17.1)]) (R := [(cH cyO q r 6 f), (cS cyI b0 v0), (cS cyI b1 v1), (cS cyI b2 v2), (cS cyI b3 v3), (cS cyI b4 v4)]) (C := [(cS cyI b5 o17.1), (cS cyI a o17.2)]) (n := 8) [0, 2, 3, 4, 5, 6] [7, 1] rfl rfl rfl (by decide)
              have hP : va_P (dC, dI) vwCl (([(cH cyO q r 6 f), (cS cyI a o17.2), (cS cyI b0 v0), (cS cyI b1 v1), (cS cyI b2 v2), (cS cyI b3 v3), (cS cyI b4 v4), (cS cyI b5 o17.1)] : List va_W).flatten) H := hP.perm hq
              have hD : va_D A (([(cH cyO q r 6 f), (cS cyI a o17.2), (cS cyI b0 v0), (cS cyI b1 v1), (cS cyI b2 v2), (cS cyI b3 v3), (cS cyI b4 v4), (cS cyI b5 o17.1)] : List va_W).flatten) := hD.perm hq
              clear hq
              exact hJ15 (o17.2, v0, v1, v2, v3, v4, o17.1) _ _ _ hP hD hS (lv_sub hl [] rfl) hF
            · have hF := itn c16 hF
              refine wcRVqN (As := [.int p1]) (rest := []) (b := q) ⟨hx, hb, hml, hown, hts⟩ (met_X2_stateAt6 l dC dI cyI cyO q r f p1) (cwV 1 hts (gV w_methodLink_X2_22 w_instanceMethod_X2_stateAt w_selects_X2_stateAt w_initialized_X2 w_code_X2_stateAt) rfl rfl rfl (by decide +kernel) ⟨Nat.le_of_ble_eq_true rfl, Nat.le_of_ble_eq_true rfl⟩) (va_recv hK.1 hP (ci := 2) (q0 := 0) rfl rfl) hP hK [0, 1] rfl rfl hl.1 (Nat.le_of_ble_eq_true rfl) dX2_write_2 ⟨Nat.le_of_ble_eq_true rfl, Nat.le_of_ble_eq_true rfl⟩ hS (shI_out6 c1 c4 c7 c10 c13 c16) (fun H locs hP hS => ?_)
              refine lv_astore_nN (lv' := [(3, .null), (0, .ref q), (1, .int p1), (2, .ref (a 0))]) hx hb dX2_write_5 rfl hl (by decide) rfl (fun ls hl => ?_)
              refine lv_aload_nN hx hb dX2_write_6 rfl (lv_at hl 0 rfl) ?_
              obtain ⟨j15, hj15, hF⟩ := jn_use hF
              have hJ15 : ∀ (s15 : SV × SV × SV × SV × SV × SV × SV) (H : Heap) (locs : List Loc) (ls : Array Slot), va_P (dC, dI) vwCl (([(cH cyO q r 6 f), (cS cyI a s15.1), (cS cyI b0 s15.2.1), (cS cyI b1 s15.2.2.1), (cS cyI b2 s15.2.2.2.1), (cS cyI b3 s15.2.2.2.2.1), (cS cyI b4 s15.2.2.2.2.2.1), (cS cyI b5 s15.2.2.2.2.2.2)] : List va_W).flatten) H → va_D A (([(cH cyO q r 6 f), (cS cyI a s15.1), (cS cyI b0 s15.2.1), (cS cyI b1 s15.2.2.1), (cS cyI b2 s15.2.2.2.1), (cS cyI b3 s15.2.2.2.2.1), (cS cyI b4 s15.2.2.2.2.2.1), (cS cyI b5 s15.2.2.2.2.2.2)] : List va_W).flatten) → va_S A s.heap H locs → lv_has ls 4 [] → j15 s15 = some out → W p l e (headSpec (Cond.code yX2_write cX2_write 4 none :: wT) ({ frames := 3, cells := 0, slots := 0, locals := 64 } : Room)).room s m ([.ref q, .int p1, .ref (a 0)] : List Value).toArray below meth c H locs 0 0 (MQ below (va_Qv (fun (u : SV × SV × SV × SV × SV × SV × SV) => u = out) (fun u t => va_P (dC, dI) vwCl (([(cH cyO q r 6 f), (cS cyI a u.1), (cS cyI b0 u.2.1), (cS cyI b1 u.2.2.1), (cS cyI b2 u.2.2.2.1), (cS cyI b3 u.2.2.2.2.1), (cS cyI b4 u.2.2.2.2.2.1), (cS cyI b5 u.2.2.2.2.2.2)] : List va_W).flatten) t.heap ∧ va_D A (([(cH cyO q r 6 f), (cS cyI a u.1), (cS cyI b0 u.2.1), (cS cyI b1 u.2.2.1), (cS cyI b2 u.2.2.2.1), (cS cyI b3 u.2.2.2.2.1), (cS cyI b4 u.2.2.2.2.2.1), (cS cyI b5 u.2.2.2.2.2.2)] : List va_W).flatten)) A) ([.ref q, .int p1, .ref (a 0)] : List Value).toArray s 0 0 A) (F0 m 15 ls []) := by
                intro s15 H locs ls hP hD hS hl hF
                have hF := (congrFun hj15 s15).symm.trans hF
                exact W.vret hx hb hr (fun t ht hW => ⟨⟨_, rfl, Option.some.inj hF, by rw [ht]; exact hP, hD⟩, hS.F ht⟩) hS.2.2 dX2_write_15
              refine lv_ifnullN (tgt := 15) hx hb dX2_write_7 (by decide) ?_
              exact hJ15 (v, v0, v1, v2, v3, v4, v5) _ _ _ hP hD hS (lv_sub hl [] rfl) hF
def f_X2_read6 (N : Nat) (v : SV) (v0 : SV) (v1 : SV) (v2 : SV) (v3 : SV) (v4 : SV) (v5 : SV) (p1 : Int32) : Option (SV × SV × SV × SV × SV × SV × SV) :=
  (if p1 = (0 : Int32) then jn (fun (s15 : SV × SV × SV × SV × SV × SV × SV) => some (s15.1, s15.2.1, s15.2.2.1, s15.2.2.2.1, s15.2.2.2.2.1, s15.2.2.2.2.2.1, s15.2.2.2.2.2.2)) (fun (j15 : (SV × SV × SV × SV × SV × SV × SV) → Option (SV × SV × SV × SV × SV × SV × SV)) => (f_X3_copyFrom N v v0).bind (fun o2 => j15 (o2.1, o2.2, v1, v2, v3, v4, v5))) else if p1 = (1 : Int32) then jn (fun (s15 : SV × SV × SV × SV × SV × SV × SV) => some (s15.1, s15.2.1, s15.2.2.1, s15.2.2.2.1, s15.2.2.2.2.1, s15.2.2.2.2.2.1, s15.2.2.2.2.2.2)) (fun (j15 : (SV × SV × SV × SV × SV × SV × SV) → Option (SV × SV × SV × SV × SV × SV × SV)) => (f_X3_copyFrom N v v1).bind (fun o5 => j15 (o5.1, v0, o5.2, v2, v3, v4, v5))) else if p1 = (2 : Int32) then jn (fun (s15 : SV × SV × SV × SV × SV × SV × SV) => some (s15.1, s15.2.1, s15.2.2.1, s15.2.2.2.1, s15.2.2.2.2.1, s15.2.2.2.2.2.1, s15.2.2.2.2.2.2)) (fun (j15 : (SV × SV × SV × SV × SV × SV × SV) → Option (SV × SV × SV × SV × SV × SV × SV)) => (f_X3_copyFrom N v v2).bind (fun o8 => j15 (o8.1, v0, v1, o8.2, v3, v4, v5))) else if p1 = (3 : Int32) then jn (fun (s15 : SV × SV × SV × SV × SV × SV × SV) => some (s15.1, s15.2.1, s15.2.2.1, s15.2.2.2.1, s15.2.2.2.2.1, s15.2.2.2.2.2.1, s15.2.2.2.2.2.2)) (fun (j15 : (SV × SV × SV × SV × SV × SV × SV) → Option (SV × SV × SV × SV × SV × SV × SV)) => (f_X3_copyFrom N v v3).bind (fun o11 => j15 (o11.1, v0, v1, v2, o11.2, v4, v5))) else if p1 = (4 : Int32) then jn (fun (s15 : SV × SV × SV × SV × SV × SV × SV) => some (s15.1, s15.2.1, s15.2.2.1, s15.2.2.2.1, s15.2.2.2.2.1, s15.2.2.2.2.2.1, s15.2.2.2.2.2.2)) (fun (j15 : (SV × SV × SV × SV × SV × SV × SV) → Option (SV × SV × SV × SV × SV × SV × SV)) => (f_X3_copyFrom N v v4).bind (fun o14 => j15 (o14.1, v0, v1, v2, v3, o14.2, v5))) else if p1 = (5 : Int32) then jn (fun (s15 : SV × SV × SV × SV × SV × SV × SV) => some (s15.1, s15.2.1, s15.2.2.1, s15.2.2.2.1, s15.2.2.2.2.1, s15.2.2.2.2.2.1, s15.2.2.2.2.2.2)) (fun (j15 : (SV × SV × SV × SV × SV × SV × SV) → Option (SV × SV × SV × SV × SV × SV × SV)) => (f_X3_copyFrom N v v5).bind (fun o17 => j15 (o17.1, v0, v1, v2, v3, v4, o17.2))) else jn (fun (s15 : SV × SV × SV × SV × SV × SV × SV) => some (s15.1, s15.2.1, s15.2.2.1, s15.2.2.2.1, s15.2.2.2.2.1, s15.2.2.2.2.2.1, s15.2.2.2.2.2.2)) (fun (j15 : (SV × SV × SV × SV × SV × SV × SV) → Option (SV × SV × SV × SV × SV × SV × SV)) => j15 (v, v0, v1, v2, v3, v4, v5)))
set_option maxHeartbeats 4000000 in
set_option maxRecDepth 100000 in
theorem met_X2_read6 (l : Launch) (dC : Nat → ClassId) (dI : Nat → Nat → Nat) (cyI cyO : ClassId) (q r : Nat) (f : Nat → Option Nat) (a : Nat → Nat) (b0 : Nat → Nat) (b1 : Nat → Nat) (b2 : Nat → Nat) (b3 : Nat → Nat) (b4 : Nat → Nat) (b5 : Nat → Nat) (sz : Nat) (N : Nat) (v : SV) (v0 : SV) (v1 : SV) (v2 : SV) (v3 : SV) (v4 : SV) (v5 : SV) (p1 : Int32) (hb0 : f 0 = some (b0 0)) (hb1 : f 1 = some (b1 0)) (hb2 : f 2 = some (b2 0)) (hb3 : f 3 = some (b3 0)) (hb4 : f 4 = some (b4 0)) (hb5 : f 5 = some (b5 0)) (out : SV × SV × SV × SV × SV × SV × SV) (hF : f_X2_read6 N v v0 v1 v2 v3 v4 v5 p1 = some out) : Met l yX2_read (Cond.code yX2_read cX2_read 4 none :: wT) ({ frames := 3, cells := 0, slots := 0, locals := 64 } : Room) (wWr dC dI cyI cyO [.ref q, .int p1, .ref (a 0)] (([(cH cyO q r 6 f), (cS cyI a v), (cS cyI b0 v0), (cS cyI b1 v1), (cS cyI b2 v2), (cS cyI b3 v3), (cS cyI b4 v4), (cS cyI b5 v5)] : List va_W).flatten) sz) (va_Qv (fun (u : SV × SV × SV × SV × SV × SV × SV) => u = out) (fun u t => va_P (dC, dI) vwCl (([(cH cyO q r 6 f), (cS cyI a u.1), (cS cyI b0 u.2.1), (cS cyI b1 u.2.2.1), (cS cyI b2 u.2.2.2.1), (cS cyI b3 u.2.2.2.2.1), (cS cyI b4 u.2.2.2.2.2.1), (cS cyI b5 u.2.2.2.2.2.2)] : List va_W).flatten) t.heap ∧ va_D (va_A (([(cH cyO q r 6 f), (cS cyI a v), (cS cyI b0 v0), (cS cyI b1 v1), (cS cyI b2 v2), (cS cyI b3 v3), (cS cyI b4 v4), (cS cyI b5 v5)] : List va_W).flatten) sz) (([(cH cyO q r 6 f), (cS cyI a u.1), (cS cyI b0 u.2.1), (cS cyI b1 u.2.2.1), (cS cyI b2 u.2.2.2.1), (cS cyI b3 u.2.2.2.2.1), (cS cyI b4 u.2.2.2.2.2.1), (cS cyI b5 u.2.2.2.2.2.2)] : List va_W).flatten)) (va_A (([(cH cyO q r 6 f), (cS cyI a v), (cS cyI b0 v0), (cS cyI b1 v1), (cS cyI b2 v2), (cS cyI b3 v3), (cS cyI b4 v4), (cS cyI b5 v5)] : List va_W).flatten) sz)) 0 0 (va_A (([(cH cyO q r 6 f), (cS cyI a v), (cS cyI b0 v0), (cS cyI b1 v1), (cS cyI b2 v2), (cS cyI b3 v3), (cS cyI b4 v4), (cS cyI b5 v5)] : List va_W).flatten) sz) := by
  refine Met.ofW (cc := cX2_read) (maxL := 4) (ret := none) (by decide) rfl ?_
  intro p e s m args below meth c s₁ B hml hv
  obtain ⟨rfl, hsz, hP, hK, hD0⟩ := hv
  have hx := B.exec
  have hb := B.bytes
  have hr := B.returns
  have hts0 := atoms_spec (ws := (Cond.code yX2_read cX2_read 4 none :: wT)) B.pre
  have hts := fun w h => hts0 w (List.mem_cons_of_mem _ h)
  clear hts0
  have hown : s.vm.findClass RX2 = some m.cls := findClass_of_methodNamed B.named
  have hlocks := B.notSynchronized
  subst hsz
  have hD := hD0.self (sz := s.heap.size)
  generalize hAe : va_A (([(cH cyO q r 6 f), (cS cyI a v), (cS cyI b0 v0), (cS cyI b1 v1), (cS cyI b2 v2), (cS cyI b3 v3), (cS cyI b4 v4), (cS cyI b5 v5)] : List va_W).flatten) s.heap.size = A at hD ⊢
  have hA : ∀ q : Nat, s.heap.size ≤ q → A q := fun q h => by rw [← hAe]; exact Or.inr h
  clear hD0
  have hS : va_S A s.heap s.heap [] := va_S.rf
  have hl := lv_entry [.ref q, .int p1, .ref (a 0)] (n := 4) (Nat.le_of_ble_eq_true rfl)
  rw [lg_entry_eq]
  generalize (lg_sl [.ref q, .int p1, .ref (a 0)] ++ List.replicate (4 - (lg_sl [.ref q, .int p1, .ref (a 0)]).length) Slot.unset).toArray = ls at hl ⊢
  have hl : lv_has ls 4 [(0, .ref q), (1, .int p1), (2, .ref (a 0))] := hl
  unfold f_X2_read6 at hF
  refine lv_aload_n hx hb dX2_read_0 rfl (lv_at hl 0 rfl) ?_
  refine lv_iload_n hx hb dX2_read_1 rfl (lv_at hl 1 rfl) ?_
  by_cases c1 : p1 = (0 : Int32)
  · have hF := itp c1 hF
    refine wcRVqS (As := [.int p1]) (rest := []) (b := q) ⟨hx, hb, hml, hown, hts⟩ (met_X2_stateAt6 l dC dI cyI cyO q r f p1) (cwV 1 hts (gV w_methodLink_X2_22 w_instanceMethod_X2_stateAt w_selects_X2_stateAt w_initialized_X2 w_code_X2_stateAt) rfl rfl rfl (by decide +kernel) ⟨Nat.le_of_ble_eq_true rfl, Nat.le_of_ble_eq_true rfl⟩) (va_recv hK.1 hP (ci := 2) (q0 := 0) rfl rfl) hP hK [0, 1] rfl rfl hl.1 (Nat.le_of_ble_eq_true rfl) dX2_read_2 ⟨Nat.le_of_ble_eq_true rfl, Nat.le_of_ble_eq_true rfl⟩ hS (x := b0 0) (by rw [c1]; exact (if_neg (by decide)).trans ((if_neg (by decide)).trans hb0)) (fun H locs hP hS => ?_)
    refine lv_astore_n (lv' := [(3, .ref (b0 0)), (0, .ref q), (1, .int p1), (2, .ref (a 0))]) hx hb dX2_read_5 rfl hl (by decide) rfl (fun ls hl => ?_)
    refine lv_aload_n hx hb dX2_read_6 rfl (lv_at hl 0 rfl) ?_
    obtain ⟨j15, hj15, hF⟩ := jn_use hF
    have hJ15 : ∀ (s15 : SV × SV × SV × SV × SV × SV × SV) (H : Heap) (locs : List Loc) (ls : Array Slot), va_P (dC, dI) vwCl (([(cH cyO q r 6 f), (cS cyI a s15.1), (cS cyI b0 s15.2.1), (cS cyI b1 s15.2.2.1), (cS cyI b2 s15.2.2.2.1), (cS cyI b3 s15.2.2.2.2.1), (cS cyI b4 s15.2.2.2.2.2.1), (cS cyI b5 s15.2.2.2.2.2.2)] : List va_W).flatten) H → va_D A (([(cH cyO q r 6 f), (cS cyI a s15.1), (cS cyI b0 s15.2.1), (cS cyI b1 s15.2.2.1), (cS cyI b2 s15.2.2.2.1), (cS cyI b3 s15.2.2.2.2.1), (cS cyI b4 s15.2.2.2.2.2.1), (cS cyI b5 s15.2.2.2.2.2.2)] : List va_W).flatten) → va_S A s.heap H locs → lv_has ls 4 [] → j15 s15 = some out → W p l e (headSpec (Cond.code yX2_read cX2_read 4 none :: wT) ({ frames := 3, cells := 0, slots := 0, locals := 64 } : Room)).room s m ([.ref q, .int p1, .ref (a 0)] : List Value).toArray below meth c H locs 0 0 (MQ below (va_Qv (fun (u : SV × SV × SV × SV × SV × SV × SV) => u = out) (fun u t => va_P (dC, dI) vwCl (([(cH cyO q r 6 f), (cS cyI a u.1), (cS cyI b0 u.2.1), (cS cyI b1 u.2.2.1), (cS cyI b2 u.2.2.2.1), (cS cyI b3 u.2.2.2.2.1), (cS cyI b4 u.2.2.2.2.2.1), (cS cyI b5 u.2.2.2.2.2.2)] : List va_W).flatten) t.heap ∧ va_D A (([(cH cyO q r 6 f), (cS cyI a u.1), (cS cyI b0 u.2.1), (cS cyI b1 u.2.2.1), (cS cyI b2 u.2.2.2.1), (cS cyI b3 u.2.2.2.2.1), (cS cyI b4 u.2.2.2.2.2.1), (cS cyI b5 u.2.2.2.2.2.2)] : List va_W).flatten)) A) ([.ref q, .int p1, .ref (a 0)] : List Value).toArray s 0 0 A) (F0 m 15 ls []) := by
      intro s15 H locs ls hP hD hS hl hF
      have hF := (congrFun hj15 s15).symm.trans hF
      exact W.vret hx hb hr (fun t ht hW => ⟨⟨_, rfl, Option.some.inj hF, by rw [ht]; exact hP, hD⟩, hS.F ht⟩) hS.2.2 dX2_read_15
    refine lv_ifnull hx hb dX2_read_7 ?_
    refine lv_aload_n hx hb dX2_read_10 rfl (lv_at hl 3 rfl) ?_
    refine lv_aload_n hx hb dX2_read_11 rfl (lv_at hl 0 rfl) ?_
    obtain ⟨o2, h3, hF⟩ := obd hF
    refine wcPVv (As := [.ref (b0 0)]) (rest := []) (wr := ([(cH cyO q r 6 f), (cS cyI b1 v1), (cS cyI b2 v2), (cS cyI b3 v3), (cS cyI b4 v4), (cS cyI b5 v5)] : List va_W).flatten) (b := (a 0)) ⟨hx, hb, hml, hown, hts⟩ (met_X3_copyFrom l dC dI cyI cyO a b0 _ N v v0  o2 h3) (cwV 1 hts (gV w_methodLink_X2_26 w_instanceMethod_X3_copyFrom w_selects_X3_copyFrom w_initialized_X3 w_code_X3_copyFrom) rfl rfl rfl (by decide +kernel) ⟨Nat.le_of_ble_eq_true rfl, Nat.le_of_ble_eq_true rfl⟩) (va_recv hK.1 hP (ci := 3) (q0 := 2) rfl rfl) hP hD hK (seg_perm (n := 8) (R := [(cH cyO q r 6 f), (cS cyI b1 v1), (cS cyI b2 v2), (cS cyI b3 v3), (cS cyI b4 v4), (cS cyI b5 v5)]) (C := [(cS cyI a v), (cS cyI b0 v0)]) [0, 3, 4, 5, 6, 7] [1, 2] rfl rfl rfl (by decide) rfl) rfl hl.1 (Nat.le_of_ble_eq_true rfl) dX2_read_12 ⟨Nat.le_of_ble_eq_true rfl, Nat.le_of_ble_eq_true rfl⟩ hS hA (fun u H locs hw hP hD hS => ?_)
    have hw := hw.symm
    subst hw
    have hq := seg_permS (segs := [(cH cyO q r 6 f), (cS cyI a o2.1), (cS cyI b0 o2.2), (cS cyI b1 v1), (cS cyI b2 v2), (cS cyI b3 v3), (cS cyI b4 v4), (cS cyI b5 v5)]) (R := [(cH cyO q r 6 f), (cS cyI b1 v1), (cS cyI b2 v2), (cS cyI b3 v3), (cS cyI b4 v4), (cS cyI b5 v5)]) (C := [(cS cyI a o2.1), (cS cyI b0 o2.2)]) (n := 8) [0, 3, 4, 5, 6, 7] [1, 2] rfl rfl rfl (by decide)
    have hP : va_P (dC, dI) vwCl (([(cH cyO q r 6 f), (cS cyI a o2.1), (cS cyI b0 o2.2), (cS cyI b1 v1), (cS cyI b2 v2), (cS cyI b3 v3), (cS cyI b4 v4), (cS cyI b5 v5)] : List va_W).flatten) H := hP.perm hq
    have hD : va_D A (([(cH cyO q r 6 f), (cS cyI a o2.1), (cS cyI b0 o2.2), (cS cyI b1 v1), (cS cyI b2 v2), (cS cyI b3 v3), (cS cyI b4 v4), (cS cyI b5 v5)] : List va_W).flatten) := hD.perm hq
    clear hq
    exact hJ15 (o2.1, o2.2, v1, v2, v3, v4, v5) _ _ _ hP hD hS (lv_sub hl [] rfl) hF
  · have hF := itn c1 hF
    by_cases c4 : p1 = (1 : Int32)
    · have hF := itp c4 hF
      refine wcRVqS (As := [.int p1]) (rest := []) (b := q) ⟨hx, hb, hml, hown, hts⟩ (met_X2_stateAt6 l dC dI cyI cyO q r f p1) (cwV 1 hts (gV w_methodLink_X2_22 w_instanceMethod_X2_stateAt w_selects_X2_stateAt w_initialized_X2 w_code_X2_stateAt) rfl rfl rfl (by decide +kernel) ⟨Nat.le_of_ble_eq_true rfl, Nat.le_of_ble_eq_true rfl⟩) (va_recv hK.1 hP (ci := 2) (q0 := 0) rfl rfl) hP hK [0, 1] rfl rfl hl.1 (Nat.le_of_ble_eq_true rfl) dX2_read_2 ⟨Nat.le_of_ble_eq_true rfl, Nat.le_of_ble_eq_true rfl⟩ hS (x := b1 0) (by rw [c4]; exact (if_neg (by decide)).trans ((if_neg (by decide)).trans hb1)) (fun H locs hP hS => ?_)
      refine lv_astore_n (lv' := [(3, .ref (b1 0)), (0, .ref q), (1, .int p1), (2, .ref (a 0))]) hx hb dX2_read_5 rfl hl (by decide) rfl (fun ls hl => ?_)
      refine lv_aload_n hx hb dX2_read_6 rfl (lv_at hl 0 rfl) ?_
      obtain ⟨j15, hj15, hF⟩ := jn_use hF
      have hJ15 : ∀ (s15 : SV × SV × SV × SV × SV × SV × SV) (H : Heap) (locs : List Loc) (ls : Array Slot), va_P (dC, dI) vwCl (([(cH cyO q r 6 f), (cS cyI a s15.1), (cS cyI b0 s15.2.1), (cS cyI b1 s15.2.2.1), (cS cyI b2 s15.2.2.2.1), (cS cyI b3 s15.2.2.2.2.1), (cS cyI b4 s15.2.2.2.2.2.1), (cS cyI b5 s15.2.2.2.2.2.2)] : List va_W).flatten) H → va_D A (([(cH cyO q r 6 f), (cS cyI a s15.1), (cS cyI b0 s15.2.1), (cS cyI b1 s15.2.2.1), (cS cyI b2 s15.2.2.2.1), (cS cyI b3 s15.2.2.2.2.1), (cS cyI b4 s15.2.2.2.2.2.1), (cS cyI b5 s15.2.2.2.2.2.2)] : List va_W).flatten) → va_S A s.heap H locs → lv_has ls 4 [] → j15 s15 = some out → W p l e (headSpec (Cond.code yX2_read cX2_read 4 none :: wT) ({ frames := 3, cells := 0, slots := 0, locals := 64 } : Room)).room s m ([.ref q, .int p1, .ref (a 0)] : List Value).toArray below meth c H locs 0 0 (MQ below (va_Qv (fun (u : SV × SV × SV × SV × SV × SV × SV) => u = out) (fun u t => va_P (dC, dI) vwCl (([(cH cyO q r 6 f), (cS cyI a u.1), (cS cyI b0 u.2.1), (cS cyI b1 u.2.2.1), (cS cyI b2 u.2.2.2.1), (cS cyI b3 u.2.2.2.2.1), (cS cyI b4 u.2.2.2.2.2.1), (cS cyI b5 u.2.2.2.2.2.2)] : List va_W).flatten) t.heap ∧ va_D A (([(cH cyO q r 6 f), (cS cyI a u.1), (cS cyI b0 u.2.1), (cS cyI b1 u.2.2.1), (cS cyI b2 u.2.2.2.1), (cS cyI b3 u.2.2.2.2.1), (cS cyI b4 u.2.2.2.2.2.1), (cS cyI b5 u.2.2.2.2.2.2)] : List va_W).flatten)) A) ([.ref q, .int p1, .ref (a 0)] : List Value).toArray s 0 0 A) (F0 m 15 ls []) := by
        intro s15 H locs ls hP hD hS hl hF
        have hF := (congrFun hj15 s15).symm.trans hF
        exact W.vret hx hb hr (fun t ht hW => ⟨⟨_, rfl, Option.some.inj hF, by rw [ht]; exact hP, hD⟩, hS.F ht⟩) hS.2.2 dX2_read_15
      refine lv_ifnull hx hb dX2_read_7 ?_
      refine lv_aload_n hx hb dX2_read_10 rfl (lv_at hl 3 rfl) ?_
      refine lv_aload_n hx hb dX2_read_11 rfl (lv_at hl 0 rfl) ?_
      obtain ⟨o5, h6, hF⟩ := obd hF
      refine wcPVv (As := [.ref (b1 0)]) (rest := []) (wr := ([(cH cyO q r 6 f), (cS cyI b0 v0), (cS cyI b2 v2), (cS cyI b3 v3), (cS cyI b4 v4), (cS cyI b5 v5)] : List va_W).flatten) (b := (a 0)) ⟨hx, hb, hml, hown, hts⟩ (met_X3_copyFrom l dC dI cyI cyO a b1 _ N v v1  o5 h6) (cwV 1 hts (gV w_methodLink_X2_26 w_instanceMethod_X3_copyFrom w_selects_X3_copyFrom w_initialized_X3 w_code_X3_copyFrom) rfl rfl rfl (by decide +kernel) ⟨Nat.le_of_ble_eq_true rfl, Nat.le_of_ble_eq_true rfl⟩) (va_recv hK.1 hP (ci := 3) (q0 := 2) rfl rfl) hP hD hK (seg_perm (n := 8) (R := [(cH cyO q r 6 f), (cS cyI b0 v0), (cS cyI b2 v2), (cS cyI b3 v3), (cS cyI b4 v4), (cS cyI b5 v5)]) (C := [(cS cyI a v), (cS cyI b1 v1)]) [0, 2, 4, 5, 6, 7] [1, 3] rfl rfl rfl (by decide) rfl) rfl hl.1 (Nat.le_of_ble_eq_true rfl) dX2_read_12 ⟨Nat.le_of_ble_eq_true rfl, Nat.le_of_ble_eq_true rfl⟩ hS hA (fun u H locs hw hP hD hS => ?_)
      have hw := hw.symm
      subst hw
      have hq := seg_permS (segs := [(cH cyO q r 6 f), (cS cyI a o5.1), (cS cyI b0 v0), (cS cyI b1 o5.2), (cS cyI b2 v2), (cS cyI b3 v3), (cS cyI b4 v4), (cS cyI b5 v5)]) (R := [(cH cyO q r 6 f), (cS cyI b0 v0), (cS cyI b2 v2), (cS cyI b3 v3), (cS cyI b4 v4), (cS cyI b5 v5)]) (C := [(cS cyI a o5.1), (cS cyI b1 o5.2)]) (n := 8) [0, 2, 4, 5, 6, 7] [1, 3] rfl rfl rfl (by decide)
      have hP : va_P (dC, dI) vwCl (([(cH cyO q r 6 f), (cS cyI a o5.1), (cS cyI b0 v0), (cS cyI b1 o5.2), (cS cyI b2 v2), (cS cyI b3 v3), (cS cyI b4 v4), (cS cyI b5 v5)] : List va_W).flatten) H := hP.perm hq
      have hD : va_D A (([(cH cyO q r 6 f), (cS cyI a o5.1), (cS cyI b0 v0), (cS cyI b1 o5.2), (cS cyI b2 v2), (cS cyI b3 v3), (cS cyI b4 v4), (cS cyI b5 v5)] : List va_W).flatten) := hD.perm hq
      clear hq
      exact hJ15 (o5.1, v0, o5.2, v2, v3, v4, v5) _ _ _ hP hD hS (lv_sub hl [] rfl) hF
    · have hF := itn c4 hF
      by_cases c7 : p1 = (2 : Int32)
      · have hF := itp c7 hF
        refine wcRVqS (As := [.int p1]) (rest := []) (b := q) ⟨hx, hb, hml, hown, hts⟩ (met_X2_stateAt6 l dC dI cyI cyO q r f p1) (cwV 1 hts (gV w_methodLink_X2_22 w_instanceMethod_X2_stateAt w_selects_X2_stateAt w_initialized_X2 w_code_X2_stateAt) rfl rfl rfl (by decide +kernel) ⟨Nat.le_of_ble_eq_true rfl, Nat.le_of_ble_eq_true rfl⟩) (va_recv hK.1 hP (ci := 2) (q0 := 0) rfl rfl) hP hK [0, 1] rfl rfl hl.1 (Nat.le_of_ble_eq_true rfl) dX2_read_2 ⟨Nat.le_of_ble_eq_true rfl, Nat.le_of_ble_eq_true rfl⟩ hS (x := b2 0) (by rw [c7]; exact (if_neg (by decide)).trans ((if_neg (by decide)).trans hb2)) (fun H locs hP hS => ?_)
        refine lv_astore_n (lv' := [(3, .ref (b2 0)), (0, .ref q), (1, .int p1), (2, .ref (a 0))]) hx hb dX2_read_5 rfl hl (by decide) rfl (fun ls hl => ?_)
        refine lv_aload_n hx hb dX2_read_6 rfl (lv_at hl 0 rfl) ?_
        obtain ⟨j15, hj15, hF⟩ := jn_use hF
        have hJ15 : ∀ (s15 : SV × SV × SV × SV × SV × SV × SV) (H : Heap) (locs : List Loc) (ls : Array Slot), va_P (dC, dI) vwCl (([(cH cyO q r 6 f), (cS cyI a s15.1), (cS cyI b0 s15.2.1), (cS cyI b1 s15.2.2.1), (cS cyI b2 s15.2.2.2.1), (cS cyI b3 s15.2.2.2.2.1), (cS cyI b4 s15.2.2.2.2.2.1), (cS cyI b5 s15.2.2.2.2.2.2)] : List va_W).flatten) H → va_D A (([(cH cyO q r 6 f), (cS cyI a s15.1), (cS cyI b0 s15.2.1), (cS cyI b1 s15.2.2.1), (cS cyI b2 s15.2.2.2.1), (cS cyI b3 s15.2.2.2.2.1), (cS cyI b4 s15.2.2.2.2.2.1), (cS cyI b5 s15.2.2.2.2.2.2)] : List va_W).flatten) → va_S A s.heap H locs → lv_has ls 4 [] → j15 s15 = some out → W p l e (headSpec (Cond.code yX2_read cX2_read 4 none :: wT) ({ frames := 3, cells := 0, slots := 0, locals := 64 } : Room)).room s m ([.ref q, .int p1, .ref (a 0)] : List Value).toArray below meth c H locs 0 0 (MQ below (va_Qv (fun (u : SV × SV × SV × SV × SV × SV × SV) => u = out) (fun u t => va_P (dC, dI) vwCl (([(cH cyO q r 6 f), (cS cyI a u.1), (cS cyI b0 u.2.1), (cS cyI b1 u.2.2.1), (cS cyI b2 u.2.2.2.1), (cS cyI b3 u.2.2.2.2.1), (cS cyI b4 u.2.2.2.2.2.1), (cS cyI b5 u.2.2.2.2.2.2)] : List va_W).flatten) t.heap ∧ va_D A (([(cH cyO q r 6 f), (cS cyI a u.1), (cS cyI b0 u.2.1), (cS cyI b1 u.2.2.1), (cS cyI b2 u.2.2.2.1), (cS cyI b3 u.2.2.2.2.1), (cS cyI b4 u.2.2.2.2.2.1), (cS cyI b5 u.2.2.2.2.2.2)] : List va_W).flatten)) A) ([.ref q, .int p1, .ref (a 0)] : List Value).toArray s 0 0 A) (F0 m 15 ls []) := by
          intro s15 H locs ls hP hD hS hl hF
          have hF := (congrFun hj15 s15).symm.trans hF
          exact W.vret hx hb hr (fun t ht hW => ⟨⟨_, rfl, Option.some.inj hF, by rw [ht]; exact hP, hD⟩, hS.F ht⟩) hS.2.2 dX2_read_15
        refine lv_ifnull hx hb dX2_read_7 ?_
        refine lv_aload_n hx hb dX2_read_10 rfl (lv_at hl 3 rfl) ?_
        refine lv_aload_n hx hb dX2_read_11 rfl (lv_at hl 0 rfl) ?_
        obtain ⟨o8, h9, hF⟩ := obd hF
        refine wcPVv (As := [.ref (b2 0)]) (rest := []) (wr := ([(cH cyO q r 6 f), (cS cyI b0 v0), (cS cyI b1 v1), (cS cyI b3 v3), (cS cyI b4 v4), (cS cyI b5 v5)] : List va_W).flatten) (b := (a 0)) ⟨hx, hb, hml, hown, hts⟩ (met_X3_copyFrom l dC dI cyI cyO a b2 _ N v v2  o8 h9) (cwV 1 hts (gV w_methodLink_X2_26 w_instanceMethod_X3_copyFrom w_selects_X3_copyFrom w_initialized_X3 w_code_X3_copyFrom) rfl rfl rfl (by decide +kernel) ⟨Nat.le_of_ble_eq_true rfl, Nat.le_of_ble_eq_true rfl⟩) (va_recv hK.1 hP (ci := 3) (q0 := 2) rfl rfl) hP hD hK (seg_perm (n := 8) (R := [(cH cyO q r 6 f), (cS cyI b0 v0), (cS cyI b1 v1), (cS cyI b3 v3), (cS cyI b4 v4), (cS cyI b5 v5)]) (C := [(cS cyI a v), (cS cyI b2 v2)]) [0, 2, 3, 5, 6, 7] [1, 4] rfl rfl rfl (by decide) rfl) rfl hl.1 (Nat.le_of_ble_eq_true rfl) dX2_read_12 ⟨Nat.le_of_ble_eq_true rfl, Nat.le_of_ble_eq_true rfl⟩ hS hA (fun u H locs hw hP hD hS => ?_)
        have hw := hw.symm
        subst hw
        have hq := seg_permS (segs := [(cH cyO q r 6 f), (cS cyI a o8.1), (cS cyI b0 v0), (cS cyI b1 v1), (cS cyI b2 o8.2), (cS cyI b3 v3), (cS cyI b4 v4), (cS cyI b5 v5)]) (R := [(cH cyO q r 6 f), (cS cyI b0 v0), (cS cyI b1 v1), (cS cyI b3 v3), (cS cyI b4 v4), (cS cyI b5 v5)]) (C := [(cS cyI a o8.1), (cS cyI b2 o8.2)]) (n := 8) [0, 2, 3, 5, 6, 7] [1, 4] rfl rfl rfl (by decide)
        have hP : va_P (dC, dI) vwCl (([(cH cyO q r 6 f), (cS cyI a o8.1), (cS cyI b0 v0), (cS cyI b1 v1), (cS cyI b2 o8.2), (cS cyI b3 v3), (cS cyI b4 v4), (cS cyI b5 v5)] : List va_W).flatten) H := hP.perm hq
        have hD : va_D A (([(cH cyO q r 6 f), (cS cyI a o8.1), (cS cyI b0 v0), (cS cyI b1 v1), (cS cyI b2 o8.2), (cS cyI b3 v3), (cS cyI b4 v4), (cS cyI b5 v5)] : List va_W).flatten) := hD.perm hq
        clear hq
        exact hJ15 (o8.1, v0, v1, o8.2, v3, v4, v5) _ _ _ hP hD hS (lv_sub hl [] rfl) hF
      · have hF := itn c7 hF
        by_cases c10 : p1 = (3 : Int32)
        · have hF := itp c10 hF
          refine wcRVqS (As := [.int p1]) (rest := []) (b := q) ⟨hx, hb, hml, hown, hts⟩ (met_X2_stateAt6 l dC dI cyI cyO q r f p1) (cwV 1 hts (gV w_methodLink_X2_22 w_instanceMethod_X2_stateAt w_selects_X2_stateAt w_initialized_X2 w_code_X2_stateAt) rfl rfl rfl (by decide +kernel) ⟨Nat.le_of_ble_eq_true rfl, Nat.le_of_ble_eq_true rfl⟩) (va_recv hK.1 hP (ci := 2) (q0 := 0) rfl rfl) hP hK [0, 1] rfl rfl hl.1 (Nat.le_of_ble_eq_true rfl) dX2_read_2 ⟨Nat.le_of_ble_eq_true rfl, Nat.le_of_ble_eq_true rfl⟩ hS (x := b3 0) (by rw [c10]; exact (if_neg (by decide)).trans ((if_neg (by decide)).trans hb3)) (fun H locs hP hS => ?_)
          refine lv_astore_n (lv' := [(3, .ref (b3 0)), (0, .ref q), (1, .int p1), (2, .ref (a 0))]) hx hb dX2_read_5 rfl hl (by decide) rfl (fun ls hl => ?_)
          refine lv_aload_n hx hb dX2_read_6 rfl (lv_at hl 0 rfl) ?_
          obtain ⟨j15, hj15, hF⟩ := jn_use hF
          have hJ15 : ∀ (s15 : SV × SV × SV × SV × SV × SV × SV) (H : Heap) (locs : List Loc) (ls : Array Slot), va_P (dC, dI) vwCl (([(cH cyO q r 6 f), (cS cyI a s15.1), (cS cyI b0 s15.2.1), (cS cyI b1 s15.2.2.1), (cS cyI b2 s15.2.2.2.1), (cS cyI b3 s15.2.2.2.2.1), (cS cyI b4 s15.2.2.2.2.2.1), (cS cyI b5 s15.2.2.2.2.2.2)] : List va_W).flatten) H → va_D A (([(cH cyO q r 6 f), (cS cyI a s15.1), (cS cyI b0 s15.2.1), (cS cyI b1 s15.2.2.1), (cS cyI b2 s15.2.2.2.1), (cS cyI b3 s15.2.2.2.2.1), (cS cyI b4 s15.2.2.2.2.2.1), (cS cyI b5 s15.2.2.2.2.2.2)] : List va_W).flatten) → va_S A s.heap H locs → lv_has ls 4 [] → j15 s15 = some out → W p l e (headSpec (Cond.code yX2_read cX2_read 4 none :: wT) ({ frames := 3, cells := 0, slots := 0, locals := 64 } : Room)).room s m ([.ref q, .int p1, .ref (a 0)] : List Value).toArray below meth c H locs 0 0 (MQ below (va_Qv (fun (u : SV × SV × SV × SV × SV × SV × SV) => u = out) (fun u t => va_P (dC, dI) vwCl (([(cH cyO q r 6 f), (cS cyI a u.1), (cS cyI b0 u.2.1), (cS cyI b1 u.2.2.1), (cS cyI b2 u.2.2.2.1), (cS cyI b3 u.2.2.2.2.1), (cS cyI b4 u.2.2.2.2.2.1), (cS cyI b5 u.2.2.2.2.2.2)] : List va_W).flatten) t.heap ∧ va_D A (([(cH cyO q r 6 f), (cS cyI a u.1), (cS cyI b0 u.2.1), (cS cyI b1 u.2.2.1), (cS cyI b2 u.2.2.2.1), (cS cyI b3 u.2.2.2.2.1), (cS cyI b4 u.2.2.2.2.2.1), (cS cyI b5 u.2.2.2.2.2.2)] : List va_W).flatten)) A) ([.ref q, .int p1, .ref (a 0)] : List Value).toArray s 0 0 A) (F0 m 15 ls []) := by
            intro s15 H locs ls hP hD hS hl hF
            have hF := (congrFun hj15 s15).symm.trans hF
            exact W.vret hx hb hr (fun t ht hW => ⟨⟨_, rfl, Option.some.inj hF, by rw [ht]; exact hP, hD⟩, hS.F ht⟩) hS.2.2 dX2_read_15
          refine lv_ifnull hx hb dX2_read_7 ?_
          refine lv_aload_n hx hb dX2_read_10 rfl (lv_at hl 3 rfl) ?_
          refine lv_aload_n hx hb dX2_read_11 rfl (lv_at hl 0 rfl) ?_
          obtain ⟨o11, h12, hF⟩ := obd hF
          refine wcPVv (As := [.ref (b3 0)]) (rest := []) (wr := ([(cH cyO q r 6 f), (cS cyI b0 v0), (cS cyI b1 v1), (cS cyI b2 v2), (cS cyI b4 v4), (cS cyI b5 v5)] : List va_W).flatten) (b := (a 0)) ⟨hx, hb, hml, hown, hts⟩ (met_X3_copyFrom l dC dI cyI cyO a b3 _ N v v3  o11 h12) (cwV 1 hts (gV w_methodLink_X2_26 w_instanceMethod_X3_copyFrom w_selects_X3_copyFrom w_initialized_X3 w_code_X3_copyFrom) rfl rfl rfl (by decide +kernel) ⟨Nat.le_of_ble_eq_true rfl, Nat.le_of_ble_eq_true rfl⟩) (va_recv hK.1 hP (ci := 3) (q0 := 2) rfl rfl) hP hD hK (seg_perm (n := 8) (R := [(cH cyO q r 6 f), (cS cyI b0 v0), (cS cyI b1 v1), (cS cyI b2 v2), (cS cyI b4 v4), (cS cyI b5 v5)]) (C := [(cS cyI a v), (cS cyI b3 v3)]) [0, 2, 3, 4, 6, 7] [1, 5] rfl rfl rfl (by decide) rfl) rfl hl.1 (Nat.le_of_ble_eq_true rfl) dX2_read_12 ⟨Nat.le_of_ble_eq_true rfl, Nat.le_of_ble_eq_true rfl⟩ hS hA (fun u H locs hw hP hD hS => ?_)
          have hw := hw.symm
          subst hw
          have hq := seg_permS (segs := [(cH cyO q r 6 f), (cS cyI a o11.1), (cS cyI b0 v0), (cS cyI b1 v1), (cS cyI b2 v2), (cS cyI b3 o11.2), (cS cyI b4 v4), (cS cyI b5 v5)]) (R := [(cH cyO q r 6 f), (cS cyI b0 v0), (cS cyI b1 v1), (cS cyI b2 v2), (cS cyI b4 v4), (cS cyI b5 v5)]) (C := [(cS cyI a o11.1), (cS cyI b3 o11.2)]) (n := 8) [0, 2, 3, 4, 6, 7] [1, 5] rfl rfl rfl (by decide)
          have hP : va_P (dC, dI) vwCl (([(cH cyO q r 6 f), (cS cyI a o11.1), (cS cyI b0 v0), (cS cyI b1 v1), (cS cyI b2 v2), (cS cyI b3 o11.2), (cS cyI b4 v4), (cS cyI b5 v5)] : List va_W).flatten) H := hP.perm hq
          have hD : va_D A (([(cH cyO q r 6 f), (cS cyI a o11.1), (cS cyI b0 v0), (cS cyI b1 v1), (cS cyI b2 v2), (cS cyI b3 o11.2), (cS cyI b4 v4), (cS cyI b5 v5)] : List va_W).flatten) := hD.perm hq
          clear hq
          exact hJ15 (o11.1, v0, v1, v2, o11.2, v4, v5) _ _ _ hP hD hS (lv_sub hl [] rfl) hF
        · have hF := itn c10 hF
          by_cases c13 : p1 = (4 : Int32)
          · have hF := itp c13 hF
            refine wcRVqS (As := [.int p1]) (rest := []) (b := q) ⟨hx, hb, hml, hown, hts⟩ (met_X2_stateAt6 l dC dI cyI cyO q r f p1) (cwV 1 hts (gV w_methodLink_X2_22 w_instanceMethod_X2_stateAt w_selects_X2_stateAt w_initialized_X2 w_code_X2_stateAt) rfl rfl rfl (by decide +kernel) ⟨Nat.le_of_ble_eq_true rfl, Nat.le_of_ble_eq_true rfl⟩) (va_recv hK.1 hP (ci := 2) (q0 := 0) rfl rfl) hP hK [0, 1] rfl rfl hl.1 (Nat.le_of_ble_eq_true rfl) dX2_read_2 ⟨Nat.le_of_ble_eq_true rfl, Nat.le_of_ble_eq_true rfl⟩ hS (x := b4 0) (by rw [c13]; exact (if_neg (by decide)).trans ((if_neg (by decide)).trans hb4)) (fun H locs hP hS => ?_)
            refine lv_astore_n (lv' := [(3, .ref (b4 0)), (0, .ref q), (1, .int p1), (2, .ref (a 0))]) hx hb dX2_read_5 rfl hl (by decide) rfl (fun ls hl => ?_)
            refine lv_aload_n hx hb dX2_read_6 rfl (lv_at hl 0 rfl) ?_
            obtain ⟨j15, hj15, hF⟩ := jn_use hF
            have hJ15 : ∀ (s15 : SV × SV × SV × SV × SV × SV × SV) (H : Heap) (locs : List Loc) (ls : Array Slot), va_P (dC, dI) vwCl (([(cH cyO q r 6 f), (cS cyI a s15.1), (cS cyI b0 s15.2.1), (cS cyI b1 s15.2.2.1), (cS cyI b2 s15.2.2.2.1), (cS cyI b3 s15.2.2.2.2.1), (cS cyI b4 s15.2.2.2.2.2.1), (cS cyI b5 s15.2.2.2.2.2.2)] : List va_W).flatten) H → va_D A (([(cH cyO q r 6 f), (cS cyI a s15.1), (cS cyI b0 s15.2.1), (cS cyI b1 s15.2.2.1), (cS cyI b2 s15.2.2.2.1), (cS cyI b3 s15.2.2.2.2.1), (cS cyI b4 s15.2.2.2.2.2.1), (cS cyI b5 s15.2.2.2.2.2.2)] : List va_W).flatten) → va_S A s.heap H locs → lv_has ls 4 [] → j15 s15 = some out → W p l e (headSpec (Cond.code yX2_read cX2_read 4 none :: wT) ({ frames := 3, cells := 0, slots := 0, locals := 64 } : Room)).room s m ([.ref q, .int p1, .ref (a 0)] : List Value).toArray below meth c H locs 0 0 (MQ below (va_Qv (fun (u : SV × SV × SV × SV × SV × SV × SV) => u = out) (fun u t => va_P (dC, dI) vwCl (([(cH cyO q r 6 f), (cS cyI a u.1), (cS cyI b0 u.2.1), (cS cyI b1 u.2.2.1), (cS cyI b2 u.2.2.2.1), (cS cyI b3 u.2.2.2.2.1), (cS cyI b4 u.2.2.2.2.2.1), (cS cyI b5 u.2.2.2.2.2.2)] : List va_W).flatten) t.heap ∧ va_D A (([(cH cyO q r 6 f), (cS cyI a u.1), (cS cyI b0 u.2.1), (cS cyI b1 u.2.2.1), (cS cyI b2 u.2.2.2.1), (cS cyI b3 u.2.2.2.2.1), (cS cyI b4 u.2.2.2.2.2.1), (cS cyI b5 u.2.2.2.2.2.2)] : List va_W).flatten)) A) ([.ref q, .int p1, .ref (a 0)] : List Value).toArray s 0 0 A) (F0 m 15 ls []) := by
              intro s15 H locs ls hP hD hS hl hF
              have hF := (congrFun hj15 s15).symm.trans hF
              exact W.vret hx hb hr (fun t ht hW => ⟨⟨_, rfl, Option.some.inj hF, by rw [ht]; exact hP, hD⟩, hS.F ht⟩) hS.2.2 dX2_read_15
            refine lv_ifnull hx hb dX2_read_7 ?_
            refine lv_aload_n hx hb dX2_read_10 rfl (lv_at hl 3 rfl) ?_
            refine lv_aload_n hx hb dX2_read_11 rfl (lv_at hl 0 rfl) ?_
            obtain ⟨o14, h15, hF⟩ := obd hF
            refine wcPVv (As := [.ref (b4 0)]) (rest := []) (wr := ([(cH cyO q r 6 f), (cS cyI b0 v0), (cS cyI b1 v1), (cS cyI b2 v2), (cS cyI b3 v3), (cS cyI b5 v5)] : List va_W).flatten) (b := (a 0)) ⟨hx, hb, hml, hown, hts⟩ (met_X3_copyFrom l dC dI cyI cyO a b4 _ N v v4  o14 h15) (cwV 1 hts (gV w_methodLink_X2_26 w_instanceMethod_X3_copyFrom w_selects_X3_copyFrom w_initialized_X3 w_code_X3_copyFrom) rfl rfl rfl (by decide +kernel) ⟨Nat.le_of_ble_eq_true rfl, Nat.le_of_ble_eq_true rfl⟩) (va_recv hK.1 hP (ci := 3) (q0 := 2) rfl rfl) hP hD hK (seg_perm (n := 8) (R := [(cH cyO q r 6 f), (cS cyI b0 v0), (cS cyI b1 v1), (cS cyI b2 v2), (cS cyI b3 v3), (cS cyI b5 v5)]) (C := [(cS cyI a v), (cS cyI b4 v4)]) [0, 2, 3, 4, 5, 7] [1, 6] rfl rfl rfl (by decide) rfl) rfl hl.1 (Nat.le_of_ble_eq_true rfl) dX2_read_12 ⟨Nat.le_of_ble_eq_true rfl, Nat.le_of_ble_eq_true rfl⟩ hS hA (fun u H locs hw hP hD hS => ?_)
            have hw := hw.symm
            subst hw
            have hq := seg_permS (segs := [(cH cyO q r 6 f), (cS cyI a o14.1), (cS cyI b0 v0), (cS cyI b1 v1), (cS cyI b2 v2), (cS cyI b3 v3), (cS cyI b4 o14.2), (cS cyI b5 v5)]) (R := [(cH cyO q r 6 f), (cS cyI b0 v0), (cS cyI b1 v1), (cS cyI b2 v2), (cS cyI b3 v3), (cS cyI b5 v5)]) (C := [(cS cyI a o14.1), (cS cyI b4 o14.2)]) (n := 8) [0, 2, 3, 4, 5, 7] [1, 6] rfl rfl rfl (by decide)
            have hP : va_P (dC, dI) vwCl (([(cH cyO q r 6 f), (cS cyI a o14.1), (cS cyI b0 v0), (cS cyI b1 v1), (cS cyI b2 v2), (cS cyI b3 v3), (cS cyI b4 o14.2), (cS cyI b5 v5)] : List va_W).flatten) H := hP.perm hq
            have hD : va_D A (([(cH cyO q r 6 f), (cS cyI a o14.1), (cS cyI b0 v0), (cS cyI b1 v1), (cS cyI b2 v2), (cS cyI b3 v3), (cS cyI b4 o14.2), (cS cyI b5 v5)] : List va_W).flatten) := hD.perm hq
            clear hq
            exact hJ15 (o14.1, v0, v1, v2, v3, o14.2, v5) _ _ _ hP hD hS (lv_sub hl [] rfl) hF
          · have hF := itn c13 hF
            by_cases c16 : p1 = (5 : Int32)
            · have hF := itp c16 hF
              refine wcRVqS (As := [.int p1]) (rest := []) (b := q) ⟨hx, hb, hml, hown, hts⟩ (met_X2_stateAt6 l dC dI cyI cyO q r f p1) (cwV 1 hts (gV w_methodLink_X2_22 w_instanceMethod_X2_stateAt w_selects_X2_stateAt w_initialized_X2 w_code_X2_stateAt) rfl rfl rfl (by decide +kernel) ⟨Nat.le_of_ble_eq_true rfl, Nat.le_of_ble_eq_true rfl⟩) (va_recv hK.1 hP (ci := 2) (q0 := 0) rfl rfl) hP hK [0, 1] rfl rfl hl.1 (Nat.le_of_ble_eq_true rfl) dX2_read_2 ⟨Nat.le_of_ble_eq_true rfl, Nat.le_of_ble_eq_true rfl⟩ hS (x := b5 0) (by rw [c16]; exact (if_neg (by decide)).trans ((if_neg (by decide)).trans hb5)) (fun H locs hP hS => ?_)
              refine lv_astore_n (lv' := [(3, .ref (b5 0)), (0, .ref q), (1, .int p1), (2, .ref (a 0))]) hx hb dX2_read_5 rfl hl (by decide) rfl (fun ls hl => ?_)
              refine lv_aload_n hx hb dX2_read_6 rfl (lv_at hl 0 rfl) ?_
              obtain ⟨j15, hj15, hF⟩ := jn_use hF
              have hJ15 : ∀ (s15 : SV × SV × SV × SV × SV × SV × SV) (H : Heap) (locs : List Loc) (ls : Array Slot), va_P (dC, dI) vwCl (([(cH cyO q r 6 f), (cS cyI a s15.1), (cS cyI b0 s15.2.1), (cS cyI b1 s15.2.2.1), (cS cyI b2 s15.2.2.2.1), (cS cyI b3 s15.2.2.2.2.1), (cS cyI b4 s15.2.2.2.2.2.1), (cS cyI b5 s15.2.2.2.2.2.2)] : List va_W).flatten) H → va_D A (([(cH cyO q r 6 f), (cS cyI a s15.1), (cS cyI b0 s15.2.1), (cS cyI b1 s15.2.2.1), (cS cyI b2 s15.2.2.2.1), (cS cyI b3 s15.2.2.2.2.1), (cS cyI b4 s15.2.2.2.2.2.1), (cS cyI b5 s15.2.2.2.2.2.2)] : List va_W).flatten) → va_S A s.heap H locs → lv_has ls 4 [] → j15 s15 = some out → W p l e (headSpec (Cond.code yX2_read cX2_read 4 none :: wT) ({ frames := 3, cells := 0, slots := 0, locals := 64 } : Room)).room s m ([.ref q, .int p1, .ref (a 0)] : List Value).toArray below meth c H locs 0 0 (MQ below (va_Qv (fun (u : SV × SV × SV × SV × SV × SV × SV) => u = out) (fun u t => va_P (dC, dI) vwCl (([(cH cyO q r 6 f), (cS cyI a u.1), (cS cyI b0 u.2.1), (cS cyI b1 u.2.2.1), (cS cyI b2 u.2.2.2.1), (cS cyI b3 u.2.2.2.2.1), (cS cyI b4 u.2.2.2.2.2.1), (cS cyI b5 u.2.2.2.2.2.2)] : List va_W).flatten) t.heap ∧ va_D A (([(cH cyO q r 6 f), (cS cyI a u.1), (cS cyI b0 u.2.1), (cS cyI b1 u.2.2.1), (cS cyI b2 u.2.2.2.1), (cS cyI b3 u.2.2.2.2.1), (cS cyI b4 u.2.2.2.2.2.1), (cS cyI b5 u.2.2.2.2.2.2)] : List va_W).flatten)) A) ([.ref q, .int p1, .ref (a 0)] : List Value).toArray s 0 0 A) (F0 m 15 ls []) := by
                intro s15 H locs ls hP hD hS hl hF
                have hF := (congrFun hj15 s15).symm.trans hF
                exact W.vret hx hb hr (fun t ht hW => ⟨⟨_, rfl, Option.some.inj hF, by rw [ht]; exact hP, hD⟩, hS.F ht⟩) hS.2.2 dX2_read_15
              refine lv_ifnull hx hb dX2_read_7 ?_
              refine lv_aload_n hx hb dX2_read_10 rfl (lv_at hl 3 rfl) ?_
              refine lv_aload_n hx hb dX2_read_11 rfl (lv_at hl 0 rfl) ?_
              obtain ⟨o17, h18, hF⟩ := obd hF
              refine wcPVv (As := [.ref (b5 0)]) (rest := []) (wr := ([(cH cyO q r 6 f), (cS cyI b0 v0), (cS cyI b1 v1), (cS cyI b2 v2), (cS cyI b3 v3), (cS cyI b4 v4)] : List va_W).flatten) (b := (a 0)) ⟨hx, hb, hml, hown, hts⟩ (met_X3_copyFrom l dC dI cyI cyO a b5 _ N v v5  o17 h18) (cwV 1 hts (gV w_methodLink_X2_26 w_instanceMethod_X3_copyFrom w_selects_X3_copyFrom w_initialized_X3 w_code_X3_copyFrom) rfl rfl rfl (by decide +kernel) ⟨Nat.le_of_ble_eq_true rfl, Nat.le_of_ble_eq_true rfl⟩) (va_recv hK.1 hP (ci := 3) (q0 := 2) rfl rfl) hP hD hK (seg_perm (n := 8) (R := [(cH cyO q r 6 f), (cS cyI b0 v0), (cS cyI b1 v1), (cS cyI b2 v2), (cS cyI b3 v3), (cS cyI b4 v4)]) (C := [(cS cyI a v), (cS cyI b5 v5)]) [0, 2, 3, 4, 5, 6] [1, 7] rfl rfl rfl (by decide) rfl) rfl hl.1 (Nat.le_of_ble_eq_true rfl) dX2_read_12 ⟨Nat.le_of_ble_eq_true rfl, Nat.le_of_ble_eq_true rfl⟩ hS hA (fun u H locs hw hP hD hS => ?_)
              have hw := hw.symm
              subst hw
              have hq := seg_permS (segs := [(cH cyO q r 6 f), (cS cyI a o17.1), (cS cyI b0 v0), (cS cyI b1 v1), (cS cyI b2 v2), (cS cyI b3 v3), (cS cyI b4 v4), (cS cyI b5 o17.2)]) (R := [(cH cyO q r 6 f), (cS cyI b0 v0), (cS cyI b1 v1), (cS cyI b2 v2), (cS cyI b3 v3), (cS cyI b4 v4)]) (C := [(cS cyI a o17.1), (cS cyI b5 o17.2)]) (n := 8) [0, 2, 3, 4, 5, 6] [1, 7] rfl rfl rfl (by decide)
              have hP : va_P (dC, dI) vwCl (([(cH cyO q r 6 f), (cS cyI a o17.1), (cS cyI b0 v0), (cS cyI b1 v1), (cS cyI b2 v2), (cS cyI b3 v3), (cS cyI b4 v4), (cS cyI b5 o17.2)] : List va_W).flatten) H := hP.perm hq
              have hD : va_D A (([(cH cyO q r 6 f), (cS cyI a o17.1), (cS cyI b0 v0), (cS cyI b1 v1), (cS cyI b2 v2), (cS cyI b3 v3), (cS cyI b4 v4), (cS cyI b5 o17.2)] : List va_W).flatten) := hD.perm hq
              clear hq
              exact hJ15 (o17.1, v0, v1, v2, v3, v4, o17.2) _ _ _ hP hD hS (lv_sub hl [] rfl) hF
            · have hF := itn c16 hF
              refine wcRVqN (As := [.int p1]) (rest := []) (b := q) ⟨hx, hb, hml, hown, hts⟩ (met_X2_stateAt6 l dC dI cyI cyO q r f p1) (cwV 1 hts (gV w_methodLink_X2_22 w_instanceMethod_X2_stateAt w_selects_X2_stateAt w_initialized_X2 w_code_X2_stateAt) rfl rfl rfl (by decide +kernel) ⟨Nat.le_of_ble_eq_true rfl, Nat.le_of_ble_eq_true rfl⟩) (va_recv hK.1 hP (ci := 2) (q0 := 0) rfl rfl) hP hK [0, 1] rfl rfl hl.1 (Nat.le_of_ble_eq_true rfl) dX2_read_2 ⟨Nat.le_of_ble_eq_true rfl, Nat.le_of_ble_eq_true rfl⟩ hS (shI_out6 c1 c4 c7 c10 c13 c16) (fun H locs hP hS => ?_)
              refine lv_astore_nN (lv' := [(3, .null), (0, .ref q), (1, .int p1), (2, .ref (a 0))]) hx hb dX2_read_5 rfl hl (by decide) rfl (fun ls hl => ?_)
              refine lv_aload_nN hx hb dX2_read_6 rfl (lv_at hl 0 rfl) ?_
              obtain ⟨j15, hj15, hF⟩ := jn_use hF
              have hJ15 : ∀ (s15 : SV × SV × SV × SV × SV × SV × SV) (H : Heap) (locs : List Loc) (ls : Array Slot), va_P (dC, dI) vwCl (([(cH cyO q r 6 f), (cS cyI a s15.1), (cS cyI b0 s15.2.1), (cS cyI b1 s15.2.2.1), (cS cyI b2 s15.2.2.2.1), (cS cyI b3 s15.2.2.2.2.1), (cS cyI b4 s15.2.2.2.2.2.1), (cS cyI b5 s15.2.2.2.2.2.2)] : List va_W).flatten) H → va_D A (([(cH cyO q r 6 f), (cS cyI a s15.1), (cS cyI b0 s15.2.1), (cS cyI b1 s15.2.2.1), (cS cyI b2 s15.2.2.2.1), (cS cyI b3 s15.2.2.2.2.1), (cS cyI b4 s15.2.2.2.2.2.1), (cS cyI b5 s15.2.2.2.2.2.2)] : List va_W).flatten) → va_S A s.heap H locs → lv_has ls 4 [] → j15 s15 = some out → W p l e (headSpec (Cond.code yX2_read cX2_read 4 none :: wT) ({ frames := 3, cells := 0, slots := 0, locals := 64 } : Room)).room s m ([.ref q, .int p1, .ref (a 0)] : List Value).toArray below meth c H locs 0 0 (MQ below (va_Qv (fun (u : SV × SV × SV × SV × SV × SV × SV) => u = out) (fun u t => va_P (dC, dI) vwCl (([(cH cyO q r 6 f), (cS cyI a u.1), (cS cyI b0 u.2.1), (cS cyI b1 u.2.2.1), (cS cyI b2 u.2.2.2.1), (cS cyI b3 u.2.2.2.2.1), (cS cyI b4 u.2.2.2.2.2.1), (cS cyI b5 u.2.2.2.2.2.2)] : List va_W).flatten) t.heap ∧ va_D A (([(cH cyO q r 6 f), (cS cyI a u.1), (cS cyI b0 u.2.1), (cS cyI b1 u.2.2.1), (cS cyI b2 u.2.2.2.1), (cS cyI b3 u.2.2.2.2.1), (cS cyI b4 u.2.2.2.2.2.1), (cS cyI b5 u.2.2.2.2.2.2)] : List va_W).flatten)) A) ([.ref q, .int p1, .ref (a 0)] : List Value).toArray s 0 0 A) (F0 m 15 ls []) := by
                intro s15 H locs ls hP hD hS hl hF
                have hF := (congrFun hj15 s15).symm.trans hF
                exact W.vret hx hb hr (fun t ht hW => ⟨⟨_, rfl, Option.some.inj hF, by rw [ht]; exact hP, hD⟩, hS.F ht⟩) hS.2.2 dX2_read_15
              refine lv_ifnullN (tgt := 15) hx hb dX2_read_7 (by decide) ?_
              exact hJ15 (v, v0, v1, v2, v3, v4, v5) _ _ _ hP hD hS (lv_sub hl [] rfl) hF
