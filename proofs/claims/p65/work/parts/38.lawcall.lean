/-! written by program from the bytecode: what each method computes, and its contract -/

theorem Met.ofWH {l : Launch} {y : MethodName} {ws ws' : List Cond} {rm : Room} {Pc : Array Value → State → Prop} {Qc : Array Value → State → Outcome → State → Prop} {mc ms : Nat} {free : Addr → Prop} {cc : ByteArray} {maxL : Nat} {ret : Option FieldType} {hh : List (Nat × Nat × Nat × Nat)}
    (hy : plainName y.cls = true) (hw : ws = Cond.codeWith y cc maxL ret hh :: ws')
    (body : ∀ p e s m args below meth c s₁, BodyLoose p l y (headSpec ws rm) cc maxL ret e s m args below meth c s₁ → c.maxLocals = maxL → Pc args s →
      W p l e (headSpec ws rm).room s m args below meth c s.heap [] 0 0 (MQ below Qc args s mc ms free) (entryFrame m args maxL)) : Met l y ws rm Pc Qc mc ms free := by
  refine MetFree.of_bodyS (code := cc) (maxLocals := maxL) (ret := ret) hy ?_ ?_
  · intro args s m h hn
    obtain ⟨m9, meth, c, hn9, h1, h2, h3, h4, -, h5, h6, -⟩ := Cond.codeWith_spec (atoms_spec (ws := ws) h _ (by rw [hw]; exact List.mem_cons_self))
    cases hn.symm.trans hn9
    exact ⟨meth, c, h1, h2, h3, h4, h5, h6⟩
  · intro p e s m args below meth c s₁ B hml hP _
    have hh0 : s₁.heap = s.heap := by rw [B.state]; rfl
    obtain ⟨t, a1, o, b1, b2, b3⟩ := body p e s m args below meth c s₁ B hml hP s₁ hh0 (Stand.of_body B)
    exact ⟨t, o, a1, b1, b2, ⟨b3.1, b3.2⟩⟩
theorem w_codeW_L_changes : Cond.codeWith yL_changes cL_changes 7 (some .int) [(0, 116, 119, 38), (0, 116, 123, 40), (0, 116, 127, 42)] ∈ wT := wt_in2 (List.mem_of_getElem? (i := 133) rfl) rfl
theorem w_codeW_L_looks : Cond.codeWith yL_looks cL_looks 4 (some .int) [(0, 65, 66, 42)] ∈ wT := wt_in3 (List.mem_of_getElem? (i := 88) rfl) rfl
theorem w_codeW_L_undoes : Cond.codeWith yL_undoes cL_undoes 2 (some .int) [(0, 4, 7, 42)] ∈ wT := wt_in1 (List.mem_of_getElem? (i := 219) rfl) rfl
section LAWC
variable {p : Program} {l : Launch} {e : Env} {R : Room} {s : State} {m : MethodId} {args : Array Value} {below : List Frame} {meth : Method} {c : Code} {H : Heap} {locs : List Loc} {cells slots : Nat} {Q : State → Prop} {ls : Array Slot}
variable {A : Nat → Prop} {z0 b L : Nat} {xs : Nat → Int32} {dC : Nat → ClassId} {dI : Nat → Nat → Nat} {cyI cyO : ClassId}
theorem wcLi {y : MethodName} {bytes cc : ByteArray} {maxL nL n index mc ms : Nat} {ret : Option FieldType} {hh : List (Nat × Nat × Nat × Nat)} {wsy : List Cond} {rm : Room} {Ts : List Cond} {own : String} {As rest : List Value} {pc : Nat} {ws wc wr : va_W} {σ : Type} {post : Int32 → σ → Prop} {w1 : σ → va_W} (S : CallFix p m c cc nL s args Ts own) (hM : Met l y wsy rm (wWrX z0 dC dI cyI cyO As wc H.size) (va_Qi post (fun u t => va_P (dC, dI) vwCl (w1 u) t.heap ∧ va_D (va_A wc H.size) (w1 u)) (va_A wc H.size)) mc ms (va_A wc H.size)) (cw : vx_CSW R s args own index y bytes maxL ret hh wsy rm mc ms n) (hP : va_P (dC, dI) vwCl ws H) (hD : va_D A ws) (hK : wK dC dI cyI cyO s) (hZ : wZ z0 s) (hAz : ∀ q, A q → z0 ≤ q) (hz0 : z0 ≤ s.heap.size) (hw : ws.Perm (wr ++ wc)) (hn : As.length = n) (hsize : ls.size = nL) (hst : (rest.map fun v => v.category).sum ≤ 8) (hdg : decode cc pc = .ok (.invokestatic index, 3)) (hf : cells + mc ≤ R.cells ∧ slots + ms ≤ R.slots) (hS : va_S A s.heap H locs) (hA : ∀ q : Nat, s.heap.size ≤ q → A q) (kk : ∀ (r : Int32) (u : σ) (H1 : Heap) (locs1 : List Loc), post r u → va_P (dC, dI) vwCl (wr ++ w1 u) H1 → va_D A (wr ++ w1 u) → va_S A s.heap H1 locs1 → W p l e R s m args below meth c H1 locs1 (cells + mc) (slots + ms) Q (F0 m (pc + 3) ls (.int r :: rest))) : W p l e R s m args below meth c H locs cells slots Q (F0 m pc ls (As.reverse ++ rest)) := by
  have hP := hP.perm hw
  have hD := hD.perm hw
  have hDc : va_D A wc := hD.sub _ seg_ndc seg_c
  have hFc := va_free hD hS hA _ seg_c
  have hsub := wmap_f (seg_c (wr := wr) (wc := wc))
  have J : ∀ (H1 : Heap) (w : va_W), (∀ q : Nat, q < H.size → ¬ va_A wc H.size q → H1[q]? = H[q]?) → va_P (dC, dI) vwCl w H1 → va_D (va_A wc H.size) w → va_P (dC, dI) vwCl (wr ++ w) H1 ∧ va_D A (wr ++ w) := fun H1 w hk1 h1 h2 => va_join hP hD _ _ seg_c seg_r seg_ndr seg_dis hk1 hFc h1 h2
  exact va_calli (vx_runSW (rest := rest) S hM cw ⟨wWrX_blind, fun U hU hW => ⟨rfl, by rw [hU], by rw [hU]; exact hP.sub _ hsub, wK_warm hW hK, hDc.weaken (fun k q _ h => hAz _ h), Nat.le_trans hz0 hS.1, hZ.go hS hAz hU hW⟩⟩ rfl hn hsize rfl (lv_room hst) hdg hf) hS (fun q _ h => hFc q h) hFc (fun r u t H1 locs1 ht hvm hw hB hz1 hk1 hS1 => kk r u H1 locs1 hw (J H1 (w1 u) hk1 (by rw [← ht]; exact hB.1) hB.2).1 (J H1 (w1 u) hk1 (by rw [← ht]; exact hB.1) hB.2).2 hS1)
theorem wcLp {y : MethodName} {bytes cc : ByteArray} {maxL nL n index mc ms : Nat} {ret : Option FieldType} {wsy : List Cond} {rm : Room} {Ts : List Cond} {own : String} {As rest : List Value} {pc : Nat} {ws wc wr : va_W} {σ : Type} {post : Int32 → σ → Prop} {w1 : σ → va_W} (S : CallFix p m c cc nL s args Ts own) (hM : Met l y wsy rm (wWrX z0 dC dI cyI cyO As wc H.size) (va_Qi post (fun u t => va_P (dC, dI) vwCl (w1 u) t.heap ∧ va_D (va_A wc H.size) (w1 u)) (va_A wc H.size)) mc ms (va_A wc H.size)) (cw : CallB R s args own index y bytes maxL ret wsy rm mc ms n ∧ (Cond.static y).before args s = true) (hP : va_P (dC, dI) vwCl ws H) (hD : va_D A ws) (hK : wK dC dI cyI cyO s) (hZ : wZ z0 s) (hAz : ∀ q, A q → z0 ≤ q) (hz0 : z0 ≤ s.heap.size) (hw : ws.Perm (wr ++ wc)) (hn : As.length = n) (hsize : ls.size = nL) (hst : (rest.map fun v => v.category).sum ≤ 8) (hdg : decode cc pc = .ok (.invokestatic index, 3)) (hf : cells + mc ≤ R.cells ∧ slots + ms ≤ R.slots) (hS : va_S A s.heap H locs) (hA : ∀ q : Nat, s.heap.size ≤ q → A q) (kk : ∀ (r : Int32) (u : σ) (H1 : Heap) (locs1 : List Loc), post r u → va_P (dC, dI) vwCl (wr ++ w1 u) H1 → va_D A (wr ++ w1 u) → va_S A s.heap H1 locs1 → W p l e R s m args below meth c H1 locs1 (cells + mc) (slots + ms) Q (F0 m (pc + 3) ls (.int r :: rest))) : W p l e R s m args below meth c H locs cells slots Q (F0 m pc ls (As.reverse ++ rest)) := by
  have hP := hP.perm hw
  have hD := hD.perm hw
  have hDc : va_D A wc := hD.sub _ seg_ndc seg_c
  have hFc := va_free hD hS hA _ seg_c
  have hsub := wmap_f (seg_c (wr := wr) (wc := wc))
  have J : ∀ (H1 : Heap) (w : va_W), (∀ q : Nat, q < H.size → ¬ va_A wc H.size q → H1[q]? = H[q]?) → va_P (dC, dI) vwCl w H1 → va_D (va_A wc H.size) w → va_P (dC, dI) vwCl (wr ++ w) H1 ∧ va_D A (wr ++ w) := fun H1 w hk1 h1 h2 => va_join hP hD _ _ seg_c seg_r seg_ndr seg_dis hk1 hFc h1 h2
  exact va_calli (va_runS (rest := rest) S hM cw ⟨wWrX_blind, fun U hU hW => ⟨rfl, by rw [hU], by rw [hU]; exact hP.sub _ hsub, wK_warm hW hK, hDc.weaken (fun k q _ h => hAz _ h), Nat.le_trans hz0 hS.1, hZ.go hS hAz hU hW⟩⟩ rfl hn hsize rfl (lv_room hst) hdg hf) hS (fun q _ h => hFc q h) hFc (fun r u t H1 locs1 ht hvm hw hB hz1 hk1 hS1 => kk r u H1 locs1 hw (J H1 (w1 u) hk1 (by rw [← ht]; exact hB.1) hB.2).1 (J H1 (w1 u) hk1 (by rw [← ht]; exact hB.1) hB.2).2 hS1)
end LAWC
theorem dL_low_0 : decode cL_low 0 = .ok (.iload_n 0, 1) := by decide +kernel
theorem dL_low_1 : decode cL_low 1 = .ok (.ldc 7, 2) := by decide +kernel
theorem dL_low_3 : decode cL_low 3 = .ok (.iand, 1) := by decide +kernel
theorem dL_low_4 : decode cL_low 4 = .ok (.iload_n 1, 1) := by decide +kernel
theorem dL_low_5 : decode cL_low 5 = .ok (.irem, 1) := by decide +kernel
theorem dL_low_6 : decode cL_low 6 = .ok (.ireturn, 1) := by decide +kernel
def f_L_low (N : Nat) (p1 : Int32) (p2 : Int32) : Option (Int32) :=
  gd (¬ p2 = 0) (some ((p1 &&& (2147483647 : Int32)) - (p1 &&& (2147483647 : Int32)) / p2 * p2))
set_option maxHeartbeats 4000000 in
set_option maxRecDepth 100000 in
theorem met_L_low (l : Launch) (dC : Nat → ClassId) (dI : Nat → Nat → Nat) (cyI cyO : ClassId)  (N : Nat) (p1 : Int32) (p2 : Int32) (out : Int32) (hF : f_L_low N p1 p2 = some out) : Met l yL_low (Cond.code yL_low cL_low 2 (some .int) :: wT) ({ frames := 0, cells := 0, slots := 0, locals := 0 } : Room) (wRd dC dI cyI cyO [.int p1, .int p2] ([] : va_W)) (va_Qi (fun (r : Int32) (_ : Unit) => r = out) (fun _ _ => True) wN0) 0 0 wN0 := by
  refine Met.ofW (cc := cL_low) (maxL := 2) (ret := (some .int)) (by decide) rfl ?_
  intro p e s m args below meth c s₁ B hml hv
  obtain ⟨rfl, hP, hK⟩ := hv
  have hx := B.exec
  have hb := B.bytes
  have hr := B.returns
  have hts0 := atoms_spec (ws := (Cond.code yL_low cL_low 2 (some .int) :: wT)) B.pre
  have hts := fun w h => hts0 w (List.mem_cons_of_mem _ h)
  clear hts0
  have hown : s.vm.findClass RL = some m.cls := findClass_of_methodNamed B.named
  have hlocks := B.notSynchronized
  have hS : va_S wN0 s.heap s.heap [] := va_S.rf
  have hl := lv_entry [.int p1, .int p2] (n := 2) (Nat.le_of_ble_eq_true rfl)
  rw [lg_entry_eq]
  generalize (lg_sl [.int p1, .int p2] ++ List.replicate (2 - (lg_sl [.int p1, .int p2]).length) Slot.unset).toArray = ls at hl ⊢
  have hl : lv_has ls 2 [(0, .int p1), (1, .int p2)] := hl
  unfold f_L_low at hF
  refine lv_iload_n hx hb dL_low_0 rfl (lv_at hl 0 rfl) ?_
  refine lv_ldc (v := 2147483647) hx hb hown (hts _ w_constant_L_7) dL_low_1 ?_
  refine lv_iand hx hb dL_low_3 ?_
  refine lv_iload_n hx hb dL_low_4 rfl (lv_at hl 1 rfl) ?_
  obtain ⟨hg1, hF⟩ := gd_use hF
  refine lv_irem hx hb dL_low_5 hg1 ?_
  refine W.widen (k := 0) (n := 0) (by omega) (by omega) ?_
  exact W.iret (v := ((p1 &&& (2147483647 : Int32)) - (p1 &&& (2147483647 : Int32)) / p2 * p2)) hx hb hr (fun t ht hW => ⟨⟨_, (), rfl, Option.some.inj hF, trivial⟩, hS.F ht⟩) hS.2.2 dL_low_6
theorem dL_looks_0 : decode cL_looks 0 = .ok (.iload_n 1, 1) := by decide +kernel
theorem dL_looks_1 : decode cL_looks 1 = .ok (.ifCond .ne 11, 3) := by decide +kernel
theorem dL_looks_4 : decode cL_looks 4 = .ok (.aload_n 0, 1) := by decide +kernel
theorem dL_looks_5 : decode cL_looks 5 = .ok (.iload_n 2, 1) := by decide +kernel
theorem dL_looks_6 : decode cL_looks 6 = .ok (.invokevirtual 44, 3) := by decide +kernel
theorem dL_looks_9 : decode cL_looks 9 = .ok (.goto 56, 3) := by decide +kernel
theorem dL_looks_12 : decode cL_looks 12 = .ok (.iload_n 1, 1) := by decide +kernel
theorem dL_looks_13 : decode cL_looks 13 = .ok (.iconst 1, 1) := by decide +kernel
theorem dL_looks_14 : decode cL_looks 14 = .ok (.if_icmp .ne 11, 3) := by decide +kernel
theorem dL_looks_17 : decode cL_looks 17 = .ok (.aload_n 0, 1) := by decide +kernel
theorem dL_looks_18 : decode cL_looks 18 = .ok (.iload_n 2, 1) := by decide +kernel
theorem dL_looks_19 : decode cL_looks 19 = .ok (.invokevirtual 47, 3) := by decide +kernel
theorem dL_looks_22 : decode cL_looks 22 = .ok (.goto 43, 3) := by decide +kernel
theorem dL_looks_25 : decode cL_looks 25 = .ok (.iload_n 1, 1) := by decide +kernel
theorem dL_looks_26 : decode cL_looks 26 = .ok (.iconst 2, 1) := by decide +kernel
theorem dL_looks_27 : decode cL_looks 27 = .ok (.if_icmp .ne 10, 3) := by decide +kernel
theorem dL_looks_30 : decode cL_looks 30 = .ok (.aload_n 0, 1) := by decide +kernel
theorem dL_looks_31 : decode cL_looks 31 = .ok (.invokevirtual 50, 3) := by decide +kernel
theorem dL_looks_34 : decode cL_looks 34 = .ok (.goto 31, 3) := by decide +kernel
theorem dL_looks_37 : decode cL_looks 37 = .ok (.iload_n 1, 1) := by decide +kernel
theorem dL_looks_38 : decode cL_looks 38 = .ok (.iconst 3, 1) := by decide +kernel
theorem dL_looks_39 : decode cL_looks 39 = .ok (.if_icmp .ne 10, 3) := by decide +kernel
theorem dL_looks_42 : decode cL_looks 42 = .ok (.aload_n 0, 1) := by decide +kernel
theorem dL_looks_43 : decode cL_looks 43 = .ok (.invokevirtual 53, 3) := by decide +kernel
theorem dL_looks_46 : decode cL_looks 46 = .ok (.goto 19, 3) := by decide +kernel
theorem dL_looks_49 : decode cL_looks 49 = .ok (.iload_n 1, 1) := by decide +kernel
theorem dL_looks_50 : decode cL_looks 50 = .ok (.iconst 4, 1) := by decide +kernel
theorem dL_looks_51 : decode cL_looks 51 = .ok (.if_icmp .ne 10, 3) := by decide +kernel
theorem dL_looks_54 : decode cL_looks 54 = .ok (.aload_n 0, 1) := by decide +kernel
theorem dL_looks_55 : decode cL_looks 55 = .ok (.invokevirtual 56, 3) := by decide +kernel
theorem dL_looks_58 : decode cL_looks 58 = .ok (.goto 7, 3) := by decide +kernel
theorem dL_looks_61 : decode cL_looks 61 = .ok (.aload_n 0, 1) := by decide +kernel
theorem dL_looks_62 : decode cL_looks 62 = .ok (.invokevirtual 59, 3) := by decide +kernel
theorem dL_looks_65 : decode cL_looks 65 = .ok (.ireturn, 1) := by decide +kernel
theorem dL_looks_66 : decode cL_looks 66 = .ok (.astore_n 3, 1) := by decide +kernel
theorem dL_looks_67 : decode cL_looks 67 = .ok (.bipush (-9), 2) := by decide +kernel
theorem dL_looks_69 : decode cL_looks 69 = .ok (.ireturn, 1) := by decide +kernel
def f_L_looks (N : Nat) (xv : XV) (nv : SV) (p2 : Int32) (p3 : Int32) : Option (Int32 × (XV × SV)) :=
  jn (fun (s65 : Int32) => some (s65, (xv, nv))) (fun (j65 : (Int32) → Option (Int32 × (XV × SV))) => (if p2 = 0 then (f_X5_rowOf N xv nv p3).bind (fun o21 => exc o21 (fun k => (if k = 1 then some ((-9 : Int32), (xv, nv)) else none)) (fun (ro21 : Int32) => j65 ro21)) else (if p2 = (1 : Int32) then (f_X5_distanceOf N xv nv p3).bind (fun o18 => exc o18 (fun k => (if k = 1 then some ((-9 : Int32), (xv, nv)) else none)) (fun (ro18 : Int32) => j65 ro18)) else (if p2 = (2 : Int32) then (f_X5_leader N xv nv).bind (fun o15 => exc o15 (fun k => (if k = 1 then some ((-9 : Int32), (xv, nv)) else none)) (fun (ro15 : Int32) => j65 ro15)) else (if p2 = (3 : Int32) then (f_X5_gap N xv nv).bind (fun o12 => exc o12 (fun k => (if k = 1 then some ((-9 : Int32), (xv, nv)) else none)) (fun (ro12 : Int32) => j65 ro12)) else (if p2 = (4 : Int32) then (f_X5_turn N xv nv).bind (fun o9 => exc o9 (fun k => (if k = 1 then some ((-9 : Int32), (xv, nv)) else none)) (fun (ro9 : Int32) => j65 ro9)) else (f_X5_jackRow N xv nv).bind (fun o6 => exc o6 (fun k => (if k = 1 then some ((-9 : Int32), (xv, nv)) else none)) (fun (ro6 : Int32) => j65 ro6))))))))
set_option maxHeartbeats 4000000 in
set_option maxRecDepth 100000 in
theorem met_L_looks (l : Launch) (z0 : Nat) (hst : l.stackTraces = false) (dC : Nat → ClassId) (dI : Nat → Nat → Nat) (cyI cyO : ClassId) (x : Nat → Nat) (tr : Nat → Nat) (an : Nat → Nat) (fl fs : Nat → Option Nat) (sz : Nat) (N : Nat) (xv : XV) (nv : SV) (p2 : Int32) (p3 : Int32) (out : Int32 × (XV × SV)) (hF : f_L_looks N xv nv p2 p3 = some out) : Met l yL_looks (Cond.codeWith yL_looks cL_looks 4 (some .int) [(0, 65, 66, 42)] :: wT) ({ frames := 8, cells := 9, slots := 54, locals := 124 } : Room) (wWrX z0 dC dI cyI cyO [.ref (x 0), .int p2, .int p3] (([(cXo x an tr xv), (cH cyO (x 1) (x 2) 2 fl), (cXk cyI x xv), (cH cyO (x 4) (x 5) 6 fs), (cT cyI x (X_text xv)), (cSo an nv), (cG cyI an (S_green nv)), (cV cyI an (S_score nv))] : List va_W).flatten) sz) (va_Qi (fun (r : Int32) (u : XV × SV) => (r, u) = out) (fun u t => va_P (dC, dI) vwCl (([(cXo x an tr u.1), (cH cyO (x 1) (x 2) 2 fl), (cXk cyI x u.1), (cH cyO (x 4) (x 5) 6 fs), (cT cyI x (X_text u.1)), (cSo an u.2), (cG cyI an (S_green u.2)), (cV cyI an (S_score u.2))] : List va_W).flatten) t.heap ∧ va_D (va_A (([(cXo x an tr xv), (cH cyO (x 1) (x 2) 2 fl), (cXk cyI x xv), (cH cyO (x 4) (x 5) 6 fs), (cT cyI x (X_text xv)), (cSo an nv), (cG cyI an (S_green nv)), (cV cyI an (S_score nv))] : List va_W).flatten) sz) (([(cXo x an tr u.1), (cH cyO (x 1) (x 2) 2 fl), (cXk cyI x u.1), (cH cyO (x 4) (x 5) 6 fs), (cT cyI x (X_text u.1)), (cSo an u.2), (cG cyI an (S_green u.2)), (cV cyI an (S_score u.2))] : List va_W).flatten)) (va_A (([(cXo x an tr xv), (cH cyO (x 1) (x 2) 2 fl), (cXk cyI x xv), (cH cyO (x 4) (x 5) 6 fs), (cT cyI x (X_text xv)), (cSo an nv), (cG cyI an (S_green nv)), (cV cyI an (S_score nv))] : List va_W).flatten) sz)) 9 54 (va_A (([(cXo x an tr xv), (cH cyO (x 1) (x 2) 2 fl), (cXk cyI x xv), (cH cyO (x 4) (x 5) 6 fs), (cT cyI x (X_text xv)), (cSo an nv), (cG cyI an (S_green nv)), (cV cyI an (S_score nv))] : List va_W).flatten) sz) := by
  refine Met.ofWH (cc := cL_looks) (maxL := 4) (ret := (some .int)) (by decide) rfl ?_
  intro p e s m args below meth c s₁ B hml hv
  obtain ⟨rfl, hsz, hP, hK, hD0, hz0, hZ⟩ := hv
  have hTab := vx_table (x := yL_looks) B (atoms_spec (ws := (Cond.codeWith yL_looks cL_looks 4 (some .int) [(0, 65, 66, 42)] :: wT)) B.pre _ List.mem_cons_self)
  have hx := B.exec
  have hb := B.bytes
  have hr := B.returns
  have hts0 := atoms_spec (ws := (Cond.codeWith yL_looks cL_looks 4 (some .int) [(0, 65, 66, 42)] :: wT)) B.pre
  have hts := fun w h => hts0 w (List.mem_cons_of_mem _ h)
  clear hts0
  have hown : s.vm.findClass RL = some m.cls := findClass_of_methodNamed B.named
  have hlocks := B.notSynchronized
  subst hsz
  have hD := hD0.self (sz := s.heap.size)
  have hAz := wA_ge hD0 hz0
  generalize hAe : va_A (([(cXo x an tr xv), (cH cyO (x 1) (x 2) 2 fl), (cXk cyI x xv), (cH cyO (x 4) (x 5) 6 fs), (cT cyI x (X_text xv)), (cSo an nv), (cG cyI an (S_green nv)), (cV cyI an (S_score nv))] : List va_W).flatten) s.heap.size = A at hD hAz ⊢
  have hA : ∀ q : Nat, s.heap.size ≤ q → A q := fun q h => by rw [← hAe]; exact Or.inr h
  clear hD0
  have hS : va_S A s.heap s.heap [] := va_S.rf
  have hl := lv_entry [.ref (x 0), .int p2, .int p3] (n := 4) (Nat.le_of_ble_eq_true rfl)
  rw [lg_entry_eq]
  generalize (lg_sl [.ref (x 0), .int p2, .int p3] ++ List.replicate (4 - (lg_sl [.ref (x 0), .int p2, .int p3]).length) Slot.unset).toArray = ls at hl ⊢
  have hl : lv_has ls 4 [(0, .ref (x 0)), (1, .int p2), (2, .int p3)] := hl
  unfold f_L_looks at hF
  refine lv_iload_n hx hb dL_looks_0 rfl (lv_at hl 1 rfl) ?_
  obtain ⟨j65, hj65, hF⟩ := jn_use hF
  have hJ65 : ∀ (s65 : Int32) (H : Heap) (locs : List Loc) (ls : Array Slot), va_P (dC, dI) vwCl (([(cXo x an tr xv), (cH cyO (x 1) (x 2) 2 fl), (cXk cyI x xv), (cH cyO (x 4) (x 5) 6 fs), (cT cyI x (X_text xv)), (cSo an nv), (cG cyI an (S_green nv)), (cV cyI an (S_score nv))] : List va_W).flatten) H → va_D A (([(cXo x an tr xv), (cH cyO (x 1) (x 2) 2 fl), (cXk cyI x xv), (cH cyO (x 4) (x 5) 6 fs), (cT cyI x (X_text xv)), (cSo an nv), (cG cyI an (S_green nv)), (cV cyI an (S_score nv))] : List va_W).flatten) → va_S A s.heap H locs → lv_has ls 4 [] → j65 s65 = some out → W p l e (headSpec (Cond.codeWith yL_looks cL_looks 4 (some .int) [(0, 65, 66, 42)] :: wT) ({ frames := 8, cells := 9, slots := 54, locals := 124 } : Room)).room s m ([.ref (x 0), .int p2, .int p3] : List Value).toArray below meth c H locs 9 54 (MQ below (va_Qi (fun (r : Int32) (u : XV × SV) => (r, u) = out) (fun u t => va_P (dC, dI) vwCl (([(cXo x an tr u.1), (cH cyO (x 1) (x 2) 2 fl), (cXk cyI x u.1), (cH cyO (x 4) (x 5) 6 fs), (cT cyI x (X_text u.1)), (cSo an u.2), (cG cyI an (S_green u.2)), (cV cyI an (S_score u.2))] : List va_W).flatten) t.heap ∧ va_D A (([(cXo x an tr u.1), (cH cyO (x 1) (x 2) 2 fl), (cXk cyI x u.1), (cH cyO (x 4) (x 5) 6 fs), (cT cyI x (X_text u.1)), (cSo an u.2), (cG cyI an (S_green u.2)), (cV cyI an (S_score u.2))] : List va_W).flatten)) A) ([.ref (x 0), .int p2, .int p3] : List Value).toArray s 9 54 A) (F0 m 65 ls [.int s65]) := by
    intro s65 H locs ls hP hD hS hl hF
    have hF := (congrFun hj65 s65).symm.trans hF
    refine W.widen (k := 9) (n := 54) (by omega) (by omega) ?_
    exact W.iret (v := s65) hx hb hr (fun t ht hW => ⟨⟨_, (xv, nv), rfl, Option.some.inj hF, by rw [ht]; exact hP, hD⟩, hS.F ht⟩) hS.2.2 dL_looks_65
  refine lv_if_ne (tgt := 12) hx hb dL_looks_1 (by decide) (fun c1 => ?_) (fun c1 => ?_)
  · have hF := itn c1 hF
    refine lv_iload_n hx hb dL_looks_12 rfl (lv_at hl 1 rfl) ?_
    refine lv_iconst (v := 1) hx hb dL_looks_13 (by decide) ?_
    refine lv_icmp_ne (tgt := 25) hx hb dL_looks_14 (by decide) (fun c2 => ?_) (fun c2 => ?_)
    · have hF := itn c2 hF
      refine lv_iload_n hx hb dL_looks_25 rfl (lv_at hl 1 rfl) ?_
      refine lv_iconst (v := 2) hx hb dL_looks_26 (by decide) ?_
      refine lv_icmp_ne (tgt := 37) hx hb dL_looks_27 (by decide) (fun c3 => ?_) (fun c3 => ?_)
      · have hF := itn c3 hF
        refine lv_iload_n hx hb dL_looks_37 rfl (lv_at hl 1 rfl) ?_
        refine lv_iconst (v := 3) hx hb dL_looks_38 (by decide) ?_
        refine lv_icmp_ne (tgt := 49) hx hb dL_looks_39 (by decide) (fun c4 => ?_) (fun c4 => ?_)
        · have hF := itn c4 hF
          refine lv_iload_n hx hb dL_looks_49 rfl (lv_at hl 1 rfl) ?_
          refine lv_iconst (v := 4) hx hb dL_looks_50 (by decide) ?_
          refine lv_icmp_ne (tgt := 61) hx hb dL_looks_51 (by decide) (fun c5 => ?_) (fun c5 => ?_)
          · have hF := itn c5 hF
            refine lv_aload_n hx hb dL_looks_61 rfl (lv_at hl 0 rfl) ?_
            obtain ⟨o6, h7, hF⟩ := obd hF
            refine wxRVi (As := []) (rest := []) (b := (x 0)) ⟨hx, hb, hml, hown, hts⟩ (met_X5_jackRow l z0 hst dC dI cyI cyO x tr an fl fs N xv nv  o6 h7) (cwV 0 hts (gV w_methodLink_L_59 w_instanceMethod_X5_jackRow w_selects_X5_jackRow w_initialized_X5 w_code_X5_jackRow) rfl rfl rfl (by decide +kernel) ⟨Nat.le_of_ble_eq_true rfl, Nat.le_of_ble_eq_true rfl⟩) (va_recv hK.1 hP (ci := 5) (q0 := 0) rfl rfl) hP hK hZ hAz [0, 1, 2, 3, 4, 5, 6, 7, 8, 9, 10, 11, 12, 13, 14, 15, 16, 17, 18, 19, 20] rfl rfl hl.1 (Nat.le_of_ble_eq_true rfl) dL_looks_62 ⟨(show _ ≤ 9 from by omega), (show _ ≤ 54 from by omega)⟩ hS (fun k ce q9 H locs hw hP hS h9 hv9 hc9 => ?_) (fun ro6 H locs hw hP hS => ?_)
            · have hw := hw.symm
              subst hw
              have hF := exc_l hF
              by_cases c8 : k = 1
              · subst c8
                have hF := itp rfl hF
                refine vx_catch (E := eIS) (name := eIS) hown [] ⟨0, 65, 66, 42⟩ [] hTab (fun z hz => nomatch hz) (by decide) (by decide) (hts _ w_classLink_L_42) (hZ.2.2.2.1.use _ (by decide)) h9 hv9 hc9 ?_
                refine lv_astore_n (lv' := [(3, .ref q9), (0, .ref (x 0)), (1, .int p2), (2, .int p3)]) hx hb dL_looks_66 rfl hl (by decide) rfl (fun ls hl => ?_)
                refine lv_bipush (v := -9) hx hb dL_looks_67 (by decide) ?_
                refine W.widen (k := 9) (n := 54) (by omega) (by omega) ?_
                exact W.iret (v := (-9 : Int32)) hx hb hr (fun t ht hW => ⟨⟨_, (xv, nv), rfl, Option.some.inj hF, by rw [ht]; exact hP, hD⟩, hS.F ht⟩) hS.2.2 dL_looks_69
              · have hF := itn c8 hF
                cases hF
            · skip
              have hw := hw.symm
              subst hw
              have hF := exc_r hF
              refine W.widen (k := 9) (n := 54) (by omega) (by omega) ?_
              exact hJ65 ro6 _ _ _ hP hD hS (lv_sub hl [] rfl) hF
          · have hF := itp c5 hF
            refine lv_aload_n hx hb dL_looks_54 rfl (lv_at hl 0 rfl) ?_
            obtain ⟨o9, h10, hF⟩ := obd hF
            refine wxRVi (As := []) (rest := []) (b := (x 0)) ⟨hx, hb, hml, hown, hts⟩ (met_X5_turn l z0 hst dC dI cyI cyO x tr an fl fs N xv nv  o9 h10) (cwV 0 hts (gV w_methodLink_L_56 w_instanceMethod_X5_turn w_selects_X5_turn w_initialized_X5 w_code_X5_turn) rfl rfl rfl (by decide +kernel) ⟨Nat.le_of_ble_eq_true rfl, Nat.le_of_ble_eq_true rfl⟩) (va_recv hK.1 hP (ci := 5) (q0 := 0) rfl rfl) hP hK hZ hAz [0, 1, 2, 3, 4, 5, 6, 7, 8, 9, 10, 11, 12, 13, 14, 15, 16, 17, 18, 19, 20] rfl rfl hl.1 (Nat.le_of_ble_eq_true rfl) dL_looks_55 ⟨(show _ ≤ 9 from by omega), (show _ ≤ 54 from by omega)⟩ hS (fun k ce q9 H locs hw hP hS h9 hv9 hc9 => ?_) (fun ro9 H locs hw hP hS => ?_)
            · have hw := hw.symm
              subst hw
              have hF := exc_l hF
              by_cases c11 : k = 1
              · subst c11
                have hF := itp rfl hF
                refine vx_catch (E := eIS) (name := eIS) hown [] ⟨0, 65, 66, 42⟩ [] hTab (fun z hz => nomatch hz) (by decide) (by decide) (hts _ w_classLink_L_42) (hZ.2.2.2.1.use _ (by decide)) h9 hv9 hc9 ?_
                refine lv_astore_n (lv' := [(3, .ref q9), (0, .ref (x 0)), (1, .int p2), (2, .int p3)]) hx hb dL_looks_66 rfl hl (by decide) rfl (fun ls hl => ?_)
                refine lv_bipush (v := -9) hx hb dL_looks_67 (by decide) ?_
                refine W.widen (k := 9) (n := 54) (by omega) (by omega) ?_
                exact W.iret (v := (-9 : Int32)) hx hb hr (fun t ht hW => ⟨⟨_, (xv, nv), rfl, Option.some.inj hF, by rw [ht]; exact hP, hD⟩, hS.F ht⟩) hS.2.2 dL_looks_69
              · have hF := itn c11 hF
                cases hF
            · skip
              have hw := hw.symm
              subst hw
              have hF := exc_r hF
              refine lv_goto (tgt := 65) hx hb dL_looks_58 (by decide) ?_
              refine W.widen (k := 9) (n := 54) (by omega) (by omega) ?_
              exact hJ65 ro9 _ _ _ hP hD hS (lv_sub hl [] rfl) hF
        · have hF := itp c4 hF
          refine lv_aload_n hx hb dL_looks_42 rfl (lv_at hl 0 rfl) ?_
          obtain ⟨o12, h13, hF⟩ := obd hF
          refine wxRVi (As := []) (rest := []) (b := (x 0)) ⟨hx, hb, hml, hown, hts⟩ (met_X5_gap l z0 hst dC dI cyI cyO x tr an fl fs N xv nv  o12 h13) (cwV 0 hts (gV w_methodLink_L_53 w_instanceMethod_X5_gap w_selects_X5_gap w_initialized_X5 w_code_X5_gap) rfl rfl rfl (by decide +kernel) ⟨Nat.le_of_ble_eq_true rfl, Nat.le_of_ble_eq_true rfl⟩) (va_recv hK.1 hP (ci := 5) (q0 := 0) rfl rfl) hP hK hZ hAz [0, 1, 2, 3, 4, 5, 6, 7, 8, 9, 10, 11, 12, 13, 14, 15, 16, 17, 18, 19, 20] rfl rfl hl.1 (Nat.le_of_ble_eq_true rfl) dL_looks_43 ⟨(show _ ≤ 9 from by omega), (show _ ≤ 54 from by omega)⟩ hS (fun k ce q9 H locs hw hP hS h9 hv9 hc9 => ?_) (fun ro12 H locs hw hP hS => ?_)
          · have hw := hw.symm
            subst hw
            have hF := exc_l hF
            by_cases c14 : k = 1
            · subst c14
              have hF := itp rfl hF
              refine vx_catch (E := eIS) (name := eIS) hown [] ⟨0, 65, 66, 42⟩ [] hTab (fun z hz => nomatch hz) (by decide) (by decide) (hts _ w_classLink_L_42) (hZ.2.2.2.1.use _ (by decide)) h9 hv9 hc9 ?_
              refine lv_astore_n (lv' := [(3, .ref q9), (0, .ref (x 0)), (1, .int p2), (2, .int p3)]) hx hb dL_looks_66 rfl hl (by decide) rfl (fun ls hl => ?_)
              refine lv_bipush (v := -9) hx hb dL_looks_67 (by decide) ?_
              refine W.widen (k := 9) (n := 54) (by omega) (by omega) ?_
              exact W.iret (v := (-9 : Int32)) hx hb hr (fun t ht hW => ⟨⟨_, (xv, nv), rfl, Option.some.inj hF, by rw [ht]; exact hP, hD⟩, hS.F ht⟩) hS.2.2 dL_looks_69
            · have hF := itn c14 hF
              cases hF
          · skip
            have hw := hw.symm
            subst hw
            have hF := exc_r hF
            refine lv_goto (tgt := 65) hx hb dL_looks_46 (by decide) ?_
            refine W.widen (k := 9) (n := 54) (by omega) (by omega) ?_
            exact hJ65 ro12 _ _ _ hP hD hS (lv_sub hl [] rfl) hF
      · have hF := itp c3 hF
        refine lv_aload_n hx hb dL_looks_30 rfl (lv_at hl 0 rfl) ?_
        obtain ⟨o15, h16, hF⟩ := obd hF
        refine wxRVi (As := []) (rest := []) (b := (x 0)) ⟨hx, hb, hml, hown, hts⟩ (met_X5_leader l z0 hst dC dI cyI cyO x tr an fl fs N xv nv  o15 h16) (cwV 0 hts (gV w_methodLink_L_50 w_instanceMethod_X5_leader w_selects_X5_leader w_initialized_X5 w_code_X5_leader) rfl rfl rfl (by decide +kernel) ⟨Nat.le_of_ble_eq_true rfl, Nat.le_of_ble_eq_true rfl⟩) (va_recv hK.1 hP (ci := 5) (q0 := 0) rfl rfl) hP hK hZ hAz [0, 1, 2, 3, 4, 5, 6, 7, 8, 9, 10, 11, 12, 13, 14, 15, 16, 17, 18, 19, 20] rfl rfl hl.1 (Nat.le_of_ble_eq_true rfl) dL_looks_31 ⟨(show _ ≤ 9 from by omega), (show _ ≤ 54 from by omega)⟩ hS (fun k ce q9 H locs hw hP hS h9 hv9 hc9 => ?_) (fun ro15 H locs hw hP hS => ?_)
        · have hw := hw.symm
          subst hw
          have hF := exc_l hF
          by_cases c17 : k = 1
          · subst c17
            have hF := itp rfl hF
            refine vx_catch (E := eIS) (name := eIS) hown [] ⟨0, 65, 66, 42⟩ [] hTab (fun z hz => nomatch hz) (by decide) (by decide) (hts _ w_classLink_L_42) (hZ.2.2.2.1.use _ (by decide)) h9 hv9 hc9 ?_
            refine lv_astore_n (lv' := [(3, .ref q9), (0, .ref (x 0)), (1, .int p2), (2, .int p3)]) hx hb dL_looks_66 rfl hl (by decide) rfl (fun ls hl => ?_)
            refine lv_bipush (v := -9) hx hb dL_looks_67 (by decide) ?_
            refine W.widen (k := 9) (n := 54) (by omega) (by omega) ?_
            exact W.iret (v := (-9 : Int32)) hx hb hr (fun t ht hW => ⟨⟨_, (xv, nv), rfl, Option.some.inj hF, by rw [ht]; exact hP, hD⟩, hS.F ht⟩) hS.2.2 dL_looks_69
          · have hF := itn c17 hF
            cases hF
        · skip
          have hw := hw.symm
          subst hw
          have hF := exc_r hF
          refine lv_goto (tgt := 65) hx hb dL_looks_34 (by decide) ?_
          refine W.widen (k := 9) (n := 54) (by omega) (by omega) ?_
          exact hJ65 ro15 _ _ _ hP hD hS (lv_sub hl [] rfl) hF
    · have hF := itp c2 hF
      refine lv_aload_n hx hb dL_looks_17 rfl (lv_at hl 0 rfl) ?_
      refine lv_iload_n hx hb dL_looks_18 rfl (lv_at hl 2 rfl) ?_
      obtain ⟨o18, h19, hF⟩ := obd hF
      refine wxRVi (As := [.int p3]) (rest := []) (b := (x 0)) ⟨hx, hb, hml, hown, hts⟩ (met_X5_distanceOf l z0 hst dC dI cyI cyO x tr an fl fs N xv nv p3 o18 h19) (cwV 1 hts (gV w_methodLink_L_47 w_instanceMethod_X5_distanceOf w_selects_X5_distanceOf w_initialized_X5 w_code_X5_distanceOf) rfl rfl rfl (by decide +kernel) ⟨Nat.le_of_ble_eq_true rfl, Nat.le_of_ble_eq_true rfl⟩) (va_recv hK.1 hP (ci := 5) (q0 := 0) rfl rfl) hP hK hZ hAz [0, 1, 2, 3, 4, 5, 6, 7, 8, 9, 10, 11, 12, 13, 14, 15, 16, 17, 18, 19, 20] rfl rfl hl.1 (Nat.le_of_ble_eq_true rfl) dL_looks_19 ⟨(show _ ≤ 9 from by omega), (show _ ≤ 54 from by omega)⟩ hS (fun k ce q9 H locs hw hP hS h9 hv9 hc9 => ?_) (fun ro18 H locs hw hP hS => ?_)
      · have hw := hw.symm
        subst hw
        have hF := exc_l hF
        by_cases c20 : k = 1
        · subst c20
          have hF := itp rfl hF
          refine vx_catch (E := eIS) (name := eIS) hown [] ⟨0, 65, 66, 42⟩ [] hTab (fun z hz => nomatch hz) (by decide) (by decide) (hts _ w_classLink_L_42) (hZ.2.2.2.1.use _ (by decide)) h9 hv9 hc9 ?_
          refine lv_astore_n (lv' := [(3, .ref q9), (0, .ref (x 0)), (1, .int p2), (2, .int p3)]) hx hb dL_looks_66 rfl hl (by decide) rfl (fun ls hl => ?_)
          refine lv_bipush (v := -9) hx hb dL_looks_67 (by decide) ?_
          refine W.widen (k := 9) (n := 54) (by omega) (by omega) ?_
          exact W.iret (v := (-9 : Int32)) hx hb hr (fun t ht hW => ⟨⟨_, (xv, nv), rfl, Option.some.inj hF, by rw [ht]; exact hP, hD⟩, hS.F ht⟩) hS.2.2 dL_looks_69
        · have hF := itn c20 hF
          cases hF
      · skip
        have hw := hw.symm
        subst hw
        have hF := exc_r hF
        refine lv_goto (tgt := 65) hx hb dL_looks_22 (by decide) ?_
        refine W.widen (k := 9) (n := 54) (by omega) (by omega) ?_
        exact hJ65 ro18 _ _ _ hP hD hS (lv_sub hl [] rfl) hF
  · have hF := itp c1 hF
    refine lv_aload_n hx hb dL_looks_4 rfl (lv_at hl 0 rfl) ?_
    refine lv_iload_n hx hb dL_looks_5 rfl (lv_at hl 2 rfl) ?_
    obtain ⟨o21, h22, hF⟩ := obd hF
    refine wxRVi (As := [.int p3]) (rest := []) (b := (x 0)) ⟨hx, hb, hml, hown, hts⟩ (met_X5_rowOf l z0 hst dC dI cyI cyO x tr an fl fs N xv nv p3 o21 h22) (cwV 1 hts (gV w_methodLink_L_44 w_instanceMethod_X5_rowOf w_selects_X5_rowOf w_initialized_X5 w_code_X5_rowOf) rfl rfl rfl (by decide +kernel) ⟨Nat.le_of_ble_eq_true rfl, Nat.le_of_ble_eq_true rfl⟩) (va_recv hK.1 hP (ci := 5) (q0 := 0) rfl rfl) hP hK hZ hAz [0, 1, 2, 3, 4, 5, 6, 7, 8, 9, 10, 11, 12, 13, 14, 15, 16, 17, 18, 19, 20] rfl rfl hl.1 (Nat.le_of_ble_eq_true rfl) dL_looks_6 ⟨(show _ ≤ 9 from by omega), (show _ ≤ 54 from by omega)⟩ hS (fun k ce q9 H locs hw hP hS h9 hv9 hc9 => ?_) (fun ro21 H locs hw hP hS => ?_)
    · have hw := hw.symm
      subst hw
      have hF := exc_l hF
      by_cases c23 : k = 1
      · subst c23
        have hF := itp rfl hF
        refine vx_catch (E := eIS) (name := eIS) hown [] ⟨0, 65, 66, 42⟩ [] hTab (fun z hz => nomatch hz) (by decide) (by decide) (hts _ w_classLink_L_42) (hZ.2.2.2.1.use _ (by decide)) h9 hv9 hc9 ?_
        refine lv_astore_n (lv' := [(3, .ref q9), (0, .ref (x 0)), (1, .int p2), (2, .int p3)]) hx hb dL_looks_66 rfl hl (by decide) rfl (fun ls hl => ?_)
        refine lv_bipush (v := -9) hx hb dL_looks_67 (by decide) ?_
        refine W.widen (k := 9) (n := 54) (by omega) (by omega) ?_
        exact W.iret (v := (-9 : Int32)) hx hb hr (fun t ht hW => ⟨⟨_, (xv, nv), rfl, Option.some.inj hF, by rw [ht]; exact hP, hD⟩, hS.F ht⟩) hS.2.2 dL_looks_69
      · have hF := itn c23 hF
        cases hF
    · skip
      have hw := hw.symm
      subst hw
      have hF := exc_r hF
      refine lv_goto (tgt := 65) hx hb dL_looks_9 (by decide) ?_
      refine W.widen (k := 9) (n := 54) (by omega) (by omega) ?_
      exact hJ65 ro21 _ _ _ hP hD hS (lv_sub hl [] rfl) hF
theorem dL_undoes_0 : decode cL_undoes 0 = .ok (.aload_n 0, 1) := by decide +kernel
theorem dL_undoes_1 : decode cL_undoes 1 = .ok (.invokevirtual 62, 3) := by decide +kernel
theorem dL_undoes_4 : decode cL_undoes 4 = .ok (.goto 6, 3) := by decide +kernel
theorem dL_undoes_7 : decode cL_undoes 7 = .ok (.astore_n 1, 1) := by decide +kernel
theorem dL_undoes_8 : decode cL_undoes 8 = .ok (.iconst (-1), 1) := by decide +kernel
theorem dL_undoes_9 : decode cL_undoes 9 = .ok (.ireturn, 1) := by decide +kernel
theorem dL_undoes_10 : decode cL_undoes 10 = .ok (.aload_n 0, 1) := by decide +kernel
theorem dL_undoes_11 : decode cL_undoes 11 = .ok (.invokevirtual 65, 3) := by decide +kernel
theorem dL_undoes_14 : decode cL_undoes 14 = .ok (.ireturn, 1) := by decide +kernel
def f_L_undoes (N : Nat) (xv : XV) (nv : SV) (v0 : SV) (v1 : SV) (v2 : SV) (v3 : SV) (v4 : SV) (v5 : SV) : Option (Int32 × (XV × SV × SV × SV × SV × SV × SV × SV)) :=
  (f_X5_undo N xv nv v0 v1 v2 v3 v4 v5).bind (fun o1 => exc o1.1 (fun k => (if k = 1 then some ((-1 : Int32), (o1.2.1, o1.2.2.1, o1.2.2.2.1, o1.2.2.2.2.1, o1.2.2.2.2.2.1, o1.2.2.2.2.2.2.1, o1.2.2.2.2.2.2.2.1, o1.2.2.2.2.2.2.2.2)) else none)) (fun (_ : Unit) => (f_X5_savedStates N o1.2.1).bind (fun o4 => some (o4, (o1.2.1, o1.2.2.1, o1.2.2.2.1, o1.2.2.2.2.1, o1.2.2.2.2.2.1, o1.2.2.2.2.2.2.1, o1.2.2.2.2.2.2.2.1, o1.2.2.2.2.2.2.2.2)))))
set_option maxHeartbeats 4000000 in
set_option maxRecDepth 100000 in
theorem met_L_undoes (l : Launch) (z0 : Nat) (hst : l.stackTraces = false) (dC : Nat → ClassId) (dI : Nat → Nat → Nat) (cyI cyO : ClassId) (x : Nat → Nat) (tr : Nat → Nat) (an : Nat → Nat) (b0 : Nat → Nat) (b1 : Nat → Nat) (b2 : Nat → Nat) (b3 : Nat → Nat) (b4 : Nat → Nat) (b5 : Nat → Nat) (fl fs : Nat → Option Nat) (sz : Nat) (N : Nat) (xv : XV) (nv : SV) (v0 : SV) (v1 : SV) (v2 : SV) (v3 : SV) (v4 : SV) (v5 : SV) (hs0 : fs 0 = some (b0 0)) (hs1 : fs 1 = some (b1 0)) (hs2 : fs 2 = some (b2 0)) (hs3 : fs 3 = some (b3 0)) (hs4 : fs 4 = some (b4 0)) (hs5 : fs 5 = some (b5 0)) (out : Int32 × (XV × SV × SV × SV × SV × SV × SV × SV)) (hF : f_L_undoes N xv nv v0 v1 v2 v3 v4 v5 = some out) : Met l yL_undoes (Cond.codeWith yL_undoes cL_undoes 2 (some .int) [(0, 4, 7, 42)] :: wT) ({ frames := 7, cells := 1, slots := 6, locals := 107 } : Room) (wWrX z0 dC dI cyI cyO [.ref (x 0)] (([(cXo x an tr xv), (cH cyO (x 1) (x 2) 2 fl), (cXk cyI x xv), (cH cyO (x 4) (x 5) 6 fs), (cT cyI x (X_text xv)), (cSo an nv), (cG cyI an (S_green nv)), (cV cyI an (S_score nv)), (cS cyI b0 v0), (cS cyI b1 v1), (cS cyI b2 v2), (cS cyI b3 v3), (cS cyI b4 v4), (cS cyI b5 v5)] : List va_W).flatten) sz) (va_Qi (fun (r : Int32) (u : XV × SV × SV × SV × SV × SV × SV × SV) => (r, u) = out) (fun u t => va_P (dC, dI) vwCl (([(cXo x an tr u.1), (cH cyO (x 1) (x 2) 2 fl), (cXk cyI x u.1), (cH cyO (x 4) (x 5) 6 fs), (cT cyI x (X_text u.1)), (cSo an u.2.1), (cG cyI an (S_green u.2.1)), (cV cyI an (S_score u.2.1)), (cS cyI b0 u.2.2.1), (cS cyI b1 u.2.2.2.1), (cS cyI b2 u.2.2.2.2.1), (cS cyI b3 u.2.2.2.2.2.1), (cS cyI b4 u.2.2.2.2.2.2.1), (cS cyI b5 u.2.2.2.2.2.2.2)] : List va_W).flatten) t.heap ∧ va_D (va_A (([(cXo x an tr xv), (cH cyO (x 1) (x 2) 2 fl), (cXk cyI x xv), (cH cyO (x 4) (x 5) 6 fs), (cT cyI x (X_text xv)), (cSo an nv), (cG cyI an (S_green nv)), (cV cyI an (S_score nv)), (cS cyI b0 v0), (cS cyI b1 v1), (cS cyI b2 v2), (cS cyI b3 v3), (cS cyI b4 v4), (cS cyI b5 v5)] : List va_W).flatten) sz) (([(cXo x an tr u.1), (cH cyO (x 1) (x 2) 2 fl), (cXk cyI x u.1), (cH cyO (x 4) (x 5) 6 fs), (cT cyI x (X_text u.1)), (cSo an u.2.1), (cG cyI an (S_green u.2.1)), (cV cyI an (S_score u.2.1)), (cS cyI b0 u.2.2.1), (cS cyI b1 u.2.2.2.1), (cS cyI b2 u.2.2.2.2.1), (cS cyI b3 u.2.2.2.2.2.1), (cS cyI b4 u.2.2.2.2.2.2.1), (cS cyI b5 u.2.2.2.2.2.2.2)] : List va_W).flatten)) (va_A (([(cXo x an tr xv), (cH cyO (x 1) (x 2) 2 fl), (cXk cyI x xv), (cH cyO (x 4) (x 5) 6 fs), (cT cyI x (X_text xv)), (cSo an nv), (cG cyI an (S_green nv)), (cV cyI an (S_score nv)), (cS cyI b0 v0), (cS cyI b1 v1), (cS cyI b2 v2), (cS cyI b3 v3), (cS cyI b4 v4), (cS cyI b5 v5)] : List va_W).flatten) sz)) 1 6 (va_A (([(cXo x an tr xv), (cH cyO (x 1) (x 2) 2 fl), (cXk cyI x xv), (cH cyO (x 4) (x 5) 6 fs), (cT cyI x (X_text xv)), (cSo an nv), (cG cyI an (S_green nv)), (cV cyI an (S_score nv)), (cS cyI b0 v0), (cS cyI b1 v1), (cS cyI b2 v2), (cS cyI b3 v3), (cS cyI b4 v4), (cS cyI b5 v5)] : List va_W).flatten) sz) := by
  refine Met.ofWH (cc := cL_undoes) (maxL := 2) (ret := (some .int)) (by decide) rfl ?_
  intro p e s m args below meth c s₁ B hml hv
  obtain ⟨rfl, hsz, hP, hK, hD0, hz0, hZ⟩ := hv
  have hTab := vx_table (x := yL_undoes) B (atoms_spec (ws := (Cond.codeWith yL_undoes cL_undoes 2 (some .int) [(0, 4, 7, 42)] :: wT)) B.pre _ List.mem_cons_self)
  have hx := B.exec
  have hb := B.bytes
  have hr := B.returns
  have hts0 := atoms_spec (ws := (Cond.codeWith yL_undoes cL_undoes 2 (some .int) [(0, 4, 7, 42)] :: wT)) B.pre
  have hts := fun w h => hts0 w (List.mem_cons_of_mem _ h)
  clear hts0
  have hown : s.vm.findClass RL = some m.cls := findClass_of_methodNamed B.named
  have hlocks := B.notSynchronized
  subst hsz
  have hD := hD0.self (sz := s.heap.size)
  have hAz := wA_ge hD0 hz0
  generalize hAe : va_A (([(cXo x an tr xv), (cH cyO (x 1) (x 2) 2 fl), (cXk cyI x xv), (cH cyO (x 4) (x 5) 6 fs), (cT cyI x (X_text xv)), (cSo an nv), (cG cyI an (S_green nv)), (cV cyI an (S_score nv)), (cS cyI b0 v0), (cS cyI b1 v1), (cS cyI b2 v2), (cS cyI b3 v3), (cS cyI b4 v4), (cS cyI b5 v5)] : List va_W).flatten) s.heap.size = A at hD hAz ⊢
  have hA : ∀ q : Nat, s.heap.size ≤ q → A q := fun q h => by rw [← hAe]; exact Or.inr h
  clear hD0
  have hS : va_S A s.heap s.heap [] := va_S.rf
  have hl := lv_entry [.ref (x 0)] (n := 2) (Nat.le_of_ble_eq_true rfl)
  rw [lg_entry_eq]
  generalize (lg_sl [.ref (x 0)] ++ List.replicate (2 - (lg_sl [.ref (x 0)]).length) Slot.unset).toArray = ls at hl ⊢
  have hl : lv_has ls 2 [(0, .ref (x 0))] := hl
  unfold f_L_undoes at hF
  refine lv_aload_n hx hb dL_undoes_0 rfl (lv_at hl 0 rfl) ?_
  obtain ⟨o1, h2, hF⟩ := obd hF
  refine wxPVv (As := []) (rest := []) (wr := ([] : List va_W).flatten) (b := (x 0)) ⟨hx, hb, hml, hown, hts⟩ (met_X5_undo l z0 hst dC dI cyI cyO x tr an b0 b1 b2 b3 b4 b5 fl fs _ N xv nv v0 v1 v2 v3 v4 v5 hs0 hs1 hs2 hs3 hs4 hs5 o1 h2) (cwV 0 hts (gV w_methodLink_L_62 w_instanceMethod_X5_undo w_selects_X5_undo w_initialized_X5 w_code_X5_undo) rfl rfl rfl (by decide +kernel) ⟨Nat.le_of_ble_eq_true rfl, Nat.le_of_ble_eq_true rfl⟩) (va_recv hK.1 hP (ci := 5) (q0 := 0) rfl rfl) hP hD hK hZ hAz hz0 (seg_perm (n := 14) (R := []) (C := [(cXo x an tr xv), (cH cyO (x 1) (x 2) 2 fl), (cXk cyI x xv), (cH cyO (x 4) (x 5) 6 fs), (cT cyI x (X_text xv)), (cSo an nv), (cG cyI an (S_green nv)), (cV cyI an (S_score nv)), (cS cyI b0 v0), (cS cyI b1 v1), (cS cyI b2 v2), (cS cyI b3 v3), (cS cyI b4 v4), (cS cyI b5 v5)]) [] [0, 1, 2, 3, 4, 5, 6, 7, 8, 9, 10, 11, 12, 13] rfl rfl rfl (by decide) rfl) rfl hl.1 (Nat.le_of_ble_eq_true rfl) dL_undoes_1 ⟨(show _ ≤ 1 from by omega), (show _ ≤ 6 from by omega)⟩ hS hA (fun k u ce q9 H locs hw hP hD hS h9 hv9 hc9 => ?_) (fun u H locs hw hP hD hS => ?_)
  · obtain rfl : u = o1.2 := congrArg Prod.snd hw
    have hw1 : Sum.inl k = o1.1 := congrArg Prod.fst hw
    rw [← hw1] at hF
    have hF := exc_l hF
    have hq := seg_permS (segs := [(cXo x an tr o1.2.1), (cH cyO (x 1) (x 2) 2 fl), (cXk cyI x o1.2.1), (cH cyO (x 4) (x 5) 6 fs), (cT cyI x (X_text o1.2.1)), (cSo an o1.2.2.1), (cG cyI an (S_green o1.2.2.1)), (cV cyI an (S_score o1.2.2.1)), (cS cyI b0 o1.2.2.2.1), (cS cyI b1 o1.2.2.2.2.1), (cS cyI b2 o1.2.2.2.2.2.1), (cS cyI b3 o1.2.2.2.2.2.2.1), (cS cyI b4 o1.2.2.2.2.2.2.2.1), (cS cyI b5 o1.2.2.2.2.2.2.2.2)]) (R := []) (C := [(cXo x an tr o1.2.1), (cH cyO (x 1) (x 2) 2 fl), (cXk cyI x o1.2.1), (cH cyO (x 4) (x 5) 6 fs), (cT cyI x (X_text o1.2.1)), (cSo an o1.2.2.1), (cG cyI an (S_green o1.2.2.1)), (cV cyI an (S_score o1.2.2.1)), (cS cyI b0 o1.2.2.2.1), (cS cyI b1 o1.2.2.2.2.1), (cS cyI b2 o1.2.2.2.2.2.1), (cS cyI b3 o1.2.2.2.2.2.2.1), (cS cyI b4 o1.2.2.2.2.2.2.2.1), (cS cyI b5 o1.2.2.2.2.2.2.2.2)]) (n := 14) [] [0, 1, 2, 3, 4, 5, 6, 7, 8, 9, 10, 11, 12, 13] rfl rfl rfl (by decide)
    have hP : va_P (dC, dI) vwCl (([(cXo x an tr o1.2.1), (cH cyO (x 1) (x 2) 2 fl), (cXk cyI x o1.2.1), (cH cyO (x 4) (x 5) 6 fs), (cT cyI x (X_text o1.2.1)), (cSo an o1.2.2.1), (cG cyI an (S_green o1.2.2.1)), (cV cyI an (S_score o1.2.2.1)), (cS cyI b0 o1.2.2.2.1), (cS cyI b1 o1.2.2.2.2.1), (cS cyI b2 o1.2.2.2.2.2.1), (cS cyI b3 o1.2.2.2.2.2.2.1), (cS cyI b4 o1.2.2.2.2.2.2.2.1), (cS cyI b5 o1.2.2.2.2.2.2.2.2)] : List va_W).flatten) H := hP.perm hq
    have hD : va_D A (([(cXo x an tr o1.2.1), (cH cyO (x 1) (x 2) 2 fl), (cXk cyI x o1.2.1), (cH cyO (x 4) (x 5) 6 fs), (cT cyI x (X_text o1.2.1)), (cSo an o1.2.2.1), (cG cyI an (S_green o1.2.2.1)), (cV cyI an (S_score o1.2.2.1)), (cS cyI b0 o1.2.2.2.1), (cS cyI b1 o1.2.2.2.2.1), (cS cyI b2 o1.2.2.2.2.2.1), (cS cyI b3 o1.2.2.2.2.2.2.1), (cS cyI b4 o1.2.2.2.2.2.2.2.1), (cS cyI b5 o1.2.2.2.2.2.2.2.2)] : List va_W).flatten) := hD.perm hq
    clear hq
    by_cases c3 : k = 1
    · subst c3
      have hF := itp rfl hF
      refine vx_catch (E := eIS) (name := eIS) hown [] ⟨0, 4, 7, 42⟩ [] hTab (fun z hz => nomatch hz) (by decide) (by decide) (hts _ w_classLink_L_42) (hZ.2.2.2.1.use _ (by decide)) h9 hv9 hc9 ?_
      refine lv_astore_n (lv' := [(1, .ref q9), (0, .ref (x 0))]) hx hb dL_undoes_7 rfl hl (by decide) rfl (fun ls hl => ?_)
      refine lv_iconst (v := -1) hx hb dL_undoes_8 (by decide) ?_
      refine W.widen (k := 1) (n := 6) (by omega) (by omega) ?_
      exact W.iret (v := (-1 : Int32)) hx hb hr (fun t ht hW => ⟨⟨_, (o1.2.1, o1.2.2.1, o1.2.2.2.1, o1.2.2.2.2.1, o1.2.2.2.2.2.1, o1.2.2.2.2.2.2.1, o1.2.2.2.2.2.2.2.1, o1.2.2.2.2.2.2.2.2), rfl, Option.some.inj hF, by rw [ht]; exact hP, hD⟩, hS.F ht⟩) hS.2.2 dL_undoes_9
    · have hF := itn c3 hF
      cases hF
  · skip
    obtain rfl : u = o1.2 := congrArg Prod.snd hw
    have hw1 : Sum.inr () = o1.1 := congrArg Prod.fst hw
    rw [← hw1] at hF
    have hF := exc_r hF
    have hq := seg_permS (segs := [(cXo x an tr o1.2.1), (cH cyO (x 1) (x 2) 2 fl), (cXk cyI x o1.2.1), (cH cyO (x 4) (x 5) 6 fs), (cT cyI x (X_text o1.2.1)), (cSo an o1.2.2.1), (cG cyI an (S_green o1.2.2.1)), (cV cyI an (S_score o1.2.2.1)), (cS cyI b0 o1.2.2.2.1), (cS cyI b1 o1.2.2.2.2.1), (cS cyI b2 o1.2.2.2.2.2.1), (cS cyI b3 o1.2.2.2.2.2.2.1), (cS cyI b4 o1.2.2.2.2.2.2.2.1), (cS cyI b5 o1.2.2.2.2.2.2.2.2)]) (R := []) (C := [(cXo x an tr o1.2.1), (cH cyO (x 1) (x 2) 2 fl), (cXk cyI x o1.2.1), (cH cyO (x 4) (x 5) 6 fs), (cT cyI x (X_text o1.2.1)), (cSo an o1.2.2.1), (cG cyI an (S_green o1.2.2.1)), (cV cyI an (S_score o1.2.2.1)), (cS cyI b0 o1.2.2.2.1), (cS cyI b1 o1.2.2.2.2.1), (cS cyI b2 o1.2.2.2.2.2.1), (cS cyI b3 o1.2.2.2.2.2.2.1), (cS cyI b4 o1.2.2.2.2.2.2.2.1), (cS cyI b5 o1.2.2.2.2.2.2.2.2)]) (n := 14) [] [0, 1, 2, 3, 4, 5, 6, 7, 8, 9, 10, 11, 12, 13] rfl rfl rfl (by decide)
    have hP : va_P (dC, dI) vwCl (([(cXo x an tr o1.2.1), (cH cyO (x 1) (x 2) 2 fl), (cXk cyI x o1.2.1), (cH cyO (x 4) (x 5) 6 fs), (cT cyI x (X_text o1.2.1)), (cSo an o1.2.2.1), (cG cyI an (S_green o1.2.2.1)), (cV cyI an (S_score o1.2.2.1)), (cS cyI b0 o1.2.2.2.1), (cS cyI b1 o1.2.2.2.2.1), (cS cyI b2 o1.2.2.2.2.2.1), (cS cyI b3 o1.2.2.2.2.2.2.1), (cS cyI b4 o1.2.2.2.2.2.2.2.1), (cS cyI b5 o1.2.2.2.2.2.2.2.2)] : List va_W).flatten) H := hP.perm hq
    have hD : va_D A (([(cXo x an tr o1.2.1), (cH cyO (x 1) (x 2) 2 fl), (cXk cyI x o1.2.1), (cH cyO (x 4) (x 5) 6 fs), (cT cyI x (X_text o1.2.1)), (cSo an o1.2.2.1), (cG cyI an (S_green o1.2.2.1)), (cV cyI an (S_score o1.2.2.1)), (cS cyI b0 o1.2.2.2.1), (cS cyI b1 o1.2.2.2.2.1), (cS cyI b2 o1.2.2.2.2.2.1), (cS cyI b3 o1.2.2.2.2.2.2.1), (cS cyI b4 o1.2.2.2.2.2.2.2.1), (cS cyI b5 o1.2.2.2.2.2.2.2.2)] : List va_W).flatten) := hD.perm hq
    clear hq
    refine lv_goto (tgt := 10) hx hb dL_undoes_4 (by decide) ?_
    refine lv_aload_n hx hb dL_undoes_10 rfl (lv_at hl 0 rfl) ?_
    obtain ⟨o4, h5, hF⟩ := obd hF
    refine wcRVi (As := []) (rest := []) (b := (x 0)) ⟨hx, hb, hml, hown, hts⟩ (met_X5_savedStates l dC dI cyI cyO x an tr fl fs N o1.2.1  o4 h5) (cwV 0 hts (gV w_methodLink_L_65 w_instanceMethod_X5_savedStates w_selects_X5_savedStates w_initialized_X5 w_code_X5_savedStates) rfl rfl rfl (by decide +kernel) ⟨Nat.le_of_ble_eq_true rfl, Nat.le_of_ble_eq_true rfl⟩) (va_recv hK.1 hP (ci := 5) (q0 := 0) rfl rfl) hP hK [0, 1, 2, 3, 4, 5, 6, 7] rfl rfl hl.1 (Nat.le_of_ble_eq_true rfl) dL_undoes_11 ⟨(show _ ≤ 1 from by omega), (show _ ≤ 6 from by omega)⟩ hS (fun r H locs hw hP hS => ?_)
    have hw := hw.symm
    subst hw
    refine W.widen (k := 1) (n := 6) (by omega) (by omega) ?_
    exact W.iret (v := o4) hx hb hr (fun t ht hW => ⟨⟨_, (o1.2.1, o1.2.2.1, o1.2.2.2.1, o1.2.2.2.2.1, o1.2.2.2.2.2.1, o1.2.2.2.2.2.2.1, o1.2.2.2.2.2.2.2.1, o1.2.2.2.2.2.2.2.2), rfl, Option.some.inj hF, by rw [ht]; exact hP, hD⟩, hS.F ht⟩) hS.2.2 dL_undoes_14
theorem dL_changes_0 : decode cL_changes 0 = .ok (.aload 5, 2) := by decide +kernel
theorem dL_changes_2 : decode cL_changes 2 = .ok (.iconst 0, 1) := by decide +kernel
theorem dL_changes_3 : decode cL_changes 3 = .ok (.iload_n 1, 1) := by decide +kernel
theorem dL_changes_4 : decode cL_changes 4 = .ok (.ifCond .ne 11, 3) := by decide +kernel
theorem dL_changes_7 : decode cL_changes 7 = .ok (.aload_n 0, 1) := by decide +kernel
theorem dL_changes_8 : decode cL_changes 8 = .ok (.iload_n 2, 1) := by decide +kernel
theorem dL_changes_9 : decode cL_changes 9 = .ok (.invokevirtual 8, 3) := by decide +kernel
theorem dL_changes_12 : decode cL_changes 12 = .ok (.goto 103, 3) := by decide +kernel
theorem dL_changes_15 : decode cL_changes 15 = .ok (.iload_n 1, 1) := by decide +kernel
theorem dL_changes_16 : decode cL_changes 16 = .ok (.iconst 1, 1) := by decide +kernel
theorem dL_changes_17 : decode cL_changes 17 = .ok (.if_icmp .ne 14, 3) := by decide +kernel
theorem dL_changes_20 : decode cL_changes 20 = .ok (.aload_n 0, 1) := by decide +kernel
theorem dL_changes_21 : decode cL_changes 21 = .ok (.iload_n 2, 1) := by decide +kernel
theorem dL_changes_22 : decode cL_changes 22 = .ok (.iload_n 3, 1) := by decide +kernel
theorem dL_changes_23 : decode cL_changes 23 = .ok (.iload 4, 2) := by decide +kernel
theorem dL_changes_25 : decode cL_changes 25 = .ok (.invokevirtual 14, 3) := by decide +kernel
theorem dL_changes_28 : decode cL_changes 28 = .ok (.goto 87, 3) := by decide +kernel
theorem dL_changes_31 : decode cL_changes 31 = .ok (.iload_n 1, 1) := by decide +kernel
theorem dL_changes_32 : decode cL_changes 32 = .ok (.iconst 2, 1) := by decide +kernel
theorem dL_changes_33 : decode cL_changes 33 = .ok (.if_icmp .ne 10, 3) := by decide +kernel
theorem dL_changes_36 : decode cL_changes 36 = .ok (.aload_n 0, 1) := by decide +kernel
theorem dL_changes_37 : decode cL_changes 37 = .ok (.invokevirtual 18, 3) := by decide +kernel
theorem dL_changes_40 : decode cL_changes 40 = .ok (.goto 75, 3) := by decide +kernel
theorem dL_changes_43 : decode cL_changes 43 = .ok (.iload_n 1, 1) := by decide +kernel
theorem dL_changes_44 : decode cL_changes 44 = .ok (.iconst 3, 1) := by decide +kernel
theorem dL_changes_45 : decode cL_changes 45 = .ok (.if_icmp .ne 11, 3) := by decide +kernel
theorem dL_changes_48 : decode cL_changes 48 = .ok (.aload_n 0, 1) := by decide +kernel
theorem dL_changes_49 : decode cL_changes 49 = .ok (.iload_n 2, 1) := by decide +kernel
theorem dL_changes_50 : decode cL_changes 50 = .ok (.invokevirtual 22, 3) := by decide +kernel
theorem dL_changes_53 : decode cL_changes 53 = .ok (.goto 62, 3) := by decide +kernel
theorem dL_changes_56 : decode cL_changes 56 = .ok (.iload_n 1, 1) := by decide +kernel
theorem dL_changes_57 : decode cL_changes 57 = .ok (.iconst 4, 1) := by decide +kernel
theorem dL_changes_58 : decode cL_changes 58 = .ok (.if_icmp .ne 11, 3) := by decide +kernel
theorem dL_changes_61 : decode cL_changes 61 = .ok (.aload_n 0, 1) := by decide +kernel
theorem dL_changes_62 : decode cL_changes 62 = .ok (.iload_n 2, 1) := by decide +kernel
theorem dL_changes_63 : decode cL_changes 63 = .ok (.invokevirtual 25, 3) := by decide +kernel
theorem dL_changes_66 : decode cL_changes 66 = .ok (.goto 49, 3) := by decide +kernel
theorem dL_changes_69 : decode cL_changes 69 = .ok (.iload_n 1, 1) := by decide +kernel
theorem dL_changes_70 : decode cL_changes 70 = .ok (.iconst 5, 1) := by decide +kernel
theorem dL_changes_71 : decode cL_changes 71 = .ok (.if_icmp .ne 11, 3) := by decide +kernel
theorem dL_changes_74 : decode cL_changes 74 = .ok (.aload_n 0, 1) := by decide +kernel
theorem dL_changes_75 : decode cL_changes 75 = .ok (.iload_n 2, 1) := by decide +kernel
theorem dL_changes_76 : decode cL_changes 76 = .ok (.invokevirtual 28, 3) := by decide +kernel
theorem dL_changes_79 : decode cL_changes 79 = .ok (.goto 36, 3) := by decide +kernel
theorem dL_changes_82 : decode cL_changes 82 = .ok (.iload_n 1, 1) := by decide +kernel
theorem dL_changes_83 : decode cL_changes 83 = .ok (.bipush 6, 2) := by decide +kernel
theorem dL_changes_85 : decode cL_changes 85 = .ok (.if_icmp .ne 18, 3) := by decide +kernel
theorem dL_changes_88 : decode cL_changes 88 = .ok (.aload_n 0, 1) := by decide +kernel
theorem dL_changes_89 : decode cL_changes 89 = .ok (.invokevirtual 31, 3) := by decide +kernel
theorem dL_changes_92 : decode cL_changes 92 = .ok (.ifCond .eq 7, 3) := by decide +kernel
theorem dL_changes_95 : decode cL_changes 95 = .ok (.iconst 1, 1) := by decide +kernel
theorem dL_changes_96 : decode cL_changes 96 = .ok (.goto 19, 3) := by decide +kernel
theorem dL_changes_99 : decode cL_changes 99 = .ok (.iconst 0, 1) := by decide +kernel
theorem dL_changes_100 : decode cL_changes 100 = .ok (.goto 15, 3) := by decide +kernel
theorem dL_changes_103 : decode cL_changes 103 = .ok (.aload_n 0, 1) := by decide +kernel
theorem dL_changes_104 : decode cL_changes 104 = .ok (.invokevirtual 35, 3) := by decide +kernel
theorem dL_changes_107 : decode cL_changes 107 = .ok (.ifCond .eq 7, 3) := by decide +kernel
theorem dL_changes_110 : decode cL_changes 110 = .ok (.iconst 1, 1) := by decide +kernel
theorem dL_changes_111 : decode cL_changes 111 = .ok (.goto 4, 3) := by decide +kernel
theorem dL_changes_114 : decode cL_changes 114 = .ok (.iconst 0, 1) := by decide +kernel
theorem dL_changes_115 : decode cL_changes 115 = .ok (.iastore, 1) := by decide +kernel
theorem dL_changes_116 : decode cL_changes 116 = .ok (.goto 15, 3) := by decide +kernel
theorem dL_changes_119 : decode cL_changes 119 = .ok (.astore 6, 2) := by decide +kernel
theorem dL_changes_121 : decode cL_changes 121 = .ok (.iconst 1, 1) := by decide +kernel
theorem dL_changes_122 : decode cL_changes 122 = .ok (.ireturn, 1) := by decide +kernel
theorem dL_changes_123 : decode cL_changes 123 = .ok (.astore 6, 2) := by decide +kernel
theorem dL_changes_125 : decode cL_changes 125 = .ok (.iconst 2, 1) := by decide +kernel
theorem dL_changes_126 : decode cL_changes 126 = .ok (.ireturn, 1) := by decide +kernel
theorem dL_changes_127 : decode cL_changes 127 = .ok (.astore 6, 2) := by decide +kernel
theorem dL_changes_129 : decode cL_changes 129 = .ok (.iconst 3, 1) := by decide +kernel
theorem dL_changes_130 : decode cL_changes 130 = .ok (.ireturn, 1) := by decide +kernel
theorem dL_changes_131 : decode cL_changes 131 = .ok (.iconst 0, 1) := by decide +kernel
theorem dL_changes_132 : decode cL_changes 132 = .ok (.ireturn, 1) := by decide +kernel
def f_L_changes (N : Nat) (fo : (Nat → Int32)) (xv : XV) (nv : SV) (v0 : SV) (v1 : SV) (v2 : SV) (v3 : SV) (v4 : SV) (v5 : SV) (p2 : Int32) (p3 : Int32) (p4 : Int32) (p5 : Int32) : Option (Int32 × ((Nat → Int32) × XV × SV × SV × SV × SV × SV × SV × SV)) :=
  jn (fun (s115 : Int32 × (Nat → Int32) × XV × SV × SV × SV × SV × SV × SV × SV) => some ((0 : Int32), ((upd s115.2.1 (0 : Int32).toNatClampNeg s115.1), s115.2.2.1, s115.2.2.2.1, s115.2.2.2.2.1, s115.2.2.2.2.2.1, s115.2.2.2.2.2.2.1, s115.2.2.2.2.2.2.2.1, s115.2.2.2.2.2.2.2.2.1, s115.2.2.2.2.2.2.2.2.2))) (fun (j115 : (Int32 × (Nat → Int32) × XV × SV × SV × SV × SV × SV × SV × SV) → Option (Int32 × ((Nat → Int32) × XV × SV × SV × SV × SV × SV × SV × SV))) => (if p2 = 0 then (f_X5_roll N xv nv v0 v1 v2 v3 v4 v5 p3).bind (fun o42 => exc o42.1 (fun k => (if k = 2 then some ((1 : Int32), (fo, o42.2.1, o42.2.2.1, o42.2.2.2.1, o42.2.2.2.2.1, o42.2.2.2.2.2.1, o42.2.2.2.2.2.2.1, o42.2.2.2.2.2.2.2.1, o42.2.2.2.2.2.2.2.2)) else if k = 0 then some ((2 : Int32), (fo, o42.2.1, o42.2.2.1, o42.2.2.2.1, o42.2.2.2.2.1, o42.2.2.2.2.2.1, o42.2.2.2.2.2.2.1, o42.2.2.2.2.2.2.2.1, o42.2.2.2.2.2.2.2.2)) else if k = 1 then some ((3 : Int32), (fo, o42.2.1, o42.2.2.1, o42.2.2.2.1, o42.2.2.2.2.1, o42.2.2.2.2.2.1, o42.2.2.2.2.2.2.1, o42.2.2.2.2.2.2.2.1, o42.2.2.2.2.2.2.2.2)) else none)) (fun (ro42 : Int32) => j115 (ro42, fo, o42.2.1, o42.2.2.1, o42.2.2.2.1, o42.2.2.2.2.1, o42.2.2.2.2.2.1, o42.2.2.2.2.2.2.1, o42.2.2.2.2.2.2.2.1, o42.2.2.2.2.2.2.2.2))) else (if p2 = (1 : Int32) then (f_X5_play N xv nv v0 v1 v2 v3 v4 v5 p3 p4 p5).bind (fun o37 => exc o37.1 (fun k => (if k = 2 then some ((1 : Int32), (fo, o37.2.1, o37.2.2.1, o37.2.2.2.1, o37.2.2.2.2.1, o37.2.2.2.2.2.1, o37.2.2.2.2.2.2.1, o37.2.2.2.2.2.2.2.1, o37.2.2.2.2.2.2.2.2)) else if k = 0 then some ((2 : Int32), (fo, o37.2.1, o37.2.2.1, o37.2.2.2.1, o37.2.2.2.2.1, o37.2.2.2.2.2.1, o37.2.2.2.2.2.2.1, o37.2.2.2.2.2.2.2.1, o37.2.2.2.2.2.2.2.2)) else if k = 1 then some ((3 : Int32), (fo, o37.2.1, o37.2.2.1, o37.2.2.2.1, o37.2.2.2.2.1, o37.2.2.2.2.2.1, o37.2.2.2.2.2.2.1, o37.2.2.2.2.2.2.2.1, o37.2.2.2.2.2.2.2.2)) else none)) (fun (ro37 : Int32) => j115 (ro37, fo, o37.2.1, o37.2.2.1, o37.2.2.2.1, o37.2.2.2.2.1, o37.2.2.2.2.2.1, o37.2.2.2.2.2.2.1, o37.2.2.2.2.2.2.2.1, o37.2.2.2.2.2.2.2.2))) else (if p2 = (2 : Int32) then (f_X5_count N xv nv v0 v1 v2 v3 v4 v5).bind (fun o32 => exc o32.1 (fun k => (if k = 2 then some ((1 : Int32), (fo, o32.2.1, o32.2.2.1, o32.2.2.2.1, o32.2.2.2.2.1, o32.2.2.2.2.2.1, o32.2.2.2.2.2.2.1, o32.2.2.2.2.2.2.2.1, o32.2.2.2.2.2.2.2.2)) else if k = 0 then some ((2 : Int32), (fo, o32.2.1, o32.2.2.1, o32.2.2.2.1, o32.2.2.2.2.1, o32.2.2.2.2.2.1, o32.2.2.2.2.2.2.1, o32.2.2.2.2.2.2.2.1, o32.2.2.2.2.2.2.2.2)) else if k = 1 then some ((3 : Int32), (fo, o32.2.1, o32.2.2.1, o32.2.2.2.1, o32.2.2.2.2.1, o32.2.2.2.2.2.1, o32.2.2.2.2.2.2.1, o32.2.2.2.2.2.2.2.1, o32.2.2.2.2.2.2.2.2)) else none)) (fun (ro32 : Int32) => j115 (ro32, fo, o32.2.1, o32.2.2.1, o32.2.2.2.1, o32.2.2.2.2.1, o32.2.2.2.2.2.1, o32.2.2.2.2.2.2.1, o32.2.2.2.2.2.2.2.1, o32.2.2.2.2.2.2.2.2))) else (if p2 = (3 : Int32) then (f_X5_begin N xv nv v0 v1 v2 v3 v4 v5 p3).bind (fun o27 => exc o27.1 (fun k => (if k = 2 then some ((1 : Int32), (fo, o27.2.1, o27.2.2.1, o27.2.2.2.1, o27.2.2.2.2.1, o27.2.2.2.2.2.1, o27.2.2.2.2.2.2.1, o27.2.2.2.2.2.2.2.1, o27.2.2.2.2.2.2.2.2)) else if k = 0 then some ((2 : Int32), (fo, o27.2.1, o27.2.2.1, o27.2.2.2.1, o27.2.2.2.2.1, o27.2.2.2.2.2.1, o27.2.2.2.2.2.2.1, o27.2.2.2.2.2.2.2.1, o27.2.2.2.2.2.2.2.2)) else if k = 1 then some ((3 : Int32), (fo, o27.2.1, o27.2.2.1, o27.2.2.2.1, o27.2.2.2.2.1, o27.2.2.2.2.2.1, o27.2.2.2.2.2.2.1, o27.2.2.2.2.2.2.2.1, o27.2.2.2.2.2.2.2.2)) else none)) (fun (ro27 : Int32) => j115 (ro27, fo, o27.2.1, o27.2.2.1, o27.2.2.2.1, o27.2.2.2.2.1, o27.2.2.2.2.2.1, o27.2.2.2.2.2.2.1, o27.2.2.2.2.2.2.2.1, o27.2.2.2.2.2.2.2.2))) else (if p2 = (4 : Int32) then (f_X5_changeBowls N xv nv v0 v1 v2 v3 v4 v5 p3).bind (fun o22 => exc o22.1 (fun k => (if k = 2 then some ((1 : Int32), (fo, o22.2.1, o22.2.2.1, o22.2.2.2.1, o22.2.2.2.2.1, o22.2.2.2.2.2.1, o22.2.2.2.2.2.2.1, o22.2.2.2.2.2.2.2.1, o22.2.2.2.2.2.2.2.2)) else if k = 0 then some ((2 : Int32), (fo, o22.2.1, o22.2.2.1, o22.2.2.2.1, o22.2.2.2.2.1, o22.2.2.2.2.2.1, o22.2.2.2.2.2.2.1, o22.2.2.2.2.2.2.2.1, o22.2.2.2.2.2.2.2.2)) else if k = 1 then some ((3 : Int32), (fo, o22.2.1, o22.2.2.1, o22.2.2.2.1, o22.2.2.2.2.1, o22.2.2.2.2.2.1, o22.2.2.2.2.2.2.1, o22.2.2.2.2.2.2.2.1, o22.2.2.2.2.2.2.2.2)) else none)) (fun (ro22 : Int32) => j115 (ro22, fo, o22.2.1, o22.2.2.1, o22.2.2.2.1, o22.2.2.2.2.1, o22.2.2.2.2.2.1, o22.2.2.2.2.2.2.1, o22.2.2.2.2.2.2.2.1, o22.2.2.2.2.2.2.2.2))) else (if p2 = (5 : Int32) then (f_X5_changeWind N xv nv v0 v1 v2 v3 v4 v5 p3).bind (fun o17 => exc o17.1 (fun k => (if k = 2 then some ((1 : Int32), (fo, o17.2.1, o17.2.2.1, o17.2.2.2.1, o17.2.2.2.2.1, o17.2.2.2.2.2.1, o17.2.2.2.2.2.2.1, o17.2.2.2.2.2.2.2.1, o17.2.2.2.2.2.2.2.2)) else if k = 0 then some ((2 : Int32), (fo, o17.2.1, o17.2.2.1, o17.2.2.2.1, o17.2.2.2.2.1, o17.2.2.2.2.2.1, o17.2.2.2.2.2.2.1, o17.2.2.2.2.2.2.2.1, o17.2.2.2.2.2.2.2.2)) else if k = 1 then some ((3 : Int32), (fo, o17.2.1, o17.2.2.1, o17.2.2.2.1, o17.2.2.2.2.1, o17.2.2.2.2.2.1, o17.2.2.2.2.2.2.1, o17.2.2.2.2.2.2.2.1, o17.2.2.2.2.2.2.2.2)) else none)) (fun (ro17 : Int32) => j115 (ro17, fo, o17.2.1, o17.2.2.1, o17.2.2.2.1, o17.2.2.2.2.1, o17.2.2.2.2.2.1, o17.2.2.2.2.2.2.1, o17.2.2.2.2.2.2.2.1, o17.2.2.2.2.2.2.2.2))) else (if p2 = (6 : Int32) then (f_X5_turnBack N xv nv v0 v1 v2 v3 v4 v5).bind (fun o13 => (if o13.1 = 0 then j115 ((0 : Int32), fo, o13.2.1, o13.2.2.1, o13.2.2.2.1, o13.2.2.2.2.1, o13.2.2.2.2.2.1, o13.2.2.2.2.2.2.1, o13.2.2.2.2.2.2.2.1, o13.2.2.2.2.2.2.2.2) else j115 ((1 : Int32), fo, o13.2.1, o13.2.2.1, o13.2.2.2.1, o13.2.2.2.2.1, o13.2.2.2.2.2.1, o13.2.2.2.2.2.2.1, o13.2.2.2.2.2.2.2.1, o13.2.2.2.2.2.2.2.2))) else (f_X5_turnTwice N xv nv v0 v1 v2 v3 v4 v5).bind (fun o9 => (if o9.1 = 0 then j115 ((0 : Int32), fo, o9.2.1, o9.2.2.1, o9.2.2.2.1, o9.2.2.2.2.1, o9.2.2.2.2.2.1, o9.2.2.2.2.2.2.1, o9.2.2.2.2.2.2.2.1, o9.2.2.2.2.2.2.2.2) else j115 ((1 : Int32), fo, o9.2.1, o9.2.2.1, o9.2.2.2.1, o9.2.2.2.2.1, o9.2.2.2.2.2.1, o9.2.2.2.2.2.2.1, o9.2.2.2.2.2.2.2.1, o9.2.2.2.2.2.2.2.2)))))))))))
set_option maxHeartbeats 4000000 in
set_option maxRecDepth 100000 in
theorem met_L_changes (l : Launch) (z0 : Nat) (hst : l.stackTraces = false) (dC : Nat → ClassId) (dI : Nat → Nat → Nat) (cyI cyO : ClassId) (qo : Nat) (x : Nat → Nat) (tr : Nat → Nat) (an : Nat → Nat) (b0 : Nat → Nat) (b1 : Nat → Nat) (b2 : Nat → Nat) (b3 : Nat → Nat) (b4 : Nat → Nat) (b5 : Nat → Nat) (fl fs : Nat → Option Nat) (sz : Nat) (N : Nat) (fo : (Nat → Int32)) (xv : XV) (nv : SV) (v0 : SV) (v1 : SV) (v2 : SV) (v3 : SV) (v4 : SV) (v5 : SV) (p2 : Int32) (p3 : Int32) (p4 : Int32) (p5 : Int32) (hs0 : fs 0 = some (b0 0)) (hs1 : fs 1 = some (b1 0)) (hs2 : fs 2 = some (b2 0)) (hs3 : fs 3 = some (b3 0)) (hs4 : fs 4 = some (b4 0)) (hs5 : fs 5 = some (b5 0)) (out : Int32 × ((Nat → Int32) × XV × SV × SV × SV × SV × SV × SV × SV)) (hF : f_L_changes N fo xv nv v0 v1 v2 v3 v4 v5 p2 p3 p4 p5 = some out) : Met l yL_changes (Cond.codeWith yL_changes cL_changes 7 (some .int) [(0, 116, 119, 38), (0, 116, 123, 40), (0, 116, 127, 42)] :: wT) ({ frames := 7, cells := 6, slots := 36, locals := 132 } : Room) (wWrX z0 dC dI cyI cyO [.ref (x 0), .int p2, .int p3, .int p4, .int p5, .ref qo] (([[cI cyI qo 1 fo], (cXo x an tr xv), (cH cyO (x 1) (x 2) 2 fl), (cXk cyI x xv), (cH cyO (x 4) (x 5) 6 fs), (cT cyI x (X_text xv)), (cSo an nv), (cG cyI an (S_green nv)), (cV cyI an (S_score nv)), (cS cyI b0 v0), (cS cyI b1 v1), (cS cyI b2 v2), (cS cyI b3 v3), (cS cyI b4 v4), (cS cyI b5 v5)] : List va_W).flatten) sz) (va_Qi (fun (r : Int32) (u : (Nat → Int32) × XV × SV × SV × SV × SV × SV × SV × SV) => (r, u) = out) (fun u t => va_P (dC, dI) vwCl (([[cI cyI qo 1 u.1], (cXo x an tr u.2.1), (cH cyO (x 1) (x 2) 2 fl), (cXk cyI x u.2.1), (cH cyO (x 4) (x 5) 6 fs), (cT cyI x (X_text u.2.1)), (cSo an u.2.2.1), (cG cyI an (S_green u.2.2.1)), (cV cyI an (S_score u.2.2.1)), (cS cyI b0 u.2.2.2.1), (cS cyI b1 u.2.2.2.2.1), (cS cyI b2 u.2.2.2.2.2.1), (cS cyI b3 u.2.2.2.2.2.2.1), (cS cyI b4 u.2.2.2.2.2.2.2.1), (cS cyI b5 u.2.2.2.2.2.2.2.2)] : List va_W).flatten) t.heap ∧ va_D (va_A (([[cI cyI qo 1 fo], (cXo x an tr xv), (cH cyO (x 1) (x 2) 2 fl), (cXk cyI x xv), (cH cyO (x 4) (x 5) 6 fs), (cT cyI x (X_text xv)), (cSo an nv), (cG cyI an (S_green nv)), (cV cyI an (S_score nv)), (cS cyI b0 v0), (cS cyI b1 v1), (cS cyI b2 v2), (cS cyI b3 v3), (cS cyI b4 v4), (cS cyI b5 v5)] : List va_W).flatten) sz) (([[cI cyI qo 1 u.1], (cXo x an tr u.2.1), (cH cyO (x 1) (x 2) 2 fl), (cXk cyI x u.2.1), (cH cyO (x 4) (x 5) 6 fs), (cT cyI x (X_text u.2.1)), (cSo an u.2.2.1), (cG cyI an (S_green u.2.2.1)), (cV cyI an (S_score u.2.2.1)), (cS cyI b0 u.2.2.2.1), (cS cyI b1 u.2.2.2.2.1), (cS cyI b2 u.2.2.2.2.2.1), (cS cyI b3 u.2.2.2.2.2.2.1), (cS cyI b4 u.2.2.2.2.2.2.2.1), (cS cyI b5 u.2.2.2.2.2.2.2.2)] : List va_W).flatten)) (va_A (([[cI cyI qo 1 fo], (cXo x an tr xv), (cH cyO (x 1) (x 2) 2 fl), (cXk cyI x xv), (cH cyO (x 4) (x 5) 6 fs), (cT cyI x (X_text xv)), (cSo an nv), (cG cyI an (S_green nv)), (cV cyI an (S_score nv)), (cS cyI b0 v0), (cS cyI b1 v1), (cS cyI b2 v2), (cS cyI b3 v3), (cS cyI b4 v4), (cS cyI b5 v5)] : List va_W).flatten) sz)) 6 36 (va_A (([[cI cyI qo 1 fo], (cXo x an tr xv), (cH cyO (x 1) (x 2) 2 fl), (cXk cyI x xv), (cH cyO (x 4) (x 5) 6 fs), (cT cyI x (X_text xv)), (cSo an nv), (cG cyI an (S_green nv)), (cV cyI an (S_score nv)), (cS cyI b0 v0), (cS cyI b1 v1), (cS cyI b2 v2), (cS cyI b3 v3), (cS cyI b4 v4), (cS cyI b5 v5)] : List va_W).flatten) sz) := by
  refine Met.ofWH (cc := cL_changes) (maxL := 7) (ret := (some .int)) (by decide) rfl ?_
  intro p e s m args below meth c s₁ B hml hv
  obtain ⟨rfl, hsz, hP, hK, hD0, hz0, hZ⟩ := hv
  have hTab := vx_table (x := yL_changes) B (atoms_spec (ws := (Cond.codeWith yL_changes cL_changes 7 (some .int) [(0, 116, 119, 38), (0, 116, 123, 40), (0, 116, 127, 42)] :: wT)) B.pre _ List.mem_cons_self)
  have hx := B.exec
  have hb := B.bytes
  have hr := B.returns
  have hts0 := atoms_spec (ws := (Cond.codeWith yL_changes cL_changes 7 (some .int) [(0, 116, 119, 38), (0, 116, 123, 40), (0, 116, 127, 42)] :: wT)) B.pre
  have hts := fun w h => hts0 w (List.mem_cons_of_mem _ h)
  clear hts0
  have hown : s.vm.findClass RL = some m.cls := findClass_of_methodNamed B.named
  have hlocks := B.notSynchronized
  subst hsz
  have hD := hD0.self (sz := s.heap.size)
  have hAz := wA_ge hD0 hz0
  generalize hAe : va_A (([[cI cyI qo 1 fo], (cXo x an tr xv), (cH cyO (x 1) (x 2) 2 fl), (cXk cyI x xv), (cH cyO (x 4) (x 5) 6 fs), (cT cyI x (X_text xv)), (cSo an nv), (cG cyI an (S_green nv)), (cV cyI an (S_score nv)), (cS cyI b0 v0), (cS cyI b1 v1), (cS cyI b2 v2), (cS cyI b3 v3), (cS cyI b4 v4), (cS cyI b5 v5)] : List va_W).flatten) s.heap.size = A at hD hAz ⊢
  have hA : ∀ q : Nat, s.heap.size ≤ q → A q := fun q h => by rw [← hAe]; exact Or.inr h
  clear hD0
  have hS : va_S A s.heap s.heap [] := va_S.rf
  have hl := lv_entry [.ref (x 0), .int p2, .int p3, .int p4, .int p5, .ref qo] (n := 7) (Nat.le_of_ble_eq_true rfl)
  rw [lg_entry_eq]
  generalize (lg_sl [.ref (x 0), .int p2, .int p3, .int p4, .int p5, .ref qo] ++ List.replicate (7 - (lg_sl [.ref (x 0), .int p2, .int p3, .int p4, .int p5, .ref qo]).length) Slot.unset).toArray = ls at hl ⊢
  have hl : lv_has ls 7 [(0, .ref (x 0)), (1, .int p2), (2, .int p3), (3, .int p4), (4, .int p5), (5, .ref qo)] := hl
  unfold f_L_changes at hF
  refine lv_aload hx hb dL_changes_0 (lv_at hl 5 rfl) ?_
  refine lv_iconst (v := 0) hx hb dL_changes_2 (by decide) ?_
  refine lv_iload_n hx hb dL_changes_3 rfl (lv_at hl 1 rfl) ?_
  obtain ⟨j115, hj115, hF⟩ := jn_use hF
  have hJ115 : ∀ (s115 : Int32 × (Nat → Int32) × XV × SV × SV × SV × SV × SV × SV × SV) (H : Heap) (locs : List Loc) (ls : Array Slot), va_P (dC, dI) vwCl (([[cI cyI qo 1 s115.2.1], (cXo x an tr s115.2.2.1), (cH cyO (x 1) (x 2) 2 fl), (cXk cyI x s115.2.2.1), (cH cyO (x 4) (x 5) 6 fs), (cT cyI x (X_text s115.2.2.1)), (cSo an s115.2.2.2.1), (cG cyI an (S_green s115.2.2.2.1)), (cV cyI an (S_score s115.2.2.2.1)), (cS cyI b0 s115.2.2.2.2.1), (cS cyI b1 s115.2.2.2.2.2.1), (cS cyI b2 s115.2.2.2.2.2.2.1), (cS cyI b3 s115.2.2.2.2.2.2.2.1), (cS cyI b4 s115.2.2.2.2.2.2.2.2.1), (cS cyI b5 s115.2.2.2.2.2.2.2.2.2)] : List va_W).flatten) H → va_D A (([[cI cyI qo 1 s115.2.1], (cXo x an tr s115.2.2.1), (cH cyO (x 1) (x 2) 2 fl), (cXk cyI x s115.2.2.1), (cH cyO (x 4) (x 5) 6 fs), (cT cyI x (X_text s115.2.2.1)), (cSo an s115.2.2.2.1), (cG cyI an (S_green s115.2.2.2.1)), (cV cyI an (S_score s115.2.2.2.1)), (cS cyI b0 s115.2.2.2.2.1), (cS cyI b1 s115.2.2.2.2.2.1), (cS cyI b2 s115.2.2.2.2.2.2.1), (cS cyI b3 s115.2.2.2.2.2.2.2.1), (cS cyI b4 s115.2.2.2.2.2.2.2.2.1), (cS cyI b5 s115.2.2.2.2.2.2.2.2.2)] : List va_W).flatten) → va_S A s.heap H locs → lv_has ls 7 [] → j115 s115 = some out → W p l e (headSpec (Cond.codeWith yL_changes cL_changes 7 (some .int) [(0, 116, 119, 38), (0, 116, 123, 40), (0, 116, 127, 42)] :: wT) ({ frames := 7, cells := 6, slots := 36, locals := 132 } : Room)).room s m ([.ref (x 0), .int p2, .int p3, .int p4, .int p5, .ref qo] : List Value).toArray below meth c H locs 6 36 (MQ below (va_Qi (fun (r : Int32) (u : (Nat → Int32) × XV × SV × SV × SV × SV × SV × SV × SV) => (r, u) = out) (fun u t => va_P (dC, dI) vwCl (([[cI cyI qo 1 u.1], (cXo x an tr u.2.1), (cH cyO (x 1) (x 2) 2 fl), (cXk cyI x u.2.1), (cH cyO (x 4) (x 5) 6 fs), (cT cyI x (X_text u.2.1)), (cSo an u.2.2.1), (cG cyI an (S_green u.2.2.1)), (cV cyI an (S_score u.2.2.1)), (cS cyI b0 u.2.2.2.1), (cS cyI b1 u.2.2.2.2.1), (cS cyI b2 u.2.2.2.2.2.1), (cS cyI b3 u.2.2.2.2.2.2.1), (cS cyI b4 u.2.2.2.2.2.2.2.1), (cS cyI b5 u.2.2.2.2.2.2.2.2)] : List va_W).flatten) t.heap ∧ va_D A (([[cI cyI qo 1 u.1], (cXo x an tr u.2.1), (cH cyO (x 1) (x 2) 2 fl), (cXk cyI x u.2.1), (cH cyO (x 4) (x 5) 6 fs), (cT cyI x (X_text u.2.1)), (cSo an u.2.2.1), (cG cyI an (S_green u.2.2.1)), (cV cyI an (S_score u.2.2.1)), (cS cyI b0 u.2.2.2.1), (cS cyI b1 u.2.2.2.2.1), (cS cyI b2 u.2.2.2.2.2.1), (cS cyI b3 u.2.2.2.2.2.2.1), (cS cyI b4 u.2.2.2.2.2.2.2.1), (cS cyI b5 u.2.2.2.2.2.2.2.2)] : List va_W).flatten)) A) ([.ref (x 0), .int p2, .int p3, .int p4, .int p5, .ref qo] : List Value).toArray s 6 36 A) (F0 m 115 ls [.int s115.1, .int (0 : Int32), .ref qo]) := by
    intro s115 H locs ls hP hD hS hl hF
    have hF := (congrFun hj115 s115).symm.trans hF
    refine va_iast hx hb hK.1 hP hD hS 0 0 rfl rfl (i := (0 : Int32)) (x := s115.1) (show ixok (0 : Int32) 1 by decide) dL_changes_115 (fun H locs hP hD hS => ?_)
    have hP : va_P (dC, dI) vwCl (([[cI cyI qo 1 (upd s115.2.1 (0 : Int32).toNatClampNeg s115.1)], (cXo x an tr s115.2.2.1), (cH cyO (x 1) (x 2) 2 fl), (cXk cyI x s115.2.2.1), (cH cyO (x 4) (x 5) 6 fs), (cT cyI x (X_text s115.2.2.1)), (cSo an s115.2.2.2.1), (cG cyI an (S_green s115.2.2.2.1)), (cV cyI an (S_score s115.2.2.2.1)), (cS cyI b0 s115.2.2.2.2.1), (cS cyI b1 s115.2.2.2.2.2.1), (cS cyI b2 s115.2.2.2.2.2.2.1), (cS cyI b3 s115.2.2.2.2.2.2.2.1), (cS cyI b4 s115.2.2.2.2.2.2.2.2.1), (cS cyI b5 s115.2.2.2.2.2.2.2.2.2)] : List va_W).flatten) H := hP
    have hD : va_D A (([[cI cyI qo 1 (upd s115.2.1 (0 : Int32).toNatClampNeg s115.1)], (cXo x an tr s115.2.2.1), (cH cyO (x 1) (x 2) 2 fl), (cXk cyI x s115.2.2.1), (cH cyO (x 4) (x 5) 6 fs), (cT cyI x (X_text s115.2.2.1)), (cSo an s115.2.2.2.1), (cG cyI an (S_green s115.2.2.2.1)), (cV cyI an (S_score s115.2.2.2.1)), (cS cyI b0 s115.2.2.2.2.1), (cS cyI b1 s115.2.2.2.2.2.1), (cS cyI b2 s115.2.2.2.2.2.2.1), (cS cyI b3 s115.2.2.2.2.2.2.2.1), (cS cyI b4 s115.2.2.2.2.2.2.2.2.1), (cS cyI b5 s115.2.2.2.2.2.2.2.2.2)] : List va_W).flatten) := hD
    refine lv_goto (tgt := 131) hx hb dL_changes_116 (by decide) ?_
    refine lv_iconst (v := 0) hx hb dL_changes_131 (by decide) ?_
    refine W.widen (k := 6) (n := 36) (by omega) (by omega) ?_
    exact W.iret (v := (0 : Int32)) hx hb hr (fun t ht hW => ⟨⟨_, ((upd s115.2.1 (0 : Int32).toNatClampNeg s115.1), s115.2.2.1, s115.2.2.2.1, s115.2.2.2.2.1, s115.2.2.2.2.2.1, s115.2.2.2.2.2.2.1, s115.2.2.2.2.2.2.2.1, s115.2.2.2.2.2.2.2.2.1, s115.2.2.2.2.2.2.2.2.2), rfl, Option.some.inj hF, by rw [ht]; exact hP, hD⟩, hS.F ht⟩) hS.2.2 dL_changes_132
  refine lv_if_ne (tgt := 15) hx hb dL_changes_4 (by decide) (fun c2 => ?_) (fun c2 => ?_)
  · have hF := itn c2 hF
    refine lv_iload_n hx hb dL_changes_15 rfl (lv_at hl 1 rfl) ?_
    refine lv_iconst (v := 1) hx hb dL_changes_16 (by decide) ?_
    refine lv_icmp_ne (tgt := 31) hx hb dL_changes_17 (by decide) (fun c3 => ?_) (fun c3 => ?_)
    · have hF := itn c3 hF
      refine lv_iload_n hx hb dL_changes_31 rfl (lv_at hl 1 rfl) ?_
      refine lv_iconst (v := 2) hx hb dL_changes_32 (by decide) ?_
      refine lv_icmp_ne (tgt := 43) hx hb dL_changes_33 (by decide) (fun c4 => ?_) (fun c4 => ?_)
      · have hF := itn c4 hF
        refine lv_iload_n hx hb dL_changes_43 rfl (lv_at hl 1 rfl) ?_
        refine lv_iconst (v := 3) hx hb dL_changes_44 (by decide) ?_
        refine lv_icmp_ne (tgt := 56) hx hb dL_changes_45 (by decide) (fun c5 => ?_) (fun c5 => ?_)
        · have hF := itn c5 hF
          refine lv_iload_n hx hb dL_changes_56 rfl (lv_at hl 1 rfl) ?_
          refine lv_iconst (v := 4) hx hb dL_changes_57 (by decide) ?_
          refine lv_icmp_ne (tgt := 69) hx hb dL_changes_58 (by decide) (fun c6 => ?_) (fun c6 => ?_)
          · have hF := itn c6 hF
            refine lv_iload_n hx hb dL_changes_69 rfl (lv_at hl 1 rfl) ?_
            refine lv_iconst (v := 5) hx hb dL_changes_70 (by decide) ?_
            refine lv_icmp_ne (tgt := 82) hx hb dL_changes_71 (by decide) (fun c7 => ?_) (fun c7 => ?_)
            · have hF := itn c7 hF
              refine lv_iload_n hx hb dL_changes_82 rfl (lv_at hl 1 rfl) ?_
              refine lv_bipush (v := 6) hx hb dL_changes_83 (by decide) ?_
              refine lv_icmp_ne (tgt := 103) hx hb dL_changes_85 (by decide) (fun c8 => ?_) (fun c8 => ?_)
              · have hF := itn c8 hF
                refine lv_aload_n hx hb dL_changes_103 rfl (lv_at hl 0 rfl) ?_
                obtain ⟨o9, h10, hF⟩ := obd hF
                refine wcPVi (As := []) (rest := [.int (0 : Int32), .ref qo]) (wr := ([[cI cyI qo 1 fo]] : List va_W).flatten) (b := (x 0)) ⟨hx, hb, hml, hown, hts⟩ (met_X5_turnTwice l dC dI cyI cyO x tr an b0 b1 b2 b3 b4 b5 fl fs _ N xv nv v0 v1 v2 v3 v4 v5 hs0 hs1 hs2 hs3 hs4 hs5 o9 h10) (cwV 0 hts (gV w_methodLink_L_35 w_instanceMethod_X5_turnTwice w_selects_X5_turnTwice w_initialized_X5 w_code_X5_turnTwice) rfl rfl rfl (by decide +kernel) ⟨Nat.le_of_ble_eq_true rfl, Nat.le_of_ble_eq_true rfl⟩) (va_recv hK.1 hP (ci := 5) (q0 := 1) rfl rfl) hP hD hK (seg_perm (n := 15) (R := [[cI cyI qo 1 fo]]) (C := [(cXo x an tr xv), (cH cyO (x 1) (x 2) 2 fl), (cXk cyI x xv), (cH cyO (x 4) (x 5) 6 fs), (cT cyI x (X_text xv)), (cSo an nv), (cG cyI an (S_green nv)), (cV cyI an (S_score nv)), (cS cyI b0 v0), (cS cyI b1 v1), (cS cyI b2 v2), (cS cyI b3 v3), (cS cyI b4 v4), (cS cyI b5 v5)]) [0] [1, 2, 3, 4, 5, 6, 7, 8, 9, 10, 11, 12, 13, 14] rfl rfl rfl (by decide) rfl) rfl hl.1 (Nat.le_of_ble_eq_true rfl) dL_changes_104 ⟨(show _ ≤ 6 from by omega), (show _ ≤ 36 from by omega)⟩ hS hA (fun r u H locs hw hP hD hS => ?_)
                obtain ⟨hw, hz11⟩ := hw
                obtain rfl : r = o9.1 := congrArg Prod.fst hw
                obtain rfl : u = o9.2 := congrArg Prod.snd hw
                clear hw
                have hq := seg_permS (segs := [[cI cyI qo 1 fo], (cXo x an tr o9.2.1), (cH cyO (x 1) (x 2) 2 fl), (cXk cyI x o9.2.1), (cH cyO (x 4) (x 5) 6 fs), (cT cyI x (X_text o9.2.1)), (cSo an o9.2.2.1), (cG cyI an (S_green o9.2.2.1)), (cV cyI an (S_score o9.2.2.1)), (cS cyI b0 o9.2.2.2.1), (cS cyI b1 o9.2.2.2.2.1), (cS cyI b2 o9.2.2.2.2.2.1), (cS cyI b3 o9.2.2.2.2.2.2.1), (cS cyI b4 o9.2.2.2.2.2.2.2.1), (cS cyI b5 o9.2.2.2.2.2.2.2.2)]) (R := [[cI cyI qo 1 fo]]) (C := [(cXo x an tr o9.2.1), (cH cyO (x 1) (x 2) 2 fl), (cXk cyI x o9.2.1), (cH cyO (x 4) (x 5) 6 fs), (cT cyI x (X_text o9.2.1)), (cSo an o9.2.2.1), (cG cyI an (S_green o9.2.2.1)), (cV cyI an (S_score o9.2.2.1)), (cS cyI b0 o9.2.2.2.1), (cS cyI b1 o9.2.2.2.2.1), (cS cyI b2 o9.2.2.2.2.2.1), (cS cyI b3 o9.2.2.2.2.2.2.1), (cS cyI b4 o9.2.2.2.2.2.2.2.1), (cS cyI b5 o9.2.2.2.2.2.2.2.2)]) (n := 15) [0] [1, 2, 3, 4, 5, 6, 7, 8, 9, 10, 11, 12, 13, 14] rfl rfl rfl (by decide)
                have hP : va_P (dC, dI) vwCl (([[cI cyI qo 1 fo], (cXo x an tr o9.2.1), (cH cyO (x 1) (x 2) 2 fl), (cXk cyI x o9.2.1), (cH cyO (x 4) (x 5) 6 fs), (cT cyI x (X_text o9.2.1)), (cSo an o9.2.2.1), (cG cyI an (S_green o9.2.2.1)), (cV cyI an (S_score o9.2.2.1)), (cS cyI b0 o9.2.2.2.1), (cS cyI b1 o9.2.2.2.2.1), (cS cyI b2 o9.2.2.2.2.2.1), (cS cyI b3 o9.2.2.2.2.2.2.1), (cS cyI b4 o9.2.2.2.2.2.2.2.1), (cS cyI b5 o9.2.2.2.2.2.2.2.2)] : List va_W).flatten) H := hP.perm hq
                have hD : va_D A (([[cI cyI qo 1 fo], (cXo x an tr o9.2.1), (cH cyO (x 1) (x 2) 2 fl), (cXk cyI x o9.2.1), (cH cyO (x 4) (x 5) 6 fs), (cT cyI x (X_text o9.2.1)), (cSo an o9.2.2.1), (cG cyI an (S_green o9.2.2.1)), (cV cyI an (S_score o9.2.2.1)), (cS cyI b0 o9.2.2.2.1), (cS cyI b1 o9.2.2.2.2.1), (cS cyI b2 o9.2.2.2.2.2.1), (cS cyI b3 o9.2.2.2.2.2.2.1), (cS cyI b4 o9.2.2.2.2.2.2.2.1), (cS cyI b5 o9.2.2.2.2.2.2.2.2)] : List va_W).flatten) := hD.perm hq
                clear hq
                refine lv_if_eq (tgt := 114) hx hb dL_changes_107 (by decide) (fun c12 => ?_) (fun c12 => ?_)
                · have hF := itp c12 hF
                  refine lv_iconst (v := 0) hx hb dL_changes_114 (by decide) ?_
                  refine W.widen (k := 6) (n := 36) (by omega) (by omega) ?_
                  exact hJ115 ((0 : Int32), fo, o9.2.1, o9.2.2.1, o9.2.2.2.1, o9.2.2.2.2.1, o9.2.2.2.2.2.1, o9.2.2.2.2.2.2.1, o9.2.2.2.2.2.2.2.1, o9.2.2.2.2.2.2.2.2) _ _ _ hP hD hS (lv_sub hl [] rfl) hF
                · have hF := itn c12 hF
                  refine lv_iconst (v := 1) hx hb dL_changes_110 (by decide) ?_
                  refine lv_goto (tgt := 115) hx hb dL_changes_111 (by decide) ?_
                  refine W.widen (k := 6) (n := 36) (by omega) (by omega) ?_
                  exact hJ115 ((1 : Int32), fo, o9.2.1, o9.2.2.1, o9.2.2.2.1, o9.2.2.2.2.1, o9.2.2.2.2.2.1, o9.2.2.2.2.2.2.1, o9.2.2.2.2.2.2.2.1, o9.2.2.2.2.2.2.2.2) _ _ _ hP hD hS (lv_sub hl [] rfl) hF
              · have hF := itp c8 hF
                refine lv_aload_n hx hb dL_changes_88 rfl (lv_at hl 0 rfl) ?_
                obtain ⟨o13, h14, hF⟩ := obd hF
                refine wcPVi (As := []) (rest := [.int (0 : Int32), .ref qo]) (wr := ([[cI cyI qo 1 fo]] : List va_W).flatten) (b := (x 0)) ⟨hx, hb, hml, hown, hts⟩ (met_X5_turnBack l dC dI cyI cyO x tr an b0 b1 b2 b3 b4 b5 fl fs _ N xv nv v0 v1 v2 v3 v4 v5 hs0 hs1 hs2 hs3 hs4 hs5 o13 h14) (cwV 0 hts (gV w_methodLink_L_31 w_instanceMethod_X5_turnBack w_selects_X5_turnBack w_initialized_X5 w_code_X5_turnBack) rfl rfl rfl (by decide +kernel) ⟨Nat.le_of_ble_eq_true rfl, Nat.le_of_ble_eq_true rfl⟩) (va_recv hK.1 hP (ci := 5) (q0 := 1) rfl rfl) hP hD hK (seg_perm (n := 15) (R := [[cI cyI qo 1 fo]]) (C := [(cXo x an tr xv), (cH cyO (x 1) (x 2) 2 fl), (cXk cyI x xv), (cH cyO (x 4) (x 5) 6 fs), (cT cyI x (X_text xv)), (cSo an nv), (cG cyI an (S_green nv)), (cV cyI an (S_score nv)), (cS cyI b0 v0), (cS cyI b1 v1), (cS cyI b2 v2), (cS cyI b3 v3), (cS cyI b4 v4), (cS cyI b5 v5)]) [0] [1, 2, 3, 4, 5, 6, 7, 8, 9, 10, 11, 12, 13, 14] rfl rfl rfl (by decide) rfl) rfl hl.1 (Nat.le_of_ble_eq_true rfl) dL_changes_89 ⟨(show _ ≤ 6 from by omega), (show _ ≤ 36 from by omega)⟩ hS hA (fun r u H locs hw hP hD hS => ?_)
                obtain ⟨hw, hz15⟩ := hw
                obtain rfl : r = o13.1 := congrArg Prod.fst hw
                obtain rfl : u = o13.2 := congrArg Prod.snd hw
                clear hw
                have hq := seg_permS (segs := [[cI cyI qo 1 fo], (cXo x an tr o13.2.1), (cH cyO (x 1) (x 2) 2 fl), (cXk cyI x o13.2.1), (cH cyO (x 4) (x 5) 6 fs), (cT cyI x (X_text o13.2.1)), (cSo an o13.2.2.1), (cG cyI an (S_green o13.2.2.1)), (cV cyI an (S_score o13.2.2.1)), (cS cyI b0 o13.2.2.2.1), (cS cyI b1 o13.2.2.2.2.1), (cS cyI b2 o13.2.2.2.2.2.1), (cS cyI b3 o13.2.2.2.2.2.2.1), (cS cyI b4 o13.2.2.2.2.2.2.2.1), (cS cyI b5 o13.2.2.2.2.2.2.2.2)]) (R := [[cI cyI qo 1 fo]]) (C := [(cXo x an tr o13.2.1), (cH cyO (x 1) (x 2) 2 fl), (cXk cyI x o13.2.1), (cH cyO (x 4) (x 5) 6 fs), (cT cyI x (X_text o13.2.1)), (cSo an o13.2.2.1), (cG cyI an (S_green o13.2.2.1)), (cV cyI an (S_score o13.2.2.1)), (cS cyI b0 o13.2.2.2.1), (cS cyI b1 o13.2.2.2.2.1), (cS cyI b2 o13.2.2.2.2.2.1), (cS cyI b3 o13.2.2.2.2.2.2.1), (cS cyI b4 o13.2.2.2.2.2.2.2.1), (cS cyI b5 o13.2.2.2.2.2.2.2.2)]) (n := 15) [0] [1, 2, 3, 4, 5, 6, 7, 8, 9, 10, 11, 12, 13, 14] rfl rfl rfl (by decide)
                have hP : va_P (dC, dI) vwCl (([[cI cyI qo 1 fo], (cXo x an tr o13.2.1), (cH cyO (x 1) (x 2) 2 fl), (cXk cyI x o13.2.1), (cH cyO (x 4) (x 5) 6 fs), (cT cyI x (X_text o13.2.1)), (cSo an o13.2.2.1), (cG cyI an (S_green o13.2.2.1)), (cV cyI an (S_score o13.2.2.1)), (cS cyI b0 o13.2.2.2.1), (cS cyI b1 o13.2.2.2.2.1), (cS cyI b2 o13.2.2.2.2.2.1), (cS cyI b3 o13.2.2.2.2.2.2.1), (cS cyI b4 o13.2.2.2.2.2.2.2.1), (cS cyI b5 o13.2.2.2.2.2.2.2.2)] : List va_W).flatten) H := hP.perm hq
                have hD : va_D A (([[cI cyI qo 1 fo], (cXo x an tr o13.2.1), (cH cyO (x 1) (x 2) 2 fl), (cXk cyI x o13.2.1), (cH cyO (x 4) (x 5) 6 fs), (cT cyI x (X_text o13.2.1)), (cSo an o13.2.2.1), (cG cyI an (S_green o13.2.2.1)), (cV cyI an (S_score o13.2.2.1)), (cS cyI b0 o13.2.2.2.1), (cS cyI b1 o13.2.2.2.2.1), (cS cyI b2 o13.2.2.2.2.2.1), (cS cyI b3 o13.2.2.2.2.2.2.1), (cS cyI b4 o13.2.2.2.2.2.2.2.1), (cS cyI b5 o13.2.2.2.2.2.2.2.2)] : List va_W).flatten) := hD.perm hq
                clear hq
                refine lv_if_eq (tgt := 99) hx hb dL_changes_92 (by decide) (fun c16 => ?_) (fun c16 => ?_)
                · have hF := itp c16 hF
                  refine lv_iconst (v := 0) hx hb dL_changes_99 (by decide) ?_
                  refine lv_goto (tgt := 115) hx hb dL_changes_100 (by decide) ?_
                  refine W.widen (k := 6) (n := 36) (by omega) (by omega) ?_
                  exact hJ115 ((0 : Int32), fo, o13.2.1, o13.2.2.1, o13.2.2.2.1, o13.2.2.2.2.1, o13.2.2.2.2.2.1, o13.2.2.2.2.2.2.1, o13.2.2.2.2.2.2.2.1, o13.2.2.2.2.2.2.2.2) _ _ _ hP hD hS (lv_sub hl [] rfl) hF
                · have hF := itn c16 hF
                  refine lv_iconst (v := 1) hx hb dL_changes_95 (by decide) ?_
                  refine lv_goto (tgt := 115) hx hb dL_changes_96 (by decide) ?_
                  refine W.widen (k := 6) (n := 36) (by omega) (by omega) ?_
                  exact hJ115 ((1 : Int32), fo, o13.2.1, o13.2.2.1, o13.2.2.2.1, o13.2.2.2.2.1, o13.2.2.2.2.2.1, o13.2.2.2.2.2.2.1, o13.2.2.2.2.2.2.2.1, o13.2.2.2.2.2.2.2.2) _ _ _ hP hD hS (lv_sub hl [] rfl) hF
            · have hF := itp c7 hF
              refine lv_aload_n hx hb dL_changes_74 rfl (lv_at hl 0 rfl) ?_
              refine lv_iload_n hx hb dL_changes_75 rfl (lv_at hl 2 rfl) ?_
              obtain ⟨o17, h18, hF⟩ := obd hF
              refine wxPVi (As := [.int p3]) (rest := [.int (0 : Int32), .ref qo]) (wr := ([[cI cyI qo 1 fo]] : List va_W).flatten) (b := (x 0)) ⟨hx, hb, hml, hown, hts⟩ (met_X5_changeWind l z0 hst dC dI cyI cyO x tr an b0 b1 b2 b3 b4 b5 fl fs _ N xv nv v0 v1 v2 v3 v4 v5 p3 hs0 hs1 hs2 hs3 hs4 hs5 o17 h18) (cwV 1 hts (gV w_methodLink_L_28 w_instanceMethod_X5_changeWind w_selects_X5_changeWind w_initialized_X5 w_code_X5_changeWind) rfl rfl rfl (by decide +kernel) ⟨Nat.le_of_ble_eq_true rfl, Nat.le_of_ble_eq_true rfl⟩) (va_recv hK.1 hP (ci := 5) (q0 := 1) rfl rfl) hP hD hK hZ hAz hz0 (seg_perm (n := 15) (R := [[cI cyI qo 1 fo]]) (C := [(cXo x an tr xv), (cH cyO (x 1) (x 2) 2 fl), (cXk cyI x xv), (cH cyO (x 4) (x 5) 6 fs), (cT cyI x (X_text xv)), (cSo an nv), (cG cyI an (S_green nv)), (cV cyI an (S_score nv)), (cS cyI b0 v0), (cS cyI b1 v1), (cS cyI b2 v2), (cS cyI b3 v3), (cS cyI b4 v4), (cS cyI b5 v5)]) [0] [1, 2, 3, 4, 5, 6, 7, 8, 9, 10, 11, 12, 13, 14] rfl rfl rfl (by decide) rfl) rfl hl.1 (Nat.le_of_ble_eq_true rfl) dL_changes_76 ⟨(show _ ≤ 6 from by omega), (show _ ≤ 36 from by omega)⟩ hS hA (fun k u ce q9 H locs hw hP hD hS h9 hv9 hc9 => ?_) (fun ro17 u H locs hw hP hD hS => ?_)
              · obtain rfl : u = o17.2 := congrArg Prod.snd hw
                have hw1 : Sum.inl k = o17.1 := congrArg Prod.fst hw
                rw [← hw1] at hF
                have hF := exc_l hF
                have hq := seg_permS (segs := [[cI cyI qo 1 fo], (cXo x an tr o17.2.1), (cH cyO (x 1) (x 2) 2 fl), (cXk cyI x o17.2.1), (cH cyO (x 4) (x 5) 6 fs), (cT cyI x (X_text o17.2.1)), (cSo an o17.2.2.1), (cG cyI an (S_green o17.2.2.1)), (cV cyI an (S_score o17.2.2.1)), (cS cyI b0 o17.2.2.2.1), (cS cyI b1 o17.2.2.2.2.1), (cS cyI b2 o17.2.2.2.2.2.1), (cS cyI b3 o17.2.2.2.2.2.2.1), (cS cyI b4 o17.2.2.2.2.2.2.2.1), (cS cyI b5 o17.2.2.2.2.2.2.2.2)]) (R := [[cI cyI qo 1 fo]]) (C := [(cXo x an tr o17.2.1), (cH cyO (x 1) (x 2) 2 fl), (cXk cyI x o17.2.1), (cH cyO (x 4) (x 5) 6 fs), (cT cyI x (X_text o17.2.1)), (cSo an o17.2.2.1), (cG cyI an (S_green o17.2.2.1)), (cV cyI an (S_score o17.2.2.1)), (cS cyI b0 o17.2.2.2.1), (cS cyI b1 o17.2.2.2.2.1), (cS cyI b2 o17.2.2.2.2.2.1), (cS cyI b3 o17.2.2.2.2.2.2.1), (cS cyI b4 o17.2.2.2.2.2.2.2.1), (cS cyI b5 o17.2.2.2.2.2.2.2.2)]) (n := 15) [0] [1, 2, 3, 4, 5, 6, 7, 8, 9, 10, 11, 12, 13, 14] rfl rfl rfl (by decide)
                have hP : va_P (dC, dI) vwCl (([[cI cyI qo 1 fo], (cXo x an tr o17.2.1), (cH cyO (x 1) (x 2) 2 fl), (cXk cyI x o17.2.1), (cH cyO (x 4) (x 5) 6 fs), (cT cyI x (X_text o17.2.1)), (cSo an o17.2.2.1), (cG cyI an (S_green o17.2.2.1)), (cV cyI an (S_score o17.2.2.1)), (cS cyI b0 o17.2.2.2.1), (cS cyI b1 o17.2.2.2.2.1), (cS cyI b2 o17.2.2.2.2.2.1), (cS cyI b3 o17.2.2.2.2.2.2.1), (cS cyI b4 o17.2.2.2.2.2.2.2.1), (cS cyI b5 o17.2.2.2.2.2.2.2.2)] : List va_W).flatten) H := hP.perm hq
                have hD : va_D A (([[cI cyI qo 1 fo], (cXo x an tr o17.2.1), (cH cyO (x 1) (x 2) 2 fl), (cXk cyI x o17.2.1), (cH cyO (x 4) (x 5) 6 fs), (cT cyI x (X_text o17.2.1)), (cSo an o17.2.2.1), (cG cyI an (S_green o17.2.2.1)), (cV cyI an (S_score o17.2.2.1)), (cS cyI b0 o17.2.2.2.1), (cS cyI b1 o17.2.2.2.2.1), (cS cyI b2 o17.2.2.2.2.2.1), (cS cyI b3 o17.2.2.2.2.2.2.1), (cS cyI b4 o17.2.2.2.2.2.2.2.1), (cS cyI b5 o17.2.2.2.2.2.2.2.2)] : List va_W).flatten) := hD.perm hq
                clear hq
                by_cases c19 : k = 2
                · subst c19
                  have hF := itp rfl hF
                  refine vx_catch (E := eIO) (name := eIO) hown [] ⟨0, 116, 119, 38⟩ [⟨0, 116, 123, 40⟩, ⟨0, 116, 127, 42⟩] hTab (fun z hz => nomatch hz) (by decide) (by decide) (hts _ w_classLink_L_38) (hZ.2.2.2.1.use _ (by decide)) h9 hv9 hc9 ?_
                  refine lv_astore (lv' := [(6, .ref q9), (0, .ref (x 0)), (1, .int p2), (2, .int p3), (3, .int p4), (4, .int p5), (5, .ref qo)]) hx hb dL_changes_119 hl (by decide) rfl (fun ls hl => ?_)
                  refine lv_iconst (v := 1) hx hb dL_changes_121 (by decide) ?_
                  refine W.widen (k := 6) (n := 36) (by omega) (by omega) ?_
                  exact W.iret (v := (1 : Int32)) hx hb hr (fun t ht hW => ⟨⟨_, (fo, o17.2.1, o17.2.2.1, o17.2.2.2.1, o17.2.2.2.2.1, o17.2.2.2.2.2.1, o17.2.2.2.2.2.2.1, o17.2.2.2.2.2.2.2.1, o17.2.2.2.2.2.2.2.2), rfl, Option.some.inj hF, by rw [ht]; exact hP, hD⟩, hS.F ht⟩) hS.2.2 dL_changes_122
                · have hF := itn c19 hF
                  by_cases c20 : k = 0
                  · subst c20
                    have hF := itp rfl hF
                    refine vx_catch (E := eIA) (name := eIA) hown [⟨0, 116, 119, 38⟩] ⟨0, 116, 123, 40⟩ [⟨0, 116, 127, 42⟩] hTab (fun z hz => by simp only [List.mem_cons, List.not_mem_nil, or_false] at hz; rcases hz with rfl <;> first | exact Or.inr ⟨by decide, _, hts _ w_classLink_L_38, hZ.2.2.2.2 (eIA, eIO) (by decide)⟩) (by decide) (by decide) (hts _ w_classLink_L_40) (hZ.2.2.2.1.use _ (by decide)) h9 hv9 hc9 ?_
                    refine lv_astore (lv' := [(6, .ref q9), (0, .ref (x 0)), (1, .int p2), (2, .int p3), (3, .int p4), (4, .int p5), (5, .ref qo)]) hx hb dL_changes_123 hl (by decide) rfl (fun ls hl => ?_)
                    refine lv_iconst (v := 2) hx hb dL_changes_125 (by decide) ?_
                    refine W.widen (k := 6) (n := 36) (by omega) (by omega) ?_
                    exact W.iret (v := (2 : Int32)) hx hb hr (fun t ht hW => ⟨⟨_, (fo, o17.2.1, o17.2.2.1, o17.2.2.2.1, o17.2.2.2.2.1, o17.2.2.2.2.2.1, o17.2.2.2.2.2.2.1, o17.2.2.2.2.2.2.2.1, o17.2.2.2.2.2.2.2.2), rfl, Option.some.inj hF, by rw [ht]; exact hP, hD⟩, hS.F ht⟩) hS.2.2 dL_changes_126
                  · have hF := itn c20 hF
                    by_cases c21 : k = 1
                    · subst c21
                      have hF := itp rfl hF
                      refine vx_catch (E := eIS) (name := eIS) hown [⟨0, 116, 119, 38⟩, ⟨0, 116, 123, 40⟩] ⟨0, 116, 127, 42⟩ [] hTab (fun z hz => by simp only [List.mem_cons, List.not_mem_nil, or_false] at hz; rcases hz with rfl | rfl <;> first | exact Or.inr ⟨by decide, _, hts _ w_classLink_L_38, hZ.2.2.2.2 (eIS, eIO) (by decide)⟩ | exact Or.inr ⟨by decide, _, hts _ w_classLink_L_40, hZ.2.2.2.2 (eIS, eIA) (by decide)⟩) (by decide) (by decide) (hts _ w_classLink_L_42) (hZ.2.2.2.1.use _ (by decide)) h9 hv9 hc9 ?_
                      refine lv_astore (lv' := [(6, .ref q9), (0, .ref (x 0)), (1, .int p2), (2, .int p3), (3, .int p4), (4, .int p5), (5, .ref qo)]) hx hb dL_changes_127 hl (by decide) rfl (fun ls hl => ?_)
                      refine lv_iconst (v := 3) hx hb dL_changes_129 (by decide) ?_
                      refine W.widen (k := 6) (n := 36) (by omega) (by omega) ?_
                      exact W.iret (v := (3 : Int32)) hx hb hr (fun t ht hW => ⟨⟨_, (fo, o17.2.1, o17.2.2.1, o17.2.2.2.1, o17.2.2.2.2.1, o17.2.2.2.2.2.1, o17.2.2.2.2.2.2.1, o17.2.2.2.2.2.2.2.1, o17.2.2.2.2.2.2.2.2), rfl, Option.some.inj hF, by rw [ht]; exact hP, hD⟩, hS.F ht⟩) hS.2.2 dL_changes_130
                    · have hF := itn c21 hF
                      cases hF
              · skip
                obtain rfl : u = o17.2 := congrArg Prod.snd hw
                have hw1 : Sum.inr ro17 = o17.1 := congrArg Prod.fst hw
                rw [← hw1] at hF
                have hF := exc_r hF
                have hq := seg_permS (segs := [[cI cyI qo 1 fo], (cXo x an tr o17.2.1), (cH cyO (x 1) (x 2) 2 fl), (cXk cyI x o17.2.1), (cH cyO (x 4) (x 5) 6 fs), (cT cyI x (X_text o17.2.1)), (cSo an o17.2.2.1), (cG cyI an (S_green o17.2.2.1)), (cV cyI an (S_score o17.2.2.1)), (cS cyI b0 o17.2.2.2.1), (cS cyI b1 o17.2.2.2.2.1), (cS cyI b2 o17.2.2.2.2.2.1), (cS cyI b3 o17.2.2.2.2.2.2.1), (cS cyI b4 o17.2.2.2.2.2.2.2.1), (cS cyI b5 o17.2.2.2.2.2.2.2.2)]) (R := [[cI cyI qo 1 fo]]) (C := [(cXo x an tr o17.2.1), (cH cyO (x 1) (x 2) 2 fl), (cXk cyI x o17.2.1), (cH cyO (x 4) (x 5) 6 fs), (cT cyI x (X_text o17.2.1)), (cSo an o17.2.2.1), (cG cyI an (S_green o17.2.2.1)), (cV cyI an (S_score o17.2.2.1)), (cS cyI b0 o17.2.2.2.1), (cS cyI b1 o17.2.2.2.2.1), (cS cyI b2 o17.2.2.2.2.2.1), (cS cyI b3 o17.2.2.2.2.2.2.1), (cS cyI b4 o17.2.2.2.2.2.2.2.1), (cS cyI b5 o17.2.2.2.2.2.2.2.2)]) (n := 15) [0] [1, 2, 3, 4, 5, 6, 7, 8, 9, 10, 11, 12, 13, 14] rfl rfl rfl (by decide)
                have hP : va_P (dC, dI) vwCl (([[cI cyI qo 1 fo], (cXo x an tr o17.2.1), (cH cyO (x 1) (x 2) 2 fl), (cXk cyI x o17.2.1), (cH cyO (x 4) (x 5) 6 fs), (cT cyI x (X_text o17.2.1)), (cSo an o17.2.2.1), (cG cyI an (S_green o17.2.2.1)), (cV cyI an (S_score o17.2.2.1)), (cS cyI b0 o17.2.2.2.1), (cS cyI b1 o17.2.2.2.2.1), (cS cyI b2 o17.2.2.2.2.2.1), (cS cyI b3 o17.2.2.2.2.2.2.1), (cS cyI b4 o17.2.2.2.2.2.2.2.1), (cS cyI b5 o17.2.2.2.2.2.2.2.2)] : List va_W).flatten) H := hP.perm hq
                have hD : va_D A (([[cI cyI qo 1 fo], (cXo x an tr o17.2.1), (cH cyO (x 1) (x 2) 2 fl), (cXk cyI x o17.2.1), (cH cyO (x 4) (x 5) 6 fs), (cT cyI x (X_text o17.2.1)), (cSo an o17.2.2.1), (cG cyI an (S_green o17.2.2.1)), (cV cyI an (S_score o17.2.2.1)), (cS cyI b0 o17.2.2.2.1), (cS cyI b1 o17.2.2.2.2.1), (cS cyI b2 o17.2.2.2.2.2.1), (cS cyI b3 o17.2.2.2.2.2.2.1), (cS cyI b4 o17.2.2.2.2.2.2.2.1), (cS cyI b5 o17.2.2.2.2.2.2.2.2)] : List va_W).flatten) := hD.perm hq
                clear hq
                refine lv_goto (tgt := 115) hx hb dL_changes_79 (by decide) ?_
                refine W.widen (k := 6) (n := 36) (by omega) (by omega) ?_
                exact hJ115 (ro17, fo, o17.2.1, o17.2.2.1, o17.2.2.2.1, o17.2.2.2.2.1, o17.2.2.2.2.2.1, o17.2.2.2.2.2.2.1, o17.2.2.2.2.2.2.2.1, o17.2.2.2.2.2.2.2.2) _ _ _ hP hD hS (lv_sub hl [] rfl) hF
          · have hF := itp c6 hF
            refine lv_aload_n hx hb dL_changes_61 rfl (lv_at hl 0 rfl) ?_
            refine lv_iload_n hx hb dL_changes_62 rfl (lv_at hl 2 rfl) ?_
            obtain ⟨o22, h23, hF⟩ := obd hF
            refine wxPVi (As := [.int p3]) (rest := [.int (0 : Int32), .ref qo]) (wr := ([[cI cyI qo 1 fo]] : List va_W).flatten) (b := (x 0)) ⟨hx, hb, hml, hown, hts⟩ (met_X5_changeBowls l z0 hst dC dI cyI cyO x tr an b0 b1 b2 b3 b4 b5 fl fs _ N xv nv v0 v1 v2 v3 v4 v5 p3 hs0 hs1 hs2 hs3 hs4 hs5 o22 h23) (cwV 1 hts (gV w_methodLink_L_25 w_instanceMethod_X5_changeBowls w_selects_X5_changeBowls w_initialized_X5 w_code_X5_changeBowls) rfl rfl rfl (by decide +kernel) ⟨Nat.le_of_ble_eq_true rfl, Nat.le_of_ble_eq_true rfl⟩) (va_recv hK.1 hP (ci := 5) (q0 := 1) rfl rfl) hP hD hK hZ hAz hz0 (seg_perm (n := 15) (R := [[cI cyI qo 1 fo]]) (C := [(cXo x an tr xv), (cH cyO (x 1) (x 2) 2 fl), (cXk cyI x xv), (cH cyO (x 4) (x 5) 6 fs), (cT cyI x (X_text xv)), (cSo an nv), (cG cyI an (S_green nv)), (cV cyI an (S_score nv)), (cS cyI b0 v0), (cS cyI b1 v1), (cS cyI b2 v2), (cS cyI b3 v3), (cS cyI b4 v4), (cS cyI b5 v5)]) [0] [1, 2, 3, 4, 5, 6, 7, 8, 9, 10, 11, 12, 13, 14] rfl rfl rfl (by decide) rfl) rfl hl.1 (Nat.le_of_ble_eq_true rfl) dL_changes_63 ⟨(show _ ≤ 6 from by omega), (show _ ≤ 36 from by omega)⟩ hS hA (fun k u ce q9 H locs hw hP hD hS h9 hv9 hc9 => ?_) (fun ro22 u H locs hw hP hD hS => ?_)
            · obtain rfl : u = o22.2 := congrArg Prod.snd hw
              have hw1 : Sum.inl k = o22.1 := congrArg Prod.fst hw
              rw [← hw1] at hF
              have hF := exc_l hF
              have hq := seg_permS (segs := [[cI cyI qo 1 fo], (cXo x an tr o22.2.1), (cH cyO (x 1) (x 2) 2 fl), (cXk cyI x o22.2.1), (cH cyO (x 4) (x 5) 6 fs), (cT cyI x (X_text o22.2.1)), (cSo an o22.2.2.1), (cG cyI an (S_green o22.2.2.1)), (cV cyI an (S_score o22.2.2.1)), (cS cyI b0 o22.2.2.2.1), (cS cyI b1 o22.2.2.2.2.1), (cS cyI b2 o22.2.2.2.2.2.1), (cS cyI b3 o22.2.2.2.2.2.2.1), (cS cyI b4 o22.2.2.2.2.2.2.2.1), (cS cyI b5 o22.2.2.2.2.2.2.2.2)]) (R := [[cI cyI qo 1 fo]]) (C := [(cXo x an tr o22.2.1), (cH cyO (x 1) (x 2) 2 fl), (cXk cyI x o22.2.1), (cH cyO (x 4) (x 5) 6 fs), (cT cyI x (X_text o22.2.1)), (cSo an o22.2.2.1), (cG cyI an (S_green o22.2.2.1)), (cV cyI an (S_score o22.2.2.1)), (cS cyI b0 o22.2.2.2.1), (cS cyI b1 o22.2.2.2.2.1), (cS cyI b2 o22.2.2.2.2.2.1), (cS cyI b3 o22.2.2.2.2.2.2.1), (cS cyI b4 o22.2.2.2.2.2.2.2.1), (cS cyI b5 o22.2.2.2.2.2.2.2.2)]) (n := 15) [0] [1, 2, 3, 4, 5, 6, 7, 8, 9, 10, 11, 12, 13, 14] rfl rfl rfl (by decide)
              have hP : va_P (dC, dI) vwCl (([[cI cyI qo 1 fo], (cXo x an tr o22.2.1), (cH cyO (x 1) (x 2) 2 fl), (cXk cyI x o22.2.1), (cH cyO (x 4) (x 5) 6 fs), (cT cyI x (X_text o22.2.1)), (cSo an o22.2.2.1), (cG cyI an (S_green o22.2.2.1)), (cV cyI an (S_score o22.2.2.1)), (cS cyI b0 o22.2.2.2.1), (cS cyI b1 o22.2.2.2.2.1), (cS cyI b2 o22.2.2.2.2.2.1), (cS cyI b3 o22.2.2.2.2.2.2.1), (cS cyI b4 o22.2.2.2.2.2.2.2.1), (cS cyI b5 o22.2.2.2.2.2.2.2.2)] : List va_W).flatten) H := hP.perm hq
              have hD : va_D A (([[cI cyI qo 1 fo], (cXo x an tr o22.2.1), (cH cyO (x 1) (x 2) 2 fl), (cXk cyI x o22.2.1), (cH cyO (x 4) (x 5) 6 fs), (cT cyI x (X_text o22.2.1)), (cSo an o22.2.2.1), (cG cyI an (S_green o22.2.2.1)), (cV cyI an (S_score o22.2.2.1)), (cS cyI b0 o22.2.2.2.1), (cS cyI b1 o22.2.2.2.2.1), (cS cyI b2 o22.2.2.2.2.2.1), (cS cyI b3 o22.2.2.2.2.2.2.1), (cS cyI b4 o22.2.2.2.2.2.2.2.1), (cS cyI b5 o22.2.2.2.2.2.2.2.2)] : List va_W).flatten) := hD.perm hq
              clear hq
              by_cases c24 : k = 2
              · subst c24
                have hF := itp rfl hF
                refine vx_catch (E := eIO) (name := eIO) hown [] ⟨0, 116, 119, 38⟩ [⟨0, 116, 123, 40⟩, ⟨0, 116, 127, 42⟩] hTab (fun z hz => nomatch hz) (by decide) (by decide) (hts _ w_classLink_L_38) (hZ.2.2.2.1.use _ (by decide)) h9 hv9 hc9 ?_
                refine lv_astore (lv' := [(6, .ref q9), (0, .ref (x 0)), (1, .int p2), (2, .int p3), (3, .int p4), (4, .int p5), (5, .ref qo)]) hx hb dL_changes_119 hl (by decide) rfl (fun ls hl => ?_)
                refine lv_iconst (v := 1) hx hb dL_changes_121 (by decide) ?_
                refine W.widen (k := 6) (n := 36) (by omega) (by omega) ?_
                exact W.iret (v := (1 : Int32)) hx hb hr (fun t ht hW => ⟨⟨_, (fo, o22.2.1, o22.2.2.1, o22.2.2.2.1, o22.2.2.2.2.1, o22.2.2.2.2.2.1, o22.2.2.2.2.2.2.1, o22.2.2.2.2.2.2.2.1, o22.2.2.2.2.2.2.2.2), rfl, Option.some.inj hF, by rw [ht]; exact hP, hD⟩, hS.F ht⟩) hS.2.2 dL_changes_122
              · have hF := itn c24 hF
                by_cases c25 : k = 0
                · subst c25
                  have hF := itp rfl hF
                  refine vx_catch (E := eIA) (name := eIA) hown [⟨0, 116, 119, 38⟩] ⟨0, 116, 123, 40⟩ [⟨0, 116, 127, 42⟩] hTab (fun z hz => by simp only [List.mem_cons, List.not_mem_nil, or_false] at hz; rcases hz with rfl <;> first | exact Or.inr ⟨by decide, _, hts _ w_classLink_L_38, hZ.2.2.2.2 (eIA, eIO) (by decide)⟩) (by decide) (by decide) (hts _ w_classLink_L_40) (hZ.2.2.2.1.use _ (by decide)) h9 hv9 hc9 ?_
                  refine lv_astore (lv' := [(6, .ref q9), (0, .ref (x 0)), (1, .int p2), (2, .int p3), (3, .int p4), (4, .int p5), (5, .ref qo)]) hx hb dL_changes_123 hl (by decide) rfl (fun ls hl => ?_)
                  refine lv_iconst (v := 2) hx hb dL_changes_125 (by decide) ?_
                  refine W.widen (k := 6) (n := 36) (by omega) (by omega) ?_
                  exact W.iret (v := (2 : Int32)) hx hb hr (fun t ht hW => ⟨⟨_, (fo, o22.2.1, o22.2.2.1, o22.2.2.2.1, o22.2.2.2.2.1, o22.2.2.2.2.2.1, o22.2.2.2.2.2.2.1, o22.2.2.2.2.2.2.2.1, o22.2.2.2.2.2.2.2.2), rfl, Option.some.inj hF, by rw [ht]; exact hP, hD⟩, hS.F ht⟩) hS.2.2 dL_changes_126
                · have hF := itn c25 hF
                  by_cases c26 : k = 1
                  · subst c26
                    have hF := itp rfl hF
                    refine vx_catch (E := eIS) (name := eIS) hown [⟨0, 116, 119, 38⟩, ⟨0, 116, 123, 40⟩] ⟨0, 116, 127, 42⟩ [] hTab (fun z hz => by simp only [List.mem_cons, List.not_mem_nil, or_false] at hz; rcases hz with rfl | rfl <;> first | exact Or.inr ⟨by decide, _, hts _ w_classLink_L_38, hZ.2.2.2.2 (eIS, eIO) (by decide)⟩ | exact Or.inr ⟨by decide, _, hts _ w_classLink_L_40, hZ.2.2.2.2 (eIS, eIA) (by decide)⟩) (by decide) (by decide) (hts _ w_classLink_L_42) (hZ.2.2.2.1.use _ (by decide)) h9 hv9 hc9 ?_
                    refine lv_astore (lv' := [(6, .ref q9), (0, .ref (x 0)), (1, .int p2), (2, .int p3), (3, .int p4), (4, .int p5), (5, .ref qo)]) hx hb dL_changes_127 hl (by decide) rfl (fun ls hl => ?_)
                    refine lv_iconst (v := 3) hx hb dL_changes_129 (by decide) ?_
                    refine W.widen (k := 6) (n := 36) (by omega) (by omega) ?_
                    exact W.iret (v := (3 : Int32)) hx hb hr (fun t ht hW => ⟨⟨_, (fo, o22.2.1, o22.2.2.1, o22.2.2.2.1, o22.2.2.2.2.1, o22.2.2.2.2.2.1, o22.2.2.2.2.2.2.1, o22.2.2.2.2.2.2.2.1, o22.2.2.2.2.2.2.2.2), rfl, Option.some.inj hF, by rw [ht]; exact hP, hD⟩, hS.F ht⟩) hS.2.2 dL_changes_130
                  · have hF := itn c26 hF
                    cases hF
            · skip
              obtain rfl : u = o22.2 := congrArg Prod.snd hw
              have hw1 : Sum.inr ro22 = o22.1 := congrArg Prod.fst hw
              rw [← hw1] at hF
              have hF := exc_r hF
              have hq := seg_permS (segs := [[cI cyI qo 1 fo], (cXo x an tr o22.2.1), (cH cyO (x 1) (x 2) 2 fl), (cXk cyI x o22.2.1), (cH cyO (x 4) (x 5) 6 fs), (cT cyI x (X_text o22.2.1)), (cSo an o22.2.2.1), (cG cyI an (S_green o22.2.2.1)), (cV cyI an (S_score o22.2.2.1)), (cS cyI b0 o22.2.2.2.1), (cS cyI b1 o22.2.2.2.2.1), (cS cyI b2 o22.2.2.2.2.2.1), (cS cyI b3 o22.2.2.2.2.2.2.1), (cS cyI b4 o22.2.2.2.2.2.2.2.1), (cS cyI b5 o22.2.2.2.2.2.2.2.2)]) (R := [[cI cyI qo 1 fo]]) (C := [(cXo x an tr o22.2.1), (cH cyO (x 1) (x 2) 2 fl), (cXk cyI x o22.2.1), (cH cyO (x 4) (x 5) 6 fs), (cT cyI x (X_text o22.2.1)), (cSo an o22.2.2.1), (cG cyI an (S_green o22.2.2.1)), (cV cyI an (S_score o22.2.2.1)), (cS cyI b0 o22.2.2.2.1), (cS cyI b1 o22.2.2.2.2.1), (cS cyI b2 o22.2.2.2.2.2.1), (cS cyI b3 o22.2.2.2.2.2.2.1), (cS cyI b4 o22.2.2.2.2.2.2.2.1), (cS cyI b5 o22.2.2.2.2.2.2.2.2)]) (n := 15) [0] [1, 2, 3, 4, 5, 6, 7, 8, 9, 10, 11, 12, 13, 14] rfl rfl rfl (by decide)
              have hP : va_P (dC, dI) vwCl (([[cI cyI qo 1 fo], (cXo x an tr o22.2.1), (cH cyO (x 1) (x 2) 2 fl), (cXk cyI x o22.2.1), (cH cyO (x 4) (x 5) 6 fs), (cT cyI x (X_text o22.2.1)), (cSo an o22.2.2.1), (cG cyI an (S_green o22.2.2.1)), (cV cyI an (S_score o22.2.2.1)), (cS cyI b0 o22.2.2.2.1), (cS cyI b1 o22.2.2.2.2.1), (cS cyI b2 o22.2.2.2.2.2.1), (cS cyI b3 o22.2.2.2.2.2.2.1), (cS cyI b4 o22.2.2.2.2.2.2.2.1), (cS cyI b5 o22.2.2.2.2.2.2.2.2)] : List va_W).flatten) H := hP.perm hq
              have hD : va_D A (([[cI cyI qo 1 fo], (cXo x an tr o22.2.1), (cH cyO (x 1) (x 2) 2 fl), (cXk cyI x o22.2.1), (cH cyO (x 4) (x 5) 6 fs), (cT cyI x (X_text o22.2.1)), (cSo an o22.2.2.1), (cG cyI an (S_green o22.2.2.1)), (cV cyI an (S_score o22.2.2.1)), (cS cyI b0 o22.2.2.2.1), (cS cyI b1 o22.2.2.2.2.1), (cS cyI b2 o22.2.2.2.2.2.1), (cS cyI b3 o22.2.2.2.2.2.2.1), (cS cyI b4 o22.2.2.2.2.2.2.2.1), (cS cyI b5 o22.2.2.2.2.2.2.2.2)] : List va_W).flatten) := hD.perm hq
              clear hq
              refine lv_goto (tgt := 115) hx hb dL_changes_66 (by decide) ?_
              refine W.widen (k := 6) (n := 36) (by omega) (by omega) ?_
              exact hJ115 (ro22, fo, o22.2.1, o22.2.2.1, o22.2.2.2.1, o22.2.2.2.2.1, o22.2.2.2.2.2.1, o22.2.2.2.2.2.2.1, o22.2.2.2.2.2.2.2.1, o22.2.2.2.2.2.2.2.2) _ _ _ hP hD hS (lv_sub hl [] rfl) hF
        · have hF := itp c5 hF
          refine lv_aload_n hx hb dL_changes_48 rfl (lv_at hl 0 rfl) ?_
          refine lv_iload_n hx hb dL_changes_49 rfl (lv_at hl 2 rfl) ?_
          obtain ⟨o27, h28, hF⟩ := obd hF
          refine wxPVi (As := [.int p3]) (rest := [.int (0 : Int32), .ref qo]) (wr := ([[cI cyI qo 1 fo]] : List va_W).flatten) (b := (x 0)) ⟨hx, hb, hml, hown, hts⟩ (met_X5_begin l z0 hst dC dI cyI cyO x tr an b0 b1 b2 b3 b4 b5 fl fs _ N xv nv v0 v1 v2 v3 v4 v5 p3 hs0 hs1 hs2 hs3 hs4 hs5 o27 h28) (cwV 1 hts (gV w_methodLink_L_22 w_instanceMethod_X5_begin w_selects_X5_begin w_initialized_X5 w_code_X5_begin) rfl rfl rfl (by decide +kernel) ⟨Nat.le_of_ble_eq_true rfl, Nat.le_of_ble_eq_true rfl⟩) (va_recv hK.1 hP (ci := 5) (q0 := 1) rfl rfl) hP hD hK hZ hAz hz0 (seg_perm (n := 15) (R := [[cI cyI qo 1 fo]]) (C := [(cXo x an tr xv), (cH cyO (x 1) (x 2) 2 fl), (cXk cyI x xv), (cH cyO (x 4) (x 5) 6 fs), (cT cyI x (X_text xv)), (cSo an nv), (cG cyI an (S_green nv)), (cV cyI an (S_score nv)), (cS cyI b0 v0), (cS cyI b1 v1), (cS cyI b2 v2), (cS cyI b3 v3), (cS cyI b4 v4), (cS cyI b5 v5)]) [0] [1, 2, 3, 4, 5, 6, 7, 8, 9, 10, 11, 12, 13, 14] rfl rfl rfl (by decide) rfl) rfl hl.1 (Nat.le_of_ble_eq_true rfl) dL_changes_50 ⟨(show _ ≤ 6 from by omega), (show _ ≤ 36 from by omega)⟩ hS hA (fun k u ce q9 H locs hw hP hD hS h9 hv9 hc9 => ?_) (fun ro27 u H locs hw hP hD hS => ?_)
          · obtain rfl : u = o27.2 := congrArg Prod.snd hw
            have hw1 : Sum.inl k = o27.1 := congrArg Prod.fst hw
            rw [← hw1] at hF
            have hF := exc_l hF
            have hq := seg_permS (segs := [[cI cyI qo 1 fo], (cXo x an tr o27.2.1), (cH cyO (x 1) (x 2) 2 fl), (cXk cyI x o27.2.1), (cH cyO (x 4) (x 5) 6 fs), (cT cyI x (X_text o27.2.1)), (cSo an o27.2.2.1), (cG cyI an (S_green o27.2.2.1)), (cV cyI an (S_score o27.2.2.1)), (cS cyI b0 o27.2.2.2.1), (cS cyI b1 o27.2.2.2.2.1), (cS cyI b2 o27.2.2.2.2.2.1), (cS cyI b3 o27.2.2.2.2.2.2.1), (cS cyI b4 o27.2.2.2.2.2.2.2.1), (cS cyI b5 o27.2.2.2.2.2.2.2.2)]) (R := [[cI cyI qo 1 fo]]) (C := [(cXo x an tr o27.2.1), (cH cyO (x 1) (x 2) 2 fl), (cXk cyI x o27.2.1), (cH cyO (x 4) (x 5) 6 fs), (cT cyI x (X_text o27.2.1)), (cSo an o27.2.2.1), (cG cyI an (S_green o27.2.2.1)), (cV cyI an (S_score o27.2.2.1)), (cS cyI b0 o27.2.2.2.1), (cS cyI b1 o27.2.2.2.2.1), (cS cyI b2 o27.2.2.2.2.2.1), (cS cyI b3 o27.2.2.2.2.2.2.1), (cS cyI b4 o27.2.2.2.2.2.2.2.1), (cS cyI b5 o27.2.2.2.2.2.2.2.2)]) (n := 15) [0] [1, 2, 3, 4, 5, 6, 7, 8, 9, 10, 11, 12, 13, 14] rfl rfl rfl (by decide)
            have hP : va_P (dC, dI) vwCl (([[cI cyI qo 1 fo], (cXo x an tr o27.2.1), (cH cyO (x 1) (x 2) 2 fl), (cXk cyI x o27.2.1), (cH cyO (x 4) (x 5) 6 fs), (cT cyI x (X_text o27.2.1)), (cSo an o27.2.2.1), (cG cyI an (S_green o27.2.2.1)), (cV cyI an (S_score o27.2.2.1)), (cS cyI b0 o27.2.2.2.1), (cS cyI b1 o27.2.2.2.2.1), (cS cyI b2 o27.2.2.2.2.2.1), (cS cyI b3 o27.2.2.2.2.2.2.1), (cS cyI b4 o27.2.2.2.2.2.2.2.1), (cS cyI b5 o27.2.2.2.2.2.2.2.2)] : List va_W).flatten) H := hP.perm hq
            have hD : va_D A (([[cI cyI qo 1 fo], (cXo x an tr o27.2.1), (cH cyO (x 1) (x 2) 2 fl), (cXk cyI x o27.2.1), (cH cyO (x 4) (x 5) 6 fs), (cT cyI x (X_text o27.2.1)), (cSo an o27.2.2.1), (cG cyI an (S_green o27.2.2.1)), (cV cyI an (S_score o27.2.2.1)), (cS cyI b0 o27.2.2.2.1), (cS cyI b1 o27.2.2.2.2.1), (cS cyI b2 o27.2.2.2.2.2.1), (cS cyI b3 o27.2.2.2.2.2.2.1), (cS cyI b4 o27.2.2.2.2.2.2.2.1), (cS cyI b5 o27.2.2.2.2.2.2.2.2)] : List va_W).flatten) := hD.perm hq
            clear hq
            by_cases c29 : k = 2
            · subst c29
              have hF := itp rfl hF
              refine vx_catch (E := eIO) (name := eIO) hown [] ⟨0, 116, 119, 38⟩ [⟨0, 116, 123, 40⟩, ⟨0, 116, 127, 42⟩] hTab (fun z hz => nomatch hz) (by decide) (by decide) (hts _ w_classLink_L_38) (hZ.2.2.2.1.use _ (by decide)) h9 hv9 hc9 ?_
              refine lv_astore (lv' := [(6, .ref q9), (0, .ref (x 0)), (1, .int p2), (2, .int p3), (3, .int p4), (4, .int p5), (5, .ref qo)]) hx hb dL_changes_119 hl (by decide) rfl (fun ls hl => ?_)
              refine lv_iconst (v := 1) hx hb dL_changes_121 (by decide) ?_
              refine W.widen (k := 6) (n := 36) (by omega) (by omega) ?_
              exact W.iret (v := (1 : Int32)) hx hb hr (fun t ht hW => ⟨⟨_, (fo, o27.2.1, o27.2.2.1, o27.2.2.2.1, o27.2.2.2.2.1, o27.2.2.2.2.2.1, o27.2.2.2.2.2.2.1, o27.2.2.2.2.2.2.2.1, o27.2.2.2.2.2.2.2.2), rfl, Option.some.inj hF, by rw [ht]; exact hP, hD⟩, hS.F ht⟩) hS.2.2 dL_changes_122
            · have hF := itn c29 hF
              by_cases c30 : k = 0
              · subst c30
                have hF := itp rfl hF
                refine vx_catch (E := eIA) (name := eIA) hown [⟨0, 116, 119, 38⟩] ⟨0, 116, 123, 40⟩ [⟨0, 116, 127, 42⟩] hTab (fun z hz => by simp only [List.mem_cons, List.not_mem_nil, or_false] at hz; rcases hz with rfl <;> first | exact Or.inr ⟨by decide, _, hts _ w_classLink_L_38, hZ.2.2.2.2 (eIA, eIO) (by decide)⟩) (by decide) (by decide) (hts _ w_classLink_L_40) (hZ.2.2.2.1.use _ (by decide)) h9 hv9 hc9 ?_
                refine lv_astore (lv' := [(6, .ref q9), (0, .ref (x 0)), (1, .int p2), (2, .int p3), (3, .int p4), (4, .int p5), (5, .ref qo)]) hx hb dL_changes_123 hl (by decide) rfl (fun ls hl => ?_)
                refine lv_iconst (v := 2) hx hb dL_changes_125 (by decide) ?_
                refine W.widen (k := 6) (n := 36) (by omega) (by omega) ?_
                exact W.iret (v := (2 : Int32)) hx hb hr (fun t ht hW => ⟨⟨_, (fo, o27.2.1, o27.2.2.1, o27.2.2.2.1, o27.2.2.2.2.1, o27.2.2.2.2.2.1, o27.2.2.2.2.2.2.1, o27.2.2.2.2.2.2.2.1, o27.2.2.2.2.2.2.2.2), rfl, Option.some.inj hF, by rw [ht]; exact hP, hD⟩, hS.F ht⟩) hS.2.2 dL_changes_126
              · have hF := itn c30 hF
                by_cases c31 : k = 1
                · subst c31
                  have hF := itp rfl hF
                  refine vx_catch (E := eIS) (name := eIS) hown [⟨0, 116, 119, 38⟩, ⟨0, 116, 123, 40⟩] ⟨0, 116, 127, 42⟩ [] hTab (fun z hz => by simp only [List.mem_cons, List.not_mem_nil, or_false] at hz; rcases hz with rfl | rfl <;> first | exact Or.inr ⟨by decide, _, hts _ w_classLink_L_38, hZ.2.2.2.2 (eIS, eIO) (by decide)⟩ | exact Or.inr ⟨by decide, _, hts _ w_classLink_L_40, hZ.2.2.2.2 (eIS, eIA) (by decide)⟩) (by decide) (by decide) (hts _ w_classLink_L_42) (hZ.2.2.2.1.use _ (by decide)) h9 hv9 hc9 ?_
                  refine lv_astore (lv' := [(6, .ref q9), (0, .ref (x 0)), (1, .int p2), (2, .int p3), (3, .int p4), (4, .int p5), (5, .ref qo)]) hx hb dL_changes_127 hl (by decide) rfl (fun ls hl => ?_)
                  refine lv_iconst (v := 3) hx hb dL_changes_129 (by decide) ?_
                  refine W.widen (k := 6) (n := 36) (by omega) (by omega) ?_
                  exact W.iret (v := (3 : Int32)) hx hb hr (fun t ht hW => ⟨⟨_, (fo, o27.2.1, o27.2.2.1, o27.2.2.2.1, o27.2.2.2.2.1, o27.2.2.2.2.2.1, o27.2.2.2.2.2.2.1, o27.2.2.2.2.2.2.2.1, o27.2.2.2.2.2.2.2.2), rfl, Option.some.inj hF, by rw [ht]; exact hP, hD⟩, hS.F ht⟩) hS.2.2 dL_changes_130
                · have hF := itn c31 hF
                  cases hF
          · skip
            obtain rfl : u = o27.2 := congrArg Prod.snd hw
            have hw1 : Sum.inr ro27 = o27.1 := congrArg Prod.fst hw
            rw [← hw1] at hF
            have hF := exc_r hF
            have hq := seg_permS (segs := [[cI cyI qo 1 fo], (cXo x an tr o27.2.1), (cH cyO (x 1) (x 2) 2 fl), (cXk cyI x o27.2.1), (cH cyO (x 4) (x 5) 6 fs), (cT cyI x (X_text o27.2.1)), (cSo an o27.2.2.1), (cG cyI an (S_green o27.2.2.1)), (cV cyI an (S_score o27.2.2.1)), (cS cyI b0 o27.2.2.2.1), (cS cyI b1 o27.2.2.2.2.1), (cS cyI b2 o27.2.2.2.2.2.1), (cS cyI b3 o27.2.2.2.2.2.2.1), (cS cyI b4 o27.2.2.2.2.2.2.2.1), (cS cyI b5 o27.2.2.2.2.2.2.2.2)]) (R := [[cI cyI qo 1 fo]]) (C := [(cXo x an tr o27.2.1), (cH cyO (x 1) (x 2) 2 fl), (cXk cyI x o27.2.1), (cH cyO (x 4) (x 5) 6 fs), (cT cyI x (X_text o27.2.1)), (cSo an o27.2.2.1), (cG cyI an (S_green o27.2.2.1)), (cV cyI an (S_score o27.2.2.1)), (cS cyI b0 o27.2.2.2.1), (cS cyI b1 o27.2.2.2.2.1), (cS cyI b2 o27.2.2.2.2.2.1), (cS cyI b3 o27.2.2.2.2.2.2.1), (cS cyI b4 o27.2.2.2.2.2.2.2.1), (cS cyI b5 o27.2.2.2.2.2.2.2.2)]) (n := 15) [0] [1, 2, 3, 4, 5, 6, 7, 8, 9, 10, 11, 12, 13, 14] rfl rfl rfl (by decide)
            have hP : va_P (dC, dI) vwCl (([[cI cyI qo 1 fo], (cXo x an tr o27.2.1), (cH cyO (x 1) (x 2) 2 fl), (cXk cyI x o27.2.1), (cH cyO (x 4) (x 5) 6 fs), (cT cyI x (X_text o27.2.1)), (cSo an o27.2.2.1), (cG cyI an (S_green o27.2.2.1)), (cV cyI an (S_score o27.2.2.1)), (cS cyI b0 o27.2.2.2.1), (cS cyI b1 o27.2.2.2.2.1), (cS cyI b2 o27.2.2.2.2.2.1), (cS cyI b3 o27.2.2.2.2.2.2.1), (cS cyI b4 o27.2.2.2.2.2.2.2.1), (cS cyI b5 o27.2.2.2.2.2.2.2.2)] : List va_W).flatten) H := hP.perm hq
            have hD : va_D A (([[cI cyI qo 1 fo], (cXo x an tr o27.2.1), (cH cyO (x 1) (x 2) 2 fl), (cXk cyI x o27.2.1), (cH cyO (x 4) (x 5) 6 fs), (cT cyI x (X_text o27.2.1)), (cSo an o27.2.2.1), (cG cyI an (S_green o27.2.2.1)), (cV cyI an (S_score o27.2.2.1)), (cS cyI b0 o27.2.2.2.1), (cS cyI b1 o27.2.2.2.2.1), (cS cyI b2 o27.2.2.2.2.2.1), (cS cyI b3 o27.2.2.2.2.2.2.1), (cS cyI b4 o27.2.2.2.2.2.2.2.1), (cS cyI b5 o27.2.2.2.2.2.2.2.2)] : List va_W).flatten) := hD.perm hq
            clear hq
            refine lv_goto (tgt := 115) hx hb dL_changes_53 (by decide) ?_
            refine W.widen (k := 6) (n := 36) (by omega) (by omega) ?_
            exact hJ115 (ro27, fo, o27.2.1, o27.2.2.1, o27.2.2.2.1, o27.2.2.2.2.1, o27.2.2.2.2.2.1, o27.2.2.2.2.2.2.1, o27.2.2.2.2.2.2.2.1, o27.2.2.2.2.2.2.2.2) _ _ _ hP hD hS (lv_sub hl [] rfl) hF
      · have hF := itp c4 hF
        refine lv_aload_n hx hb dL_changes_36 rfl (lv_at hl 0 rfl) ?_
        obtain ⟨o32, h33, hF⟩ := obd hF
        refine wxPVi (As := []) (rest := [.int (0 : Int32), .ref qo]) (wr := ([[cI cyI qo 1 fo]] : List va_W).flatten) (b := (x 0)) ⟨hx, hb, hml, hown, hts⟩ (met_X5_count l z0 hst dC dI cyI cyO x tr an b0 b1 b2 b3 b4 b5 fl fs _ N xv nv v0 v1 v2 v3 v4 v5 hs0 hs1 hs2 hs3 hs4 hs5 o32 h33) (cwV 0 hts (gV w_methodLink_L_18 w_instanceMethod_X5_count w_selects_X5_count w_initialized_X5 w_code_X5_count) rfl rfl rfl (by decide +kernel) ⟨Nat.le_of_ble_eq_true rfl, Nat.le_of_ble_eq_true rfl⟩) (va_recv hK.1 hP (ci := 5) (q0 := 1) rfl rfl) hP hD hK hZ hAz hz0 (seg_perm (n := 15) (R := [[cI cyI qo 1 fo]]) (C := [(cXo x an tr xv), (cH cyO (x 1) (x 2) 2 fl), (cXk cyI x xv), (cH cyO (x 4) (x 5) 6 fs), (cT cyI x (X_text xv)), (cSo an nv), (cG cyI an (S_green nv)), (cV cyI an (S_score nv)), (cS cyI b0 v0), (cS cyI b1 v1), (cS cyI b2 v2), (cS cyI b3 v3), (cS cyI b4 v4), (cS cyI b5 v5)]) [0] [1, 2, 3, 4, 5, 6, 7, 8, 9, 10, 11, 12, 13, 14] rfl rfl rfl (by decide) rfl) rfl hl.1 (Nat.le_of_ble_eq_true rfl) dL_changes_37 ⟨(show _ ≤ 6 from by omega), (show _ ≤ 36 from by omega)⟩ hS hA (fun k u ce q9 H locs hw hP hD hS h9 hv9 hc9 => ?_) (fun ro32 u H locs hw hP hD hS => ?_)
        · obtain rfl : u = o32.2 := congrArg Prod.snd hw
          have hw1 : Sum.inl k = o32.1 := congrArg Prod.fst hw
          rw [← hw1] at hF
          have hF := exc_l hF
          have hq := seg_permS (segs := [[cI cyI qo 1 fo], (cXo x an tr o32.2.1), (cH cyO (x 1) (x 2) 2 fl), (cXk cyI x o32.2.1), (cH cyO (x 4) (x 5) 6 fs), (cT cyI x (X_text o32.2.1)), (cSo an o32.2.2.1), (cG cyI an (S_green o32.2.2.1)), (cV cyI an (S_score o32.2.2.1)), (cS cyI b0 o32.2.2.2.1), (cS cyI b1 o32.2.2.2.2.1), (cS cyI b2 o32.2.2.2.2.2.1), (cS cyI b3 o32.2.2.2.2.2.2.1), (cS cyI b4 o32.2.2.2.2.2.2.2.1), (cS cyI b5 o32.2.2.2.2.2.2.2.2)]) (R := [[cI cyI qo 1 fo]]) (C := [(cXo x an tr o32.2.1), (cH cyO (x 1) (x 2) 2 fl), (cXk cyI x o32.2.1), (cH cyO (x 4) (x 5) 6 fs), (cT cyI x (X_text o32.2.1)), (cSo an o32.2.2.1), (cG cyI an (S_green o32.2.2.1)), (cV cyI an (S_score o32.2.2.1)), (cS cyI b0 o32.2.2.2.1), (cS cyI b1 o32.2.2.2.2.1), (cS cyI b2 o32.2.2.2.2.2.1), (cS cyI b3 o32.2.2.2.2.2.2.1), (cS cyI b4 o32.2.2.2.2.2.2.2.1), (cS cyI b5 o32.2.2.2.2.2.2.2.2)]) (n := 15) [0] [1, 2, 3, 4, 5, 6, 7, 8, 9, 10, 11, 12, 13, 14] rfl rfl rfl (by decide)
          have hP : va_P (dC, dI) vwCl (([[cI cyI qo 1 fo], (cXo x an tr o32.2.1), (cH cyO (x 1) (x 2) 2 fl), (cXk cyI x o32.2.1), (cH cyO (x 4) (x 5) 6 fs), (cT cyI x (X_text o32.2.1)), (cSo an o32.2.2.1), (cG cyI an (S_green o32.2.2.1)), (cV cyI an (S_score o32.2.2.1)), (cS cyI b0 o32.2.2.2.1), (cS cyI b1 o32.2.2.2.2.1), (cS cyI b2 o32.2.2.2.2.2.1), (cS cyI b3 o32.2.2.2.2.2.2.1), (cS cyI b4 o32.2.2.2.2.2.2.2.1), (cS cyI b5 o32.2.2.2.2.2.2.2.2)] : List va_W).flatten) H := hP.perm hq
          have hD : va_D A (([[cI cyI qo 1 fo], (cXo x an tr o32.2.1), (cH cyO (x 1) (x 2) 2 fl), (cXk cyI x o32.2.1), (cH cyO (x 4) (x 5) 6 fs), (cT cyI x (X_text o32.2.1)), (cSo an o32.2.2.1), (cG cyI an (S_green o32.2.2.1)), (cV cyI an (S_score o32.2.2.1)), (cS cyI b0 o32.2.2.2.1), (cS cyI b1 o32.2.2.2.2.1), (cS cyI b2 o32.2.2.2.2.2.1), (cS cyI b3 o32.2.2.2.2.2.2.1), (cS cyI b4 o32.2.2.2.2.2.2.2.1), (cS cyI b5 o32.2.2.2.2.2.2.2.2)] : List va_W).flatten) := hD.perm hq
          clear hq
          by_cases c34 : k = 2
          · subst c34
            have hF := itp rfl hF
            refine vx_catch (E := eIO) (name := eIO) hown [] ⟨0, 116, 119, 38⟩ [⟨0, 116, 123, 40⟩, ⟨0, 116, 127, 42⟩] hTab (fun z hz => nomatch hz) (by decide) (by decide) (hts _ w_classLink_L_38) (hZ.2.2.2.1.use _ (by decide)) h9 hv9 hc9 ?_
            refine lv_astore (lv' := [(6, .ref q9), (0, .ref (x 0)), (1, .int p2), (2, .int p3), (3, .int p4), (4, .int p5), (5, .ref qo)]) hx hb dL_changes_119 hl (by decide) rfl (fun ls hl => ?_)
            refine lv_iconst (v := 1) hx hb dL_changes_121 (by decide) ?_
            refine W.widen (k := 6) (n := 36) (by omega) (by omega) ?_
            exact W.iret (v := (1 : Int32)) hx hb hr (fun t ht hW => ⟨⟨_, (fo, o32.2.1, o32.2.2.1, o32.2.2.2.1, o32.2.2.2.2.1, o32.2.2.2.2.2.1, o32.2.2.2.2.2.2.1, o32.2.2.2.2.2.2.2.1, o32.2.2.2.2.2.2.2.2), rfl, Option.some.inj hF, by rw [ht]; exact hP, hD⟩, hS.F ht⟩) hS.2.2 dL_changes_122
          · have hF := itn c34 hF
            by_cases c35 : k = 0
            · subst c35
              have hF := itp rfl hF
              refine vx_catch (E := eIA) (name := eIA) hown [⟨0, 116, 119, 38⟩] ⟨0, 116, 123, 40⟩ [⟨0, 116, 127, 42⟩] hTab (fun z hz => by simp only [List.mem_cons, List.not_mem_nil, or_false] at hz; rcases hz with rfl <;> first | exact Or.inr ⟨by decide, _, hts _ w_classLink_L_38, hZ.2.2.2.2 (eIA, eIO) (by decide)⟩) (by decide) (by decide) (hts _ w_classLink_L_40) (hZ.2.2.2.1.use _ (by decide)) h9 hv9 hc9 ?_
              refine lv_astore (lv' := [(6, .ref q9), (0, .ref (x 0)), (1, .int p2), (2, .int p3), (3, .int p4), (4, .int p5), (5, .ref qo)]) hx hb dL_changes_123 hl (by decide) rfl (fun ls hl => ?_)
              refine lv_iconst (v := 2) hx hb dL_changes_125 (by decide) ?_
              refine W.widen (k := 6) (n := 36) (by omega) (by omega) ?_
              exact W.iret (v := (2 : Int32)) hx hb hr (fun t ht hW => ⟨⟨_, (fo, o32.2.1, o32.2.2.1, o32.2.2.2.1, o32.2.2.2.2.1, o32.2.2.2.2.2.1, o32.2.2.2.2.2.2.1, o32.2.2.2.2.2.2.2.1, o32.2.2.2.2.2.2.2.2), rfl, Option.some.inj hF, by rw [ht]; exact hP, hD⟩, hS.F ht⟩) hS.2.2 dL_changes_126
            · have hF := itn c35 hF
              by_cases c36 : k = 1
              · subst c36
                have hF := itp rfl hF
                refine vx_catch (E := eIS) (name := eIS) hown [⟨0, 116, 119, 38⟩, ⟨0, 116, 123, 40⟩] ⟨0, 116, 127, 42⟩ [] hTab (fun z hz => by simp only [List.mem_cons, List.not_mem_nil, or_false] at hz; rcases hz with rfl | rfl <;> first | exact Or.inr ⟨by decide, _, hts _ w_classLink_L_38, hZ.2.2.2.2 (eIS, eIO) (by decide)⟩ | exact Or.inr ⟨by decide, _, hts _ w_classLink_L_40, hZ.2.2.2.2 (eIS, eIA) (by decide)⟩) (by decide) (by decide) (hts _ w_classLink_L_42) (hZ.2.2.2.1.use _ (by decide)) h9 hv9 hc9 ?_
                refine lv_astore (lv' := [(6, .ref q9), (0, .ref (x 0)), (1, .int p2), (2, .int p3), (3, .int p4), (4, .int p5), (5, .ref qo)]) hx hb dL_changes_127 hl (by decide) rfl (fun ls hl => ?_)
                refine lv_iconst (v := 3) hx hb dL_changes_129 (by decide) ?_
                refine W.widen (k := 6) (n := 36) (by omega) (by omega) ?_
                exact W.iret (v := (3 : Int32)) hx hb hr (fun t ht hW => ⟨⟨_, (fo, o32.2.1, o32.2.2.1, o32.2.2.2.1, o32.2.2.2.2.1, o32.2.2.2.2.2.1, o32.2.2.2.2.2.2.1, o32.2.2.2.2.2.2.2.1, o32.2.2.2.2.2.2.2.2), rfl, Option.some.inj hF, by rw [ht]; exact hP, hD⟩, hS.F ht⟩) hS.2.2 dL_changes_130
              · have hF := itn c36 hF
                cases hF
        · skip
          obtain rfl : u = o32.2 := congrArg Prod.snd hw
          have hw1 : Sum.inr ro32 = o32.1 := congrArg Prod.fst hw
          rw [← hw1] at hF
          have hF := exc_r hF
          have hq := seg_permS (segs := [[cI cyI qo 1 fo], (cXo x an tr o32.2.1), (cH cyO (x 1) (x 2) 2 fl), (cXk cyI x o32.2.1), (cH cyO (x 4) (x 5) 6 fs), (cT cyI x (X_text o32.2.1)), (cSo an o32.2.2.1), (cG cyI an (S_green o32.2.2.1)), (cV cyI an (S_score o32.2.2.1)), (cS cyI b0 o32.2.2.2.1), (cS cyI b1 o32.2.2.2.2.1), (cS cyI b2 o32.2.2.2.2.2.1), (cS cyI b3 o32.2.2.2.2.2.2.1), (cS cyI b4 o32.2.2.2.2.2.2.2.1), (cS cyI b5 o32.2.2.2.2.2.2.2.2)]) (R := [[cI cyI qo 1 fo]]) (C := [(cXo x an tr o32.2.1), (cH cyO (x 1) (x 2) 2 fl), (cXk cyI x o32.2.1), (cH cyO (x 4) (x 5) 6 fs), (cT cyI x (X_text o32.2.1)), (cSo an o32.2.2.1), (cG cyI an (S_green o32.2.2.1)), (cV cyI an (S_score o32.2.2.1)), (cS cyI b0 o32.2.2.2.1), (cS cyI b1 o32.2.2.2.2.1), (cS cyI b2 o32.2.2.2.2.2.1), (cS cyI b3 o32.2.2.2.2.2.2.1), (cS cyI b4 o32.2.2.2.2.2.2.2.1), (cS cyI b5 o32.2.2.2.2.2.2.2.2)]) (n := 15) [0] [1, 2, 3, 4, 5, 6, 7, 8, 9, 10, 11, 12, 13, 14] rfl rfl rfl (by decide)
          have hP : va_P (dC, dI) vwCl (([[cI cyI qo 1 fo], (cXo x an tr o32.2.1), (cH cyO (x 1) (x 2) 2 fl), (cXk cyI x o32.2.1), (cH cyO (x 4) (x 5) 6 fs), (cT cyI x (X_text o32.2.1)), (cSo an o32.2.2.1), (cG cyI an (S_green o32.2.2.1)), (cV cyI an (S_score o32.2.2.1)), (cS cyI b0 o32.2.2.2.1), (cS cyI b1 o32.2.2.2.2.1), (cS cyI b2 o32.2.2.2.2.2.1), (cS cyI b3 o32.2.2.2.2.2.2.1), (cS cyI b4 o32.2.2.2.2.2.2.2.1), (cS cyI b5 o32.2.2.2.2.2.2.2.2)] : List va_W).flatten) H := hP.perm hq
          have hD : va_D A (([[cI cyI qo 1 fo], (cXo x an tr o32.2.1), (cH cyO (x 1) (x 2) 2 fl), (cXk cyI x o32.2.1), (cH cyO (x 4) (x 5) 6 fs), (cT cyI x (X_text o32.2.1)), (cSo an o32.2.2.1), (cG cyI an (S_green o32.2.2.1)), (cV cyI an (S_score o32.2.2.1)), (cS cyI b0 o32.2.2.2.1), (cS cyI b1 o32.2.2.2.2.1), (cS cyI b2 o32.2.2.2.2.2.1), (cS cyI b3 o32.2.2.2.2.2.2.1), (cS cyI b4 o32.2.2.2.2.2.2.2.1), (cS cyI b5 o32.2.2.2.2.2.2.2.2)] : List va_W).flatten) := hD.perm hq
          clear hq
          refine lv_goto (tgt := 115) hx hb dL_changes_40 (by decide) ?_
          refine W.widen (k := 6) (n := 36) (by omega) (by omega) ?_
          exact hJ115 (ro32, fo, o32.2.1, o32.2.2.1, o32.2.2.2.1, o32.2.2.2.2.1, o32.2.2.2.2.2.1, o32.2.2.2.2.2.2.1, o32.2.2.2.2.2.2.2.1, o32.2.2.2.2.2.2.2.2) _ _ _ hP hD hS (lv_sub hl [] rfl) hF
    · have hF := itp c3 hF
      refine lv_aload_n hx hb dL_changes_20 rfl (lv_at hl 0 rfl) ?_
      refine lv_iload_n hx hb dL_changes_21 rfl (lv_at hl 2 rfl) ?_
      refine lv_iload_n hx hb dL_changes_22 rfl (lv_at hl 3 rfl) ?_
      refine lv_iload hx hb dL_changes_23 (lv_at hl 4 rfl) ?_
      obtain ⟨o37, h38, hF⟩ := obd hF
      refine wxPVi (As := [.int p3, .int p4, .int p5]) (rest := [.int (0 : Int32), .ref qo]) (wr := ([[cI cyI qo 1 fo]] : List va_W).flatten) (b := (x 0)) ⟨hx, hb, hml, hown, hts⟩ (met_X5_play l z0 hst dC dI cyI cyO x tr an b0 b1 b2 b3 b4 b5 fl fs _ N xv nv v0 v1 v2 v3 v4 v5 p3 p4 p5 hs0 hs1 hs2 hs3 hs4 hs5 o37 h38) (cwV 3 hts (gV w_methodLink_L_14 w_instanceMethod_X5_play w_selects_X5_play w_initialized_X5 w_code_X5_play) rfl rfl rfl (by decide +kernel) ⟨Nat.le_of_ble_eq_true rfl, Nat.le_of_ble_eq_true rfl⟩) (va_recv hK.1 hP (ci := 5) (q0 := 1) rfl rfl) hP hD hK hZ hAz hz0 (seg_perm (n := 15) (R := [[cI cyI qo 1 fo]]) (C := [(cXo x an tr xv), (cH cyO (x 1) (x 2) 2 fl), (cXk cyI x xv), (cH cyO (x 4) (x 5) 6 fs), (cT cyI x (X_text xv)), (cSo an nv), (cG cyI an (S_green nv)), (cV cyI an (S_score nv)), (cS cyI b0 v0), (cS cyI b1 v1), (cS cyI b2 v2), (cS cyI b3 v3), (cS cyI b4 v4), (cS cyI b5 v5)]) [0] [1, 2, 3, 4, 5, 6, 7, 8, 9, 10, 11, 12, 13, 14] rfl rfl rfl (by decide) rfl) rfl hl.1 (Nat.le_of_ble_eq_true rfl) dL_changes_25 ⟨(show _ ≤ 6 from by omega), (show _ ≤ 36 from by omega)⟩ hS hA (fun k u ce q9 H locs hw hP hD hS h9 hv9 hc9 => ?_) (fun ro37 u H locs hw hP hD hS => ?_)
      · obtain rfl : u = o37.2 := congrArg Prod.snd hw
        have hw1 : Sum.inl k = o37.1 := congrArg Prod.fst hw
        rw [← hw1] at hF
        have hF := exc_l hF
        have hq := seg_permS (segs := [[cI cyI qo 1 fo], (cXo x an tr o37.2.1), (cH cyO (x 1) (x 2) 2 fl), (cXk cyI x o37.2.1), (cH cyO (x 4) (x 5) 6 fs), (cT cyI x (X_text o37.2.1)), (cSo an o37.2.2.1), (cG cyI an (S_green o37.2.2.1)), (cV cyI an (S_score o37.2.2.1)), (cS cyI b0 o37.2.2.2.1), (cS cyI b1 o37.2.2.2.2.1), (cS cyI b2 o37.2.2.2.2.2.1), (cS cyI b3 o37.2.2.2.2.2.2.1), (cS cyI b4 o37.2.2.2.2.2.2.2.1), (cS cyI b5 o37.2.2.2.2.2.2.2.2)]) (R := [[cI cyI qo 1 fo]]) (C := [(cXo x an tr o37.2.1), (cH cyO (x 1) (x 2) 2 fl), (cXk cyI x o37.2.1), (cH cyO (x 4) (x 5) 6 fs), (cT cyI x (X_text o37.2.1)), (cSo an o37.2.2.1), (cG cyI an (S_green o37.2.2.1)), (cV cyI an (S_score o37.2.2.1)), (cS cyI b0 o37.2.2.2.1), (cS cyI b1 o37.2.2.2.2.1), (cS cyI b2 o37.2.2.2.2.2.1), (cS cyI b3 o37.2.2.2.2.2.2.1), (cS cyI b4 o37.2.2.2.2.2.2.2.1), (cS cyI b5 o37.2.2.2.2.2.2.2.2)]) (n := 15) [0] [1, 2, 3, 4, 5, 6, 7, 8, 9, 10, 11, 12, 13, 14] rfl rfl rfl (by decide)
        have hP : va_P (dC, dI) vwCl (([[cI cyI qo 1 fo], (cXo x an tr o37.2.1), (cH cyO (x 1) (x 2) 2 fl), (cXk cyI x o37.2.1), (cH cyO (x 4) (x 5) 6 fs), (cT cyI x (X_text o37.2.1)), (cSo an o37.2.2.1), (cG cyI an (S_green o37.2.2.1)), (cV cyI an (S_score o37.2.2.1)), (cS cyI b0 o37.2.2.2.1), (cS cyI b1 o37.2.2.2.2.1), (cS cyI b2 o37.2.2.2.2.2.1), (cS cyI b3 o37.2.2.2.2.2.2.1), (cS cyI b4 o37.2.2.2.2.2.2.2.1), (cS cyI b5 o37.2.2.2.2.2.2.2.2)] : List va_W).flatten) H := hP.perm hq
        have hD : va_D A (([[cI cyI qo 1 fo], (cXo x an tr o37.2.1), (cH cyO (x 1) (x 2) 2 fl), (cXk cyI x o37.2.1), (cH cyO (x 4) (x 5) 6 fs), (cT cyI x (X_text o37.2.1)), (cSo an o37.2.2.1), (cG cyI an (S_green o37.2.2.1)), (cV cyI an (S_score o37.2.2.1)), (cS cyI b0 o37.2.2.2.1), (cS cyI b1 o37.2.2.2.2.1), (cS cyI b2 o37.2.2.2.2.2.1), (cS cyI b3 o37.2.2.2.2.2.2.1), (cS cyI b4 o37.2.2.2.2.2.2.2.1), (cS cyI b5 o37.2.2.2.2.2.2.2.2)] : List va_W).flatten) := hD.perm hq
        clear hq
        by_cases c39 : k = 2
        · subst c39
          have hF := itp rfl hF
          refine vx_catch (E := eIO) (name := eIO) hown [] ⟨0, 116, 119, 38⟩ [⟨0, 116, 123, 40⟩, ⟨0, 116, 127, 42⟩] hTab (fun z hz => nomatch hz) (by decide) (by decide) (hts _ w_classLink_L_38) (hZ.2.2.2.1.use _ (by decide)) h9 hv9 hc9 ?_
          refine lv_astore (lv' := [(6, .ref q9), (0, .ref (x 0)), (1, .int p2), (2, .int p3), (3, .int p4), (4, .int p5), (5, .ref qo)]) hx hb dL_changes_119 hl (by decide) rfl (fun ls hl => ?_)
          refine lv_iconst (v := 1) hx hb dL_changes_121 (by decide) ?_
          refine W.widen (k := 6) (n := 36) (by omega) (by omega) ?_
          exact W.iret (v := (1 : Int32)) hx hb hr (fun t ht hW => ⟨⟨_, (fo, o37.2.1, o37.2.2.1, o37.2.2.2.1, o37.2.2.2.2.1, o37.2.2.2.2.2.1, o37.2.2.2.2.2.2.1, o37.2.2.2.2.2.2.2.1, o37.2.2.2.2.2.2.2.2), rfl, Option.some.inj hF, by rw [ht]; exact hP, hD⟩, hS.F ht⟩) hS.2.2 dL_changes_122
        · have hF := itn c39 hF
          by_cases c40 : k = 0
          · subst c40
            have hF := itp rfl hF
            refine vx_catch (E := eIA) (name := eIA) hown [⟨0, 116, 119, 38⟩] ⟨0, 116, 123, 40⟩ [⟨0, 116, 127, 42⟩] hTab (fun z hz => by simp only [List.mem_cons, List.not_mem_nil, or_false] at hz; rcases hz with rfl <;> first | exact Or.inr ⟨by decide, _, hts _ w_classLink_L_38, hZ.2.2.2.2 (eIA, eIO) (by decide)⟩) (by decide) (by decide) (hts _ w_classLink_L_40) (hZ.2.2.2.1.use _ (by decide)) h9 hv9 hc9 ?_
            refine lv_astore (lv' := [(6, .ref q9), (0, .ref (x 0)), (1, .int p2), (2, .int p3), (3, .int p4), (4, .int p5), (5, .ref qo)]) hx hb dL_changes_123 hl (by decide) rfl (fun ls hl => ?_)
            refine lv_iconst (v := 2) hx hb dL_changes_125 (by decide) ?_
            refine W.widen (k := 6) (n := 36) (by omega) (by omega) ?_
            exact W.iret (v := (2 : Int32)) hx hb hr (fun t ht hW => ⟨⟨_, (fo, o37.2.1, o37.2.2.1, o37.2.2.2.1, o37.2.2.2.2.1, o37.2.2.2.2.2.1, o37.2.2.2.2.2.2.1, o37.2.2.2.2.2.2.2.1, o37.2.2.2.2.2.2.2.2), rfl, Option.some.inj hF, by rw [ht]; exact hP, hD⟩, hS.F ht⟩) hS.2.2 dL_changes_126
          · have hF := itn c40 hF
            by_cases c41 : k = 1
            · subst c41
              have hF := itp rfl hF
              refine vx_catch (E := eIS) (name := eIS) hown [⟨0, 116, 119, 38⟩, ⟨0, 116, 123, 40⟩] ⟨0, 116, 127, 42⟩ [] hTab (fun z hz => by simp only [List.mem_cons, List.not_mem_nil, or_false] at hz; rcases hz with rfl | rfl <;> first | exact Or.inr ⟨by decide, _, hts _ w_classLink_L_38, hZ.2.2.2.2 (eIS, eIO) (by decide)⟩ | exact Or.inr ⟨by decide, _, hts _ w_classLink_L_40, hZ.2.2.2.2 (eIS, eIA) (by decide)⟩) (by decide) (by decide) (hts _ w_classLink_L_42) (hZ.2.2.2.1.use _ (by decide)) h9 hv9 hc9 ?_
              refine lv_astore (lv' := [(6, .ref q9), (0, .ref (x 0)), (1, .int p2), (2, .int p3), (3, .int p4), (4, .int p5), (5, .ref qo)]) hx hb dL_changes_127 hl (by decide) rfl (fun ls hl => ?_)
              refine lv_iconst (v := 3) hx hb dL_changes_129 (by decide) ?_
              refine W.widen (k := 6) (n := 36) (by omega) (by omega) ?_
              exact W.iret (v := (3 : Int32)) hx hb hr (fun t ht hW => ⟨⟨_, (fo, o37.2.1, o37.2.2.1, o37.2.2.2.1, o37.2.2.2.2.1, o37.2.2.2.2.2.1, o37.2.2.2.2.2.2.1, o37.2.2.2.2.2.2.2.1, o37.2.2.2.2.2.2.2.2), rfl, Option.some.inj hF, by rw [ht]; exact hP, hD⟩, hS.F ht⟩) hS.2.2 dL_changes_130
            · have hF := itn c41 hF
              cases hF
      · skip
        obtain rfl : u = o37.2 := congrArg Prod.snd hw
        have hw1 : Sum.inr ro37 = o37.1 := congrArg Prod.fst hw
        rw [← hw1] at hF
        have hF := exc_r hF
        have hq := seg_permS (segs := [[cI cyI qo 1 fo], (cXo x an tr o37.2.1), (cH cyO (x 1) (x 2) 2 fl), (cXk cyI x o37.2.1), (cH cyO (x 4) (x 5) 6 fs), (cT cyI x (X_text o37.2.1)), (cSo an o37.2.2.1), (cG cyI an (S_green o37.2.2.1)), (cV cyI an (S_score o37.2.2.1)), (cS cyI b0 o37.2.2.2.1), (cS cyI b1 o37.2.2.2.2.1), (cS cyI b2 o37.2.2.2.2.2.1), (cS cyI b3 o37.2.2.2.2.2.2.1), (cS cyI b4 o37.2.2.2.2.2.2.2.1), (cS cyI b5 o37.2.2.2.2.2.2.2.2)]) (R := [[cI cyI qo 1 fo]]) (C := [(cXo x an tr o37.2.1), (cH cyO (x 1) (x 2) 2 fl), (cXk cyI x o37.2.1), (cH cyO (x 4) (x 5) 6 fs), (cT cyI x (X_text o37.2.1)), (cSo an o37.2.2.1), (cG cyI an (S_green o37.2.2.1)), (cV cyI an (S_score o37.2.2.1)), (cS cyI b0 o37.2.2.2.1), (cS cyI b1 o37.2.2.2.2.1), (cS cyI b2 o37.2.2.2.2.2.1), (cS cyI b3 o37.2.2.2.2.2.2.1), (cS cyI b4 o37.2.2.2.2.2.2.2.1), (cS cyI b5 o37.2.2.2.2.2.2.2.2)]) (n := 15) [0] [1, 2, 3, 4, 5, 6, 7, 8, 9, 10, 11, 12, 13, 14] rfl rfl rfl (by decide)
        have hP : va_P (dC, dI) vwCl (([[cI cyI qo 1 fo], (cXo x an tr o37.2.1), (cH cyO (x 1) (x 2) 2 fl), (cXk cyI x o37.2.1), (cH cyO (x 4) (x 5) 6 fs), (cT cyI x (X_text o37.2.1)), (cSo an o37.2.2.1), (cG cyI an (S_green o37.2.2.1)), (cV cyI an (S_score o37.2.2.1)), (cS cyI b0 o37.2.2.2.1), (cS cyI b1 o37.2.2.2.2.1), (cS cyI b2 o37.2.2.2.2.2.1), (cS cyI b3 o37.2.2.2.2.2.2.1), (cS cyI b4 o37.2.2.2.2.2.2.2.1), (cS cyI b5 o37.2.2.2.2.2.2.2.2)] : List va_W).flatten) H := hP.perm hq
        have hD : va_D A (([[cI cyI qo 1 fo], (cXo x an tr o37.2.1), (cH cyO (x 1) (x 2) 2 fl), (cXk cyI x o37.2.1), (cH cyO (x 4) (x 5) 6 fs), (cT cyI x (X_text o37.2.1)), (cSo an o37.2.2.1), (cG cyI an (S_green o37.2.2.1)), (cV cyI an (S_score o37.2.2.1)), (cS cyI b0 o37.2.2.2.1), (cS cyI b1 o37.2.2.2.2.1), (cS cyI b2 o37.2.2.2.2.2.1), (cS cyI b3 o37.2.2.2.2.2.2.1), (cS cyI b4 o37.2.2.2.2.2.2.2.1), (cS cyI b5 o37.2.2.2.2.2.2.2.2)] : List va_W).flatten) := hD.perm hq
        clear hq
        refine lv_goto (tgt := 115) hx hb dL_changes_28 (by decide) ?_
        refine W.widen (k := 6) (n := 36) (by omega) (by omega) ?_
        exact hJ115 (ro37, fo, o37.2.1, o37.2.2.1, o37.2.2.2.1, o37.2.2.2.2.1, o37.2.2.2.2.2.1, o37.2.2.2.2.2.2.1, o37.2.2.2.2.2.2.2.1, o37.2.2.2.2.2.2.2.2) _ _ _ hP hD hS (lv_sub hl [] rfl) hF
  · have hF := itp c2 hF
    refine lv_aload_n hx hb dL_changes_7 rfl (lv_at hl 0 rfl) ?_
    refine lv_iload_n hx hb dL_changes_8 rfl (lv_at hl 2 rfl) ?_
    obtain ⟨o42, h43, hF⟩ := obd hF
    refine wxPVi (As := [.int p3]) (rest := [.int (0 : Int32), .ref qo]) (wr := ([[cI cyI qo 1 fo]] : List va_W).flatten) (b := (x 0)) ⟨hx, hb, hml, hown, hts⟩ (met_X5_roll l z0 hst dC dI cyI cyO x tr an b0 b1 b2 b3 b4 b5 fl fs _ N xv nv v0 v1 v2 v3 v4 v5 p3 hs0 hs1 hs2 hs3 hs4 hs5 o42 h43) (cwV 1 hts (gV w_methodLink_L_8 w_instanceMethod_X5_roll w_selects_X5_roll w_initialized_X5 w_code_X5_roll) rfl rfl rfl (by decide +kernel) ⟨Nat.le_of_ble_eq_true rfl, Nat.le_of_ble_eq_true rfl⟩) (va_recv hK.1 hP (ci := 5) (q0 := 1) rfl rfl) hP hD hK hZ hAz hz0 (seg_perm (n := 15) (R := [[cI cyI qo 1 fo]]) (C := [(cXo x an tr xv), (cH cyO (x 1) (x 2) 2 fl), (cXk cyI x xv), (cH cyO (x 4) (x 5) 6 fs), (cT cyI x (X_text xv)), (cSo an nv), (cG cyI an (S_green nv)), (cV cyI an (S_score nv)), (cS cyI b0 v0), (cS cyI b1 v1), (cS cyI b2 v2), (cS cyI b3 v3), (cS cyI b4 v4), (cS cyI b5 v5)]) [0] [1, 2, 3, 4, 5, 6, 7, 8, 9, 10, 11, 12, 13, 14] rfl rfl rfl (by decide) rfl) rfl hl.1 (Nat.le_of_ble_eq_true rfl) dL_changes_9 ⟨(show _ ≤ 6 from by omega), (show _ ≤ 36 from by omega)⟩ hS hA (fun k u ce q9 H locs hw hP hD hS h9 hv9 hc9 => ?_) (fun ro42 u H locs hw hP hD hS => ?_)
    · obtain rfl : u = o42.2 := congrArg Prod.snd hw
      have hw1 : Sum.inl k = o42.1 := congrArg Prod.fst hw
      rw [← hw1] at hF
      have hF := exc_l hF
      have hq := seg_permS (segs := [[cI cyI qo 1 fo], (cXo x an tr o42.2.1), (cH cyO (x 1) (x 2) 2 fl), (cXk cyI x o42.2.1), (cH cyO (x 4) (x 5) 6 fs), (cT cyI x (X_text o42.2.1)), (cSo an o42.2.2.1), (cG cyI an (S_green o42.2.2.1)), (cV cyI an (S_score o42.2.2.1)), (cS cyI b0 o42.2.2.2.1), (cS cyI b1 o42.2.2.2.2.1), (cS cyI b2 o42.2.2.2.2.2.1), (cS cyI b3 o42.2.2.2.2.2.2.1), (cS cyI b4 o42.2.2.2.2.2.2.2.1), (cS cyI b5 o42.2.2.2.2.2.2.2.2)]) (R := [[cI cyI qo 1 fo]]) (C := [(cXo x an tr o42.2.1), (cH cyO (x 1) (x 2) 2 fl), (cXk cyI x o42.2.1), (cH cyO (x 4) (x 5) 6 fs), (cT cyI x (X_text o42.2.1)), (cSo an o42.2.2.1), (cG cyI an (S_green o42.2.2.1)), (cV cyI an (S_score o42.2.2.1)), (cS cyI b0 o42.2.2.2.1), (cS cyI b1 o42.2.2.2.2.1), (cS cyI b2 o42.2.2.2.2.2.1), (cS cyI b3 o42.2.2.2.2.2.2.1), (cS cyI b4 o42.2.2.2.2.2.2.2.1), (cS cyI b5 o42.2.2.2.2.2.2.2.2)]) (n := 15) [0] [1, 2, 3, 4, 5, 6, 7, 8, 9, 10, 11, 12, 13, 14] rfl rfl rfl (by decide)
      have hP : va_P (dC, dI) vwCl (([[cI cyI qo 1 fo], (cXo x an tr o42.2.1), (cH cyO (x 1) (x 2) 2 fl), (cXk cyI x o42.2.1), (cH cyO (x 4) (x 5) 6 fs), (cT cyI x (X_text o42.2.1)), (cSo an o42.2.2.1), (cG cyI an (S_green o42.2.2.1)), (cV cyI an (S_score o42.2.2.1)), (cS cyI b0 o42.2.2.2.1), (cS cyI b1 o42.2.2.2.2.1), (cS cyI b2 o42.2.2.2.2.2.1), (cS cyI b3 o42.2.2.2.2.2.2.1), (cS cyI b4 o42.2.2.2.2.2.2.2.1), (cS cyI b5 o42.2.2.2.2.2.2.2.2)] : List va_W).flatten) H := hP.perm hq
      have hD : va_D A (([[cI cyI qo 1 fo], (cXo x an tr o42.2.1), (cH cyO (x 1) (x 2) 2 fl), (cXk cyI x o42.2.1), (cH cyO (x 4) (x 5) 6 fs), (cT cyI x (X_text o42.2.1)), (cSo an o42.2.2.1), (cG cyI an (S_green o42.2.2.1)), (cV cyI an (S_score o42.2.2.1)), (cS cyI b0 o42.2.2.2.1), (cS cyI b1 o42.2.2.2.2.1), (cS cyI b2 o42.2.2.2.2.2.1), (cS cyI b3 o42.2.2.2.2.2.2.1), (cS cyI b4 o42.2.2.2.2.2.2.2.1), (cS cyI b5 o42.2.2.2.2.2.2.2.2)] : List va_W).flatten) := hD.perm hq
      clear hq
      by_cases c44 : k = 2
      · subst c44
        have hF := itp rfl hF
        refine vx_catch (E := eIO) (name := eIO) hown [] ⟨0, 116, 119, 38⟩ [⟨0, 116, 123, 40⟩, ⟨0, 116, 127, 42⟩] hTab (fun z hz => nomatch hz) (by decide) (by decide) (hts _ w_classLink_L_38) (hZ.2.2.2.1.use _ (by decide)) h9 hv9 hc9 ?_
        refine lv_astore (lv' := [(6, .ref q9), (0, .ref (x 0)), (1, .int p2), (2, .int p3), (3, .int p4), (4, .int p5), (5, .ref qo)]) hx hb dL_changes_119 hl (by decide) rfl (fun ls hl => ?_)
        refine lv_iconst (v := 1) hx hb dL_changes_121 (by decide) ?_
        refine W.widen (k := 6) (n := 36) (by omega) (by omega) ?_
        exact W.iret (v := (1 : Int32)) hx hb hr (fun t ht hW => ⟨⟨_, (fo, o42.2.1, o42.2.2.1, o42.2.2.2.1, o42.2.2.2.2.1, o42.2.2.2.2.2.1, o42.2.2.2.2.2.2.1, o42.2.2.2.2.2.2.2.1, o42.2.2.2.2.2.2.2.2), rfl, Option.some.inj hF, by rw [ht]; exact hP, hD⟩, hS.F ht⟩) hS.2.2 dL_changes_122
      · have hF := itn c44 hF
        by_cases c45 : k = 0
        · subst c45
          have hF := itp rfl hF
          refine vx_catch (E := eIA) (name := eIA) hown [⟨0, 116, 119, 38⟩] ⟨0, 116, 123, 40⟩ [⟨0, 116, 127, 42⟩] hTab (fun z hz => by simp only [List.mem_cons, List.not_mem_nil, or_false] at hz; rcases hz with rfl <;> first | exact Or.inr ⟨by decide, _, hts _ w_classLink_L_38, hZ.2.2.2.2 (eIA, eIO) (by decide)⟩) (by decide) (by decide) (hts _ w_classLink_L_40) (hZ.2.2.2.1.use _ (by decide)) h9 hv9 hc9 ?_
          refine lv_astore (lv' := [(6, .ref q9), (0, .ref (x 0)), (1, .int p2), (2, .int p3), (3, .int p4), (4, .int p5), (5, .ref qo)]) hx hb dL_changes_123 hl (by decide) rfl (fun ls hl => ?_)
          refine lv_iconst (v := 2) hx hb dL_changes_125 (by decide) ?_
          refine W.widen (k := 6) (n := 36) (by omega) (by omega) ?_
          exact W.iret (v := (2 : Int32)) hx hb hr (fun t ht hW => ⟨⟨_, (fo, o42.2.1, o42.2.2.1, o42.2.2.2.1, o42.2.2.2.2.1, o42.2.2.2.2.2.1, o42.2.2.2.2.2.2.1, o42.2.2.2.2.2.2.2.1, o42.2.2.2.2.2.2.2.2), rfl, Option.some.inj hF, by rw [ht]; exact hP, hD⟩, hS.F ht⟩) hS.2.2 dL_changes_126
        · have hF := itn c45 hF
          by_cases c46 : k = 1
          · subst c46
            have hF := itp rfl hF
            refine vx_catch (E := eIS) (name := eIS) hown [⟨0, 116, 119, 38⟩, ⟨0, 116, 123, 40⟩] ⟨0, 116, 127, 42⟩ [] hTab (fun z hz => by simp only [List.mem_cons, List.not_mem_nil, or_false] at hz; rcases hz with rfl | rfl <;> first | exact Or.inr ⟨by decide, _, hts _ w_classLink_L_38, hZ.2.2.2.2 (eIS, eIO) (by decide)⟩ | exact Or.inr ⟨by decide, _, hts _ w_classLink_L_40, hZ.2.2.2.2 (eIS, eIA) (by decide)⟩) (by decide) (by decide) (hts _ w_classLink_L_42) (hZ.2.2.2.1.use _ (by decide)) h9 hv9 hc9 ?_
            refine lv_astore (lv' := [(6, .ref q9), (0, .ref (x 0)), (1, .int p2), (2, .int p3), (3, .int p4), (4, .int p5), (5, .ref qo)]) hx hb dL_changes_127 hl (by decide) rfl (fun ls hl => ?_)
            refine lv_iconst (v := 3) hx hb dL_changes_129 (by decide) ?_
            refine W.widen (k := 6) (n := 36) (by omega) (by omega) ?_
            exact W.iret (v := (3 : Int32)) hx hb hr (fun t ht hW => ⟨⟨_, (fo, o42.2.1, o42.2.2.1, o42.2.2.2.1, o42.2.2.2.2.1, o42.2.2.2.2.2.1, o42.2.2.2.2.2.2.1, o42.2.2.2.2.2.2.2.1, o42.2.2.2.2.2.2.2.2), rfl, Option.some.inj hF, by rw [ht]; exact hP, hD⟩, hS.F ht⟩) hS.2.2 dL_changes_130
          · have hF := itn c46 hF
            cases hF
    · skip
      obtain rfl : u = o42.2 := congrArg Prod.snd hw
      have hw1 : Sum.inr ro42 = o42.1 := congrArg Prod.fst hw
      rw [← hw1] at hF
      have hF := exc_r hF
      have hq := seg_permS (segs := [[cI cyI qo 1 fo], (cXo x an tr o42.2.1), (cH cyO (x 1) (x 2) 2 fl), (cXk cyI x o42.2.1), (cH cyO (x 4) (x 5) 6 fs), (cT cyI x (X_text o42.2.1)), (cSo an o42.2.2.1), (cG cyI an (S_green o42.2.2.1)), (cV cyI an (S_score o42.2.2.1)), (cS cyI b0 o42.2.2.2.1), (cS cyI b1 o42.2.2.2.2.1), (cS cyI b2 o42.2.2.2.2.2.1), (cS cyI b3 o42.2.2.2.2.2.2.1), (cS cyI b4 o42.2.2.2.2.2.2.2.1), (cS cyI b5 o42.2.2.2.2.2.2.2.2)]) (R := [[cI cyI qo 1 fo]]) (C := [(cXo x an tr o42.2.1), (cH cyO (x 1) (x 2) 2 fl), (cXk cyI x o42.2.1), (cH cyO (x 4) (x 5) 6 fs), (cT cyI x (X_text o42.2.1)), (cSo an o42.2.2.1), (cG cyI an (S_green o42.2.2.1)), (cV cyI an (S_score o42.2.2.1)), (cS cyI b0 o42.2.2.2.1), (cS cyI b1 o42.2.2.2.2.1), (cS cyI b2 o42.2.2.2.2.2.1), (cS cyI b3 o42.2.2.2.2.2.2.1), (cS cyI b4 o42.2.2.2.2.2.2.2.1), (cS cyI b5 o42.2.2.2.2.2.2.2.2)]) (n := 15) [0] [1, 2, 3, 4, 5, 6, 7, 8, 9, 10, 11, 12, 13, 14] rfl rfl rfl (by decide)
      have hP : va_P (dC, dI) vwCl (([[cI cyI qo 1 fo], (cXo x an tr o42.2.1), (cH cyO (x 1) (x 2) 2 fl), (cXk cyI x o42.2.1), (cH cyO (x 4) (x 5) 6 fs), (cT cyI x (X_text o42.2.1)), (cSo an o42.2.2.1), (cG cyI an (S_green o42.2.2.1)), (cV cyI an (S_score o42.2.2.1)), (cS cyI b0 o42.2.2.2.1), (cS cyI b1 o42.2.2.2.2.1), (cS cyI b2 o42.2.2.2.2.2.1), (cS cyI b3 o42.2.2.2.2.2.2.1), (cS cyI b4 o42.2.2.2.2.2.2.2.1), (cS cyI b5 o42.2.2.2.2.2.2.2.2)] : List va_W).flatten) H := hP.perm hq
      have hD : va_D A (([[cI cyI qo 1 fo], (cXo x an tr o42.2.1), (cH cyO (x 1) (x 2) 2 fl), (cXk cyI x o42.2.1), (cH cyO (x 4) (x 5) 6 fs), (cT cyI x (X_text o42.2.1)), (cSo an o42.2.2.1), (cG cyI an (S_green o42.2.2.1)), (cV cyI an (S_score o42.2.2.1)), (cS cyI b0 o42.2.2.2.1), (cS cyI b1 o42.2.2.2.2.1), (cS cyI b2 o42.2.2.2.2.2.1), (cS cyI b3 o42.2.2.2.2.2.2.1), (cS cyI b4 o42.2.2.2.2.2.2.2.1), (cS cyI b5 o42.2.2.2.2.2.2.2.2)] : List va_W).flatten) := hD.perm hq
      clear hq
      refine lv_goto (tgt := 115) hx hb dL_changes_12 (by decide) ?_
      refine W.widen (k := 6) (n := 36) (by omega) (by omega) ?_
      exact hJ115 (ro42, fo, o42.2.1, o42.2.2.1, o42.2.2.2.1, o42.2.2.2.2.1, o42.2.2.2.2.2.1, o42.2.2.2.2.2.2.1, o42.2.2.2.2.2.2.2.1, o42.2.2.2.2.2.2.2.2) _ _ _ hP hD hS (lv_sub hl [] rfl) hF
