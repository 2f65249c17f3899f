/-! worlds told in segments: a call changes some of them, in any order -/
theorem va_P_mem {D : va_G} {cl : List vw_C} {ws : va_W} {H : Heap} : va_P D cl ws H ↔ ∀ q ∈ ws, va_at D cl q H :=
  ⟨fun h q hq => by obtain ⟨k, hk⟩ := List.mem_iff_getElem?.mp hq; exact h k q hk, fun h k q hk => h q (List.mem_of_getElem? hk)⟩
theorem va_D_mem {A : Nat → Prop} {ws : va_W} : va_D A ws ↔ (ws.map Prod.fst).Nodup ∧ ∀ q ∈ ws, A q.1 := by
  constructor
  · intro h
    refine ⟨?_, fun q hq => ?_⟩
    · show List.Pairwise (· ≠ ·) (ws.map Prod.fst)
      rw [List.pairwise_map, List.pairwise_iff_getElem]
      intro i j hi hj hij he
      have := h.1 i j ws[i] ws[j] (List.getElem?_eq_getElem hi) (List.getElem?_eq_getElem hj) he
      omega
    · obtain ⟨k, hk⟩ := List.mem_iff_getElem?.mp hq
      exact h.2 k q hk
  · intro h
    refine ⟨fun i j x y hi hj hxy => ?_, fun k q hk => h.2 q (List.mem_of_getElem? hk)⟩
    have hp : List.Pairwise (· ≠ ·) (ws.map Prod.fst) := h.1
    rw [List.pairwise_map, List.pairwise_iff_getElem] at hp
    obtain ⟨hi', rfl⟩ := List.getElem?_eq_some_iff.mp hi
    obtain ⟨hj', rfl⟩ := List.getElem?_eq_some_iff.mp hj
    rcases Nat.lt_trichotomy i j with q | q | q
    · exact absurd hxy (hp i j hi' hj' q)
    · exact q
    · exact absurd hxy.symm (hp j i hj' hi' q)
theorem va_P.perm {D : va_G} {cl : List vw_C} {ws ws' : va_W} {H : Heap} (h : va_P D cl ws H) (hp : ws.Perm ws') : va_P D cl ws' H :=
  va_P_mem.mpr (fun q hq => va_P_mem.mp h q (hp.mem_iff.mpr hq))
theorem va_D.perm {A : Nat → Prop} {ws ws' : va_W} (h : va_D A ws) (hp : ws.Perm ws') : va_D A ws' := by
  have h1 := va_D_mem.mp h
  exact va_D_mem.mpr ⟨(hp.map Prod.fst).nodup_iff.mp h1.1, fun q hq => h1.2 q (hp.mem_iff.mpr hq)⟩
theorem seg_perm {segs R C : List va_W} {wc : va_W} {n : Nat} (isR isC : List Nat) (hn : segs.length = n) (hR : isR.map (fun i => segs[i]?) = R.map some) (hC : isC.map (fun i => segs[i]?) = C.map some) (hp : (isR ++ isC).isPerm (List.range n) = true) (hw : C.flatten = wc) : segs.flatten.Perm (R.flatten ++ wc) := by
  have h1 : (isR ++ isC).Perm (List.range n) := List.isPerm_iff.mp hp
  have h2 := h1.map (fun i => segs[i]?)
  have h3 : (List.range n).map (fun i => segs[i]?) = segs.map some := by
    subst hn
    apply List.ext_getElem
    · simp
    · intro i a b
      simp at a b
      simp [a]
  rw [List.map_append, hR, hC, ← List.map_append, h3] at h2
  have h4 := h2.filterMap id
  simp only [List.filterMap_map, Function.comp_def, id] at h4
  simp only [List.filterMap_some] at h4
  have h5 := h4.flatten
  rw [List.flatten_append, hw] at h5
  exact h5.symm
theorem seg_permS {segs R C : List va_W} {n : Nat} (isR isC : List Nat) (hn : segs.length = n) (hR : isR.map (fun i => segs[i]?) = R.map some) (hC : isC.map (fun i => segs[i]?) = C.map some) (hp : (isR ++ isC).isPerm (List.range n) = true) : (R.flatten ++ C.flatten).Perm segs.flatten := (seg_perm isR isC hn hR hC hp rfl).symm
theorem nd_of : ∀ {l : List Nat}, l.Nodup → va_nd l = true
  | [], _ => rfl
  | a :: l, h => by
    have h1 := List.nodup_cons.mp h
    simp only [va_nd, Bool.and_eq_true, decide_eq_true_eq]
    exact ⟨h1.1, nd_of h1.2⟩
theorem seg_r {wr wc : va_W} : (List.range wr.length).map (fun i => (wr ++ wc)[i]?) = wr.map some := by
  apply List.ext_getElem
  · simp
  · intro i a b
    simp at a b
    simp [List.getElem?_append_left a, a]
theorem seg_c {wr wc : va_W} : ((List.range wc.length).map (fun i => wr.length + i)).map (fun i => (wr ++ wc)[i]?) = wc.map some := by
  apply List.ext_getElem
  · simp
  · intro i a b
    simp at a b
    simp [a]
theorem seg_ndr {n : Nat} : va_nd (List.range n) = true := nd_of List.nodup_range
theorem seg_ndc {n k : Nat} : va_nd ((List.range n).map (fun i => k + i)) = true := by
  refine nd_of ?_
  show List.Pairwise (· ≠ ·) _
  rw [List.pairwise_map]
  exact List.Pairwise.imp (fun h q => h (by omega)) (List.nodup_range (n := n))
theorem seg_dis {n k : Nat} : ∀ i ∈ List.range k, i ∉ (List.range n).map (fun i => k + i) := by
  intro i hi hj
  have a := List.mem_range.mp hi
  obtain ⟨j, -, hj⟩ := List.mem_map.mp hj
  omega
section WCs
variable {p : Program} {l : Launch} {e : Env} {R : Room} {s : State} {m : MethodId} {args : Array Value} {below : List Frame} {meth : Method} {c : Code} {H : Heap} {locs : List Loc} {cells slots : Nat} {Q : State → Prop}
variable {y : MethodName} {bytes cc : ByteArray} {maxL nL n index : Nat} {ret : Option FieldType} {wsy : List Cond} {rm : Room} {Ts : List Cond} {own C host : String} {b : Nat} {As rest : List Value} {pc : Nat} {ls : Array Slot} {A : Nat → Prop} {H0 : Heap}
variable {dC : Nat → ClassId} {dI : Nat → Nat → Nat} {cyI cyO : ClassId} {ws wc wr : va_W}
theorem wcPVi {σ : Type} {post : Int32 → σ → Prop} {w1 : σ → va_W} (S : CallFix p m c cc nL s args Ts own) (hM : Met l y wsy rm (wWr dC dI cyI cyO (.ref b :: As) wc H.size) (va_Qi post (fun u t => va_P (dC, dI) vwCl (w1 u) t.heap ∧ va_D (va_A wc H.size) (w1 u)) (va_A wc H.size)) 0 0 (va_A wc H.size)) (cw : CallW R s args own C index y bytes maxL ret wsy rm 0 0 n) (hr : ∃ cellB : Cell, H[b]? = some cellB ∧ cellB.vm.isStatics = false ∧ s.vm.findClass C = some cellB.cls) (hP : va_P (dC, dI) vwCl ws H) (hD : va_D A ws) (hK : wK dC dI cyI cyO s) (hw : ws.Perm (wr ++ wc)) (hn : As.length = n) (hsize : ls.size = nL) (hst : (rest.map fun v => v.category).sum ≤ 8) (hdg : decode cc pc = .ok (.invokevirtual index, 3)) (hf : cells ≤ R.cells ∧ slots ≤ R.slots) (hS : va_S A H0 H locs) (hA : ∀ q : Nat, H0.size ≤ q → A q) (kk : ∀ (r : Int32) (u : σ) (H1 : Heap) (locs1 : List Loc), post r u → va_P (dC, dI) vwCl (wr ++ w1 u) H1 → va_D A (wr ++ w1 u) → va_S A H0 H1 locs1 → W p l e R s m args below meth c H1 locs1 cells slots Q (F0 m (pc + 3) ls (.int r :: rest))) : W p l e R s m args below meth c H locs cells slots Q (F0 m pc ls (As.reverse ++ .ref b :: rest)) := by
  have hP := hP.perm hw
  have hD := hD.perm hw
  exact wcWVi S hM cw hr hP hD hK _ _ seg_c seg_r seg_ndc seg_ndr seg_dis hn hsize hst hdg hf hS hA kk
theorem wcPVl {σ : Type} {post : Int64 → σ → Prop} {w1 : σ → va_W} (S : CallFix p m c cc nL s args Ts own) (hM : Met l y wsy rm (wWr dC dI cyI cyO (.ref b :: As) wc H.size) (va_Ql post (fun u t => va_P (dC, dI) vwCl (w1 u) t.heap ∧ va_D (va_A wc H.size) (w1 u)) (va_A wc H.size)) 0 0 (va_A wc H.size)) (cw : CallW R s args own C index y bytes maxL ret wsy rm 0 0 n) (hr : ∃ cellB : Cell, H[b]? = some cellB ∧ cellB.vm.isStatics = false ∧ s.vm.findClass C = some cellB.cls) (hP : va_P (dC, dI) vwCl ws H) (hD : va_D A ws) (hK : wK dC dI cyI cyO s) (hw : ws.Perm (wr ++ wc)) (hn : As.length = n) (hsize : ls.size = nL) (hst : (rest.map fun v => v.category).sum ≤ 8) (hdg : decode cc pc = .ok (.invokevirtual index, 3)) (hf : cells ≤ R.cells ∧ slots ≤ R.slots) (hS : va_S A H0 H locs) (hA : ∀ q : Nat, H0.size ≤ q → A q) (kk : ∀ (r : Int64) (u : σ) (H1 : Heap) (locs1 : List Loc), post r u → va_P (dC, dI) vwCl (wr ++ w1 u) H1 → va_D A (wr ++ w1 u) → va_S A H0 H1 locs1 → W p l e R s m args below meth c H1 locs1 cells slots Q (F0 m (pc + 3) ls (.long r :: rest))) : W p l e R s m args below meth c H locs cells slots Q (F0 m pc ls (As.reverse ++ .ref b :: rest)) := by
  have hP := hP.perm hw
  have hD := hD.perm hw
  exact wcWVl S hM cw hr hP hD hK _ _ seg_c seg_r seg_ndc seg_ndr seg_dis hn hsize hst hdg hf hS hA kk
theorem wcPVd {σ : Type} {post : UInt64 → σ → Prop} {w1 : σ → va_W} (S : CallFix p m c cc nL s args Ts own) (hM : Met l y wsy rm (wWr dC dI cyI cyO (.ref b :: As) wc H.size) (va_Qd post (fun u t => va_P (dC, dI) vwCl (w1 u) t.heap ∧ va_D (va_A wc H.size) (w1 u)) (va_A wc H.size)) 0 0 (va_A wc H.size)) (cw : CallW R s args own C index y bytes maxL ret wsy rm 0 0 n) (hr : ∃ cellB : Cell, H[b]? = some cellB ∧ cellB.vm.isStatics = false ∧ s.vm.findClass C = some cellB.cls) (hP : va_P (dC, dI) vwCl ws H) (hD : va_D A ws) (hK : wK dC dI cyI cyO s) (hw : ws.Perm (wr ++ wc)) (hn : As.length = n) (hsize : ls.size = nL) (hst : (rest.map fun v => v.category).sum ≤ 8) (hdg : decode cc pc = .ok (.invokevirtual index, 3)) (hf : cells ≤ R.cells ∧ slots ≤ R.slots) (hS : va_S A H0 H locs) (hA : ∀ q : Nat, H0.size ≤ q → A q) (kk : ∀ (r : UInt64) (u : σ) (H1 : Heap) (locs1 : List Loc), post r u → va_P (dC, dI) vwCl (wr ++ w1 u) H1 → va_D A (wr ++ w1 u) → va_S A H0 H1 locs1 → W p l e R s m args below meth c H1 locs1 cells slots Q (F0 m (pc + 3) ls (.double r :: rest))) : W p l e R s m args below meth c H locs cells slots Q (F0 m pc ls (As.reverse ++ .ref b :: rest)) := by
  have hP := hP.perm hw
  have hD := hD.perm hw
  exact wcWVd S hM cw hr hP hD hK _ _ seg_c seg_r seg_ndc seg_ndr seg_dis hn hsize hst hdg hf hS hA kk
theorem wcPVv {σ : Type} {post : σ → Prop} {w1 : σ → va_W} (S : CallFix p m c cc nL s args Ts own) (hM : Met l y wsy rm (wWr dC dI cyI cyO (.ref b :: As) wc H.size) (va_Qv post (fun u t => va_P (dC, dI) vwCl (w1 u) t.heap ∧ va_D (va_A wc H.size) (w1 u)) (va_A wc H.size)) 0 0 (va_A wc H.size)) (cw : CallW R s args own C index y bytes maxL ret wsy rm 0 0 n) (hr : ∃ cellB : Cell, H[b]? = some cellB ∧ cellB.vm.isStatics = false ∧ s.vm.findClass C = some cellB.cls) (hP : va_P (dC, dI) vwCl ws H) (hD : va_D A ws) (hK : wK dC dI cyI cyO s) (hw : ws.Perm (wr ++ wc)) (hn : As.length = n) (hsize : ls.size = nL) (hst : (rest.map fun v => v.category).sum ≤ 8) (hdg : decode cc pc = .ok (.invokevirtual index, 3)) (hf : cells ≤ R.cells ∧ slots ≤ R.slots) (hS : va_S A H0 H locs) (hA : ∀ q : Nat, H0.size ≤ q → A q) (kk : ∀ (u : σ) (H1 : Heap) (locs1 : List Loc), post u → va_P (dC, dI) vwCl (wr ++ w1 u) H1 → va_D A (wr ++ w1 u) → va_S A H0 H1 locs1 → W p l e R s m args below meth c H1 locs1 cells slots Q (F0 m (pc + 3) ls rest)) : W p l e R s m args below meth c H locs cells slots Q (F0 m pc ls (As.reverse ++ .ref b :: rest)) := by
  have hP := hP.perm hw
  have hD := hD.perm hw
  exact wcWVv S hM cw hr hP hD hK _ _ seg_c seg_r seg_ndc seg_ndr seg_dis hn hsize hst hdg hf hS hA kk
theorem wcPSi {σ : Type} {post : Int32 → σ → Prop} {w1 : σ → va_W} (S : CallFix p m c cc nL s args Ts own) (hM : Met l y wsy rm (wWr dC dI cyI cyO As wc H.size) (va_Qi post (fun u t => va_P (dC, dI) vwCl (w1 u) t.heap ∧ va_D (va_A wc H.size) (w1 u)) (va_A wc H.size)) 0 0 (va_A wc H.size)) (cw : CallB R s args own index y bytes maxL ret wsy rm 0 0 n ∧ (Cond.static y).before args s = true) (hP : va_P (dC, dI) vwCl ws H) (hD : va_D A ws) (hK : wK dC dI cyI cyO s) (hw : ws.Perm (wr ++ wc)) (hn : As.length = n) (hsize : ls.size = nL) (hst : (rest.map fun v => v.category).sum ≤ 8) (hdg : decode cc pc = .ok (.invokestatic index, 3)) (hf : cells ≤ R.cells ∧ slots ≤ R.slots) (hS : va_S A H0 H locs) (hA : ∀ q : Nat, H0.size ≤ q → A q) (kk : ∀ (r : Int32) (u : σ) (H1 : Heap) (locs1 : List Loc), post r u → va_P (dC, dI) vwCl (wr ++ w1 u) H1 → va_D A (wr ++ w1 u) → va_S A H0 H1 locs1 → W p l e R s m args below meth c H1 locs1 cells slots Q (F0 m (pc + 3) ls (.int r :: rest))) : W p l e R s m args below meth c H locs cells slots Q (F0 m pc ls (As.reverse ++ rest)) := by
  have hP := hP.perm hw
  have hD := hD.perm hw
  exact wcWSi S hM cw hP hD hK _ _ seg_c seg_r seg_ndc seg_ndr seg_dis hn hsize hst hdg hf hS hA kk
theorem wcPSl {σ : Type} {post : Int64 → σ → Prop} {w1 : σ → va_W} (S : CallFix p m c cc nL s args Ts own) (hM : Met l y wsy rm (wWr dC dI cyI cyO As wc H.size) (va_Ql post (fun u t => va_P (dC, dI) vwCl (w1 u) t.heap ∧ va_D (va_A wc H.size) (w1 u)) (va_A wc H.size)) 0 0 (va_A wc H.size)) (cw : CallB R s args own index y bytes maxL ret wsy rm 0 0 n ∧ (Cond.static y).before args s = true) (hP : va_P (dC, dI) vwCl ws H) (hD : va_D A ws) (hK : wK dC dI cyI cyO s) (hw : ws.Perm (wr ++ wc)) (hn : As.length = n) (hsize : ls.size = nL) (hst : (rest.map fun v => v.category).sum ≤ 8) (hdg : decode cc pc = .ok (.invokestatic index, 3)) (hf : cells ≤ R.cells ∧ slots ≤ R.slots) (hS : va_S A H0 H locs) (hA : ∀ q : Nat, H0.size ≤ q → A q) (kk : ∀ (r : Int64) (u : σ) (H1 : Heap) (locs1 : List Loc), post r u → va_P (dC, dI) vwCl (wr ++ w1 u) H1 → va_D A (wr ++ w1 u) → va_S A H0 H1 locs1 → W p l e R s m args below meth c H1 locs1 cells slots Q (F0 m (pc + 3) ls (.long r :: rest))) : W p l e R s m args below meth c H locs cells slots Q (F0 m pc ls (As.reverse ++ rest)) := by
  have hP := hP.perm hw
  have hD := hD.perm hw
  exact wcWSl S hM cw hP hD hK _ _ seg_c seg_r seg_ndc seg_ndr seg_dis hn hsize hst hdg hf hS hA kk
theorem wcPSd {σ : Type} {post : UInt64 → σ → Prop} {w1 : σ → va_W} (S : CallFix p m c cc nL s args Ts own) (hM : Met l y wsy rm (wWr dC dI cyI cyO As wc H.size) (va_Qd post (fun u t => va_P (dC, dI) vwCl (w1 u) t.heap ∧ va_D (va_A wc H.size) (w1 u)) (va_A wc H.size)) 0 0 (va_A wc H.size)) (cw : CallB R s args own index y bytes maxL ret wsy rm 0 0 n ∧ (Cond.static y).before args s = true) (hP : va_P (dC, dI) vwCl ws H) (hD : va_D A ws) (hK : wK dC dI cyI cyO s) (hw : ws.Perm (wr ++ wc)) (hn : As.length = n) (hsize : ls.size = nL) (hst : (rest.map fun v => v.category).sum ≤ 8) (hdg : decode cc pc = .ok (.invokestatic index, 3)) (hf : cells ≤ R.cells ∧ slots ≤ R.slots) (hS : va_S A H0 H locs) (hA : ∀ q : Nat, H0.size ≤ q → A q) (kk : ∀ (r : UInt64) (u : σ) (H1 : Heap) (locs1 : List Loc), post r u → va_P (dC, dI) vwCl (wr ++ w1 u) H1 → va_D A (wr ++ w1 u) → va_S A H0 H1 locs1 → W p l e R s m args below meth c H1 locs1 cells slots Q (F0 m (pc + 3) ls (.double r :: rest))) : W p l e R s m args below meth c H locs cells slots Q (F0 m pc ls (As.reverse ++ rest)) := by
  have hP := hP.perm hw
  have hD := hD.perm hw
  exact wcWSd S hM cw hP hD hK _ _ seg_c seg_r seg_ndc seg_ndr seg_dis hn hsize hst hdg hf hS hA kk
theorem wcPSv {σ : Type} {post : σ → Prop} {w1 : σ → va_W} (S : CallFix p m c cc nL s args Ts own) (hM : Met l y wsy rm (wWr dC dI cyI cyO As wc H.size) (va_Qv post (fun u t => va_P (dC, dI) vwCl (w1 u) t.heap ∧ va_D (va_A wc H.size) (w1 u)) (va_A wc H.size)) 0 0 (va_A wc H.size)) (cw : CallB R s args own index y bytes maxL ret wsy rm 0 0 n ∧ (Cond.static y).before args s = true) (hP : va_P (dC, dI) vwCl ws H) (hD : va_D A ws) (hK : wK dC dI cyI cyO s) (hw : ws.Perm (wr ++ wc)) (hn : As.length = n) (hsize : ls.size = nL) (hst : (rest.map fun v => v.category).sum ≤ 8) (hdg : decode cc pc = .ok (.invokestatic index, 3)) (hf : cells ≤ R.cells ∧ slots ≤ R.slots) (hS : va_S A H0 H locs) (hA : ∀ q : Nat, H0.size ≤ q → A q) (kk : ∀ (u : σ) (H1 : Heap) (locs1 : List Loc), post u → va_P (dC, dI) vwCl (wr ++ w1 u) H1 → va_D A (wr ++ w1 u) → va_S A H0 H1 locs1 → W p l e R s m args below meth c H1 locs1 cells slots Q (F0 m (pc + 3) ls rest)) : W p l e R s m args below meth c H locs cells slots Q (F0 m pc ls (As.reverse ++ rest)) := by
  have hP := hP.perm hw
  have hD := hD.perm hw
  exact wcWSv S hM cw hP hD hK _ _ seg_c seg_r seg_ndc seg_ndr seg_dis hn hsize hst hdg hf hS hA kk
theorem wcPNi {σ : Type} {post : Int32 → σ → Prop} {w1 : σ → va_W} (S : CallFix p m c cc nL s args Ts own) (hM : Met l y wsy rm (wWr dC dI cyI cyO As wc H.size) (va_Qi post (fun u t => va_P (dC, dI) vwCl (w1 u) t.heap ∧ va_D (va_A wc H.size) (w1 u)) (va_A wc H.size)) 0 0 (va_A wc H.size)) (cw : va_CN R s args own index y host bytes maxL ret wsy rm 0 0 n ∧ (Cond.static y).before args s = true ∧ True) (hP : va_P (dC, dI) vwCl ws H) (hD : va_D A ws) (hK : wK dC dI cyI cyO s) (hw : ws.Perm (wr ++ wc)) (hn : As.length = n) (hsize : ls.size = nL) (hst : (rest.map fun v => v.category).sum ≤ 8) (hdg : decode cc pc = .ok (.invokestatic index, 3)) (hf : cells ≤ R.cells ∧ slots ≤ R.slots) (hS : va_S A H0 H locs) (hA : ∀ q : Nat, H0.size ≤ q → A q) (kk : ∀ (r : Int32) (u : σ) (H1 : Heap) (locs1 : List Loc), post r u → va_P (dC, dI) vwCl (wr ++ w1 u) H1 → va_D A (wr ++ w1 u) → va_S A H0 H1 locs1 → W p l e R s m args below meth c H1 locs1 cells slots Q (F0 m (pc + 3) ls (.int r :: rest))) : W p l e R s m args below meth c H locs cells slots Q (F0 m pc ls (As.reverse ++ rest)) := by
  have hP := hP.perm hw
  have hD := hD.perm hw
  exact wcWNi S hM cw hP hD hK _ _ seg_c seg_r seg_ndc seg_ndr seg_dis hn hsize hst hdg hf hS hA kk
theorem wcPNl {σ : Type} {post : Int64 → σ → Prop} {w1 : σ → va_W} (S : CallFix p m c cc nL s args Ts own) (hM : Met l y wsy rm (wWr dC dI cyI cyO As wc H.size) (va_Ql post (fun u t => va_P (dC, dI) vwCl (w1 u) t.heap ∧ va_D (va_A wc H.size) (w1 u)) (va_A wc H.size)) 0 0 (va_A wc H.size)) (cw : va_CN R s args own index y host bytes maxL ret wsy rm 0 0 n ∧ (Cond.static y).before args s = true ∧ True) (hP : va_P (dC, dI) vwCl ws H) (hD : va_D A ws) (hK : wK dC dI cyI cyO s) (hw : ws.Perm (wr ++ wc)) (hn : As.length = n) (hsize : ls.size = nL) (hst : (rest.map fun v => v.category).sum ≤ 8) (hdg : decode cc pc = .ok (.invokestatic index, 3)) (hf : cells ≤ R.cells ∧ slots ≤ R.slots) (hS : va_S A H0 H locs) (hA : ∀ q : Nat, H0.size ≤ q → A q) (kk : ∀ (r : Int64) (u : σ) (H1 : Heap) (locs1 : List Loc), post r u → va_P (dC, dI) vwCl (wr ++ w1 u) H1 → va_D A (wr ++ w1 u) → va_S A H0 H1 locs1 → W p l e R s m args below meth c H1 locs1 cells slots Q (F0 m (pc + 3) ls (.long r :: rest))) : W p l e R s m args below meth c H locs cells slots Q (F0 m pc ls (As.reverse ++ rest)) := by
  have hP := hP.perm hw
  have hD := hD.perm hw
  exact wcWNl S hM cw hP hD hK _ _ seg_c seg_r seg_ndc seg_ndr seg_dis hn hsize hst hdg hf hS hA kk
theorem wcPNd {σ : Type} {post : UInt64 → σ → Prop} {w1 : σ → va_W} (S : CallFix p m c cc nL s args Ts own) (hM : Met l y wsy rm (wWr dC dI cyI cyO As wc H.size) (va_Qd post (fun u t => va_P (dC, dI) vwCl (w1 u) t.heap ∧ va_D (va_A wc H.size) (w1 u)) (va_A wc H.size)) 0 0 (va_A wc H.size)) (cw : va_CN R s args own index y host bytes maxL ret wsy rm 0 0 n ∧ (Cond.static y).before args s = true ∧ True) (hP : va_P (dC, dI) vwCl ws H) (hD : va_D A ws) (hK : wK dC dI cyI cyO s) (hw : ws.Perm (wr ++ wc)) (hn : As.length = n) (hsize : ls.size = nL) (hst : (rest.map fun v => v.category).sum ≤ 8) (hdg : decode cc pc = .ok (.invokestatic index, 3)) (hf : cells ≤ R.cells ∧ slots ≤ R.slots) (hS : va_S A H0 H locs) (hA : ∀ q : Nat, H0.size ≤ q → A q) (kk : ∀ (r : UInt64) (u : σ) (H1 : Heap) (locs1 : List Loc), post r u → va_P (dC, dI) vwCl (wr ++ w1 u) H1 → va_D A (wr ++ w1 u) → va_S A H0 H1 locs1 → W p l e R s m args below meth c H1 locs1 cells slots Q (F0 m (pc + 3) ls (.double r :: rest))) : W p l e R s m args below meth c H locs cells slots Q (F0 m pc ls (As.reverse ++ rest)) := by
  have hP := hP.perm hw
  have hD := hD.perm hw
  exact wcWNd S hM cw hP hD hK _ _ seg_c seg_r seg_ndc seg_ndr seg_dis hn hsize hst hdg hf hS hA kk
theorem wcPNv {σ : Type} {post : σ → Prop} {w1 : σ → va_W} (S : CallFix p m c cc nL s args Ts own) (hM : Met l y wsy rm (wWr dC dI cyI cyO As wc H.size) (va_Qv post (fun u t => va_P (dC, dI) vwCl (w1 u) t.heap ∧ va_D (va_A wc H.size) (w1 u)) (va_A wc H.size)) 0 0 (va_A wc H.size)) (cw : va_CN R s args own index y host bytes maxL ret wsy rm 0 0 n ∧ (Cond.static y).before args s = true ∧ True) (hP : va_P (dC, dI) vwCl ws H) (hD : va_D A ws) (hK : wK dC dI cyI cyO s) (hw : ws.Perm (wr ++ wc)) (hn : As.length = n) (hsize : ls.size = nL) (hst : (rest.map fun v => v.category).sum ≤ 8) (hdg : decode cc pc = .ok (.invokestatic index, 3)) (hf : cells ≤ R.cells ∧ slots ≤ R.slots) (hS : va_S A H0 H locs) (hA : ∀ q : Nat, H0.size ≤ q → A q) (kk : ∀ (u : σ) (H1 : Heap) (locs1 : List Loc), post u → va_P (dC, dI) vwCl (wr ++ w1 u) H1 → va_D A (wr ++ w1 u) → va_S A H0 H1 locs1 → W p l e R s m args below meth c H1 locs1 cells slots Q (F0 m (pc + 3) ls rest)) : W p l e R s m args below meth c H locs cells slots Q (F0 m pc ls (As.reverse ++ rest)) := by
  have hP := hP.perm hw
  have hD := hD.perm hw
  exact wcWNv S hM cw hP hD hK _ _ seg_c seg_r seg_ndc seg_ndr seg_dis hn hsize hst hdg hf hS hA kk
end WCs
section WXs
variable {p : Program} {l : Launch} {e : Env} {R : Room} {s : State} {m : MethodId} {args : Array Value} {below : List Frame} {meth : Method} {c : Code} {H : Heap} {locs : List Loc} {cells slots : Nat} {Q : State → Prop}
variable {y : MethodName} {bytes cc : ByteArray} {maxL nL n index mc ms z0 : Nat} {ret : Option FieldType} {wsy : List Cond} {rm : Room} {Ts : List Cond} {own C host : String} {b : Nat} {As rest : List Value} {pc : Nat} {ls : Array Slot} {A : Nat → Prop}
variable {dC : Nat → ClassId} {dI : Nat → Nat → Nat} {cyI cyO : ClassId} {ws wc wr : va_W} {Qc : Array Value → State → Outcome → State → Prop}
theorem wxPVi {σ : Type} {post : Int32 → σ → Prop} {px : Nat × σ → Prop} {w1 : σ → va_W} (S : CallFix p m c cc nL s args Ts own) (hM : vx_Met l y wsy rm (wWrX z0 dC dI cyI cyO (.ref b :: As) wc H.size) (va_Qi post (fun u t => va_P (dC, dI) vwCl (w1 u) t.heap ∧ va_D (va_A wc H.size) (w1 u)) (va_A wc H.size)) (vx_X px (fun E u t => E = exN u.1 ∧ va_P (dC, dI) vwCl (w1 u.2) t.heap ∧ va_D (va_A wc H.size) (w1 u.2)) (va_A wc H.size)) mc ms (va_A wc H.size)) (cw : CallW R s args own C index y bytes maxL ret wsy rm mc ms n) (hr : ∃ cellB : Cell, H[b]? = some cellB ∧ cellB.vm.isStatics = false ∧ s.vm.findClass C = some cellB.cls) (hP : va_P (dC, dI) vwCl ws H) (hD : va_D A ws) (hK : wK dC dI cyI cyO s) (hZ : wZ z0 s) (hAz : ∀ q, A q → z0 ≤ q) (hz0 : z0 ≤ s.heap.size) (hw : ws.Perm (wr ++ wc)) (hn : As.length = n) (hsize : ls.size = nL) (hst : (rest.map fun v => v.category).sum ≤ 8) (hdg : decode cc pc = .ok (.invokevirtual index, 3)) (hf : cells + mc ≤ R.cells ∧ slots + ms ≤ R.slots) (hS : va_S A s.heap H locs) (hA : ∀ q : Nat, s.heap.size ≤ q → A q) (kx : ∀ (k : Nat) (u : σ) (ce : Cell) (q9 : Nat) (H1 : Heap) (locs1 : List Loc), px (k, u) → va_P (dC, dI) vwCl (wr ++ w1 u) H1 → va_D A (wr ++ w1 u) → va_S A s.heap H1 locs1 → H1[q9]? = some ce → ce.vm = .none → s.vm.findClass (exN k) = some ce.cls → vx_W p l e R s m args below meth c H1 locs1 (cells + mc) (slots + ms) Q (F0 m pc ls rest) q9) (kk : ∀ (r : Int32) (u : σ) (H1 : Heap) (locs1 : List Loc), post r u → va_P (dC, dI) vwCl (wr ++ w1 u) H1 → va_D A (wr ++ w1 u) → va_S A s.heap H1 locs1 → W p l e R s m args below meth c H1 locs1 (cells + mc) (slots + ms) Q (F0 m (pc + 3) ls (.int r :: rest))) : W p l e R s m args below meth c H locs cells slots Q (F0 m pc ls (As.reverse ++ .ref b :: rest)) := by
  have hP := hP.perm hw
  have hD := hD.perm hw
  exact wxWVi S hM cw hr hP hD hK hZ hAz hz0 _ _ seg_c seg_r seg_ndc seg_ndr seg_dis hn hsize hst hdg hf hS hA kx kk
theorem wxPVv {σ : Type} {post : σ → Prop} {px : Nat × σ → Prop} {w1 : σ → va_W} (S : CallFix p m c cc nL s args Ts own) (hM : vx_Met l y wsy rm (wWrX z0 dC dI cyI cyO (.ref b :: As) wc H.size) (va_Qv post (fun u t => va_P (dC, dI) vwCl (w1 u) t.heap ∧ va_D (va_A wc H.size) (w1 u)) (va_A wc H.size)) (vx_X px (fun E u t => E = exN u.1 ∧ va_P (dC, dI) vwCl (w1 u.2) t.heap ∧ va_D (va_A wc H.size) (w1 u.2)) (va_A wc H.size)) mc ms (va_A wc H.size)) (cw : CallW R s args own C index y bytes maxL ret wsy rm mc ms n) (hr : ∃ cellB : Cell, H[b]? = some cellB ∧ cellB.vm.isStatics = false ∧ s.vm.findClass C = some cellB.cls) (hP : va_P (dC, dI) vwCl ws H) (hD : va_D A ws) (hK : wK dC dI cyI cyO s) (hZ : wZ z0 s) (hAz : ∀ q, A q → z0 ≤ q) (hz0 : z0 ≤ s.heap.size) (hw : ws.Perm (wr ++ wc)) (hn : As.length = n) (hsize : ls.size = nL) (hst : (rest.map fun v => v.category).sum ≤ 8) (hdg : decode cc pc = .ok (.invokevirtual index, 3)) (hf : cells + mc ≤ R.cells ∧ slots + ms ≤ R.slots) (hS : va_S A s.heap H locs) (hA : ∀ q : Nat, s.heap.size ≤ q → A q) (kx : ∀ (k : Nat) (u : σ) (ce : Cell) (q9 : Nat) (H1 : Heap) (locs1 : List Loc), px (k, u) → va_P (dC, dI) vwCl (wr ++ w1 u) H1 → va_D A (wr ++ w1 u) → va_S A s.heap H1 locs1 → H1[q9]? = some ce → ce.vm = .none → s.vm.findClass (exN k) = some ce.cls → vx_W p l e R s m args below meth c H1 locs1 (cells + mc) (slots + ms) Q (F0 m pc ls rest) q9) (kk : ∀ (u : σ) (H1 : Heap) (locs1 : List Loc), post u → va_P (dC, dI) vwCl (wr ++ w1 u) H1 → va_D A (wr ++ w1 u) → va_S A s.heap H1 locs1 → W p l e R s m args below meth c H1 locs1 (cells + mc) (slots + ms) Q (F0 m (pc + 3) ls rest)) : W p l e R s m args below meth c H locs cells slots Q (F0 m pc ls (As.reverse ++ .ref b :: rest)) := by
  have hP := hP.perm hw
  have hD := hD.perm hw
  exact wxWVv S hM cw hr hP hD hK hZ hAz hz0 _ _ seg_c seg_r seg_ndc seg_ndr seg_dis hn hsize hst hdg hf hS hA kx kk
theorem wxPSi {σ : Type} {post : Int32 → σ → Prop} {px : Nat × σ → Prop} {w1 : σ → va_W} (S : CallFix p m c cc nL s args Ts own) (hM : vx_Met l y wsy rm (wWrX z0 dC dI cyI cyO As wc H.size) (va_Qi post (fun u t => va_P (dC, dI) vwCl (w1 u) t.heap ∧ va_D (va_A wc H.size) (w1 u)) (va_A wc H.size)) (vx_X px (fun E u t => E = exN u.1 ∧ va_P (dC, dI) vwCl (w1 u.2) t.heap ∧ va_D (va_A wc H.size) (w1 u.2)) (va_A wc H.size)) mc ms (va_A wc H.size)) (cw : CallB R s args own index y bytes maxL ret wsy rm mc ms n ∧ (Cond.static y).before args s = true) (hP : va_P (dC, dI) vwCl ws H) (hD : va_D A ws) (hK : wK dC dI cyI cyO s) (hZ : wZ z0 s) (hAz : ∀ q, A q → z0 ≤ q) (hz0 : z0 ≤ s.heap.size) (hw : ws.Perm (wr ++ wc)) (hn : As.length = n) (hsize : ls.size = nL) (hst : (rest.map fun v => v.category).sum ≤ 8) (hdg : decode cc pc = .ok (.invokestatic index, 3)) (hf : cells + mc ≤ R.cells ∧ slots + ms ≤ R.slots) (hS : va_S A s.heap H locs) (hA : ∀ q : Nat, s.heap.size ≤ q → A q) (kx : ∀ (k : Nat) (u : σ) (ce : Cell) (q9 : Nat) (H1 : Heap) (locs1 : List Loc), px (k, u) → va_P (dC, dI) vwCl (wr ++ w1 u) H1 → va_D A (wr ++ w1 u) → va_S A s.heap H1 locs1 → H1[q9]? = some ce → ce.vm = .none → s.vm.findClass (exN k) = some ce.cls → vx_W p l e R s m args below meth c H1 locs1 (cells + mc) (slots + ms) Q (F0 m pc ls rest) q9) (kk : ∀ (r : Int32) (u : σ) (H1 : Heap) (locs1 : List Loc), post r u → va_P (dC, dI) vwCl (wr ++ w1 u) H1 → va_D A (wr ++ w1 u) → va_S A s.heap H1 locs1 → W p l e R s m args below meth c H1 locs1 (cells + mc) (slots + ms) Q (F0 m (pc + 3) ls (.int r :: rest))) : W p l e R s m args below meth c H locs cells slots Q (F0 m pc ls (As.reverse ++ rest)) := by
  have hP := hP.perm hw
  have hD := hD.perm hw
  exact wxWSi S hM cw hP hD hK hZ hAz hz0 _ _ seg_c seg_r seg_ndc seg_ndr seg_dis hn hsize hst hdg hf hS hA kx kk
theorem wxPSv {σ : Type} {post : σ → Prop} {px : Nat × σ → Prop} {w1 : σ → va_W} (S : CallFix p m c cc nL s args Ts own) (hM : vx_Met l y wsy rm (wWrX z0 dC dI cyI cyO As wc H.size) (va_Qv post (fun u t => va_P (dC, dI) vwCl (w1 u) t.heap ∧ va_D (va_A wc H.size) (w1 u)) (va_A wc H.size)) (vx_X px (fun E u t => E = exN u.1 ∧ va_P (dC, dI) vwCl (w1 u.2) t.heap ∧ va_D (va_A wc H.size) (w1 u.2)) (va_A wc H.size)) mc ms (va_A wc H.size)) (cw : CallB R s args own index y bytes maxL ret wsy rm mc ms n ∧ (Cond.static y).before args s = true) (hP : va_P (dC, dI) vwCl ws H) (hD : va_D A ws) (hK : wK dC dI cyI cyO s) (hZ : wZ z0 s) (hAz : ∀ q, A q → z0 ≤ q) (hz0 : z0 ≤ s.heap.size) (hw : ws.Perm (wr ++ wc)) (hn : As.length = n) (hsize : ls.size = nL) (hst : (rest.map fun v => v.category).sum ≤ 8) (hdg : decode cc pc = .ok (.invokestatic index, 3)) (hf : cells + mc ≤ R.cells ∧ slots + ms ≤ R.slots) (hS : va_S A s.heap H locs) (hA : ∀ q : Nat, s.heap.size ≤ q → A q) (kx : ∀ (k : Nat) (u : σ) (ce : Cell) (q9 : Nat) (H1 : Heap) (locs1 : List Loc), px (k, u) → va_P (dC, dI) vwCl (wr ++ w1 u) H1 → va_D A (wr ++ w1 u) → va_S A s.heap H1 locs1 → H1[q9]? = some ce → ce.vm = .none → s.vm.findClass (exN k) = some ce.cls → vx_W p l e R s m args below meth c H1 locs1 (cells + mc) (slots + ms) Q (F0 m pc ls rest) q9) (kk : ∀ (u : σ) (H1 : Heap) (locs1 : List Loc), post u → va_P (dC, dI) vwCl (wr ++ w1 u) H1 → va_D A (wr ++ w1 u) → va_S A s.heap H1 locs1 → W p l e R s m args below meth c H1 locs1 (cells + mc) (slots + ms) Q (F0 m (pc + 3) ls rest)) : W p l e R s m args below meth c H locs cells slots Q (F0 m pc ls (As.reverse ++ rest)) := by
  have hP := hP.perm hw
  have hD := hD.perm hw
  exact wxWSv S hM cw hP hD hK hZ hAz hz0 _ _ seg_c seg_r seg_ndc seg_ndr seg_dis hn hsize hst hdg hf hS hA kx kk
end WXs
abbrev cSo (a : Nat → Nat) (v : SV) : va_W := [(a 0, .inr (3, [.ref (a 1), .ref (a 9), .int (S_bowlsEach v), .int (S_blowing v), .int (S_jackGoesBack v), .int (S_touchersTwice v)]))]
abbrev cXo (x an at_ : Nat → Nat) (v : XV) : va_W := [(x 0, .inr (5, [.ref (an 0), .ref (at_ 0), .ref (x 1), .ref (x 3), .ref (x 4), .int (X_oldestSaved v), .int (X_savedCount v), .ref (x 6)]))]
abbrev cXk (cyI : ClassId) (x : Nat → Nat) (v : XV) : va_W := [cI cyI (x 3) 2 (X_slotsTaken v)]
