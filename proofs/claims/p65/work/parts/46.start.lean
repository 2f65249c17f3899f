/-! the law's start: the tables, the objects, the loop -/
/-! THE CLAIM OUT OF ONE WALK OF THE LAW'S BODY. Your part is whole_start (and what it stands on); all else here is the same for every law, but numbers. -/
def R_law : String := "WombatBowlsLaw"
def lw_P (b : Addr) (xs : List Int32) (args : Array Value) (s : State) : Prop := args = #[.ref b] ∧ s.IntsAt b xs ∧ xs.length ≤ 260 ∧ (Jvm.Cond.and given_1 narrow_1).before args s = true
/-- what a walk over the start with the record d0 says of its end, said of the start itself -/
theorem lw_closed {s t : State} {o : Outcome} {d0 : Drawn} {L : List Loc} {k n : Nat} (hd0 : s.drawn.sameBut d0 lw_cs) (hv : ∃ v, o = .returned v) (hW : (s.setDrawn d0).WarmedH t.vm) (hs : (s.setDrawn d0).sameButNew ({ t with vm := s.vm } : State) L k n) : State.butDraws s t lw_cs (fun t1 => Framed s o t1 L k n) := by
  have h2 : t.drawn = d0 := congrArg State.drawn hs.1
  refine ⟨⟨hv, hW, State.sameButNew.setDrawn hs s.drawn⟩, ?_, by decide⟩
  rw [h2]
  exact hd0
def lw_Q (_ : Array Value) (s : State) (o : Outcome) (t : State) : Prop := o = .returned (some (.int 1)) ∧ State.butDraws s t lw_cs (fun t1 => Framed s o t1 [] 739082 6884379)
def lw_Z (below : List Frame) (a : Array Value) (s : State) : State → Prop := fun t => ∃ o, t.status = .running ∧ Ended t below o ∧ lw_Q a s o t
/-- the law's own end, with 1 on the stack, nothing written that was there before, its room as the claim has it; d0: the record of draws at this point (at the entry s.drawn: begin with 'refine W.base ?_' and 'have hd0 := Drawn.sameBut.refl s.drawn lw_cs') -/
theorem lw_ret {p : Program} {l : Launch} {e : Env} {s : State} {m : MethodId} {below : List Frame} {meth : Method} {c : Code} {b : Nat} {d0 : Drawn} (hd0 : s.drawn.sameBut d0 lw_cs) (hx : p.tables.exec = Jvm.exec) (hb : c.code = code) (hr : meth.sig.returnType = ret) (hlocks : meth.locks = false) {pc : Nat} {H : Heap} {ls : Array Slot} (hdg : decode code pc = .ok (.ireturn, 1)) : W p l e room_1 (s.setDrawn d0) m #[Value.ref b] below meth c H [] 739082 6884379 (lw_Z below #[Value.ref b] s) (F0 m pc ls [.int 1]) := by
  intro T hT X
  obtain ⟨fs, hret, hrun, hended, hW, hframe⟩ := X.leave (v := some (.int 1)) (hlocks := hlocks) (fun h => by rw [hr] at h; cases h)
  have hmeth' : T.vm.method? m = some meth := X.method'
  refine ⟨T.setFrames fs, ?_, .returned (some (.int 1)), hrun, hended, rfl, lw_closed hd0 ⟨_, rfl⟩ hW hframe⟩
  jvm_step X.here [X.here.top, hx, hb, hdg, hmeth', hr, ret, narrow_b1]
  (try refine ⟨rfl, ?_⟩); (try refine ⟨rfl, ?_⟩)
  first | (intro acts; rw [hret _ acts rfl rfl rfl]) | rw [hret _ _ rfl rfl rfl]
  exact Steps.refl _
/-- what holds at the law's entry: the machine, the code, the tables' words (any of lw_tbl by 'hts w (by decide +kernel)'), the script of L ints xs at the cell b, what the Statement gives of the start (any of its parts by flat_of_before) -/
def lw_At (p : Program) (s : State) (m : MethodId) (meth : Method) (c : Code) (b L : Nat) (xs : Nat → Int32) : Prop :=
  p.tables.exec = Jvm.exec ∧ c.code = code ∧ meth.sig.returnType = ret ∧ c.maxLocals = 10 ∧ s.vm.findClass R_law = some m.cls ∧ (∀ w ∈ lw_tbl, w.before #[Value.ref b] s = true) ∧ va_X b L xs s s.heap ∧ b < s.heap.size ∧ meth.locks = false ∧ (Jvm.Cond.and given_1 narrow_1).before #[Value.ref b] s = true

theorem dL_law_0 : decode cL_law 0 = .ok (.new 9, 3) := by decide +kernel
theorem dL_law_3 : decode cL_law 3 = .ok (.dup, 1) := by decide +kernel
theorem dL_law_4 : decode cL_law 4 = .ok (.invokespecial 200, 3) := by decide +kernel
theorem dL_law_7 : decode cL_law 7 = .ok (.astore_n 1, 1) := by decide +kernel
theorem dL_law_8 : decode cL_law 8 = .ok (.new 9, 3) := by decide +kernel
theorem dL_law_11 : decode cL_law 11 = .ok (.dup, 1) := by decide +kernel
theorem dL_law_12 : decode cL_law 12 = .ok (.invokespecial 200, 3) := by decide +kernel
theorem dL_law_15 : decode cL_law 15 = .ok (.astore_n 2, 1) := by decide +kernel
theorem dL_law_16 : decode cL_law 16 = .ok (.iconst 1, 1) := by decide +kernel
theorem dL_law_17 : decode cL_law 17 = .ok (.newarray .int, 2) := by decide +kernel
theorem dL_law_19 : decode cL_law 19 = .ok (.astore_n 3, 1) := by decide +kernel
theorem dL_law_239 : decode cL_law 239 = .ok (.ireturn, 1) := by decide +kernel
theorem sx_strT : ∀ q ∈ wStrs, Cond.stringRef RX5 q.1 q.2 ∈ lw_tbl := by decide +kernel
theorem sx_strE : ∀ q ∈ wStrs, Cond.exactly (.string RX5 q.1) "java/lang/String" ∈ flatC (Jvm.Cond.and given_1 narrow_1) := by decide +kernel
theorem sx_nc : ∀ q ∈ wNcs, Cond.not (.castable q.1 q.2) ∈ flatC (Jvm.Cond.and given_1 narrow_1) := by decide +kernel
theorem sx_o : Cond.arrayOver (.object "WombatBowls$State") ∈ lw_tbl := by decide +kernel
theorem sx_u1 : Cond.laysStatic Bundle.tN "UNASSIGNED_STACK" Bundle.steD ∈ lw_tbl := by decide +kernel
theorem sx_u2 : Cond.laysStatic Bundle.tN "SUPPRESSED_SENTINEL" Bundle.listD ∈ lw_tbl := by decide +kernel
theorem sx_u3 : Cond.isRef (.static Bundle.tN "UNASSIGNED_STACK" Bundle.steD) ∈ flatC (Jvm.Cond.and given_1 narrow_1) := by decide +kernel
theorem sx_u4 : Cond.isRef (.static Bundle.tN "SUPPRESSED_SENTINEL" Bundle.listD) ∈ flatC (Jvm.Cond.and given_1 narrow_1) := by decide +kernel
theorem sx_u5 : Cond.initialized Bundle.tN ∈ lw_tbl := by decide +kernel
theorem sx_fl {l : Launch} (h : l.flags = flags0) : l.stackTraces = false := by
  unfold Launch.stackTraces
  rw [h]
  decide
theorem sx_Z {s : State} {b : Nat} (hts : ∀ w ∈ lw_tbl, w.before #[Value.ref b] s = true) (hgv : (Jvm.Cond.and given_1 narrow_1).before #[Value.ref b] s = true) : wZ s.heap.size s := by
  have hfl := flat_of_before _ hgv
  refine ⟨?_, ?_, ?_, wEN.of hts, ?_⟩
  · exact vx_Zqof (hts _ sx_u1) (hts _ sx_u5) (hfl _ sx_u3) (fun a h1 h2 => absurd h1 (Nat.not_lt.mpr h2))
  · exact vx_Zqof (hts _ sx_u2) (hts _ sx_u5) (hfl _ sx_u4) (fun a h1 h2 => absurd h1 (Nat.not_lt.mpr h2))
  · intro q hq
    obtain ⟨a, c, cA, kA, q1, -⟩ := Cond.exactly_spec (hfl _ (sx_strE q hq))
    exact ⟨a, vk_R.of (A := #[Value.ref b]) (hts _ (sx_strT q hq)) q1⟩
  · intro q hq
    exact va_Nc.of (hfl _ (sx_nc q hq))
theorem sx_arr {s : State} {args : Array Value} {ty : FieldType} (hp : ∀ C, ty ≠ .object C) (h : (Cond.arrayClass ty).before args s = true) : ∃ cA : ClassId, ArrOfT s cA ty ∧ va_RA s cA ty := by
  obtain ⟨cA, kA, comp, h1, h2, h3⟩ := Cond.arrayClass_spec h
  refine ⟨cA, fun n z => ⟨fun k h => (by cases h), kA, h2, comp, h3⟩, ?_⟩
  cases ty <;> first | exact h1 | exact absurd rfl (hp _)
theorem sx_arrO {s : State} (h : va_AO "WombatBowls$State" s) : ∃ cA : ClassId, ArrOfT s cA (.object "WombatBowls$State") ∧ va_RA s cA (.object "WombatBowls$State") := by
  obtain ⟨comp, c, k, h1, h2, h3, h4, h5⟩ := Cond.arrayOver_spec h
  exact ⟨c, fun n z => ⟨fun k h => (by cases h), k, h3, comp, h4⟩, k, comp, h3, h4, h1, h5⟩
set_option maxHeartbeats 4000000 in
set_option maxRecDepth 100000 in
theorem law_start {p : Program} {e : Env} {s : State} {m : MethodId} {below : List Frame} {meth : Method} {c : Code} (l : Launch) (hflags : l.flags = flags0) {b L : Nat} {xs : Nat → Int32} (C0 : lw_At p s m meth c b L xs) (N : Nat) (hF : ∀ (fo : Nat → Int32), f_law N L xs fo xI sI sI sI sI sI sI sI sI xI sI sI sI sI sI sI sI sI = some ()) : W p l e room_1 s m #[Value.ref b] below meth c s.heap [] 0 0 (lw_Z below #[Value.ref b] s) (entryFrame m ([Value.ref b] : List Value).toArray 10) := by
  obtain ⟨hx, hb, hr, hml, hown, hts0, hX, hbl, hlocks, hgv⟩ := id C0
  have hst := sx_fl hflags
  have hts : ∀ w ∈ wT, w.before #[Value.ref b] s = true := fun w h => hts0 w (wT_tbl w h)
  have hA : ∀ q : Nat, s.heap.size ≤ q → (fun q : Nat => s.heap.size ≤ q) q := fun _ h => h
  have hAz : ∀ q : Nat, (fun q : Nat => s.heap.size ≤ q) q → s.heap.size ≤ q := fun _ h => h
  have hbA : ¬ (fun q : Nat => s.heap.size ≤ q) b := Nat.not_le.mpr hbl
  have hZ : wZ s.heap.size s := sx_Z hts0 hgv
  have hz0 : s.heap.size ≤ s.heap.size := Nat.le_refl _
  have hO : va_AO "WombatBowls$State" s := va_AO.of (hts0 _ sx_o)
  obtain ⟨cyI, hI⟩ := sx_arr (ty := .int) (fun C h => by cases h) (hts _ w_arrayClass_int)
  obtain ⟨cyO, hOb⟩ := sx_arrO hO
  obtain ⟨c0, i0, hKn0⟩ := u_known (C := RX0) (T := TX0) (N := 9) (n := 9) hts inX0 (hts _ w_instantiable_X0)
  obtain ⟨c1, i1, hKn1⟩ := u_known (C := RX1) (T := TX1) (N := 11) (n := 11) hts inX1 (hts _ w_instantiable_X1)
  obtain ⟨c2, i2, hKn2⟩ := u_known (C := RX2) (T := TX2) (N := 1) (n := 1) hts inX2 (hts _ w_instantiable_X2)
  obtain ⟨c3, i3, hKn3⟩ := u_known (C := RX3) (T := TX3) (N := 6) (n := 6) hts inX3 (hts _ w_instantiable_X3)
  obtain ⟨c4, i4, hKn4⟩ := u_known (C := RX4) (T := TX4) (N := 2) (n := 2) hts inX4 (hts _ w_instantiable_X4)
  obtain ⟨c5, i5, hKn5⟩ := u_known (C := RX5) (T := TX5) (N := 8) (n := 8) hts inX5 (hts _ w_instantiable_X5)
  obtain ⟨dC, dI, hKc⟩ : ∃ (dC : Nat → ClassId) (dI : Nat → Nat → Nat), ∀ (k : Nat) (q : vw_C), vwCl[k]? = some q → u_Kn s q.1 q.2.1 q.2.2 (dC k) (dI k) := by
    refine ⟨fun k => ([c0, c1, c2, c3, c4, c5] : List ClassId).getD k c0, fun k => ([i0, i1, i2, i3, i4, i5] : List (Nat → Nat)).getD k i0, ?_⟩
    intro k q hq
    match k, hq with
    | 0, hq => cases hq; exact hKn0
    | 1, hq => cases hq; exact hKn1
    | 2, hq => cases hq; exact hKn2
    | 3, hq => cases hq; exact hKn3
    | 4, hq => cases hq; exact hKn4
    | 5, hq => cases hq; exact hKn5
    | k + 6, hq => simp [vwCl] at hq
  have hK : wK dC dI cyI cyO s := by
    refine ⟨⟨hKc, ?_⟩, wN.of hts0⟩
    intro k q hq
    match k, hq with
    | 0, hq => cases hq; exact hI
    | 1, hq => cases hq; exact hOb
    | k + 2, hq => simp [wTy] at hq
  have hS : va_S (fun q : Nat => s.heap.size ≤ q) s.heap s.heap [] := va_S.rf
  generalize hAe : (fun q : Nat => s.heap.size ≤ q) = A at hA hAz hbA hS
  have hP : va_P (dC, dI) vwCl (([] : List va_W).flatten) s.heap := fun k q h => by simp at h
  have hD : va_D A (([] : List va_W).flatten) := ⟨fun i j p q h => by simp at h, fun k q h => by simp at h⟩
  have hl := lv_entry ([.ref b]) (n := 10) (Nat.le_of_ble_eq_true rfl)
  rw [lg_entry_eq]
  generalize (lg_sl ([.ref b]) ++ List.replicate (10 - (lg_sl ([.ref b])).length) Slot.unset).toArray = ls at hl ⊢
  have hl : lv_has ls 10 [(0, .ref b)] := hl
  refine va_new (D := (dC, dI)) (ci := 5) (C := RX5) (T := TX5) (N := 8) (fs := dfX5) hx hb hts inX5 tyX5 tyX5_ok hown (hts _ w_classLink_L_9) (hts _ w_instantiable_X5) (hts _ w_initialized_X5) hK.1 hP hD hS hA rfl dfX5_ok (Nat.le_of_ble_eq_true rfl) (Nat.le_of_ble_eq_true rfl) dL_law_0 (fun q H hP hD hS => ?_)
  have hP : va_P (dC, dI) vwCl (([[(q, .inr (5, dfX5))]] : List va_W).flatten) H := hP.psh
  have hD : va_D A (([[(q, .inr (5, dfX5))]] : List va_W).flatten) := hD.psh
  refine lv_dup hx hb dL_law_3 rfl ?_
  refine wcII (As := []) (rest := [.ref q]) (wr := ([] : List va_W).flatten) (b := q) ⟨hx, hb, hml, hown, hts⟩ (met_X5_init l dC dI cyI cyO q _ N) (cwI 0 hts (gCode w_code_X5_init) rfl rfl rfl (hts _ w_initialized_X5) (hts _ w_methodLink_L_200) (hts _ w_instanceMethod_X5_init) rfl (by decide +kernel) ⟨Nat.le_of_ble_eq_true rfl, Nat.le_of_ble_eq_true rfl⟩) hP hD hK hO (seg_perm (n := 1) (R := []) (C := [[(q, .inr (5, dfX5))]]) [] [0] rfl rfl rfl (by decide) rfl) rfl hl.1 (Nat.le_of_ble_eq_true rfl) dL_law_4 ⟨Nat.le_of_ble_eq_true rfl, Nat.le_of_ble_eq_true rfl⟩ hS hA (fun u1 H locs hw hP1 hD1 hS => ?_)
  obtain ⟨hw, hl0, hl1, hs0, hs1, hs2, hs3, hs4, hs5⟩ := hw
  obtain ⟨x, fl, fs, st⟩ := u1
  dsimp only at hw hl0 hl1 hs0 hs1 hs2 hs3 hs4 hs5
  have hw := hw.symm
  subst hw
  have hP : va_P (dC, dI) vwCl (([(cXo x (st 0) (st 1) xI), (cH cyO (x 1) (x 2) 2 fl), (cXk cyI x xI), (cH cyO (x 4) (x 5) 6 fs), (cT cyI x tI), (cS cyI (st 0) sI), (cS cyI (st 1) sI), (cS cyI (st 2) sI), (cS cyI (st 3) sI), (cS cyI (st 4) sI), (cS cyI (st 5) sI), (cS cyI (st 6) sI), (cS cyI (st 7) sI), (cS cyI (st 8) sI), (cS cyI (st 9) sI)] : List va_W).flatten) H := hP1
  have hD : va_D A (([(cXo x (st 0) (st 1) xI), (cH cyO (x 1) (x 2) 2 fl), (cXk cyI x xI), (cH cyO (x 4) (x 5) 6 fs), (cT cyI x tI), (cS cyI (st 0) sI), (cS cyI (st 1) sI), (cS cyI (st 2) sI), (cS cyI (st 3) sI), (cS cyI (st 4) sI), (cS cyI (st 5) sI), (cS cyI (st 6) sI), (cS cyI (st 7) sI), (cS cyI (st 8) sI), (cS cyI (st 9) sI)] : List va_W).flatten) := hD1
  clear hP1 hD1
  refine lv_astore_n (lv' := [(1, .ref (x 0)), (0, .ref b)]) hx hb dL_law_7 rfl hl (by decide) rfl (fun ls hl => ?_)
  refine va_new (D := (dC, dI)) (ci := 5) (C := RX5) (T := TX5) (N := 8) (fs := dfX5) hx hb hts inX5 tyX5 tyX5_ok hown (hts _ w_classLink_L_9) (hts _ w_instantiable_X5) (hts _ w_initialized_X5) hK.1 hP hD hS hA rfl dfX5_ok (Nat.le_of_ble_eq_true rfl) (Nat.le_of_ble_eq_true rfl) dL_law_8 (fun qy H hP hD hS => ?_)
  have hP : va_P (dC, dI) vwCl (([(cXo x (st 0) (st 1) xI), (cH cyO (x 1) (x 2) 2 fl), (cXk cyI x xI), (cH cyO (x 4) (x 5) 6 fs), (cT cyI x tI), (cS cyI (st 0) sI), (cS cyI (st 1) sI), (cS cyI (st 2) sI), (cS cyI (st 3) sI), (cS cyI (st 4) sI), (cS cyI (st 5) sI), (cS cyI (st 6) sI), (cS cyI (st 7) sI), (cS cyI (st 8) sI), (cS cyI (st 9) sI), [(qy, .inr (5, dfX5))]] : List va_W).flatten) H := hP.psh
  have hD : va_D A (([(cXo x (st 0) (st 1) xI), (cH cyO (x 1) (x 2) 2 fl), (cXk cyI x xI), (cH cyO (x 4) (x 5) 6 fs), (cT cyI x tI), (cS cyI (st 0) sI), (cS cyI (st 1) sI), (cS cyI (st 2) sI), (cS cyI (st 3) sI), (cS cyI (st 4) sI), (cS cyI (st 5) sI), (cS cyI (st 6) sI), (cS cyI (st 7) sI), (cS cyI (st 8) sI), (cS cyI (st 9) sI), [(qy, .inr (5, dfX5))]] : List va_W).flatten) := hD.psh
  refine lv_dup hx hb dL_law_11 rfl ?_
  refine wcII (As := []) (rest := [.ref qy]) (wr := ([(cXo x (st 0) (st 1) xI), (cH cyO (x 1) (x 2) 2 fl), (cXk cyI x xI), (cH cyO (x 4) (x 5) 6 fs), (cT cyI x tI), (cS cyI (st 0) sI), (cS cyI (st 1) sI), (cS cyI (st 2) sI), (cS cyI (st 3) sI), (cS cyI (st 4) sI), (cS cyI (st 5) sI), (cS cyI (st 6) sI), (cS cyI (st 7) sI), (cS cyI (st 8) sI), (cS cyI (st 9) sI)] : List va_W).flatten) (b := qy) ⟨hx, hb, hml, hown, hts⟩ (met_X5_init l dC dI cyI cyO qy _ N) (cwI 0 hts (gCode w_code_X5_init) rfl rfl rfl (hts _ w_initialized_X5) (hts _ w_methodLink_L_200) (hts _ w_instanceMethod_X5_init) rfl (by decide +kernel) ⟨Nat.le_of_ble_eq_true rfl, Nat.le_of_ble_eq_true rfl⟩) hP hD hK hO (seg_perm (n := 16) (R := [(cXo x (st 0) (st 1) xI), (cH cyO (x 1) (x 2) 2 fl), (cXk cyI x xI), (cH cyO (x 4) (x 5) 6 fs), (cT cyI x tI), (cS cyI (st 0) sI), (cS cyI (st 1) sI), (cS cyI (st 2) sI), (cS cyI (st 3) sI), (cS cyI (st 4) sI), (cS cyI (st 5) sI), (cS cyI (st 6) sI), (cS cyI (st 7) sI), (cS cyI (st 8) sI), (cS cyI (st 9) sI)]) (C := [[(qy, .inr (5, dfX5))]]) [0, 1, 2, 3, 4, 5, 6, 7, 8, 9, 10, 11, 12, 13, 14] [15] rfl rfl rfl (by decide) rfl) rfl hl.1 (Nat.le_of_ble_eq_true rfl) dL_law_12 ⟨Nat.le_of_ble_eq_true rfl, Nat.le_of_ble_eq_true rfl⟩ hS hA (fun u1 H locs hw hP1 hD1 hS => ?_)
  obtain ⟨hw, yhl0, yhl1, yhs0, yhs1, yhs2, yhs3, yhs4, yhs5⟩ := hw
  obtain ⟨yx, yfl, yfs, yst⟩ := u1
  dsimp only at hw yhl0 yhl1 yhs0 yhs1 yhs2 yhs3 yhs4 yhs5
  have hw := hw.symm
  subst hw
  have hq := seg_permS (segs := [(cXo x (st 0) (st 1) xI), (cH cyO (x 1) (x 2) 2 fl), (cXk cyI x xI), (cH cyO (x 4) (x 5) 6 fs), (cT cyI x tI), (cS cyI (st 0) sI), (cS cyI (st 1) sI), (cS cyI (st 2) sI), (cS cyI (st 3) sI), (cS cyI (st 4) sI), (cS cyI (st 5) sI), (cS cyI (st 6) sI), (cS cyI (st 7) sI), (cS cyI (st 8) sI), (cS cyI (st 9) sI), (cXo yx (yst 0) (yst 1) xI), (cH cyO (yx 1) (yx 2) 2 yfl), (cXk cyI yx xI), (cH cyO (yx 4) (yx 5) 6 yfs), (cT cyI yx tI), (cS cyI (yst 0) sI), (cS cyI (yst 1) sI), (cS cyI (yst 2) sI), (cS cyI (yst 3) sI), (cS cyI (yst 4) sI), (cS cyI (yst 5) sI), (cS cyI (yst 6) sI), (cS cyI (yst 7) sI), (cS cyI (yst 8) sI), (cS cyI (yst 9) sI)]) (R := [(cXo x (st 0) (st 1) xI), (cH cyO (x 1) (x 2) 2 fl), (cXk cyI x xI), (cH cyO (x 4) (x 5) 6 fs), (cT cyI x tI), (cS cyI (st 0) sI), (cS cyI (st 1) sI), (cS cyI (st 2) sI), (cS cyI (st 3) sI), (cS cyI (st 4) sI), (cS cyI (st 5) sI), (cS cyI (st 6) sI), (cS cyI (st 7) sI), (cS cyI (st 8) sI), (cS cyI (st 9) sI)]) (C := [(cXo yx (yst 0) (yst 1) xI), (cH cyO (yx 1) (yx 2) 2 yfl), (cXk cyI yx xI), (cH cyO (yx 4) (yx 5) 6 yfs), (cT cyI yx tI), (cS cyI (yst 0) sI), (cS cyI (yst 1) sI), (cS cyI (yst 2) sI), (cS cyI (yst 3) sI), (cS cyI (yst 4) sI), (cS cyI (yst 5) sI), (cS cyI (yst 6) sI), (cS cyI (yst 7) sI), (cS cyI (yst 8) sI), (cS cyI (yst 9) sI)]) (n := 30) [0, 1, 2, 3, 4, 5, 6, 7, 8, 9, 10, 11, 12, 13, 14] [15, 16, 17, 18, 19, 20, 21, 22, 23, 24, 25, 26, 27, 28, 29] rfl rfl rfl (by decide)
  have hP : va_P (dC, dI) vwCl (([(cXo x (st 0) (st 1) xI), (cH cyO (x 1) (x 2) 2 fl), (cXk cyI x xI), (cH cyO (x 4) (x 5) 6 fs), (cT cyI x tI), (cS cyI (st 0) sI), (cS cyI (st 1) sI), (cS cyI (st 2) sI), (cS cyI (st 3) sI), (cS cyI (st 4) sI), (cS cyI (st 5) sI), (cS cyI (st 6) sI), (cS cyI (st 7) sI), (cS cyI (st 8) sI), (cS cyI (st 9) sI), (cXo yx (yst 0) (yst 1) xI), (cH cyO (yx 1) (yx 2) 2 yfl), (cXk cyI yx xI), (cH cyO (yx 4) (yx 5) 6 yfs), (cT cyI yx tI), (cS cyI (yst 0) sI), (cS cyI (yst 1) sI), (cS cyI (yst 2) sI), (cS cyI (yst 3) sI), (cS cyI (yst 4) sI), (cS cyI (yst 5) sI), (cS cyI (yst 6) sI), (cS cyI (yst 7) sI), (cS cyI (yst 8) sI), (cS cyI (yst 9) sI)] : List va_W).flatten) H := hP1.perm hq
  have hD : va_D A (([(cXo x (st 0) (st 1) xI), (cH cyO (x 1) (x 2) 2 fl), (cXk cyI x xI), (cH cyO (x 4) (x 5) 6 fs), (cT cyI x tI), (cS cyI (st 0) sI), (cS cyI (st 1) sI), (cS cyI (st 2) sI), (cS cyI (st 3) sI), (cS cyI (st 4) sI), (cS cyI (st 5) sI), (cS cyI (st 6) sI), (cS cyI (st 7) sI), (cS cyI (st 8) sI), (cS cyI (st 9) sI), (cXo yx (yst 0) (yst 1) xI), (cH cyO (yx 1) (yx 2) 2 yfl), (cXk cyI yx xI), (cH cyO (yx 4) (yx 5) 6 yfs), (cT cyI yx tI), (cS cyI (yst 0) sI), (cS cyI (yst 1) sI), (cS cyI (yst 2) sI), (cS cyI (yst 3) sI), (cS cyI (yst 4) sI), (cS cyI (yst 5) sI), (cS cyI (yst 6) sI), (cS cyI (yst 7) sI), (cS cyI (yst 8) sI), (cS cyI (yst 9) sI)] : List va_W).flatten) := hD1.perm hq
  clear hq hP1 hD1
  refine lv_astore_n (lv' := [(2, .ref (yx 0)), (1, .ref (x 0)), (0, .ref b)]) hx hb dL_law_15 rfl hl (by decide) rfl (fun ls hl => ?_)
  refine lv_iconst (v := 1) hx hb dL_law_16 (by decide) ?_
  refine wnewa hx hb (hts _ w_arrayClass_int) hK hP hD hS hA (n := (1 : Int32)) (N' := 1) (by decide) rfl (Nat.le_of_ble_eq_true rfl) (Nat.le_of_ble_eq_true rfl) (Nat.le_of_ble_eq_true rfl) dL_law_17 (fun qo H hP hD hS => ?_)
  refine lv_astore_n (lv' := [(3, .ref qo), (2, .ref (yx 0)), (1, .ref (x 0)), (0, .ref b)]) hx hb dL_law_19 rfl hl (by decide) rfl (fun ls hl => ?_)
  have hq := seg_perm (segs := [(cXo x (st 0) (st 1) xI), (cH cyO (x 1) (x 2) 2 fl), (cXk cyI x xI), (cH cyO (x 4) (x 5) 6 fs), (cT cyI x tI), (cS cyI (st 0) sI), (cS cyI (st 1) sI), (cS cyI (st 2) sI), (cS cyI (st 3) sI), (cS cyI (st 4) sI), (cS cyI (st 5) sI), (cS cyI (st 6) sI), (cS cyI (st 7) sI), (cS cyI (st 8) sI), (cS cyI (st 9) sI), (cXo yx (yst 0) (yst 1) xI), (cH cyO (yx 1) (yx 2) 2 yfl), (cXk cyI yx xI), (cH cyO (yx 4) (yx 5) 6 yfs), (cT cyI yx tI), (cS cyI (yst 0) sI), (cS cyI (yst 1) sI), (cS cyI (yst 2) sI), (cS cyI (yst 3) sI), (cS cyI (yst 4) sI), (cS cyI (yst 5) sI), (cS cyI (yst 6) sI), (cS cyI (yst 7) sI), (cS cyI (yst 8) sI), (cS cyI (yst 9) sI), [cI cyI qo 1 (fun _ => 0)]]) (R := [[cI cyI qo 1 (fun _ => 0)], (cXo x (st 0) (st 1) xI), (cH cyO (x 1) (x 2) 2 fl), (cXk cyI x xI), (cH cyO (x 4) (x 5) 6 fs), (cT cyI x tI), (cS cyI (st 0) sI), (cS cyI (st 1) sI), (cS cyI (st 4) sI), (cS cyI (st 5) sI), (cS cyI (st 6) sI), (cS cyI (st 7) sI), (cS cyI (st 8) sI), (cS cyI (st 9) sI), (cXo yx (yst 0) (yst 1) xI), (cH cyO (yx 1) (yx 2) 2 yfl), (cXk cyI yx xI), (cH cyO (yx 4) (yx 5) 6 yfs), (cT cyI yx tI), (cS cyI (yst 0) sI), (cS cyI (yst 1) sI), (cS cyI (yst 4) sI), (cS cyI (yst 5) sI), (cS cyI (yst 6) sI), (cS cyI (yst 7) sI), (cS cyI (yst 8) sI), (cS cyI (yst 9) sI)]) (C := [(cS cyI (st 2) sI), (cS cyI (st 3) sI), (cS cyI (yst 2) sI), (cS cyI (yst 3) sI)]) (wc := ([(cS cyI (st 2) sI), (cS cyI (st 3) sI), (cS cyI (yst 2) sI), (cS cyI (yst 3) sI)] : List va_W).flatten) (n := 31) [30, 0, 1, 2, 3, 4, 5, 6, 9, 10, 11, 12, 13, 14, 15, 16, 17, 18, 19, 20, 21, 24, 25, 26, 27, 28, 29] [7, 8, 22, 23] rfl rfl rfl (by decide) rfl
  have hP := hP.perm hq
  have hD := hD.perm hq
  clear hq
  have hP := hP.sub _ (wmap_f (seg_r (wr := ([[cI cyI qo 1 (fun _ => 0)], (cXo x (st 0) (st 1) xI), (cH cyO (x 1) (x 2) 2 fl), (cXk cyI x xI), (cH cyO (x 4) (x 5) 6 fs), (cT cyI x tI), (cS cyI (st 0) sI), (cS cyI (st 1) sI), (cS cyI (st 4) sI), (cS cyI (st 5) sI), (cS cyI (st 6) sI), (cS cyI (st 7) sI), (cS cyI (st 8) sI), (cS cyI (st 9) sI), (cXo yx (yst 0) (yst 1) xI), (cH cyO (yx 1) (yx 2) 2 yfl), (cXk cyI yx xI), (cH cyO (yx 4) (yx 5) 6 yfs), (cT cyI yx tI), (cS cyI (yst 0) sI), (cS cyI (yst 1) sI), (cS cyI (yst 4) sI), (cS cyI (yst 5) sI), (cS cyI (yst 6) sI), (cS cyI (yst 7) sI), (cS cyI (yst 8) sI), (cS cyI (yst 9) sI)] : List va_W).flatten) (wc := ([(cS cyI (st 2) sI), (cS cyI (st 3) sI), (cS cyI (yst 2) sI), (cS cyI (yst 3) sI)] : List va_W).flatten)))
  have hD := hD.sub _ seg_ndr (seg_r (wr := ([[cI cyI qo 1 (fun _ => 0)], (cXo x (st 0) (st 1) xI), (cH cyO (x 1) (x 2) 2 fl), (cXk cyI x xI), (cH cyO (x 4) (x 5) 6 fs), (cT cyI x tI), (cS cyI (st 0) sI), (cS cyI (st 1) sI), (cS cyI (st 4) sI), (cS cyI (st 5) sI), (cS cyI (st 6) sI), (cS cyI (st 7) sI), (cS cyI (st 8) sI), (cS cyI (st 9) sI), (cXo yx (yst 0) (yst 1) xI), (cH cyO (yx 1) (yx 2) 2 yfl), (cXk cyI yx xI), (cH cyO (yx 4) (yx 5) 6 yfs), (cT cyI yx tI), (cS cyI (yst 0) sI), (cS cyI (yst 1) sI), (cS cyI (yst 4) sI), (cS cyI (yst 5) sI), (cS cyI (yst 6) sI), (cS cyI (yst 7) sI), (cS cyI (yst 8) sI), (cS cyI (yst 9) sI)] : List va_W).flatten) (wc := ([(cS cyI (st 2) sI), (cS cyI (st 3) sI), (cS cyI (yst 2) sI), (cS cyI (yst 3) sI)] : List va_W).flatten))
  have hP : va_P (dC, dI) vwCl (([[cI cyI qo 1 (fun _ => 0)], (cXo x (st 0) (st 1) xI), (cH cyO (x 1) (x 2) 2 fl), (cXk cyI x xI), (cH cyO (x 4) (x 5) 6 fs), (cT cyI x (X_text xI)), (cSo (st 0) sI), (cG cyI (st 0) (S_green sI)), (cV cyI (st 0) (S_score sI)), (cSo (st 1) sI), (cG cyI (st 1) (S_green sI)), (cV cyI (st 1) (S_score sI)), (cS cyI (st 4) sI), (cS cyI (st 5) sI), (cS cyI (st 6) sI), (cS cyI (st 7) sI), (cS cyI (st 8) sI), (cS cyI (st 9) sI), (cXo yx (yst 0) (yst 1) xI), (cH cyO (yx 1) (yx 2) 2 yfl), (cXk cyI yx xI), (cH cyO (yx 4) (yx 5) 6 yfs), (cT cyI yx (X_text xI)), (cS cyI (yst 0) sI), (cS cyI (yst 1) sI), (cS cyI (yst 4) sI), (cS cyI (yst 5) sI), (cS cyI (yst 6) sI), (cS cyI (yst 7) sI), (cS cyI (yst 8) sI), (cS cyI (yst 9) sI)] : List va_W).flatten) H := hP
  have hD : va_D A (([[cI cyI qo 1 (fun _ => 0)], (cXo x (st 0) (st 1) xI), (cH cyO (x 1) (x 2) 2 fl), (cXk cyI x xI), (cH cyO (x 4) (x 5) 6 fs), (cT cyI x (X_text xI)), (cSo (st 0) sI), (cG cyI (st 0) (S_green sI)), (cV cyI (st 0) (S_score sI)), (cSo (st 1) sI), (cG cyI (st 1) (S_green sI)), (cV cyI (st 1) (S_score sI)), (cS cyI (st 4) sI), (cS cyI (st 5) sI), (cS cyI (st 6) sI), (cS cyI (st 7) sI), (cS cyI (st 8) sI), (cS cyI (st 9) sI), (cXo yx (yst 0) (yst 1) xI), (cH cyO (yx 1) (yx 2) 2 yfl), (cXk cyI yx xI), (cH cyO (yx 4) (yx 5) 6 yfs), (cT cyI yx (X_text xI)), (cS cyI (yst 0) sI), (cS cyI (yst 1) sI), (cS cyI (yst 4) sI), (cS cyI (yst 5) sI), (cS cyI (yst 6) sI), (cS cyI (yst 7) sI), (cS cyI (yst 8) sI), (cS cyI (yst 9) sI)] : List va_W).flatten) := hD
  refine W.widen (k := 1000) (n := 6000) (Nat.le_of_ble_eq_true rfl) (Nat.le_of_ble_eq_true rfl) ?_
  refine law_body (z0 := s.heap.size) (A := A) (b := b) (L := L) (xs := xs) hst hx hb hml hown hts hK hZ hAz hz0 hA hX hbl hbA qo x (st 0) (st 1) (st 4) (st 5) (st 6) (st 7) (st 8) (st 9) yx (yst 0) (yst 1) (yst 4) (yst 5) (yst 6) (yst 7) (yst 8) (yst 9) fl fs yfl yfs N (fun _ => 0) xI sI sI sI sI sI sI sI sI xI sI sI sI sI sI sI sI sI hs0 hs1 hs2 hs3 hs4 hs5 yhs0 yhs1 yhs2 yhs3 yhs4 yhs5 () (hF _) hP hD hS (lv_sub hl [0, 1, 2, 3] rfl) (fun H locs ls c2 s2 h1 h2 hS => ?_)
  refine va_forget (fun q hq => ?_) ?_
  · have := hS.2.2 q hq; rw [← hAe] at this; exact this
  refine W.widen (k := 739082) (n := 6884379) (Nat.le_trans h1 (Nat.le_of_ble_eq_true rfl)) (Nat.le_trans h2 (Nat.le_of_ble_eq_true rfl)) ?_
  exact lw_ret (Drawn.sameBut.refl s.drawn lw_cs) hx hb hr hlocks dL_law_239
