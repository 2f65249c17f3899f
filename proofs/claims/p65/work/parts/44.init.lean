/-! the constructors -/
abbrev wWrI (dC : Nat → ClassId) (dI : Nat → Nat → Nat) (cyI cyO : ClassId) (av : List Value) (ws : va_W) (sz : Nat) : Array Value → State → Prop := va_Pc av (fun U => U.heap.size = sz ∧ va_P (dC, dI) vwCl ws U.heap ∧ wK dC dI cyI cyO U ∧ va_D (fun _ => True) ws ∧ va_AO "WombatBowls$State" U)
theorem wWrI_blind {dC : Nat → ClassId} {dI : Nat → Nat → Nat} {cyI cyO : ClassId} {av : List Value} {ws : va_W} {sz : Nat} : FrameBlind (wWrI dC dI cyI cyO av ws sz) := fun a U g mk q => by
  obtain ⟨q0, qz, qP, ⟨qK, qN⟩, qD, qA⟩ := q
  exact ⟨q0, qz, qP, ⟨va_K.moved (u := U) (U := U.calling g mk a) (Vm.Alike.refl U.vm) qK, wN.same (s := U) (U := U.calling g mk a) rfl qN⟩, qD, va_AO.moved (u := U) (U := U.calling g mk a) (Vm.Alike.refl U.vm) qA⟩
abbrev adr (l : List Nat) : Nat → Nat := fun k => l.getD k 0
theorem va_P.psh {D : va_G} {cl : List vw_C} {segs : List va_W} {c : va_W} {H : Heap} (h : va_P D cl (segs.flatten ++ c) H) : va_P D cl (segs ++ [c]).flatten H := by
  have : (segs ++ [c]).flatten = segs.flatten ++ c := by simp
  rw [this]; exact h
theorem va_D.psh {A : Nat → Prop} {segs : List va_W} {c : va_W} (h : va_D A (segs.flatten ++ c)) : va_D A (segs ++ [c]).flatten := by
  have : (segs ++ [c]).flatten = segs.flatten ++ c := by simp
  rw [this]; exact h
section WI
variable {p : Program} {l : Launch} {e : Env} {R : Room} {s : State} {m : MethodId} {args : Array Value} {below : List Frame} {meth : Method} {c : Code} {H : Heap} {locs : List Loc} {cells slots : Nat} {Q : State → Prop}
variable {y : MethodName} {bytes cc : ByteArray} {maxL nL n index mc ms : Nat} {ret : Option FieldType} {wsy : List Cond} {rm : Room} {Ts : List Cond} {own C host : String} {b : Nat} {As rest : List Value} {pc : Nat} {ls : Array Slot} {A : Nat → Prop} {H0 : Heap}
variable {dC : Nat → ClassId} {dI : Nat → Nat → Nat} {cyI cyO : ClassId} {ws wc wr : va_W} {segs : List va_W}
theorem wcII {σ : Type} {post : σ → Prop} {w1 : σ → va_W} (S : CallFix p m c cc nL s args Ts own) (hM : Met l y wsy rm (wWrI dC dI cyI cyO (.ref b :: As) wc H.size) (va_Qv post (fun u t => va_P (dC, dI) vwCl (w1 u) t.heap ∧ va_D (va_A wc H.size) (w1 u)) (va_A wc H.size)) mc ms (va_A wc H.size)) (cw : CallB R s args own index y bytes maxL none wsy rm mc ms n ∧ y.name = "<init>" ∧ (Cond.instanceMethod y).before args s = true) (hP : va_P (dC, dI) vwCl ws H) (hD : va_D A ws) (hK : wK dC dI cyI cyO s) (hO : va_AO "WombatBowls$State" s) (hw : ws.Perm (wr ++ wc)) (hn : As.length = n) (hsize : ls.size = nL) (hst : (rest.map fun v => v.category).sum ≤ 8) (hdg : decode cc pc = .ok (.invokespecial index, 3)) (hf : cells + mc ≤ R.cells ∧ slots + ms ≤ R.slots) (hS : va_S A H0 H locs) (hA : ∀ q : Nat, H0.size ≤ q → A q) (kk : ∀ (u : σ) (H1 : Heap) (locs1 : List Loc), post u → va_P (dC, dI) vwCl (wr ++ w1 u) H1 → va_D A (wr ++ w1 u) → va_S A H0 H1 locs1 → W p l e R s m args below meth c H1 locs1 (cells + mc) (slots + ms) Q (F0 m (pc + 3) ls rest)) : W p l e R s m args below meth c H locs cells slots Q (F0 m pc ls (As.reverse ++ .ref b :: rest)) := by
  have hP := hP.perm hw
  have hD := hD.perm hw
  have hDc : va_D A wc := hD.sub _ seg_ndc seg_c
  have hFc := va_free hD hS hA _ seg_c
  have hsub := wmap_f (seg_c (wr := wr) (wc := wc))
  have J : ∀ (H1 : Heap) (w : va_W), (∀ q : Nat, q < H.size → ¬ va_A wc H.size q → H1[q]? = H[q]?) → va_P (dC, dI) vwCl w H1 → va_D (va_A wc H.size) w → va_P (dC, dI) vwCl (wr ++ w) H1 ∧ va_D A (wr ++ w) := fun H1 w hk1 h1 h2 => va_join hP hD _ _ seg_c seg_r seg_ndr seg_dis hk1 hFc h1 h2
  exact va_callv (va_runI (rest := rest) S hM cw ⟨wWrI_blind, fun U hU hW => ⟨rfl, by rw [hU], by rw [hU]; exact hP.sub _ hsub, wK_warm hW hK, hDc.weaken (fun _ _ _ _ => trivial), va_AO.moved hW.alike hO⟩⟩ rfl hn hsize rfl (lv_room hst) hdg hf) hS (fun q _ h => hFc q h) hFc (fun u t H1 locs1 ht hvm hw hB hz1 hk1 hS1 => kk u H1 locs1 hw (J H1 (w1 u) hk1 (by rw [← ht]; exact hB.1) hB.2).1 (J H1 (w1 u) hk1 (by rw [← ht]; exact hB.1) hB.2).2 hS1)
theorem wcIN {σ : Type} {post : σ → Prop} {w1 : σ → va_W} (S : CallFix p m c cc nL s args Ts own) (hM : Met l y wsy rm (wWrI dC dI cyI cyO (.ref b :: As) wc H.size) (va_Qv post (fun u t => va_P (dC, dI) vwCl (w1 u) t.heap ∧ va_D (va_A wc H.size) (w1 u)) (va_A wc H.size)) mc ms (va_A wc H.size)) (cw : va_CN R s args own index y host bytes maxL none wsy rm mc ms n ∧ y.name = "<init>" ∧ (Cond.instanceMethod y).before args s = true) (hP : va_P (dC, dI) vwCl ws H) (hD : va_D A ws) (hK : wK dC dI cyI cyO s) (hO : va_AO "WombatBowls$State" s) (hw : ws.Perm (wr ++ wc)) (hn : As.length = n) (hsize : ls.size = nL) (hst : (rest.map fun v => v.category).sum ≤ 8) (hdg : decode cc pc = .ok (.invokespecial index, 3)) (hf : cells + mc ≤ R.cells ∧ slots + ms ≤ R.slots) (hS : va_S A H0 H locs) (hA : ∀ q : Nat, H0.size ≤ q → A q) (kk : ∀ (u : σ) (H1 : Heap) (locs1 : List Loc), post u → va_P (dC, dI) vwCl (wr ++ w1 u) H1 → va_D A (wr ++ w1 u) → va_S A H0 H1 locs1 → W p l e R s m args below meth c H1 locs1 (cells + mc) (slots + ms) Q (F0 m (pc + 3) ls rest)) : W p l e R s m args below meth c H locs cells slots Q (F0 m pc ls (As.reverse ++ .ref b :: rest)) := by
  have hP := hP.perm hw
  have hD := hD.perm hw
  have hDc : va_D A wc := hD.sub _ seg_ndc seg_c
  have hFc := va_free hD hS hA _ seg_c
  have hsub := wmap_f (seg_c (wr := wr) (wc := wc))
  have J : ∀ (H1 : Heap) (w : va_W), (∀ q : Nat, q < H.size → ¬ va_A wc H.size q → H1[q]? = H[q]?) → va_P (dC, dI) vwCl w H1 → va_D (va_A wc H.size) w → va_P (dC, dI) vwCl (wr ++ w) H1 ∧ va_D A (wr ++ w) := fun H1 w hk1 h1 h2 => va_join hP hD _ _ seg_c seg_r seg_ndr seg_dis hk1 hFc h1 h2
  exact va_callv (va_runIN (rest := rest) S hM cw ⟨wWrI_blind, fun U hU hW => ⟨rfl, by rw [hU], by rw [hU]; exact hP.sub _ hsub, wK_warm hW hK, hDc.weaken (fun _ _ _ _ => trivial), va_AO.moved hW.alike hO⟩⟩ rfl hn hsize rfl (lv_room hst) hdg hf) hS (fun q _ h => hFc q h) hFc (fun u t H1 locs1 ht hvm hw hB hz1 hk1 hS1 => kk u H1 locs1 hw (J H1 (w1 u) hk1 (by rw [← ht]; exact hB.1) hB.2).1 (J H1 (w1 u) hk1 (by rw [← ht]; exact hB.1) hB.2).2 hS1)
theorem wnewa (hexec : p.tables.exec = Jvm.exec) (hb : c.code = cc) (harr : (Cond.arrayClass .int).before args s = true) (hK : wK dC dI cyI cyO s) (hP : va_P (dC, dI) vwCl segs.flatten H) (hD : va_D A segs.flatten) (hS : va_S A H0 H locs) (hA : ∀ q, H0.size ≤ q → A q) {n : Int32} {N' : Nat} (hn : ¬ n < 0) (hN : n.toNatClampNeg = N') (hbytes : N' * componentBytes .int ≤ 536870912) (hcells : cells + 1 ≤ R.cells) (hslots : slots + N' ≤ R.slots) (hdg : decode cc pc = .ok (.newarray .int, 2)) (kk : ∀ (q : Nat) (H1 : Heap), va_P (dC, dI) vwCl (segs ++ [[cI cyI q N' (fun _ => 0)]]).flatten H1 → va_D A (segs ++ [[cI cyI q N' (fun _ => 0)]]).flatten → va_S A H0 H1 locs → W p l e R s m args below meth c H1 locs (cells + 1) (slots + N') Q (F0 m (pc + 2) ls (.ref q :: rest))) : W p l e R s m args below meth c H locs cells slots Q (F0 m pc ls (.int n :: rest)) := by
  refine va_newa hexec hb (atype := .int) harr (ty := .int) rfl hK.1 hP hD hS hA (a0 := (N', (.inl (fun _ => (0 : Int32))))) (fun _ => rfl) hn hN hbytes hcells hslots hdg (fun q cA H1 hK1 hP1 hD1 hS1 => ?_)
  have h1 : s.vm.findClass ("[" ++ (.int : FieldType).toString) = some cA := (hK1.2 2 (cA, .int) rfl).2
  have h2 : s.vm.findClass ("[" ++ (.int : FieldType).toString) = some cyI := (hK.1.2 0 (cyI, .int) rfl).2
  obtain rfl : cA = cyI := Option.some.inj (h1.symm.trans h2)
  exact kk q H1 hP1.psh hD1.psh hS1
theorem wobj (hexec : p.tables.exec = Jvm.exec) (hb : c.code = cc) {own : String} (hown : s.vm.findClass own = some m.cls) {idx : Nat} (hlink : (Cond.methodLink own idx Lib.objectInit).before args s = true) (hinst : (Cond.instanceMethod Lib.objectInit).before args s = true) (hcode : (Cond.code Lib.objectInit ⟨#[0xb1]⟩ 1 none).before args s = true) (hsize : ls.size = c.maxLocals) {a : Nat} (hd : decode cc pc = .ok (.invokespecial idx, 3)) (hframes : 1 ≤ R.frames) (hlocals : 2 * (F0 m pc ls (.ref a :: rest)).monitorRoom + (rest.map fun v => v.category).sum + 12 ≤ R.locals) (kk : W p l e R s m args below meth c H locs cells slots Q (F0 m (pc + 3) ls rest)) : W p l e R s m args below meth c H locs cells slots Q (F0 m pc ls (.ref a :: rest)) :=
  W.objInit hexec hb hown hlink hinst hcode rfl hsize rfl hd hframes hlocals kk
theorem wnewq (hexec : p.tables.exec = Jvm.exec) (hb : c.code = cc) {own : String} {index : Nat} (hown : s.vm.findClass own = some m.cls) (hclink : (Cond.classLink own index "WombatBowls$State").before args s = true) (hover : va_AO "WombatBowls$State" s) (hK : wK dC dI cyI cyO s) (hP : va_P (dC, dI) vwCl segs.flatten H) (hD : va_D A segs.flatten) (hS : va_S A H0 H locs) (hA : ∀ q, H0.size ≤ q → A q) {n : Int32} {N' : Nat} (hn : ¬ n < 0) (hN : n.toNatClampNeg = N') (hbytes : N' * 4 ≤ 536870912) (hcells : cells + 1 ≤ R.cells) (hslots : slots + N' ≤ R.slots) (hdg : decode cc pc = .ok (.anewarray index, 3)) (kk : ∀ (q : Nat) (H1 : Heap), va_P (dC, dI) vwCl (segs ++ [[cA cyO q N' (fun _ => none)]]).flatten H1 → va_D A (segs ++ [[cA cyO q N' (fun _ => none)]]).flatten → va_S A H0 H1 locs → W p l e R s m args below meth c H1 locs (cells + 1) (slots + N') Q (F0 m (pc + 3) ls (.ref q :: rest))) : W p l e R s m args below meth c H locs cells slots Q (F0 m pc ls (.int n :: rest)) := by
  refine va_newq hexec hb hown hclink hover hK.1 hP hD hS hA hn hN hbytes hcells hslots hdg (fun q cA' H1 hK1 hP1 hD1 hS1 => ?_)
  have h1 : va_RA s cA' (.object "WombatBowls$State") := (hK1.2 2 (cA', .object "WombatBowls$State") rfl).2
  have h2 : va_RA s cyO (.object "WombatBowls$State") := (hK.1.2 1 (cyO, .object "WombatBowls$State") rfl).2
  obtain ⟨_, _, -, -, -, h3⟩ := h1
  obtain ⟨_, _, -, -, -, h4⟩ := h2
  obtain rfl : cA' = cyO := Option.some.inj (h3.symm.trans h4)
  exact kk q H1 hP1.psh hD1.psh hS1
end WI
abbrev dfX0 : List Value := [.null, .null, .null, .null, .null, .null, .null, .int 0, .int 0]
theorem dfX0_ok : ∀ j, j < 9 → defaultValue (tyX0 j) = vp_V dfX0 j := by
  intro j hj
  match j, hj with
  | 0, _ => rfl
  | 1, _ => rfl
  | 2, _ => rfl
  | 3, _ => rfl
  | 4, _ => rfl
  | 5, _ => rfl
  | 6, _ => rfl
  | 7, _ => rfl
  | 8, _ => rfl
  | k + 9, hk => exact absurd hk (by omega)
abbrev dfX1 : List Value := [.null, .null, .null, .int 0, .int 0, .int 0, .int 0, .int 0, .int 0, .int 0, .int 0]
theorem dfX1_ok : ∀ j, j < 11 → defaultValue (tyX1 j) = vp_V dfX1 j := by
  intro j hj
  match j, hj with
  | 0, _ => rfl
  | 1, _ => rfl
  | 2, _ => rfl
  | 3, _ => rfl
  | 4, _ => rfl
  | 5, _ => rfl
  | 6, _ => rfl
  | 7, _ => rfl
  | 8, _ => rfl
  | 9, _ => rfl
  | 10, _ => rfl
  | k + 11, hk => exact absurd hk (by omega)
abbrev dfX2 : List Value := [.null]
theorem dfX2_ok : ∀ j, j < 1 → defaultValue (tyX2 j) = vp_V dfX2 j := by
  intro j hj
  match j, hj with
  | 0, _ => rfl
  | k + 1, hk => exact absurd hk (by omega)
abbrev dfX3 : List Value := [.null, .null, .int 0, .int 0, .int 0, .int 0]
theorem dfX3_ok : ∀ j, j < 6 → defaultValue (tyX3 j) = vp_V dfX3 j := by
  intro j hj
  match j, hj with
  | 0, _ => rfl
  | 1, _ => rfl
  | 2, _ => rfl
  | 3, _ => rfl
  | 4, _ => rfl
  | 5, _ => rfl
  | k + 6, hk => exact absurd hk (by omega)
abbrev dfX4 : List Value := [.null, .int 0]
theorem dfX4_ok : ∀ j, j < 2 → defaultValue (tyX4 j) = vp_V dfX4 j := by
  intro j hj
  match j, hj with
  | 0, _ => rfl
  | 1, _ => rfl
  | k + 2, hk => exact absurd hk (by omega)
abbrev dfX5 : List Value := [.null, .null, .null, .null, .null, .int 0, .int 0, .null]
theorem dfX5_ok : ∀ j, j < 8 → defaultValue (tyX5 j) = vp_V dfX5 j := by
  intro j hj
  match j, hj with
  | 0, _ => rfl
  | 1, _ => rfl
  | 2, _ => rfl
  | 3, _ => rfl
  | 4, _ => rfl
  | 5, _ => rfl
  | 6, _ => rfl
  | 7, _ => rfl
  | k + 8, hk => exact absurd hk (by omega)
def gI0 : Nat → Int32 := (upd (upd (upd (upd (upd (upd (upd (upd (upd (fun _ => 0) (0 : Int32).toNatClampNeg (-1 : Int32)) (1 : Int32).toNatClampNeg (-1 : Int32)) (2 : Int32).toNatClampNeg (-1 : Int32)) (3 : Int32).toNatClampNeg (-1 : Int32)) (4 : Int32).toNatClampNeg (-1 : Int32)) (5 : Int32).toNatClampNeg (-1 : Int32)) (6 : Int32).toNatClampNeg (-1 : Int32)) (7 : Int32).toNatClampNeg (-1 : Int32)) (8 : Int32).toNatClampNeg (-1 : Int32))
abbrev gI : GV := ((gI0, (fun _ => 0), (fun _ => 0)), ((fun _ => 0), (fun _ => 0), (fun _ => 0)), ((fun _ => 0), 0, 0))
abbrev vI : VV := (((fun _ => 0), (fun _ => 0), (fun _ => 0), 21), (0, 0, 0, 0), (0, 0, 0))
abbrev sI : SV := (gI, vI, 4, 0, 0, 0)
abbrev tI : TV := ((fun _ => 0), 0)
abbrev xI : XV := (0, 0, (fun _ => 0), tI)
theorem dX0_init_0 : decode cX0_init 0 = .ok (.aload_n 0, 1) := by decide +kernel
theorem dX0_init_1 : decode cX0_init 1 = .ok (.invokespecial 3, 3) := by decide +kernel
theorem dX0_init_4 : decode cX0_init 4 = .ok (.aload_n 0, 1) := by decide +kernel
theorem dX0_init_5 : decode cX0_init 5 = .ok (.bipush 9, 2) := by decide +kernel
theorem dX0_init_7 : decode cX0_init 7 = .ok (.newarray .int, 2) := by decide +kernel
theorem dX0_init_9 : decode cX0_init 9 = .ok (.putfield 9, 3) := by decide +kernel
theorem dX0_init_12 : decode cX0_init 12 = .ok (.aload_n 0, 1) := by decide +kernel
theorem dX0_init_13 : decode cX0_init 13 = .ok (.bipush 8, 2) := by decide +kernel
theorem dX0_init_15 : decode cX0_init 15 = .ok (.newarray .int, 2) := by decide +kernel
theorem dX0_init_17 : decode cX0_init 17 = .ok (.putfield 15, 3) := by decide +kernel
theorem dX0_init_20 : decode cX0_init 20 = .ok (.aload_n 0, 1) := by decide +kernel
theorem dX0_init_21 : decode cX0_init 21 = .ok (.bipush 8, 2) := by decide +kernel
theorem dX0_init_23 : decode cX0_init 23 = .ok (.newarray .int, 2) := by decide +kernel
theorem dX0_init_25 : decode cX0_init 25 = .ok (.putfield 18, 3) := by decide +kernel
theorem dX0_init_28 : decode cX0_init 28 = .ok (.aload_n 0, 1) := by decide +kernel
theorem dX0_init_29 : decode cX0_init 29 = .ok (.bipush 8, 2) := by decide +kernel
theorem dX0_init_31 : decode cX0_init 31 = .ok (.newarray .int, 2) := by decide +kernel
theorem dX0_init_33 : decode cX0_init 33 = .ok (.putfield 21, 3) := by decide +kernel
theorem dX0_init_36 : decode cX0_init 36 = .ok (.aload_n 0, 1) := by decide +kernel
theorem dX0_init_37 : decode cX0_init 37 = .ok (.bipush 8, 2) := by decide +kernel
theorem dX0_init_39 : decode cX0_init 39 = .ok (.newarray .int, 2) := by decide +kernel
theorem dX0_init_41 : decode cX0_init 41 = .ok (.putfield 24, 3) := by decide +kernel
theorem dX0_init_44 : decode cX0_init 44 = .ok (.aload_n 0, 1) := by decide +kernel
theorem dX0_init_45 : decode cX0_init 45 = .ok (.bipush 8, 2) := by decide +kernel
theorem dX0_init_47 : decode cX0_init 47 = .ok (.newarray .int, 2) := by decide +kernel
theorem dX0_init_49 : decode cX0_init 49 = .ok (.putfield 27, 3) := by decide +kernel
theorem dX0_init_52 : decode cX0_init 52 = .ok (.aload_n 0, 1) := by decide +kernel
theorem dX0_init_53 : decode cX0_init 53 = .ok (.bipush 8, 2) := by decide +kernel
theorem dX0_init_55 : decode cX0_init 55 = .ok (.newarray .int, 2) := by decide +kernel
theorem dX0_init_57 : decode cX0_init 57 = .ok (.putfield 30, 3) := by decide +kernel
theorem dX0_init_60 : decode cX0_init 60 = .ok (.aload_n 0, 1) := by decide +kernel
theorem dX0_init_61 : decode cX0_init 61 = .ok (.iconst 0, 1) := by decide +kernel
theorem dX0_init_62 : decode cX0_init 62 = .ok (.putfield 33, 3) := by decide +kernel
theorem dX0_init_65 : decode cX0_init 65 = .ok (.aload_n 0, 1) := by decide +kernel
theorem dX0_init_66 : decode cX0_init 66 = .ok (.iconst 0, 1) := by decide +kernel
theorem dX0_init_67 : decode cX0_init 67 = .ok (.putfield 37, 3) := by decide +kernel
theorem dX0_init_70 : decode cX0_init 70 = .ok (.iconst 0, 1) := by decide +kernel
theorem dX0_init_71 : decode cX0_init 71 = .ok (.istore_n 1, 1) := by decide +kernel
theorem dX0_init_72 : decode cX0_init 72 = .ok (.iload_n 1, 1) := by decide +kernel
theorem dX0_init_73 : decode cX0_init 73 = .ok (.aload_n 0, 1) := by decide +kernel
theorem dX0_init_74 : decode cX0_init 74 = .ok (.getfield 9, 3) := by decide +kernel
theorem dX0_init_77 : decode cX0_init 77 = .ok (.arraylength, 1) := by decide +kernel
theorem dX0_init_78 : decode cX0_init 78 = .ok (.if_icmp .ge 16, 3) := by decide +kernel
theorem dX0_init_81 : decode cX0_init 81 = .ok (.aload_n 0, 1) := by decide +kernel
theorem dX0_init_82 : decode cX0_init 82 = .ok (.getfield 9, 3) := by decide +kernel
theorem dX0_init_85 : decode cX0_init 85 = .ok (.iload_n 1, 1) := by decide +kernel
theorem dX0_init_86 : decode cX0_init 86 = .ok (.iconst (-1), 1) := by decide +kernel
theorem dX0_init_87 : decode cX0_init 87 = .ok (.iastore, 1) := by decide +kernel
theorem dX0_init_88 : decode cX0_init 88 = .ok (.iinc 1 1, 3) := by decide +kernel
theorem dX0_init_91 : decode cX0_init 91 = .ok (.goto (-19), 3) := by decide +kernel
theorem dX0_init_94 : decode cX0_init 94 = .ok (.return_, 1) := by decide +kernel
set_option maxHeartbeats 4000000 in
set_option maxRecDepth 100000 in
theorem met_X0_init (l : Launch) (dC : Nat → ClassId) (dI : Nat → Nat → Nat) (cyI cyO : ClassId) (q sz : Nat) : Met l yX0_init (Cond.code yX0_init cX0_init 2 none :: wT) ({ frames := 1, cells := 7, slots := 57, locals := 12 } : Room) (wWrI dC dI cyI cyO [.ref q] (([[(q, .inr (0, dfX0))]] : List va_W).flatten) sz) (va_Qv (fun (u : (Nat → Nat)) => u 1 = q) (fun u t => va_P (dC, dI) vwCl (cG cyI u gI) t.heap ∧ va_D (va_A (([[(q, .inr (0, dfX0))]] : List va_W).flatten) sz) (cG cyI u gI)) (va_A (([[(q, .inr (0, dfX0))]] : List va_W).flatten) sz)) 7 57 (va_A (([[(q, .inr (0, dfX0))]] : List va_W).flatten) sz) := by
  refine Met.ofW (cc := cX0_init) (maxL := 2) (ret := none) (by decide) rfl ?_
  intro p e s m args below meth c s₁ B hml hv
  obtain ⟨rfl, hsz, hP, hK, hD0, hO⟩ := hv
  have hx := B.exec
  have hb := B.bytes
  have hr := B.returns
  have hts0 := atoms_spec (ws := (Cond.code yX0_init cX0_init 2 none :: wT)) B.pre
  have hts := fun w h => hts0 w (List.mem_cons_of_mem _ h)
  clear hts0
  have hown : s.vm.findClass RX0 = some m.cls := findClass_of_methodNamed B.named
  have hin2 : meth.name = "<init>" := (name_of_methodNamed B.named B.method).1
  subst hsz
  have hD := hD0.self (sz := s.heap.size)
  generalize hAe : va_A (([[(q, .inr (0, dfX0))]] : List va_W).flatten) s.heap.size = A at hD ⊢
  have hA : ∀ q : Nat, s.heap.size ≤ q → A q := fun q h => by rw [← hAe]; exact Or.inr h
  clear hD0
  have hS : va_S A s.heap s.heap [] := va_S.rf
  have hl := lv_entry [.ref q] (n := 2) (Nat.le_of_ble_eq_true rfl)
  rw [lg_entry_eq]
  generalize (lg_sl [.ref q] ++ List.replicate (2 - (lg_sl [.ref q]).length) Slot.unset).toArray = ls at hl ⊢
  have hl : lv_has ls 2 [(0, .ref q)] := hl
  refine lv_aload_n hx hb dX0_init_0 rfl (lv_at hl 0 rfl) ?_
  refine wobj hx hb hown (hts _ w_methodLink_X0_3) (hts _ w_instanceMethod_java_lang_Object__init____V) (hts _ w_code_java_lang_Object__init____V) (hl.1.trans hml.symm) dX0_init_1 (Nat.le_of_ble_eq_true rfl) (Nat.le_of_ble_eq_true rfl) ?_
  refine lv_aload_n hx hb dX0_init_4 rfl (lv_at hl 0 rfl) ?_
  refine lv_bipush (v := 9) hx hb dX0_init_5 (by decide) ?_
  refine wnewa hx hb (hts _ w_arrayClass_int) hK hP hD hS hA (n := (9 : Int32)) (N' := 9) (by decide) rfl (Nat.le_of_ble_eq_true rfl) (Nat.le_of_ble_eq_true rfl) (Nat.le_of_ble_eq_true rfl) dX0_init_7 (fun q1 H hP hD hS => ?_)
  have hP : va_P (dC, dI) vwCl (([[(q, .inr (0, [.null, .null, .null, .null, .null, .null, .null, .int 0, .int 0]))], [cI cyI q1 9 (fun _ => 0)]] : List va_W).flatten) H := hP
  have hD : va_D A (([[(q, .inr (0, [.null, .null, .null, .null, .null, .null, .null, .int 0, .int 0]))], [cI cyI q1 9 (fun _ => 0)]] : List va_W).flatten) := hD
  refine va_putF (D := (dC, dI)) (ci := 0) (v := .ref q1) (ty := .array .int) (C := RX0) (T := TX0) (N := 9) hx hb hts inX0 tyX0 tyX0_ok nmX0 hown hK.1 hP hD hS 0 rfl rfl 0 (by decide) (hts _ w_fieldLink_X0_9) (fun _ h9 => h9) rfl hin2 rfl (by decide +kernel) rfl rfl (Nat.le_of_ble_eq_true rfl) dX0_init_9 (fun H locs hP hD hS => ?_)
  have hP : va_P (dC, dI) vwCl (([[(q, .inr (0, [.ref q1, .null, .null, .null, .null, .null, .null, .int 0, .int 0]))], [cI cyI q1 9 (fun _ => 0)]] : List va_W).flatten) H := hP
  have hD : va_D A (([[(q, .inr (0, [.ref q1, .null, .null, .null, .null, .null, .null, .int 0, .int 0]))], [cI cyI q1 9 (fun _ => 0)]] : List va_W).flatten) := hD
  refine lv_aload_n hx hb dX0_init_12 rfl (lv_at hl 0 rfl) ?_
  refine lv_bipush (v := 8) hx hb dX0_init_13 (by decide) ?_
  refine wnewa hx hb (hts _ w_arrayClass_int) hK hP hD hS hA (n := (8 : Int32)) (N' := 8) (by decide) rfl (Nat.le_of_ble_eq_true rfl) (Nat.le_of_ble_eq_true rfl) (Nat.le_of_ble_eq_true rfl) dX0_init_15 (fun q2 H hP hD hS => ?_)
  have hP : va_P (dC, dI) vwCl (([[(q, .inr (0, [.ref q1, .null, .null, .null, .null, .null, .null, .int 0, .int 0]))], [cI cyI q1 9 (fun _ => 0)], [cI cyI q2 8 (fun _ => 0)]] : List va_W).flatten) H := hP
  have hD : va_D A (([[(q, .inr (0, [.ref q1, .null, .null, .null, .null, .null, .null, .int 0, .int 0]))], [cI cyI q1 9 (fun _ => 0)], [cI cyI q2 8 (fun _ => 0)]] : List va_W).flatten) := hD
  refine va_putF (D := (dC, dI)) (ci := 0) (v := .ref q2) (ty := .array .int) (C := RX0) (T := TX0) (N := 9) hx hb hts inX0 tyX0 tyX0_ok nmX0 hown hK.1 hP hD hS 0 rfl rfl 1 (by decide) (hts _ w_fieldLink_X0_15) (fun _ h9 => h9) rfl hin2 rfl (by decide +kernel) rfl rfl (Nat.le_of_ble_eq_true rfl) dX0_init_17 (fun H locs hP hD hS => ?_)
  have hP : va_P (dC, dI) vwCl (([[(q, .inr (0, [.ref q1, .ref q2, .null, .null, .null, .null, .null, .int 0, .int 0]))], [cI cyI q1 9 (fun _ => 0)], [cI cyI q2 8 (fun _ => 0)]] : List va_W).flatten) H := hP
  have hD : va_D A (([[(q, .inr (0, [.ref q1, .ref q2, .null, .null, .null, .null, .null, .int 0, .int 0]))], [cI cyI q1 9 (fun _ => 0)], [cI cyI q2 8 (fun _ => 0)]] : List va_W).flatten) := hD
  refine lv_aload_n hx hb dX0_init_20 rfl (lv_at hl 0 rfl) ?_
  refine lv_bipush (v := 8) hx hb dX0_init_21 (by decide) ?_
  refine wnewa hx hb (hts _ w_arrayClass_int) hK hP hD hS hA (n := (8 : Int32)) (N' := 8) (by decide) rfl (Nat.le_of_ble_eq_true rfl) (Nat.le_of_ble_eq_true rfl) (Nat.le_of_ble_eq_true rfl) dX0_init_23 (fun q3 H hP hD hS => ?_)
  have hP : va_P (dC, dI) vwCl (([[(q, .inr (0, [.ref q1, .ref q2, .null, .null, .null, .null, .null, .int 0, .int 0]))], [cI cyI q1 9 (fun _ => 0)], [cI cyI q2 8 (fun _ => 0)], [cI cyI q3 8 (fun _ => 0)]] : List va_W).flatten) H := hP
  have hD : va_D A (([[(q, .inr (0, [.ref q1, .ref q2, .null, .null, .null, .null, .null, .int 0, .int 0]))], [cI cyI q1 9 (fun _ => 0)], [cI cyI q2 8 (fun _ => 0)], [cI cyI q3 8 (fun _ => 0)]] : List va_W).flatten) := hD
  refine va_putF (D := (dC, dI)) (ci := 0) (v := .ref q3) (ty := .array .int) (C := RX0) (T := TX0) (N := 9) hx hb hts inX0 tyX0 tyX0_ok nmX0 hown hK.1 hP hD hS 0 rfl rfl 2 (by decide) (hts _ w_fieldLink_X0_18) (fun _ h9 => h9) rfl hin2 rfl (by decide +kernel) rfl rfl (Nat.le_of_ble_eq_true rfl) dX0_init_25 (fun H locs hP hD hS => ?_)
  have hP : va_P (dC, dI) vwCl (([[(q, .inr (0, [.ref q1, .ref q2, .ref q3, .null, .null, .null, .null, .int 0, .int 0]))], [cI cyI q1 9 (fun _ => 0)], [cI cyI q2 8 (fun _ => 0)], [cI cyI q3 8 (fun _ => 0)]] : List va_W).flatten) H := hP
  have hD : va_D A (([[(q, .inr (0, [.ref q1, .ref q2, .ref q3, .null, .null, .null, .null, .int 0, .int 0]))], [cI cyI q1 9 (fun _ => 0)], [cI cyI q2 8 (fun _ => 0)], [cI cyI q3 8 (fun _ => 0)]] : List va_W).flatten) := hD
  refine lv_aload_n hx hb dX0_init_28 rfl (lv_at hl 0 rfl) ?_
  refine lv_bipush (v := 8) hx hb dX0_init_29 (by decide) ?_
  refine wnewa hx hb (hts _ w_arrayClass_int) hK hP hD hS hA (n := (8 : Int32)) (N' := 8) (by decide) rfl (Nat.le_of_ble_eq_true rfl) (Nat.le_of_ble_eq_true rfl) (Nat.le_of_ble_eq_true rfl) dX0_init_31 (fun q4 H hP hD hS => ?_)
  have hP : va_P (dC, dI) vwCl (([[(q, .inr (0, [.ref q1, .ref q2, .ref q3, .null, .null, .null, .null, .int 0, .int 0]))], [cI cyI q1 9 (fun _ => 0)], [cI cyI q2 8 (fun _ => 0)], [cI cyI q3 8 (fun _ => 0)], [cI cyI q4 8 (fun _ => 0)]] : List va_W).flatten) H := hP
  have hD : va_D A (([[(q, .inr (0, [.ref q1, .ref q2, .ref q3, .null, .null, .null, .null, .int 0, .int 0]))], [cI cyI q1 9 (fun _ => 0)], [cI cyI q2 8 (fun _ => 0)], [cI cyI q3 8 (fun _ => 0)], [cI cyI q4 8 (fun _ => 0)]] : List va_W).flatten) := hD
  refine va_putF (D := (dC, dI)) (ci := 0) (v := .ref q4) (ty := .array .int) (C := RX0) (T := TX0) (N := 9) hx hb hts inX0 tyX0 tyX0_ok nmX0 hown hK.1 hP hD hS 0 rfl rfl 3 (by decide) (hts _ w_fieldLink_X0_21) (fun _ h9 => h9) rfl hin2 rfl (by decide +kernel) rfl rfl (Nat.le_of_ble_eq_true rfl) dX0_init_33 (fun H locs hP hD hS => ?_)
  have hP : va_P (dC, dI) vwCl (([[(q, .inr (0, [.ref q1, .ref q2, .ref q3, .ref q4, .null, .null, .null, .int 0, .int 0]))], [cI cyI q1 9 (fun _ => 0)], [cI cyI q2 8 (fun _ => 0)], [cI cyI q3 8 (fun _ => 0)], [cI cyI q4 8 (fun _ => 0)]] : List va_W).flatten) H := hP
  have hD : va_D A (([[(q, .inr (0, [.ref q1, .ref q2, .ref q3, .ref q4, .null, .null, .null, .int 0, .int 0]))], [cI cyI q1 9 (fun _ => 0)], [cI cyI q2 8 (fun _ => 0)], [cI cyI q3 8 (fun _ => 0)], [cI cyI q4 8 (fun _ => 0)]] : List va_W).flatten) := hD
  refine lv_aload_n hx hb dX0_init_36 rfl (lv_at hl 0 rfl) ?_
  refine lv_bipush (v := 8) hx hb dX0_init_37 (by decide) ?_
  refine wnewa hx hb (hts _ w_arrayClass_int) hK hP hD hS hA (n := (8 : Int32)) (N' := 8) (by decide) rfl (Nat.le_of_ble_eq_true rfl) (Nat.le_of_ble_eq_true rfl) (Nat.le_of_ble_eq_true rfl) dX0_init_39 (fun q5 H hP hD hS => ?_)
  have hP : va_P (dC, dI) vwCl (([[(q, .inr (0, [.ref q1, .ref q2, .ref q3, .ref q4, .null, .null, .null, .int 0, .int 0]))], [cI cyI q1 9 (fun _ => 0)], [cI cyI q2 8 (fun _ => 0)], [cI cyI q3 8 (fun _ => 0)], [cI cyI q4 8 (fun _ => 0)], [cI cyI q5 8 (fun _ => 0)]] : List va_W).flatten) H := hP
  have hD : va_D A (([[(q, .inr (0, [.ref q1, .ref q2, .ref q3, .ref q4, .null, .null, .null, .int 0, .int 0]))], [cI cyI q1 9 (fun _ => 0)], [cI cyI q2 8 (fun _ => 0)], [cI cyI q3 8 (fun _ => 0)], [cI cyI q4 8 (fun _ => 0)], [cI cyI q5 8 (fun _ => 0)]] : List va_W).flatten) := hD
  refine va_putF (D := (dC, dI)) (ci := 0) (v := .ref q5) (ty := .array .int) (C := RX0) (T := TX0) (N := 9) hx hb hts inX0 tyX0 tyX0_ok nmX0 hown hK.1 hP hD hS 0 rfl rfl 4 (by decide) (hts _ w_fieldLink_X0_24) (fun _ h9 => h9) rfl hin2 rfl (by decide +kernel) rfl rfl (Nat.le_of_ble_eq_true rfl) dX0_init_41 (fun H locs hP hD hS => ?_)
  have hP : va_P (dC, dI) vwCl (([[(q, .inr (0, [.ref q1, .ref q2, .ref q3, .ref q4, .ref q5, .null, .null, .int 0, .int 0]))], [cI cyI q1 9 (fun _ => 0)], [cI cyI q2 8 (fun _ => 0)], [cI cyI q3 8 (fun _ => 0)], [cI cyI q4 8 (fun _ => 0)], [cI cyI q5 8 (fun _ => 0)]] : List va_W).flatten) H := hP
  have hD : va_D A (([[(q, .inr (0, [.ref q1, .ref q2, .ref q3, .ref q4, .ref q5, .null, .null, .int 0, .int 0]))], [cI cyI q1 9 (fun _ => 0)], [cI cyI q2 8 (fun _ => 0)], [cI cyI q3 8 (fun _ => 0)], [cI cyI q4 8 (fun _ => 0)], [cI cyI q5 8 (fun _ => 0)]] : List va_W).flatten) := hD
  refine lv_aload_n hx hb dX0_init_44 rfl (lv_at hl 0 rfl) ?_
  refine lv_bipush (v := 8) hx hb dX0_init_45 (by decide) ?_
  refine wnewa hx hb (hts _ w_arrayClass_int) hK hP hD hS hA (n := (8 : Int32)) (N' := 8) (by decide) rfl (Nat.le_of_ble_eq_true rfl) (Nat.le_of_ble_eq_true rfl) (Nat.le_of_ble_eq_true rfl) dX0_init_47 (fun q6 H hP hD hS => ?_)
  have hP : va_P (dC, dI) vwCl (([[(q, .inr (0, [.ref q1, .ref q2, .ref q3, .ref q4, .ref q5, .null, .null, .int 0, .int 0]))], [cI cyI q1 9 (fun _ => 0)], [cI cyI q2 8 (fun _ => 0)], [cI cyI q3 8 (fun _ => 0)], [cI cyI q4 8 (fun _ => 0)], [cI cyI q5 8 (fun _ => 0)], [cI cyI q6 8 (fun _ => 0)]] : List va_W).flatten) H := hP
  have hD : va_D A (([[(q, .inr (0, [.ref q1, .ref q2, .ref q3, .ref q4, .ref q5, .null, .null, .int 0, .int 0]))], [cI cyI q1 9 (fun _ => 0)], [cI cyI q2 8 (fun _ => 0)], [cI cyI q3 8 (fun _ => 0)], [cI cyI q4 8 (fun _ => 0)], [cI cyI q5 8 (fun _ => 0)], [cI cyI q6 8 (fun _ => 0)]] : List va_W).flatten) := hD
  refine va_putF (D := (dC, dI)) (ci := 0) (v := .ref q6) (ty := .array .int) (C := RX0) (T := TX0) (N := 9) hx hb hts inX0 tyX0 tyX0_ok nmX0 hown hK.1 hP hD hS 0 rfl rfl 5 (by decide) (hts _ w_fieldLink_X0_27) (fun _ h9 => h9) rfl hin2 rfl (by decide +kernel) rfl rfl (Nat.le_of_ble_eq_true rfl) dX0_init_49 (fun H locs hP hD hS => ?_)
  have hP : va_P (dC, dI) vwCl (([[(q, .inr (0, [.ref q1, .ref q2, .ref q3, .ref q4, .ref q5, .ref q6, .null, .int 0, .int 0]))], [cI cyI q1 9 (fun _ => 0)], [cI cyI q2 8 (fun _ => 0)], [cI cyI q3 8 (fun _ => 0)], [cI cyI q4 8 (fun _ => 0)], [cI cyI q5 8 (fun _ => 0)], [cI cyI q6 8 (fun _ => 0)]] : List va_W).flatten) H := hP
  have hD : va_D A (([[(q, .inr (0, [.ref q1, .ref q2, .ref q3, .ref q4, .ref q5, .ref q6, .null, .int 0, .int 0]))], [cI cyI q1 9 (fun _ => 0)], [cI cyI q2 8 (fun _ => 0)], [cI cyI q3 8 (fun _ => 0)], [cI cyI q4 8 (fun _ => 0)], [cI cyI q5 8 (fun _ => 0)], [cI cyI q6 8 (fun _ => 0)]] : List va_W).flatten) := hD
  refine lv_aload_n hx hb dX0_init_52 rfl (lv_at hl 0 rfl) ?_
  refine lv_bipush (v := 8) hx hb dX0_init_53 (by decide) ?_
  refine wnewa hx hb (hts _ w_arrayClass_int) hK hP hD hS hA (n := (8 : Int32)) (N' := 8) (by decide) rfl (Nat.le_of_ble_eq_true rfl) (Nat.le_of_ble_eq_true rfl) (Nat.le_of_ble_eq_true rfl) dX0_init_55 (fun q7 H hP hD hS => ?_)
  have hP : va_P (dC, dI) vwCl (([[(q, .inr (0, [.ref q1, .ref q2, .ref q3, .ref q4, .ref q5, .ref q6, .null, .int 0, .int 0]))], [cI cyI q1 9 (fun _ => 0)], [cI cyI q2 8 (fun _ => 0)], [cI cyI q3 8 (fun _ => 0)], [cI cyI q4 8 (fun _ => 0)], [cI cyI q5 8 (fun _ => 0)], [cI cyI q6 8 (fun _ => 0)], [cI cyI q7 8 (fun _ => 0)]] : List va_W).flatten) H := hP
  have hD : va_D A (([[(q, .inr (0, [.ref q1, .ref q2, .ref q3, .ref q4, .ref q5, .ref q6, .null, .int 0, .int 0]))], [cI cyI q1 9 (fun _ => 0)], [cI cyI q2 8 (fun _ => 0)], [cI cyI q3 8 (fun _ => 0)], [cI cyI q4 8 (fun _ => 0)], [cI cyI q5 8 (fun _ => 0)], [cI cyI q6 8 (fun _ => 0)], [cI cyI q7 8 (fun _ => 0)]] : List va_W).flatten) := hD
  refine va_putF (D := (dC, dI)) (ci := 0) (v := .ref q7) (ty := .array .int) (C := RX0) (T := TX0) (N := 9) hx hb hts inX0 tyX0 tyX0_ok nmX0 hown hK.1 hP hD hS 0 rfl rfl 6 (by decide) (hts _ w_fieldLink_X0_30) (fun _ h9 => h9) rfl hin2 rfl (by decide +kernel) rfl rfl (Nat.le_of_ble_eq_true rfl) dX0_init_57 (fun H locs hP hD hS => ?_)
  have hP : va_P (dC, dI) vwCl (([[(q, .inr (0, [.ref q1, .ref q2, .ref q3, .ref q4, .ref q5, .ref q6, .ref q7, .int 0, .int 0]))], [cI cyI q1 9 (fun _ => 0)], [cI cyI q2 8 (fun _ => 0)], [cI cyI q3 8 (fun _ => 0)], [cI cyI q4 8 (fun _ => 0)], [cI cyI q5 8 (fun _ => 0)], [cI cyI q6 8 (fun _ => 0)], [cI cyI q7 8 (fun _ => 0)]] : List va_W).flatten) H := hP
  have hD : va_D A (([[(q, .inr (0, [.ref q1, .ref q2, .ref q3, .ref q4, .ref q5, .ref q6, .ref q7, .int 0, .int 0]))], [cI cyI q1 9 (fun _ => 0)], [cI cyI q2 8 (fun _ => 0)], [cI cyI q3 8 (fun _ => 0)], [cI cyI q4 8 (fun _ => 0)], [cI cyI q5 8 (fun _ => 0)], [cI cyI q6 8 (fun _ => 0)], [cI cyI q7 8 (fun _ => 0)]] : List va_W).flatten) := hD
  refine lv_aload_n hx hb dX0_init_60 rfl (lv_at hl 0 rfl) ?_
  refine lv_iconst (v := 0) hx hb dX0_init_61 (by decide) ?_
  refine va_put (D := (dC, dI)) (ci := 0) (v := .int (0 : Int32)) (ty := .int) (C := RX0) (T := TX0) (N := 9) hx hb hts inX0 tyX0 tyX0_ok nmX0 hown hK.1 hP hD hS 0 rfl rfl 7 (by decide) (hts _ w_fieldLink_X0_33) (fun _ h9 => h9) rfl (by decide +kernel) rfl rfl (Nat.le_of_ble_eq_true rfl) dX0_init_62 (fun H locs hP hD hS => ?_)
  have hP : va_P (dC, dI) vwCl (([[(q, .inr (0, [.ref q1, .ref q2, .ref q3, .ref q4, .ref q5, .ref q6, .ref q7, .int (0 : Int32), .int 0]))], [cI cyI q1 9 (fun _ => 0)], [cI cyI q2 8 (fun _ => 0)], [cI cyI q3 8 (fun _ => 0)], [cI cyI q4 8 (fun _ => 0)], [cI cyI q5 8 (fun _ => 0)], [cI cyI q6 8 (fun _ => 0)], [cI cyI q7 8 (fun _ => 0)]] : List va_W).flatten) H := hP
  have hD : va_D A (([[(q, .inr (0, [.ref q1, .ref q2, .ref q3, .ref q4, .ref q5, .ref q6, .ref q7, .int (0 : Int32), .int 0]))], [cI cyI q1 9 (fun _ => 0)], [cI cyI q2 8 (fun _ => 0)], [cI cyI q3 8 (fun _ => 0)], [cI cyI q4 8 (fun _ => 0)], [cI cyI q5 8 (fun _ => 0)], [cI cyI q6 8 (fun _ => 0)], [cI cyI q7 8 (fun _ => 0)]] : List va_W).flatten) := hD
  refine lv_aload_n hx hb dX0_init_65 rfl (lv_at hl 0 rfl) ?_
  refine lv_iconst (v := 0) hx hb dX0_init_66 (by decide) ?_
  refine va_put (D := (dC, dI)) (ci := 0) (v := .int (0 : Int32)) (ty := .int) (C := RX0) (T := TX0) (N := 9) hx hb hts inX0 tyX0 tyX0_ok nmX0 hown hK.1 hP hD hS 0 rfl rfl 8 (by decide) (hts _ w_fieldLink_X0_37) (fun _ h9 => h9) rfl (by decide +kernel) rfl rfl (Nat.le_of_ble_eq_true rfl) dX0_init_67 (fun H locs hP hD hS => ?_)
  have hP : va_P (dC, dI) vwCl (([[(q, .inr (0, [.ref q1, .ref q2, .ref q3, .ref q4, .ref q5, .ref q6, .ref q7, .int (0 : Int32), .int (0 : Int32)]))], [cI cyI q1 9 (fun _ => 0)], [cI cyI q2 8 (fun _ => 0)], [cI cyI q3 8 (fun _ => 0)], [cI cyI q4 8 (fun _ => 0)], [cI cyI q5 8 (fun _ => 0)], [cI cyI q6 8 (fun _ => 0)], [cI cyI q7 8 (fun _ => 0)]] : List va_W).flatten) H := hP
  have hD : va_D A (([[(q, .inr (0, [.ref q1, .ref q2, .ref q3, .ref q4, .ref q5, .ref q6, .ref q7, .int (0 : Int32), .int (0 : Int32)]))], [cI cyI q1 9 (fun _ => 0)], [cI cyI q2 8 (fun _ => 0)], [cI cyI q3 8 (fun _ => 0)], [cI cyI q4 8 (fun _ => 0)], [cI cyI q5 8 (fun _ => 0)], [cI cyI q6 8 (fun _ => 0)], [cI cyI q7 8 (fun _ => 0)]] : List va_W).flatten) := hD
  refine lv_iconst (v := 0) hx hb dX0_init_70 (by decide) ?_
  refine lv_istore_n (lv' := [(1, .int (0 : Int32)), (0, .ref q)]) hx hb dX0_init_71 rfl hl (by decide) rfl (fun ls hl => ?_)
  refine lv_iload_n hx hb dX0_init_72 rfl (lv_at hl 0 rfl) ?_
  refine lv_aload_n hx hb dX0_init_73 rfl (lv_at hl 1 rfl) ?_
  refine va_get (D := (dC, dI)) (ci := 0) (v := .ref q1) (C := RX0) (T := TX0) (N := 9) hx hb hts inX0 hown hK.1 hP 0 rfl rfl 0 (by decide) (hts _ w_fieldLink_X0_9) (fun _ h9 => h9) rfl dX0_init_74 ?_
  refine va_alen hx hb hK.1 hP 1 0 rfl rfl (v := (9 : Int32)) rfl dX0_init_77 ?_
  refine lv_icmp_ge (tgt := 94) hx hb dX0_init_78 (by decide) (fun c9 => ?_) (fun c9 => ?_)
  · exact absurd c9 (by decide)
  refine lv_aload_n hx hb dX0_init_81 rfl (lv_at hl 1 rfl) ?_
  refine va_get (D := (dC, dI)) (ci := 0) (v := .ref q1) (C := RX0) (T := TX0) (N := 9) hx hb hts inX0 hown hK.1 hP 0 rfl rfl 0 (by decide) (hts _ w_fieldLink_X0_9) (fun _ h9 => h9) rfl dX0_init_82 ?_
  refine lv_iload_n hx hb dX0_init_85 rfl (lv_at hl 0 rfl) ?_
  refine lv_iconst (v := -1) hx hb dX0_init_86 (by decide) ?_
  refine va_iast hx hb hK.1 hP hD hS 1 0 rfl rfl (i := (0 : Int32)) (x := (-1 : Int32)) (show ixok (0 : Int32) 9 by decide) dX0_init_87 (fun H locs hP hD hS => ?_)
  have hP : va_P (dC, dI) vwCl (([[(q, .inr (0, [.ref q1, .ref q2, .ref q3, .ref q4, .ref q5, .ref q6, .ref q7, .int (0 : Int32), .int (0 : Int32)]))], [cI cyI q1 9 (upd (fun _ => 0) (0 : Int32).toNatClampNeg (-1 : Int32))], [cI cyI q2 8 (fun _ => 0)], [cI cyI q3 8 (fun _ => 0)], [cI cyI q4 8 (fun _ => 0)], [cI cyI q5 8 (fun _ => 0)], [cI cyI q6 8 (fun _ => 0)], [cI cyI q7 8 (fun _ => 0)]] : List va_W).flatten) H := hP
  have hD : va_D A (([[(q, .inr (0, [.ref q1, .ref q2, .ref q3, .ref q4, .ref q5, .ref q6, .ref q7, .int (0 : Int32), .int (0 : Int32)]))], [cI cyI q1 9 (upd (fun _ => 0) (0 : Int32).toNatClampNeg (-1 : Int32))], [cI cyI q2 8 (fun _ => 0)], [cI cyI q3 8 (fun _ => 0)], [cI cyI q4 8 (fun _ => 0)], [cI cyI q5 8 (fun _ => 0)], [cI cyI q6 8 (fun _ => 0)], [cI cyI q7 8 (fun _ => 0)]] : List va_W).flatten) := hD
  refine lv_iinc (v := (1 : Int32)) (lv' := [(1, .int (1 : Int32)), (0, .ref q)]) hx hb dX0_init_88 hl (k := 0) rfl (by decide) (by decide) rfl (fun ls hl => ?_)
  refine lv_goto (tgt := 72) hx hb dX0_init_91 (by decide) ?_
  refine lv_iload_n hx hb dX0_init_72 rfl (lv_at hl 0 rfl) ?_
  refine lv_aload_n hx hb dX0_init_73 rfl (lv_at hl 1 rfl) ?_
  refine va_get (D := (dC, dI)) (ci := 0) (v := .ref q1) (C := RX0) (T := TX0) (N := 9) hx hb hts inX0 hown hK.1 hP 0 rfl rfl 0 (by decide) (hts _ w_fieldLink_X0_9) (fun _ h9 => h9) rfl dX0_init_74 ?_
  refine va_alen hx hb hK.1 hP 1 0 rfl rfl (v := (9 : Int32)) rfl dX0_init_77 ?_
  refine lv_icmp_ge (tgt := 94) hx hb dX0_init_78 (by decide) (fun c9 => ?_) (fun c9 => ?_)
  · exact absurd c9 (by decide)
  refine lv_aload_n hx hb dX0_init_81 rfl (lv_at hl 1 rfl) ?_
  refine va_get (D := (dC, dI)) (ci := 0) (v := .ref q1) (C := RX0) (T := TX0) (N := 9) hx hb hts inX0 hown hK.1 hP 0 rfl rfl 0 (by decide) (hts _ w_fieldLink_X0_9) (fun _ h9 => h9) rfl dX0_init_82 ?_
  refine lv_iload_n hx hb dX0_init_85 rfl (lv_at hl 0 rfl) ?_
  refine lv_iconst (v := -1) hx hb dX0_init_86 (by decide) ?_
  refine va_iast hx hb hK.1 hP hD hS 1 0 rfl rfl (i := (1 : Int32)) (x := (-1 : Int32)) (show ixok (1 : Int32) 9 by decide) dX0_init_87 (fun H locs hP hD hS => ?_)
  have hP : va_P (dC, dI) vwCl (([[(q, .inr (0, [.ref q1, .ref q2, .ref q3, .ref q4, .ref q5, .ref q6, .ref q7, .int (0 : Int32), .int (0 : Int32)]))], [cI cyI q1 9 (upd (upd (fun _ => 0) (0 : Int32).toNatClampNeg (-1 : Int32)) (1 : Int32).toNatClampNeg (-1 : Int32))], [cI cyI q2 8 (fun _ => 0)], [cI cyI q3 8 (fun _ => 0)], [cI cyI q4 8 (fun _ => 0)], [cI cyI q5 8 (fun _ => 0)], [cI cyI q6 8 (fun _ => 0)], [cI cyI q7 8 (fun _ => 0)]] : List va_W).flatten) H := hP
  have hD : va_D A (([[(q, .inr (0, [.ref q1, .ref q2, .ref q3, .ref q4, .ref q5, .ref q6, .ref q7, .int (0 : Int32), .int (0 : Int32)]))], [cI cyI q1 9 (upd (upd (fun _ => 0) (0 : Int32).toNatClampNeg (-1 : Int32)) (1 : Int32).toNatClampNeg (-1 : Int32))], [cI cyI q2 8 (fun _ => 0)], [cI cyI q3 8 (fun _ => 0)], [cI cyI q4 8 (fun _ => 0)], [cI cyI q5 8 (fun _ => 0)], [cI cyI q6 8 (fun _ => 0)], [cI cyI q7 8 (fun _ => 0)]] : List va_W).flatten) := hD
  refine lv_iinc (v := (2 : Int32)) (lv' := [(1, .int (2 : Int32)), (0, .ref q)]) hx hb dX0_init_88 hl (k := 0) rfl (by decide) (by decide) rfl (fun ls hl => ?_)
  refine lv_goto (tgt := 72) hx hb dX0_init_91 (by decide) ?_
  refine lv_iload_n hx hb dX0_init_72 rfl (lv_at hl 0 rfl) ?_
  refine lv_aload_n hx hb dX0_init_73 rfl (lv_at hl 1 rfl) ?_
  refine va_get (D := (dC, dI)) (ci := 0) (v := .ref q1) (C := RX0) (T := TX0) (N := 9) hx hb hts inX0 hown hK.1 hP 0 rfl rfl 0 (by decide) (hts _ w_fieldLink_X0_9) (fun _ h9 => h9) rfl dX0_init_74 ?_
  refine va_alen hx hb hK.1 hP 1 0 rfl rfl (v := (9 : Int32)) rfl dX0_init_77 ?_
  refine lv_icmp_ge (tgt := 94) hx hb dX0_init_78 (by decide) (fun c9 => ?_) (fun c9 => ?_)
  · exact absurd c9 (by decide)
  refine lv_aload_n hx hb dX0_init_81 rfl (lv_at hl 1 rfl) ?_
  refine va_get (D := (dC, dI)) (ci := 0) (v := .ref q1) (C := RX0) (T := TX0) (N := 9) hx hb hts inX0 hown hK.1 hP 0 rfl rfl 0 (by decide) (hts _ w_fieldLink_X0_9) (fun _ h9 => h9) rfl dX0_init_82 ?_
  refine lv_iload_n hx hb dX0_init_85 rfl (lv_at hl 0 rfl) ?_
  refine lv_iconst (v := -1) hx hb dX0_init_86 (by decide) ?_
  refine va_iast hx hb hK.1 hP hD hS 1 0 rfl rfl (i := (2 : Int32)) (x := (-1 : Int32)) (show ixok (2 : Int32) 9 by decide) dX0_init_87 (fun H locs hP hD hS => ?_)
  have hP : va_P (dC, dI) vwCl (([[(q, .inr (0, [.ref q1, .ref q2, .ref q3, .ref q4, .ref q5, .ref q6, .ref q7, .int (0 : Int32), .int (0 : Int32)]))], [cI cyI q1 9 (upd (upd (upd (fun _ => 0) (0 : Int32).toNatClampNeg (-1 : Int32)) (1 : Int32).toNatClampNeg (-1 : Int32)) (2 : Int32).toNatClampNeg (-1 : Int32))], [cI cyI q2 8 (fun _ => 0)], [cI cyI q3 8 (fun _ => 0)], [cI cyI q4 8 (fun _ => 0)], [cI cyI q5 8 (fun _ => 0)], [cI cyI q6 8 (fun _ => 0)], [cI cyI q7 8 (fun _ => 0)]] : List va_W).flatten) H := hP
  have hD : va_D A (([[(q, .inr (0, [.ref q1, .ref q2, .ref q3, .ref q4, .ref q5, .ref q6, .ref q7, .int (0 : Int32), .int (0 : Int32)]))], [cI cyI q1 9 (upd (upd (upd (fun _ => 0) (0 : Int32).toNatClampNeg (-1 : Int32)) (1 : Int32).toNatClampNeg (-1 : Int32)) (2 : Int32).toNatClampNeg (-1 : Int32))], [cI cyI q2 8 (fun _ => 0)], [cI cyI q3 8 (fun _ => 0)], [cI cyI q4 8 (fun _ => 0)], [cI cyI q5 8 (fun _ => 0)], [cI cyI q6 8 (fun _ => 0)], [cI cyI q7 8 (fun _ => 0)]] : List va_W).flatten) := hD
  refine lv_iinc (v := (3 : Int32)) (lv' := [(1, .int (3 : Int32)), (0, .ref q)]) hx hb dX0_init_88 hl (k := 0) rfl (by decide) (by decide) rfl (fun ls hl => ?_)
  refine lv_goto (tgt := 72) hx hb dX0_init_91 (by decide) ?_
  refine lv_iload_n hx hb dX0_init_72 rfl (lv_at hl 0 rfl) ?_
  refine lv_aload_n hx hb dX0_init_73 rfl (lv_at hl 1 rfl) ?_
  refine va_get (D := (dC, dI)) (ci := 0) (v := .ref q1) (C := RX0) (T := TX0) (N := 9) hx hb hts inX0 hown hK.1 hP 0 rfl rfl 0 (by decide) (hts _ w_fieldLink_X0_9) (fun _ h9 => h9) rfl dX0_init_74 ?_
  refine va_alen hx hb hK.1 hP 1 0 rfl rfl (v := (9 : Int32)) rfl dX0_init_77 ?_
  refine lv_icmp_ge (tgt := 94) hx hb dX0_init_78 (by decide) (fun c9 => ?_) (fun c9 => ?_)
  · exact absurd c9 (by decide)
  refine lv_aload_n hx hb dX0_init_81 rfl (lv_at hl 1 rfl) ?_
  refine va_get (D := (dC, dI)) (ci := 0) (v := .ref q1) (C := RX0) (T := TX0) (N := 9) hx hb hts inX0 hown hK.1 hP 0 rfl rfl 0 (by decide) (hts _ w_fieldLink_X0_9) (fun _ h9 => h9) rfl dX0_init_82 ?_
  refine lv_iload_n hx hb dX0_init_85 rfl (lv_at hl 0 rfl) ?_
  refine lv_iconst (v := -1) hx hb dX0_init_86 (by decide) ?_
  refine va_iast hx hb hK.1 hP hD hS 1 0 rfl rfl (i := (3 : Int32)) (x := (-1 : Int32)) (show ixok (3 : Int32) 9 by decide) dX0_init_87 (fun H locs hP hD hS => ?_)
  have hP : va_P (dC, dI) vwCl (([[(q, .inr (0, [.ref q1, .ref q2, .ref q3, .ref q4, .ref q5, .ref q6, .ref q7, .int (0 : Int32), .int (0 : Int32)]))], [cI cyI q1 9 (upd (upd (upd (upd (fun _ => 0) (0 : Int32).toNatClampNeg (-1 : Int32)) (1 : Int32).toNatClampNeg (-1 : Int32)) (2 : Int32).toNatClampNeg (-1 : Int32)) (3 : Int32).toNatClampNeg (-1 : Int32))], [cI cyI q2 8 (fun _ => 0)], [cI cyI q3 8 (fun _ => 0)], [cI cyI q4 8 (fun _ => 0)], [cI cyI q5 8 (fun _ => 0)], [cI cyI q6 8 (fun _ => 0)], [cI cyI q7 8 (fun _ => 0)]] : List va_W).flatten) H := hP
  have hD : va_D A (([[(q, .inr (0, [.ref q1, .ref q2, .ref q3, .ref q4, .ref q5, .ref q6, .ref q7, .int (0 : Int32), .int (0 : Int32)]))], [cI cyI q1 9 (upd (upd (upd (upd (fun _ => 0) (0 : Int32).toNatClampNeg (-1 : Int32)) (1 : Int32).toNatClampNeg (-1 : Int32)) (2 : Int32).toNatClampNeg (-1 : Int32)) (3 : Int32).toNatClampNeg (-1 : Int32))], [cI cyI q2 8 (fun _ => 0)], [cI cyI q3 8 (fun _ => 0)], [cI cyI q4 8 (fun _ => 0)], [cI cyI q5 8 (fun _ => 0)], [cI cyI q6 8 (fun _ => 0)], [cI cyI q7 8 (fun _ => 0)]] : List va_W).flatten) := hD
  refine lv_iinc (v := (4 : Int32)) (lv' := [(1, .int (4 : Int32)), (0, .ref q)]) hx hb dX0_init_88 hl (k := 0) rfl (by decide) (by decide) rfl (fun ls hl => ?_)
  refine lv_goto (tgt := 72) hx hb dX0_init_91 (by decide) ?_
  refine lv_iload_n hx hb dX0_init_72 rfl (lv_at hl 0 rfl) ?_
  refine lv_aload_n hx hb dX0_init_73 rfl (lv_at hl 1 rfl) ?_
  refine va_get (D := (dC, dI)) (ci := 0) (v := .ref q1) (C := RX0) (T := TX0) (N := 9) hx hb hts inX0 hown hK.1 hP 0 rfl rfl 0 (by decide) (hts _ w_fieldLink_X0_9) (fun _ h9 => h9) rfl dX0_init_74 ?_
  refine va_alen hx hb hK.1 hP 1 0 rfl rfl (v := (9 : Int32)) rfl dX0_init_77 ?_
  refine lv_icmp_ge (tgt := 94) hx hb dX0_init_78 (by decide) (fun c9 => ?_) (fun c9 => ?_)
  · exact absurd c9 (by decide)
  refine lv_aload_n hx hb dX0_init_81 rfl (lv_at hl 1 rfl) ?_
  refine va_get (D := (dC, dI)) (ci := 0) (v := .ref q1) (C := RX0) (T := TX0) (N := 9) hx hb hts inX0 hown hK.1 hP 0 rfl rfl 0 (by decide) (hts _ w_fieldLink_X0_9) (fun _ h9 => h9) rfl dX0_init_82 ?_
  refine lv_iload_n hx hb dX0_init_85 rfl (lv_at hl 0 rfl) ?_
  refine lv_iconst (v := -1) hx hb dX0_init_86 (by decide) ?_
  refine va_iast hx hb hK.1 hP hD hS 1 0 rfl rfl (i := (4 : Int32)) (x := (-1 : Int32)) (show ixok (4 : Int32) 9 by decide) dX0_init_87 (fun H locs hP hD hS => ?_)
  have hP : va_P (dC, dI) vwCl (([[(q, .inr (0, [.ref q1, .ref q2, .ref q3, .ref q4, .ref q5, .ref q6, .ref q7, .int (0 : Int32), .int (0 : Int32)]))], [cI cyI q1 9 (upd (upd (upd (upd (upd (fun _ => 0) (0 : Int32).toNatClampNeg (-1 : Int32)) (1 : Int32).toNatClampNeg (-1 : Int32)) (2 : Int32).toNatClampNeg (-1 : Int32)) (3 : Int32).toNatClampNeg (-1 : Int32)) (4 : Int32).toNatClampNeg (-1 : Int32))], [cI cyI q2 8 (fun _ => 0)], [cI cyI q3 8 (fun _ => 0)], [cI cyI q4 8 (fun _ => 0)], [cI cyI q5 8 (fun _ => 0)], [cI cyI q6 8 (fun _ => 0)], [cI cyI q7 8 (fun _ => 0)]] : List va_W).flatten) H := hP
  have hD : va_D A (([[(q, .inr (0, [.ref q1, .ref q2, .ref q3, .ref q4, .ref q5, .ref q6, .ref q7, .int (0 : Int32), .int (0 : Int32)]))], [cI cyI q1 9 (upd (upd (upd (upd (upd (fun _ => 0) (0 : Int32).toNatClampNeg (-1 : Int32)) (1 : Int32).toNatClampNeg (-1 : Int32)) (2 : Int32).toNatClampNeg (-1 : Int32)) (3 : Int32).toNatClampNeg (-1 : Int32)) (4 : Int32).toNatClampNeg (-1 : Int32))], [cI cyI q2 8 (fun _ => 0)], [cI cyI q3 8 (fun _ => 0)], [cI cyI q4 8 (fun _ => 0)], [cI cyI q5 8 (fun _ => 0)], [cI cyI q6 8 (fun _ => 0)], [cI cyI q7 8 (fun _ => 0)]] : List va_W).flatten) := hD
  refine lv_iinc (v := (5 : Int32)) (lv' := [(1, .int (5 : Int32)), (0, .ref q)]) hx hb dX0_init_88 hl (k := 0) rfl (by decide) (by decide) rfl (fun ls hl => ?_)
  refine lv_goto (tgt := 72) hx hb dX0_init_91 (by decide) ?_
  refine lv_iload_n hx hb dX0_init_72 rfl (lv_at hl 0 rfl) ?_
  refine lv_aload_n hx hb dX0_init_73 rfl (lv_at hl 1 rfl) ?_
  refine va_get (D := (dC, dI)) (ci := 0) (v := .ref q1) (C := RX0) (T := TX0) (N := 9) hx hb hts inX0 hown hK.1 hP 0 rfl rfl 0 (by decide) (hts _ w_fieldLink_X0_9) (fun _ h9 => h9) rfl dX0_init_74 ?_
  refine va_alen hx hb hK.1 hP 1 0 rfl rfl (v := (9 : Int32)) rfl dX0_init_77 ?_
  refine lv_icmp_ge (tgt := 94) hx hb dX0_init_78 (by decide) (fun c9 => ?_) (fun c9 => ?_)
  · exact absurd c9 (by decide)
  refine lv_aload_n hx hb dX0_init_81 rfl (lv_at hl 1 rfl) ?_
  refine va_get (D := (dC, dI)) (ci := 0) (v := .ref q1) (C := RX0) (T := TX0) (N := 9) hx hb hts inX0 hown hK.1 hP 0 rfl rfl 0 (by decide) (hts _ w_fieldLink_X0_9) (fun _ h9 => h9) rfl dX0_init_82 ?_
  refine lv_iload_n hx hb dX0_init_85 rfl (lv_at hl 0 rfl) ?_
  refine lv_iconst (v := -1) hx hb dX0_init_86 (by decide) ?_
  refine va_iast hx hb hK.1 hP hD hS 1 0 rfl rfl (i := (5 : Int32)) (x := (-1 : Int32)) (show ixok (5 : Int32) 9 by decide) dX0_init_87 (fun H locs hP hD hS => ?_)
  have hP : va_P (dC, dI) vwCl (([[(q, .inr (0, [.ref q1, .ref q2, .ref q3, .ref q4, .ref q5, .ref q6, .ref q7, .int (0 : Int32), .int (0 : Int32)]))], [cI cyI q1 9 (upd (upd (upd (upd (upd (upd (fun _ => 0) (0 : Int32).toNatClampNeg (-1 : Int32)) (1 : Int32).toNatClampNeg (-1 : Int32)) (2 : Int32).toNatClampNeg (-1 : Int32)) (3 : Int32).toNatClampNeg (-1 : Int32)) (4 : Int32).toNatClampNeg (-1 : Int32)) (5 : Int32).toNatClampNeg (-1 : Int32))], [cI cyI q2 8 (fun _ => 0)], [cI cyI q3 8 (fun _ => 0)], [cI cyI q4 8 (fun _ => 0)], [cI cyI q5 8 (fun _ => 0)], [cI cyI q6 8 (fun _ => 0)], [cI cyI q7 8 (fun _ => 0)]] : List va_W).flatten) H := hP
  have hD : va_D A (([[(q, .inr (0, [.ref q1, .ref q2, .ref q3, .ref q4, .ref q5, .ref q6, .ref q7, .int (0 : Int32), .int (0 : Int32)]))], [cI cyI q1 9 (upd (upd (upd (upd (upd (upd (fun _ => 0) (0 : Int32).toNatClampNeg (-1 : Int32)) (1 : Int32).toNatClampNeg (-1 : Int32)) (2 : Int32).toNatClampNeg (-1 : Int32)) (3 : Int32).toNatClampNeg (-1 : Int32)) (4 : Int32).toNatClampNeg (-1 : Int32)) (5 : Int32).toNatClampNeg (-1 : Int32))], [cI cyI q2 8 (fun _ => 0)], [cI cyI q3 8 (fun _ => 0)], [cI cyI q4 8 (fun _ => 0)], [cI cyI q5 8 (fun _ => 0)], [cI cyI q6 8 (fun _ => 0)], [cI cyI q7 8 (fun _ => 0)]] : List va_W).flatten) := hD
  refine lv_iinc (v := (6 : Int32)) (lv' := [(1, .int (6 : Int32)), (0, .ref q)]) hx hb dX0_init_88 hl (k := 0) rfl (by decide) (by decide) rfl (fun ls hl => ?_)
  refine lv_goto (tgt := 72) hx hb dX0_init_91 (by decide) ?_
  refine lv_iload_n hx hb dX0_init_72 rfl (lv_at hl 0 rfl) ?_
  refine lv_aload_n hx hb dX0_init_73 rfl (lv_at hl 1 rfl) ?_
  refine va_get (D := (dC, dI)) (ci := 0) (v := .ref q1) (C := RX0) (T := TX0) (N := 9) hx hb hts inX0 hown hK.1 hP 0 rfl rfl 0 (by decide) (hts _ w_fieldLink_X0_9) (fun _ h9 => h9) rfl dX0_init_74 ?_
  refine va_alen hx hb hK.1 hP 1 0 rfl rfl (v := (9 : Int32)) rfl dX0_init_77 ?_
  refine lv_icmp_ge (tgt := 94) hx hb dX0_init_78 (by decide) (fun c9 => ?_) (fun c9 => ?_)
  · exact absurd c9 (by decide)
  refine lv_aload_n hx hb dX0_init_81 rfl (lv_at hl 1 rfl) ?_
  refine va_get (D := (dC, dI)) (ci := 0) (v := .ref q1) (C := RX0) (T := TX0) (N := 9) hx hb hts inX0 hown hK.1 hP 0 rfl rfl 0 (by decide) (hts _ w_fieldLink_X0_9) (fun _ h9 => h9) rfl dX0_init_82 ?_
  refine lv_iload_n hx hb dX0_init_85 rfl (lv_at hl 0 rfl) ?_
  refine lv_iconst (v := -1) hx hb dX0_init_86 (by decide) ?_
  refine va_iast hx hb hK.1 hP hD hS 1 0 rfl rfl (i := (6 : Int32)) (x := (-1 : Int32)) (show ixok (6 : Int32) 9 by decide) dX0_init_87 (fun H locs hP hD hS => ?_)
  have hP : va_P (dC, dI) vwCl (([[(q, .inr (0, [.ref q1, .ref q2, .ref q3, .ref q4, .ref q5, .ref q6, .ref q7, .int (0 : Int32), .int (0 : Int32)]))], [cI cyI q1 9 (upd (upd (upd (upd (upd (upd (upd (fun _ => 0) (0 : Int32).toNatClampNeg (-1 : Int32)) (1 : Int32).toNatClampNeg (-1 : Int32)) (2 : Int32).toNatClampNeg (-1 : Int32)) (3 : Int32).toNatClampNeg (-1 : Int32)) (4 : Int32).toNatClampNeg (-1 : Int32)) (5 : Int32).toNatClampNeg (-1 : Int32)) (6 : Int32).toNatClampNeg (-1 : Int32))], [cI cyI q2 8 (fun _ => 0)], [cI cyI q3 8 (fun _ => 0)], [cI cyI q4 8 (fun _ => 0)], [cI cyI q5 8 (fun _ => 0)], [cI cyI q6 8 (fun _ => 0)], [cI cyI q7 8 (fun _ => 0)]] : List va_W).flatten) H := hP
  have hD : va_D A (([[(q, .inr (0, [.ref q1, .ref q2, .ref q3, .ref q4, .ref q5, .ref q6, .ref q7, .int (0 : Int32), .int (0 : Int32)]))], [cI cyI q1 9 (upd (upd (upd (upd (upd (upd (upd (fun _ => 0) (0 : Int32).toNatClampNeg (-1 : Int32)) (1 : Int32).toNatClampNeg (-1 : Int32)) (2 : Int32).toNatClampNeg (-1 : Int32)) (3 : Int32).toNatClampNeg (-1 : Int32)) (4 : Int32).toNatClampNeg (-1 : Int32)) (5 : Int32).toNatClampNeg (-1 : Int32)) (6 : Int32).toNatClampNeg (-1 : Int32))], [cI cyI q2 8 (fun _ => 0)], [cI cyI q3 8 (fun _ => 0)], [cI cyI q4 8 (fun _ => 0)], [cI cyI q5 8 (fun _ => 0)], [cI cyI q6 8 (fun _ => 0)], [cI cyI q7 8 (fun _ => 0)]] : List va_W).flatten) := hD
  refine lv_iinc (v := (7 : Int32)) (lv' := [(1, .int (7 : Int32)), (0, .ref q)]) hx hb dX0_init_88 hl (k := 0) rfl (by decide) (by decide) rfl (fun ls hl => ?_)
  refine lv_goto (tgt := 72) hx hb dX0_init_91 (by decide) ?_
  refine lv_iload_n hx hb dX0_init_72 rfl (lv_at hl 0 rfl) ?_
  refine lv_aload_n hx hb dX0_init_73 rfl (lv_at hl 1 rfl) ?_
  refine va_get (D := (dC, dI)) (ci := 0) (v := .ref q1) (C := RX0) (T := TX0) (N := 9) hx hb hts inX0 hown hK.1 hP 0 rfl rfl 0 (by decide) (hts _ w_fieldLink_X0_9) (fun _ h9 => h9) rfl dX0_init_74 ?_
  refine va_alen hx hb hK.1 hP 1 0 rfl rfl (v := (9 : Int32)) rfl dX0_init_77 ?_
  refine lv_icmp_ge (tgt := 94) hx hb dX0_init_78 (by decide) (fun c9 => ?_) (fun c9 => ?_)
  · exact absurd c9 (by decide)
  refine lv_aload_n hx hb dX0_init_81 rfl (lv_at hl 1 rfl) ?_
  refine va_get (D := (dC, dI)) (ci := 0) (v := .ref q1) (C := RX0) (T := TX0) (N := 9) hx hb hts inX0 hown hK.1 hP 0 rfl rfl 0 (by decide) (hts _ w_fieldLink_X0_9) (fun _ h9 => h9) rfl dX0_init_82 ?_
  refine lv_iload_n hx hb dX0_init_85 rfl (lv_at hl 0 rfl) ?_
  refine lv_iconst (v := -1) hx hb dX0_init_86 (by decide) ?_
  refine va_iast hx hb hK.1 hP hD hS 1 0 rfl rfl (i := (7 : Int32)) (x := (-1 : Int32)) (show ixok (7 : Int32) 9 by decide) dX0_init_87 (fun H locs hP hD hS => ?_)
  have hP : va_P (dC, dI) vwCl (([[(q, .inr (0, [.ref q1, .ref q2, .ref q3, .ref q4, .ref q5, .ref q6, .ref q7, .int (0 : Int32), .int (0 : Int32)]))], [cI cyI q1 9 (upd (upd (upd (upd (upd (upd (upd (upd (fun _ => 0) (0 : Int32).toNatClampNeg (-1 : Int32)) (1 : Int32).toNatClampNeg (-1 : Int32)) (2 : Int32).toNatClampNeg (-1 : Int32)) (3 : Int32).toNatClampNeg (-1 : Int32)) (4 : Int32).toNatClampNeg (-1 : Int32)) (5 : Int32).toNatClampNeg (-1 : Int32)) (6 : Int32).toNatClampNeg (-1 : Int32)) (7 : Int32).toNatClampNeg (-1 : Int32))], [cI cyI q2 8 (fun _ => 0)], [cI cyI q3 8 (fun _ => 0)], [cI cyI q4 8 (fun _ => 0)], [cI cyI q5 8 (fun _ => 0)], [cI cyI q6 8 (fun _ => 0)], [cI cyI q7 8 (fun _ => 0)]] : List va_W).flatten) H := hP
  have hD : va_D A (([[(q, .inr (0, [.ref q1, .ref q2, .ref q3, .ref q4, .ref q5, .ref q6, .ref q7, .int (0 : Int32), .int (0 : Int32)]))], [cI cyI q1 9 (upd (upd (upd (upd (upd (upd (upd (upd (fun _ => 0) (0 : Int32).toNatClampNeg (-1 : Int32)) (1 : Int32).toNatClampNeg (-1 : Int32)) (2 : Int32).toNatClampNeg (-1 : Int32)) (3 : Int32).toNatClampNeg (-1 : Int32)) (4 : Int32).toNatClampNeg (-1 : Int32)) (5 : Int32).toNatClampNeg (-1 : Int32)) (6 : Int32).toNatClampNeg (-1 : Int32)) (7 : Int32).toNatClampNeg (-1 : Int32))], [cI cyI q2 8 (fun _ => 0)], [cI cyI q3 8 (fun _ => 0)], [cI cyI q4 8 (fun _ => 0)], [cI cyI q5 8 (fun _ => 0)], [cI cyI q6 8 (fun _ => 0)], [cI cyI q7 8 (fun _ => 0)]] : List va_W).flatten) := hD
  refine lv_iinc (v := (8 : Int32)) (lv' := [(1, .int (8 : Int32)), (0, .ref q)]) hx hb dX0_init_88 hl (k := 0) rfl (by decide) (by decide) rfl (fun ls hl => ?_)
  refine lv_goto (tgt := 72) hx hb dX0_init_91 (by decide) ?_
  refine lv_iload_n hx hb dX0_init_72 rfl (lv_at hl 0 rfl) ?_
  refine lv_aload_n hx hb dX0_init_73 rfl (lv_at hl 1 rfl) ?_
  refine va_get (D := (dC, dI)) (ci := 0) (v := .ref q1) (C := RX0) (T := TX0) (N := 9) hx hb hts inX0 hown hK.1 hP 0 rfl rfl 0 (by decide) (hts _ w_fieldLink_X0_9) (fun _ h9 => h9) rfl dX0_init_74 ?_
  refine va_alen hx hb hK.1 hP 1 0 rfl rfl (v := (9 : Int32)) rfl dX0_init_77 ?_
  refine lv_icmp_ge (tgt := 94) hx hb dX0_init_78 (by decide) (fun c9 => ?_) (fun c9 => ?_)
  · exact absurd c9 (by decide)
  refine lv_aload_n hx hb dX0_init_81 rfl (lv_at hl 1 rfl) ?_
  refine va_get (D := (dC, dI)) (ci := 0) (v := .ref q1) (C := RX0) (T := TX0) (N := 9) hx hb hts inX0 hown hK.1 hP 0 rfl rfl 0 (by decide) (hts _ w_fieldLink_X0_9) (fun _ h9 => h9) rfl dX0_init_82 ?_
  refine lv_iload_n hx hb dX0_init_85 rfl (lv_at hl 0 rfl) ?_
  refine lv_iconst (v := -1) hx hb dX0_init_86 (by decide) ?_
  refine va_iast hx hb hK.1 hP hD hS 1 0 rfl rfl (i := (8 : Int32)) (x := (-1 : Int32)) (show ixok (8 : Int32) 9 by decide) dX0_init_87 (fun H locs hP hD hS => ?_)
  have hP : va_P (dC, dI) vwCl (([[(q, .inr (0, [.ref q1, .ref q2, .ref q3, .ref q4, .ref q5, .ref q6, .ref q7, .int (0 : Int32), .int (0 : Int32)]))], [cI cyI q1 9 (upd (upd (upd (upd (upd (upd (upd (upd (upd (fun _ => 0) (0 : Int32).toNatClampNeg (-1 : Int32)) (1 : Int32).toNatClampNeg (-1 : Int32)) (2 : Int32).toNatClampNeg (-1 : Int32)) (3 : Int32).toNatClampNeg (-1 : Int32)) (4 : Int32).toNatClampNeg (-1 : Int32)) (5 : Int32).toNatClampNeg (-1 : Int32)) (6 : Int32).toNatClampNeg (-1 : Int32)) (7 : Int32).toNatClampNeg (-1 : Int32)) (8 : Int32).toNatClampNeg (-1 : Int32))], [cI cyI q2 8 (fun _ => 0)], [cI cyI q3 8 (fun _ => 0)], [cI cyI q4 8 (fun _ => 0)], [cI cyI q5 8 (fun _ => 0)], [cI cyI q6 8 (fun _ => 0)], [cI cyI q7 8 (fun _ => 0)]] : List va_W).flatten) H := hP
  have hD : va_D A (([[(q, .inr (0, [.ref q1, .ref q2, .ref q3, .ref q4, .ref q5, .ref q6, .ref q7, .int (0 : Int32), .int (0 : Int32)]))], [cI cyI q1 9 (upd (upd (upd (upd (upd (upd (upd (upd (upd (fun _ => 0) (0 : Int32).toNatClampNeg (-1 : Int32)) (1 : Int32).toNatClampNeg (-1 : Int32)) (2 : Int32).toNatClampNeg (-1 : Int32)) (3 : Int32).toNatClampNeg (-1 : Int32)) (4 : Int32).toNatClampNeg (-1 : Int32)) (5 : Int32).toNatClampNeg (-1 : Int32)) (6 : Int32).toNatClampNeg (-1 : Int32)) (7 : Int32).toNatClampNeg (-1 : Int32)) (8 : Int32).toNatClampNeg (-1 : Int32))], [cI cyI q2 8 (fun _ => 0)], [cI cyI q3 8 (fun _ => 0)], [cI cyI q4 8 (fun _ => 0)], [cI cyI q5 8 (fun _ => 0)], [cI cyI q6 8 (fun _ => 0)], [cI cyI q7 8 (fun _ => 0)]] : List va_W).flatten) := hD
  refine lv_iinc (v := (9 : Int32)) (lv' := [(1, .int (9 : Int32)), (0, .ref q)]) hx hb dX0_init_88 hl (k := 0) rfl (by decide) (by decide) rfl (fun ls hl => ?_)
  refine lv_goto (tgt := 72) hx hb dX0_init_91 (by decide) ?_
  refine lv_iload_n hx hb dX0_init_72 rfl (lv_at hl 0 rfl) ?_
  refine lv_aload_n hx hb dX0_init_73 rfl (lv_at hl 1 rfl) ?_
  refine va_get (D := (dC, dI)) (ci := 0) (v := .ref q1) (C := RX0) (T := TX0) (N := 9) hx hb hts inX0 hown hK.1 hP 0 rfl rfl 0 (by decide) (hts _ w_fieldLink_X0_9) (fun _ h9 => h9) rfl dX0_init_74 ?_
  refine va_alen hx hb hK.1 hP 1 0 rfl rfl (v := (9 : Int32)) rfl dX0_init_77 ?_
  refine lv_icmp_ge (tgt := 94) hx hb dX0_init_78 (by decide) (fun c9 => ?_) (fun c9 => ?_)
  rotate_left
  · exact absurd (show (9 : Int32) ≤ 9 by decide) c9
  refine W.widen (k := 7) (n := 57) (Nat.le_of_ble_eq_true rfl) (Nat.le_of_ble_eq_true rfl) ?_
  exact W.vret hx hb hr (fun t ht hW => ⟨⟨(adr [0, q, q1, q2, q3, q4, q5, q6, q7]), rfl, rfl, by rw [ht]; exact hP, hD⟩, hS.F ht⟩) hS.2.2 dX0_init_94
theorem dX1_init_0 : decode cX1_init 0 = .ok (.aload_n 0, 1) := by decide +kernel
theorem dX1_init_1 : decode cX1_init 1 = .ok (.invokespecial 3, 3) := by decide +kernel
theorem dX1_init_4 : decode cX1_init 4 = .ok (.aload_n 0, 1) := by decide +kernel
theorem dX1_init_5 : decode cX1_init 5 = .ok (.iconst 2, 1) := by decide +kernel
theorem dX1_init_6 : decode cX1_init 6 = .ok (.newarray .int, 2) := by decide +kernel
theorem dX1_init_8 : decode cX1_init 8 = .ok (.putfield 9, 3) := by decide +kernel
theorem dX1_init_11 : decode cX1_init 11 = .ok (.aload_n 0, 1) := by decide +kernel
theorem dX1_init_12 : decode cX1_init 12 = .ok (.bipush 12, 2) := by decide +kernel
theorem dX1_init_14 : decode cX1_init 14 = .ok (.newarray .int, 2) := by decide +kernel
theorem dX1_init_16 : decode cX1_init 16 = .ok (.putfield 15, 3) := by decide +kernel
theorem dX1_init_19 : decode cX1_init 19 = .ok (.aload_n 0, 1) := by decide +kernel
theorem dX1_init_20 : decode cX1_init 20 = .ok (.bipush 17, 2) := by decide +kernel
theorem dX1_init_22 : decode cX1_init 22 = .ok (.newarray .int, 2) := by decide +kernel
theorem dX1_init_24 : decode cX1_init 24 = .ok (.putfield 18, 3) := by decide +kernel
theorem dX1_init_27 : decode cX1_init 27 = .ok (.aload_n 0, 1) := by decide +kernel
theorem dX1_init_28 : decode cX1_init 28 = .ok (.bipush 21, 2) := by decide +kernel
theorem dX1_init_30 : decode cX1_init 30 = .ok (.putfield 21, 3) := by decide +kernel
theorem dX1_init_33 : decode cX1_init 33 = .ok (.aload_n 0, 1) := by decide +kernel
theorem dX1_init_34 : decode cX1_init 34 = .ok (.iconst 0, 1) := by decide +kernel
theorem dX1_init_35 : decode cX1_init 35 = .ok (.putfield 25, 3) := by decide +kernel
theorem dX1_init_38 : decode cX1_init 38 = .ok (.aload_n 0, 1) := by decide +kernel
theorem dX1_init_39 : decode cX1_init 39 = .ok (.iconst 0, 1) := by decide +kernel
theorem dX1_init_40 : decode cX1_init 40 = .ok (.putfield 28, 3) := by decide +kernel
theorem dX1_init_43 : decode cX1_init 43 = .ok (.aload_n 0, 1) := by decide +kernel
theorem dX1_init_44 : decode cX1_init 44 = .ok (.iconst 0, 1) := by decide +kernel
theorem dX1_init_45 : decode cX1_init 45 = .ok (.putfield 31, 3) := by decide +kernel
theorem dX1_init_48 : decode cX1_init 48 = .ok (.aload_n 0, 1) := by decide +kernel
theorem dX1_init_49 : decode cX1_init 49 = .ok (.iconst 0, 1) := by decide +kernel
theorem dX1_init_50 : decode cX1_init 50 = .ok (.putfield 34, 3) := by decide +kernel
theorem dX1_init_53 : decode cX1_init 53 = .ok (.aload_n 0, 1) := by decide +kernel
theorem dX1_init_54 : decode cX1_init 54 = .ok (.iconst 0, 1) := by decide +kernel
theorem dX1_init_55 : decode cX1_init 55 = .ok (.putfield 37, 3) := by decide +kernel
theorem dX1_init_58 : decode cX1_init 58 = .ok (.aload_n 0, 1) := by decide +kernel
theorem dX1_init_59 : decode cX1_init 59 = .ok (.iconst 0, 1) := by decide +kernel
theorem dX1_init_60 : decode cX1_init 60 = .ok (.putfield 40, 3) := by decide +kernel
theorem dX1_init_63 : decode cX1_init 63 = .ok (.aload_n 0, 1) := by decide +kernel
theorem dX1_init_64 : decode cX1_init 64 = .ok (.iconst 0, 1) := by decide +kernel
theorem dX1_init_65 : decode cX1_init 65 = .ok (.putfield 43, 3) := by decide +kernel
theorem dX1_init_68 : decode cX1_init 68 = .ok (.return_, 1) := by decide +kernel
set_option maxHeartbeats 4000000 in
set_option maxRecDepth 100000 in
theorem met_X1_init (l : Launch) (dC : Nat → ClassId) (dI : Nat → Nat → Nat) (cyI cyO : ClassId) (q sz : Nat) : Met l yX1_init (Cond.code yX1_init cX1_init 1 none :: wT) ({ frames := 1, cells := 3, slots := 31, locals := 12 } : Room) (wWrI dC dI cyI cyO [.ref q] (([[(q, .inr (1, dfX1))]] : List va_W).flatten) sz) (va_Qv (fun (u : (Nat → Nat)) => u 9 = q) (fun u t => va_P (dC, dI) vwCl (cV cyI u vI) t.heap ∧ va_D (va_A (([[(q, .inr (1, dfX1))]] : List va_W).flatten) sz) (cV cyI u vI)) (va_A (([[(q, .inr (1, dfX1))]] : List va_W).flatten) sz)) 3 31 (va_A (([[(q, .inr (1, dfX1))]] : List va_W).flatten) sz) := by
  refine Met.ofW (cc := cX1_init) (maxL := 1) (ret := none) (by decide) rfl ?_
  intro p e s m args below meth c s₁ B hml hv
  obtain ⟨rfl, hsz, hP, hK, hD0, hO⟩ := hv
  have hx := B.exec
  have hb := B.bytes
  have hr := B.returns
  have hts0 := atoms_spec (ws := (Cond.code yX1_init cX1_init 1 none :: wT)) B.pre
  have hts := fun w h => hts0 w (List.mem_cons_of_mem _ h)
  clear hts0
  have hown : s.vm.findClass RX1 = some m.cls := findClass_of_methodNamed B.named
  have hin2 : meth.name = "<init>" := (name_of_methodNamed B.named B.method).1
  subst hsz
  have hD := hD0.self (sz := s.heap.size)
  generalize hAe : va_A (([[(q, .inr (1, dfX1))]] : List va_W).flatten) s.heap.size = A at hD ⊢
  have hA : ∀ q : Nat, s.heap.size ≤ q → A q := fun q h => by rw [← hAe]; exact Or.inr h
  clear hD0
  have hS : va_S A s.heap s.heap [] := va_S.rf
  have hl := lv_entry [.ref q] (n := 1) (Nat.le_of_ble_eq_true rfl)
  rw [lg_entry_eq]
  generalize (lg_sl [.ref q] ++ List.replicate (1 - (lg_sl [.ref q]).length) Slot.unset).toArray = ls at hl ⊢
  have hl : lv_has ls 1 [(0, .ref q)] := hl
  refine lv_aload_n hx hb dX1_init_0 rfl (lv_at hl 0 rfl) ?_
  refine wobj hx hb hown (hts _ w_methodLink_X1_3) (hts _ w_instanceMethod_java_lang_Object__init____V) (hts _ w_code_java_lang_Object__init____V) (hl.1.trans hml.symm) dX1_init_1 (Nat.le_of_ble_eq_true rfl) (Nat.le_of_ble_eq_true rfl) ?_
  refine lv_aload_n hx hb dX1_init_4 rfl (lv_at hl 0 rfl) ?_
  refine lv_iconst (v := 2) hx hb dX1_init_5 (by decide) ?_
  refine wnewa hx hb (hts _ w_arrayClass_int) hK hP hD hS hA (n := (2 : Int32)) (N' := 2) (by decide) rfl (Nat.le_of_ble_eq_true rfl) (Nat.le_of_ble_eq_true rfl) (Nat.le_of_ble_eq_true rfl) dX1_init_6 (fun q1 H hP hD hS => ?_)
  have hP : va_P (dC, dI) vwCl (([[(q, .inr (1, [.null, .null, .null, .int 0, .int 0, .int 0, .int 0, .int 0, .int 0, .int 0, .int 0]))], [cI cyI q1 2 (fun _ => 0)]] : List va_W).flatten) H := hP
  have hD : va_D A (([[(q, .inr (1, [.null, .null, .null, .int 0, .int 0, .int 0, .int 0, .int 0, .int 0, .int 0, .int 0]))], [cI cyI q1 2 (fun _ => 0)]] : List va_W).flatten) := hD
  refine va_putF (D := (dC, dI)) (ci := 1) (v := .ref q1) (ty := .array .int) (C := RX1) (T := TX1) (N := 11) hx hb hts inX1 tyX1 tyX1_ok nmX1 hown hK.1 hP hD hS 0 rfl rfl 0 (by decide) (hts _ w_fieldLink_X1_9) (fun _ h9 => h9) rfl hin2 rfl (by decide +kernel) rfl rfl (Nat.le_of_ble_eq_true rfl) dX1_init_8 (fun H locs hP hD hS => ?_)
  have hP : va_P (dC, dI) vwCl (([[(q, .inr (1, [.ref q1, .null, .null, .int 0, .int 0, .int 0, .int 0, .int 0, .int 0, .int 0, .int 0]))], [cI cyI q1 2 (fun _ => 0)]] : List va_W).flatten) H := hP
  have hD : va_D A (([[(q, .inr (1, [.ref q1, .null, .null, .int 0, .int 0, .int 0, .int 0, .int 0, .int 0, .int 0, .int 0]))], [cI cyI q1 2 (fun _ => 0)]] : List va_W).flatten) := hD
  refine lv_aload_n hx hb dX1_init_11 rfl (lv_at hl 0 rfl) ?_
  refine lv_bipush (v := 12) hx hb dX1_init_12 (by decide) ?_
  refine wnewa hx hb (hts _ w_arrayClass_int) hK hP hD hS hA (n := (12 : Int32)) (N' := 12) (by decide) rfl (Nat.le_of_ble_eq_true rfl) (Nat.le_of_ble_eq_true rfl) (Nat.le_of_ble_eq_true rfl) dX1_init_14 (fun q2 H hP hD hS => ?_)
  have hP : va_P (dC, dI) vwCl (([[(q, .inr (1, [.ref q1, .null, .null, .int 0, .int 0, .int 0, .int 0, .int 0, .int 0, .int 0, .int 0]))], [cI cyI q1 2 (fun _ => 0)], [cI cyI q2 12 (fun _ => 0)]] : List va_W).flatten) H := hP
  have hD : va_D A (([[(q, .inr (1, [.ref q1, .null, .null, .int 0, .int 0, .int 0, .int 0, .int 0, .int 0, .int 0, .int 0]))], [cI cyI q1 2 (fun _ => 0)], [cI cyI q2 12 (fun _ => 0)]] : List va_W).flatten) := hD
  refine va_putF (D := (dC, dI)) (ci := 1) (v := .ref q2) (ty := .array .int) (C := RX1) (T := TX1) (N := 11) hx hb hts inX1 tyX1 tyX1_ok nmX1 hown hK.1 hP hD hS 0 rfl rfl 1 (by decide) (hts _ w_fieldLink_X1_15) (fun _ h9 => h9) rfl hin2 rfl (by decide +kernel) rfl rfl (Nat.le_of_ble_eq_true rfl) dX1_init_16 (fun H locs hP hD hS => ?_)
  have hP : va_P (dC, dI) vwCl (([[(q, .inr (1, [.ref q1, .ref q2, .null, .int 0, .int 0, .int 0, .int 0, .int 0, .int 0, .int 0, .int 0]))], [cI cyI q1 2 (fun _ => 0)], [cI cyI q2 12 (fun _ => 0)]] : List va_W).flatten) H := hP
  have hD : va_D A (([[(q, .inr (1, [.ref q1, .ref q2, .null, .int 0, .int 0, .int 0, .int 0, .int 0, .int 0, .int 0, .int 0]))], [cI cyI q1 2 (fun _ => 0)], [cI cyI q2 12 (fun _ => 0)]] : List va_W).flatten) := hD
  refine lv_aload_n hx hb dX1_init_19 rfl (lv_at hl 0 rfl) ?_
  refine lv_bipush (v := 17) hx hb dX1_init_20 (by decide) ?_
  refine wnewa hx hb (hts _ w_arrayClass_int) hK hP hD hS hA (n := (17 : Int32)) (N' := 17) (by decide) rfl (Nat.le_of_ble_eq_true rfl) (Nat.le_of_ble_eq_true rfl) (Nat.le_of_ble_eq_true rfl) dX1_init_22 (fun q3 H hP hD hS => ?_)
  have hP : va_P (dC, dI) vwCl (([[(q, .inr (1, [.ref q1, .ref q2, .null, .int 0, .int 0, .int 0, .int 0, .int 0, .int 0, .int 0, .int 0]))], [cI cyI q1 2 (fun _ => 0)], [cI cyI q2 12 (fun _ => 0)], [cI cyI q3 17 (fun _ => 0)]] : List va_W).flatten) H := hP
  have hD : va_D A (([[(q, .inr (1, [.ref q1, .ref q2, .null, .int 0, .int 0, .int 0, .int 0, .int 0, .int 0, .int 0, .int 0]))], [cI cyI q1 2 (fun _ => 0)], [cI cyI q2 12 (fun _ => 0)], [cI cyI q3 17 (fun _ => 0)]] : List va_W).flatten) := hD
  refine va_putF (D := (dC, dI)) (ci := 1) (v := .ref q3) (ty := .array .int) (C := RX1) (T := TX1) (N := 11) hx hb hts inX1 tyX1 tyX1_ok nmX1 hown hK.1 hP hD hS 0 rfl rfl 2 (by decide) (hts _ w_fieldLink_X1_18) (fun _ h9 => h9) rfl hin2 rfl (by decide +kernel) rfl rfl (Nat.le_of_ble_eq_true rfl) dX1_init_24 (fun H locs hP hD hS => ?_)
  have hP : va_P (dC, dI) vwCl (([[(q, .inr (1, [.ref q1, .ref q2, .ref q3, .int 0, .int 0, .int 0, .int 0, .int 0, .int 0, .int 0, .int 0]))], [cI cyI q1 2 (fun _ => 0)], [cI cyI q2 12 (fun _ => 0)], [cI cyI q3 17 (fun _ => 0)]] : List va_W).flatten) H := hP
  have hD : va_D A (([[(q, .inr (1, [.ref q1, .ref q2, .ref q3, .int 0, .int 0, .int 0, .int 0, .int 0, .int 0, .int 0, .int 0]))], [cI cyI q1 2 (fun _ => 0)], [cI cyI q2 12 (fun _ => 0)], [cI cyI q3 17 (fun _ => 0)]] : List va_W).flatten) := hD
  refine lv_aload_n hx hb dX1_init_27 rfl (lv_at hl 0 rfl) ?_
  refine lv_bipush (v := 21) hx hb dX1_init_28 (by decide) ?_
  refine va_put (D := (dC, dI)) (ci := 1) (v := .int (21 : Int32)) (ty := .int) (C := RX1) (T := TX1) (N := 11) hx hb hts inX1 tyX1 tyX1_ok nmX1 hown hK.1 hP hD hS 0 rfl rfl 3 (by decide) (hts _ w_fieldLink_X1_21) (fun _ h9 => h9) rfl (by decide +kernel) rfl rfl (Nat.le_of_ble_eq_true rfl) dX1_init_30 (fun H locs hP hD hS => ?_)
  have hP : va_P (dC, dI) vwCl (([[(q, .inr (1, [.ref q1, .ref q2, .ref q3, .int (21 : Int32), .int 0, .int 0, .int 0, .int 0, .int 0, .int 0, .int 0]))], [cI cyI q1 2 (fun _ => 0)], [cI cyI q2 12 (fun _ => 0)], [cI cyI q3 17 (fun _ => 0)]] : List va_W).flatten) H := hP
  have hD : va_D A (([[(q, .inr (1, [.ref q1, .ref q2, .ref q3, .int (21 : Int32), .int 0, .int 0, .int 0, .int 0, .int 0, .int 0, .int 0]))], [cI cyI q1 2 (fun _ => 0)], [cI cyI q2 12 (fun _ => 0)], [cI cyI q3 17 (fun _ => 0)]] : List va_W).flatten) := hD
  refine lv_aload_n hx hb dX1_init_33 rfl (lv_at hl 0 rfl) ?_
  refine lv_iconst (v := 0) hx hb dX1_init_34 (by decide) ?_
  refine va_put (D := (dC, dI)) (ci := 1) (v := .int (0 : Int32)) (ty := .int) (C := RX1) (T := TX1) (N := 11) hx hb hts inX1 tyX1 tyX1_ok nmX1 hown hK.1 hP hD hS 0 rfl rfl 4 (by decide) (hts _ w_fieldLink_X1_25) (fun _ h9 => h9) rfl (by decide +kernel) rfl rfl (Nat.le_of_ble_eq_true rfl) dX1_init_35 (fun H locs hP hD hS => ?_)
  have hP : va_P (dC, dI) vwCl (([[(q, .inr (1, [.ref q1, .ref q2, .ref q3, .int (21 : Int32), .int (0 : Int32), .int 0, .int 0, .int 0, .int 0, .int 0, .int 0]))], [cI cyI q1 2 (fun _ => 0)], [cI cyI q2 12 (fun _ => 0)], [cI cyI q3 17 (fun _ => 0)]] : List va_W).flatten) H := hP
  have hD : va_D A (([[(q, .inr (1, [.ref q1, .ref q2, .ref q3, .int (21 : Int32), .int (0 : Int32), .int 0, .int 0, .int 0, .int 0, .int 0, .int 0]))], [cI cyI q1 2 (fun _ => 0)], [cI cyI q2 12 (fun _ => 0)], [cI cyI q3 17 (fun _ => 0)]] : List va_W).flatten) := hD
  refine lv_aload_n hx hb dX1_init_38 rfl (lv_at hl 0 rfl) ?_
  refine lv_iconst (v := 0) hx hb dX1_init_39 (by decide) ?_
  refine va_put (D := (dC, dI)) (ci := 1) (v := .int (0 : Int32)) (ty := .int) (C := RX1) (T := TX1) (N := 11) hx hb hts inX1 tyX1 tyX1_ok nmX1 hown hK.1 hP hD hS 0 rfl rfl 5 (by decide) (hts _ w_fieldLink_X1_28) (fun _ h9 => h9) rfl (by decide +kernel) rfl rfl (Nat.le_of_ble_eq_true rfl) dX1_init_40 (fun H locs hP hD hS => ?_)
  have hP : va_P (dC, dI) vwCl (([[(q, .inr (1, [.ref q1, .ref q2, .ref q3, .int (21 : Int32), .int (0 : Int32), .int (0 : Int32), .int 0, .int 0, .int 0, .int 0, .int 0]))], [cI cyI q1 2 (fun _ => 0)], [cI cyI q2 12 (fun _ => 0)], [cI cyI q3 17 (fun _ => 0)]] : List va_W).flatten) H := hP
  have hD : va_D A (([[(q, .inr (1, [.ref q1, .ref q2, .ref q3, .int (21 : Int32), .int (0 : Int32), .int (0 : Int32), .int 0, .int 0, .int 0, .int 0, .int 0]))], [cI cyI q1 2 (fun _ => 0)], [cI cyI q2 12 (fun _ => 0)], [cI cyI q3 17 (fun _ => 0)]] : List va_W).flatten) := hD
  refine lv_aload_n hx hb dX1_init_43 rfl (lv_at hl 0 rfl) ?_
  refine lv_iconst (v := 0) hx hb dX1_init_44 (by decide) ?_
  refine va_put (D := (dC, dI)) (ci := 1) (v := .int (0 : Int32)) (ty := .int) (C := RX1) (T := TX1) (N := 11) hx hb hts inX1 tyX1 tyX1_ok nmX1 hown hK.1 hP hD hS 0 rfl rfl 6 (by decide) (hts _ w_fieldLink_X1_31) (fun _ h9 => h9) rfl (by decide +kernel) rfl rfl (Nat.le_of_ble_eq_true rfl) dX1_init_45 (fun H locs hP hD hS => ?_)
  have hP : va_P (dC, dI) vwCl (([[(q, .inr (1, [.ref q1, .ref q2, .ref q3, .int (21 : Int32), .int (0 : Int32), .int (0 : Int32), .int (0 : Int32), .int 0, .int 0, .int 0, .int 0]))], [cI cyI q1 2 (fun _ => 0)], [cI cyI q2 12 (fun _ => 0)], [cI cyI q3 17 (fun _ => 0)]] : List va_W).flatten) H := hP
  have hD : va_D A (([[(q, .inr (1, [.ref q1, .ref q2, .ref q3, .int (21 : Int32), .int (0 : Int32), .int (0 : Int32), .int (0 : Int32), .int 0, .int 0, .int 0, .int 0]))], [cI cyI q1 2 (fun _ => 0)], [cI cyI q2 12 (fun _ => 0)], [cI cyI q3 17 (fun _ => 0)]] : List va_W).flatten) := hD
  refine lv_aload_n hx hb dX1_init_48 rfl (lv_at hl 0 rfl) ?_
  refine lv_iconst (v := 0) hx hb dX1_init_49 (by decide) ?_
  refine va_put (D := (dC, dI)) (ci := 1) (v := .int (0 : Int32)) (ty := .int) (C := RX1) (T := TX1) (N := 11) hx hb hts inX1 tyX1 tyX1_ok nmX1 hown hK.1 hP hD hS 0 rfl rfl 7 (by decide) (hts _ w_fieldLink_X1_34) (fun _ h9 => h9) rfl (by decide +kernel) rfl rfl (Nat.le_of_ble_eq_true rfl) dX1_init_50 (fun H locs hP hD hS => ?_)
  have hP : va_P (dC, dI) vwCl (([[(q, .inr (1, [.ref q1, .ref q2, .ref q3, .int (21 : Int32), .int (0 : Int32), .int (0 : Int32), .int (0 : Int32), .int (0 : Int32), .int 0, .int 0, .int 0]))], [cI cyI q1 2 (fun _ => 0)], [cI cyI q2 12 (fun _ => 0)], [cI cyI q3 17 (fun _ => 0)]] : List va_W).flatten) H := hP
  have hD : va_D A (([[(q, .inr (1, [.ref q1, .ref q2, .ref q3, .int (21 : Int32), .int (0 : Int32), .int (0 : Int32), .int (0 : Int32), .int (0 : Int32), .int 0, .int 0, .int 0]))], [cI cyI q1 2 (fun _ => 0)], [cI cyI q2 12 (fun _ => 0)], [cI cyI q3 17 (fun _ => 0)]] : List va_W).flatten) := hD
  refine lv_aload_n hx hb dX1_init_53 rfl (lv_at hl 0 rfl) ?_
  refine lv_iconst (v := 0) hx hb dX1_init_54 (by decide) ?_
  refine va_put (D := (dC, dI)) (ci := 1) (v := .int (0 : Int32)) (ty := .int) (C := RX1) (T := TX1) (N := 11) hx hb hts inX1 tyX1 tyX1_ok nmX1 hown hK.1 hP hD hS 0 rfl rfl 8 (by decide) (hts _ w_fieldLink_X1_37) (fun _ h9 => h9) rfl (by decide +kernel) rfl rfl (Nat.le_of_ble_eq_true rfl) dX1_init_55 (fun H locs hP hD hS => ?_)
  have hP : va_P (dC, dI) vwCl (([[(q, .inr (1, [.ref q1, .ref q2, .ref q3, .int (21 : Int32), .int (0 : Int32), .int (0 : Int32), .int (0 : Int32), .int (0 : Int32), .int (0 : Int32), .int 0, .int 0]))], [cI cyI q1 2 (fun _ => 0)], [cI cyI q2 12 (fun _ => 0)], [cI cyI q3 17 (fun _ => 0)]] : List va_W).flatten) H := hP
  have hD : va_D A (([[(q, .inr (1, [.ref q1, .ref q2, .ref q3, .int (21 : Int32), .int (0 : Int32), .int (0 : Int32), .int (0 : Int32), .int (0 : Int32), .int (0 : Int32), .int 0, .int 0]))], [cI cyI q1 2 (fun _ => 0)], [cI cyI q2 12 (fun _ => 0)], [cI cyI q3 17 (fun _ => 0)]] : List va_W).flatten) := hD
  refine lv_aload_n hx hb dX1_init_58 rfl (lv_at hl 0 rfl) ?_
  refine lv_iconst (v := 0) hx hb dX1_init_59 (by decide) ?_
  refine va_put (D := (dC, dI)) (ci := 1) (v := .int (0 : Int32)) (ty := .int) (C := RX1) (T := TX1) (N := 11) hx hb hts inX1 tyX1 tyX1_ok nmX1 hown hK.1 hP hD hS 0 rfl rfl 9 (by decide) (hts _ w_fieldLink_X1_40) (fun _ h9 => h9) rfl (by decide +kernel) rfl rfl (Nat.le_of_ble_eq_true rfl) dX1_init_60 (fun H locs hP hD hS => ?_)
  have hP : va_P (dC, dI) vwCl (([[(q, .inr (1, [.ref q1, .ref q2, .ref q3, .int (21 : Int32), .int (0 : Int32), .int (0 : Int32), .int (0 : Int32), .int (0 : Int32), .int (0 : Int32), .int (0 : Int32), .int 0]))], [cI cyI q1 2 (fun _ => 0)], [cI cyI q2 12 (fun _ => 0)], [cI cyI q3 17 (fun _ => 0)]] : List va_W).flatten) H := hP
  have hD : va_D A (([[(q, .inr (1, [.ref q1, .ref q2, .ref q3, .int (21 : Int32), .int (0 : Int32), .int (0 : Int32), .int (0 : Int32), .int (0 : Int32), .int (0 : Int32), .int (0 : Int32), .int 0]))], [cI cyI q1 2 (fun _ => 0)], [cI cyI q2 12 (fun _ => 0)], [cI cyI q3 17 (fun _ => 0)]] : List va_W).flatten) := hD
  refine lv_aload_n hx hb dX1_init_63 rfl (lv_at hl 0 rfl) ?_
  refine lv_iconst (v := 0) hx hb dX1_init_64 (by decide) ?_
  refine va_put (D := (dC, dI)) (ci := 1) (v := .int (0 : Int32)) (ty := .int) (C := RX1) (T := TX1) (N := 11) hx hb hts inX1 tyX1 tyX1_ok nmX1 hown hK.1 hP hD hS 0 rfl rfl 10 (by decide) (hts _ w_fieldLink_X1_43) (fun _ h9 => h9) rfl (by decide +kernel) rfl rfl (Nat.le_of_ble_eq_true rfl) dX1_init_65 (fun H locs hP hD hS => ?_)
  have hP : va_P (dC, dI) vwCl (([[(q, .inr (1, [.ref q1, .ref q2, .ref q3, .int (21 : Int32), .int (0 : Int32), .int (0 : Int32), .int (0 : Int32), .int (0 : Int32), .int (0 : Int32), .int (0 : Int32), .int (0 : Int32)]))], [cI cyI q1 2 (fun _ => 0)], [cI cyI q2 12 (fun _ => 0)], [cI cyI q3 17 (fun _ => 0)]] : List va_W).flatten) H := hP
  have hD : va_D A (([[(q, .inr (1, [.ref q1, .ref q2, .ref q3, .int (21 : Int32), .int (0 : Int32), .int (0 : Int32), .int (0 : Int32), .int (0 : Int32), .int (0 : Int32), .int (0 : Int32), .int (0 : Int32)]))], [cI cyI q1 2 (fun _ => 0)], [cI cyI q2 12 (fun _ => 0)], [cI cyI q3 17 (fun _ => 0)]] : List va_W).flatten) := hD
  refine W.widen (k := 3) (n := 31) (Nat.le_of_ble_eq_true rfl) (Nat.le_of_ble_eq_true rfl) ?_
  exact W.vret hx hb hr (fun t ht hW => ⟨⟨(adr [0, 0, 0, 0, 0, 0, 0, 0, 0, q, q1, q2, q3]), rfl, rfl, by rw [ht]; exact hP, hD⟩, hS.F ht⟩) hS.2.2 dX1_init_68
theorem dX3_init_0 : decode cX3_init 0 = .ok (.aload_n 0, 1) := by decide +kernel
theorem dX3_init_1 : decode cX3_init 1 = .ok (.invokespecial 3, 3) := by decide +kernel
theorem dX3_init_4 : decode cX3_init 4 = .ok (.aload_n 0, 1) := by decide +kernel
theorem dX3_init_5 : decode cX3_init 5 = .ok (.new 9, 3) := by decide +kernel
theorem dX3_init_8 : decode cX3_init 8 = .ok (.dup, 1) := by decide +kernel
theorem dX3_init_9 : decode cX3_init 9 = .ok (.invokespecial 11, 3) := by decide +kernel
theorem dX3_init_12 : decode cX3_init 12 = .ok (.putfield 12, 3) := by decide +kernel
theorem dX3_init_15 : decode cX3_init 15 = .ok (.aload_n 0, 1) := by decide +kernel
theorem dX3_init_16 : decode cX3_init 16 = .ok (.new 18, 3) := by decide +kernel
theorem dX3_init_19 : decode cX3_init 19 = .ok (.dup, 1) := by decide +kernel
theorem dX3_init_20 : decode cX3_init 20 = .ok (.invokespecial 20, 3) := by decide +kernel
theorem dX3_init_23 : decode cX3_init 23 = .ok (.putfield 21, 3) := by decide +kernel
theorem dX3_init_26 : decode cX3_init 26 = .ok (.aload_n 0, 1) := by decide +kernel
theorem dX3_init_27 : decode cX3_init 27 = .ok (.iconst 4, 1) := by decide +kernel
theorem dX3_init_28 : decode cX3_init 28 = .ok (.putfield 25, 3) := by decide +kernel
theorem dX3_init_31 : decode cX3_init 31 = .ok (.aload_n 0, 1) := by decide +kernel
theorem dX3_init_32 : decode cX3_init 32 = .ok (.iconst 0, 1) := by decide +kernel
theorem dX3_init_33 : decode cX3_init 33 = .ok (.putfield 29, 3) := by decide +kernel
theorem dX3_init_36 : decode cX3_init 36 = .ok (.aload_n 0, 1) := by decide +kernel
theorem dX3_init_37 : decode cX3_init 37 = .ok (.iconst 0, 1) := by decide +kernel
theorem dX3_init_38 : decode cX3_init 38 = .ok (.putfield 32, 3) := by decide +kernel
theorem dX3_init_41 : decode cX3_init 41 = .ok (.aload_n 0, 1) := by decide +kernel
theorem dX3_init_42 : decode cX3_init 42 = .ok (.iconst 0, 1) := by decide +kernel
theorem dX3_init_43 : decode cX3_init 43 = .ok (.putfield 36, 3) := by decide +kernel
theorem dX3_init_46 : decode cX3_init 46 = .ok (.return_, 1) := by decide +kernel
set_option maxHeartbeats 4000000 in
set_option maxRecDepth 100000 in
theorem met_X3_init (l : Launch) (dC : Nat → ClassId) (dI : Nat → Nat → Nat) (cyI cyO : ClassId) (q sz : Nat) : Met l yX3_init (Cond.code yX3_init cX3_init 1 none :: wT) ({ frames := 2, cells := 12, slots := 108, locals := 33 } : Room) (wWrI dC dI cyI cyO [.ref q] (([[(q, .inr (3, dfX3))]] : List va_W).flatten) sz) (va_Qv (fun (u : (Nat → Nat)) => u 0 = q) (fun u t => va_P (dC, dI) vwCl (cS cyI u sI) t.heap ∧ va_D (va_A (([[(q, .inr (3, dfX3))]] : List va_W).flatten) sz) (cS cyI u sI)) (va_A (([[(q, .inr (3, dfX3))]] : List va_W).flatten) sz)) 12 108 (va_A (([[(q, .inr (3, dfX3))]] : List va_W).flatten) sz) := by
  refine Met.ofW (cc := cX3_init) (maxL := 1) (ret := none) (by decide) rfl ?_
  intro p e s m args below meth c s₁ B hml hv
  obtain ⟨rfl, hsz, hP, hK, hD0, hO⟩ := hv
  have hx := B.exec
  have hb := B.bytes
  have hr := B.returns
  have hts0 := atoms_spec (ws := (Cond.code yX3_init cX3_init 1 none :: wT)) B.pre
  have hts := fun w h => hts0 w (List.mem_cons_of_mem _ h)
  clear hts0
  have hown : s.vm.findClass RX3 = some m.cls := findClass_of_methodNamed B.named
  have hin2 : meth.name = "<init>" := (name_of_methodNamed B.named B.method).1
  subst hsz
  have hD := hD0.self (sz := s.heap.size)
  generalize hAe : va_A (([[(q, .inr (3, dfX3))]] : List va_W).flatten) s.heap.size = A at hD ⊢
  have hA : ∀ q : Nat, s.heap.size ≤ q → A q := fun q h => by rw [← hAe]; exact Or.inr h
  clear hD0
  have hS : va_S A s.heap s.heap [] := va_S.rf
  have hl := lv_entry [.ref q] (n := 1) (Nat.le_of_ble_eq_true rfl)
  rw [lg_entry_eq]
  generalize (lg_sl [.ref q] ++ List.replicate (1 - (lg_sl [.ref q]).length) Slot.unset).toArray = ls at hl ⊢
  have hl : lv_has ls 1 [(0, .ref q)] := hl
  refine lv_aload_n hx hb dX3_init_0 rfl (lv_at hl 0 rfl) ?_
  refine wobj hx hb hown (hts _ w_methodLink_X3_3) (hts _ w_instanceMethod_java_lang_Object__init____V) (hts _ w_code_java_lang_Object__init____V) (hl.1.trans hml.symm) dX3_init_1 (Nat.le_of_ble_eq_true rfl) (Nat.le_of_ble_eq_true rfl) ?_
  refine lv_aload_n hx hb dX3_init_4 rfl (lv_at hl 0 rfl) ?_
  refine va_new (D := (dC, dI)) (ci := 0) (C := RX0) (T := TX0) (N := 9) (fs := dfX0) hx hb hts inX0 tyX0 tyX0_ok hown (hts _ w_classLink_X3_9) (hts _ w_instantiable_X0) (hts _ w_initialized_X0) hK.1 hP hD hS hA rfl dfX0_ok (Nat.le_of_ble_eq_true rfl) (Nat.le_of_ble_eq_true rfl) dX3_init_5 (fun q1 H hP hD hS => ?_)
  have hP : va_P (dC, dI) vwCl (([[(q, .inr (3, [.null, .null, .int 0, .int 0, .int 0, .int 0]))], [(q1, .inr (0, dfX0))]] : List va_W).flatten) H := hP.psh
  have hD : va_D A (([[(q, .inr (3, [.null, .null, .int 0, .int 0, .int 0, .int 0]))], [(q1, .inr (0, dfX0))]] : List va_W).flatten) := hD.psh
  refine lv_dup hx hb dX3_init_8 rfl ?_
  refine wcII (As := []) (rest := [.ref q1, .ref q]) (wr := ([[(q, .inr (3, [.null, .null, .int 0, .int 0, .int 0, .int 0]))]] : List va_W).flatten) (b := q1) ⟨hx, hb, hml, hown, hts⟩ (met_X0_init l dC dI cyI cyO q1 _) (cwI 0 hts (gCode w_code_X0_init) rfl rfl rfl (hts _ w_initialized_X0) (hts _ w_methodLink_X3_11) (hts _ w_instanceMethod_X0_init) rfl (by decide +kernel) ⟨Nat.le_of_ble_eq_true rfl, Nat.le_of_ble_eq_true rfl⟩) hP hD hK hO (seg_perm (n := 2) (R := [[(q, .inr (3, [.null, .null, .int 0, .int 0, .int 0, .int 0]))]]) (C := [[(q1, .inr (0, dfX0))]]) [0] [1] rfl rfl rfl (by decide) rfl) rfl hl.1 (Nat.le_of_ble_eq_true rfl) dX3_init_9 ⟨Nat.le_of_ble_eq_true rfl, Nat.le_of_ble_eq_true rfl⟩ hS hA (fun u1 H locs hw hP1 hD1 hS => ?_)
  have hw := hw.symm
  subst hw
  have hq := seg_permS (segs := [[(q, .inr (3, [.null, .null, .int 0, .int 0, .int 0, .int 0]))], (cG cyI u1 gI)]) (R := [[(q, .inr (3, [.null, .null, .int 0, .int 0, .int 0, .int 0]))]]) (C := [(cG cyI u1 gI)]) (n := 2) [0] [1] rfl rfl rfl (by decide)
  have hP : va_P (dC, dI) vwCl (([[(q, .inr (3, [.null, .null, .int 0, .int 0, .int 0, .int 0]))], (cG cyI u1 gI)] : List va_W).flatten) H := hP1.perm hq
  have hD : va_D A (([[(q, .inr (3, [.null, .null, .int 0, .int 0, .int 0, .int 0]))], (cG cyI u1 gI)] : List va_W).flatten) := hD1.perm hq
  clear hq hP1 hD1
  refine va_putF (D := (dC, dI)) (ci := 3) (v := .ref (u1 1)) (ty := .object "WombatBowls$Green") (C := RX3) (T := TX3) (N := 6) hx hb hts inX3 tyX3 tyX3_ok nmX3 hown hK.1 hP hD hS 0 rfl rfl 0 (by decide) (hts _ w_fieldLink_X3_12) (fun _ h9 => h9) rfl hin2 rfl (by decide +kernel) rfl rfl (Nat.le_of_ble_eq_true rfl) dX3_init_12 (fun H locs hP hD hS => ?_)
  have hP : va_P (dC, dI) vwCl (([[(q, .inr (3, [.ref (u1 1), .null, .int 0, .int 0, .int 0, .int 0]))], (cG cyI u1 gI)] : List va_W).flatten) H := hP
  have hD : va_D A (([[(q, .inr (3, [.ref (u1 1), .null, .int 0, .int 0, .int 0, .int 0]))], (cG cyI u1 gI)] : List va_W).flatten) := hD
  refine lv_aload_n hx hb dX3_init_15 rfl (lv_at hl 0 rfl) ?_
  refine va_new (D := (dC, dI)) (ci := 1) (C := RX1) (T := TX1) (N := 11) (fs := dfX1) hx hb hts inX1 tyX1 tyX1_ok hown (hts _ w_classLink_X3_18) (hts _ w_instantiable_X1) (hts _ w_initialized_X1) hK.1 hP hD hS hA rfl dfX1_ok (Nat.le_of_ble_eq_true rfl) (Nat.le_of_ble_eq_true rfl) dX3_init_16 (fun q2 H hP hD hS => ?_)
  have hP : va_P (dC, dI) vwCl (([[(q, .inr (3, [.ref (u1 1), .null, .int 0, .int 0, .int 0, .int 0]))], (cG cyI u1 gI), [(q2, .inr (1, dfX1))]] : List va_W).flatten) H := hP.psh
  have hD : va_D A (([[(q, .inr (3, [.ref (u1 1), .null, .int 0, .int 0, .int 0, .int 0]))], (cG cyI u1 gI), [(q2, .inr (1, dfX1))]] : List va_W).flatten) := hD.psh
  refine lv_dup hx hb dX3_init_19 rfl ?_
  refine wcIN (As := []) (rest := [.ref q2, .ref q]) (wr := ([[(q, .inr (3, [.ref (u1 1), .null, .int 0, .int 0, .int 0, .int 0]))], (cG cyI u1 gI)] : List va_W).flatten) (b := q2) ⟨hx, hb, hml, hown, hts⟩ (met_X1_init l dC dI cyI cyO q2 _) ⟨va_cnB 0 hts (gCode w_code_X1_init) rfl rfl rfl (hK.2 _ n_X3_20) (hts _ w_initialized_X1) (by decide +kernel) ⟨Nat.le_of_ble_eq_true rfl, Nat.le_of_ble_eq_true rfl⟩, rfl, hts _ w_instanceMethod_X1_init⟩ hP hD hK hO (seg_perm (n := 3) (R := [[(q, .inr (3, [.ref (u1 1), .null, .int 0, .int 0, .int 0, .int 0]))], (cG cyI u1 gI)]) (C := [[(q2, .inr (1, dfX1))]]) [0, 1] [2] rfl rfl rfl (by decide) rfl) rfl hl.1 (Nat.le_of_ble_eq_true rfl) dX3_init_20 ⟨Nat.le_of_ble_eq_true rfl, Nat.le_of_ble_eq_true rfl⟩ hS hA (fun u2 H locs hw hP1 hD1 hS => ?_)
  have hw := hw.symm
  subst hw
  have hq := seg_permS (segs := [[(q, .inr (3, [.ref (u1 1), .null, .int 0, .int 0, .int 0, .int 0]))], (cG cyI u1 gI), (cV cyI u2 vI)]) (R := [[(q, .inr (3, [.ref (u1 1), .null, .int 0, .int 0, .int 0, .int 0]))], (cG cyI u1 gI)]) (C := [(cV cyI u2 vI)]) (n := 3) [0, 1] [2] rfl rfl rfl (by decide)
  have hP : va_P (dC, dI) vwCl (([[(q, .inr (3, [.ref (u1 1), .null, .int 0, .int 0, .int 0, .int 0]))], (cG cyI u1 gI), (cV cyI u2 vI)] : List va_W).flatten) H := hP1.perm hq
  have hD : va_D A (([[(q, .inr (3, [.ref (u1 1), .null, .int 0, .int 0, .int 0, .int 0]))], (cG cyI u1 gI), (cV cyI u2 vI)] : List va_W).flatten) := hD1.perm hq
  clear hq hP1 hD1
  refine va_putF (D := (dC, dI)) (ci := 3) (v := .ref (u2 9)) (ty := .object "WombatBowls$Score") (C := RX3) (T := TX3) (N := 6) hx hb hts inX3 tyX3 tyX3_ok nmX3 hown hK.1 hP hD hS 0 rfl rfl 1 (by decide) (hts _ w_fieldLink_X3_21) (fun _ h9 => h9) rfl hin2 rfl (by decide +kernel) rfl rfl (Nat.le_of_ble_eq_true rfl) dX3_init_23 (fun H locs hP hD hS => ?_)
  have hP : va_P (dC, dI) vwCl (([[(q, .inr (3, [.ref (u1 1), .ref (u2 9), .int 0, .int 0, .int 0, .int 0]))], (cG cyI u1 gI), (cV cyI u2 vI)] : List va_W).flatten) H := hP
  have hD : va_D A (([[(q, .inr (3, [.ref (u1 1), .ref (u2 9), .int 0, .int 0, .int 0, .int 0]))], (cG cyI u1 gI), (cV cyI u2 vI)] : List va_W).flatten) := hD
  refine lv_aload_n hx hb dX3_init_26 rfl (lv_at hl 0 rfl) ?_
  refine lv_iconst (v := 4) hx hb dX3_init_27 (by decide) ?_
  refine va_put (D := (dC, dI)) (ci := 3) (v := .int (4 : Int32)) (ty := .int) (C := RX3) (T := TX3) (N := 6) hx hb hts inX3 tyX3 tyX3_ok nmX3 hown hK.1 hP hD hS 0 rfl rfl 2 (by decide) (hts _ w_fieldLink_X3_25) (fun _ h9 => h9) rfl (by decide +kernel) rfl rfl (Nat.le_of_ble_eq_true rfl) dX3_init_28 (fun H locs hP hD hS => ?_)
  have hP : va_P (dC, dI) vwCl (([[(q, .inr (3, [.ref (u1 1), .ref (u2 9), .int (4 : Int32), .int 0, .int 0, .int 0]))], (cG cyI u1 gI), (cV cyI u2 vI)] : List va_W).flatten) H := hP
  have hD : va_D A (([[(q, .inr (3, [.ref (u1 1), .ref (u2 9), .int (4 : Int32), .int 0, .int 0, .int 0]))], (cG cyI u1 gI), (cV cyI u2 vI)] : List va_W).flatten) := hD
  refine lv_aload_n hx hb dX3_init_31 rfl (lv_at hl 0 rfl) ?_
  refine lv_iconst (v := 0) hx hb dX3_init_32 (by decide) ?_
  refine va_put (D := (dC, dI)) (ci := 3) (v := .int (0 : Int32)) (ty := .int) (C := RX3) (T := TX3) (N := 6) hx hb hts inX3 tyX3 tyX3_ok nmX3 hown hK.1 hP hD hS 0 rfl rfl 3 (by decide) (hts _ w_fieldLink_X3_29) (fun _ h9 => h9) rfl (by decide +kernel) rfl rfl (Nat.le_of_ble_eq_true rfl) dX3_init_33 (fun H locs hP hD hS => ?_)
  have hP : va_P (dC, dI) vwCl (([[(q, .inr (3, [.ref (u1 1), .ref (u2 9), .int (4 : Int32), .int (0 : Int32), .int 0, .int 0]))], (cG cyI u1 gI), (cV cyI u2 vI)] : List va_W).flatten) H := hP
  have hD : va_D A (([[(q, .inr (3, [.ref (u1 1), .ref (u2 9), .int (4 : Int32), .int (0 : Int32), .int 0, .int 0]))], (cG cyI u1 gI), (cV cyI u2 vI)] : List va_W).flatten) := hD
  refine lv_aload_n hx hb dX3_init_36 rfl (lv_at hl 0 rfl) ?_
  refine lv_iconst (v := 0) hx hb dX3_init_37 (by decide) ?_
  refine va_put (D := (dC, dI)) (ci := 3) (v := .int (0 : Int32)) (ty := .boolean) (C := RX3) (T := TX3) (N := 6) hx hb hts inX3 tyX3 tyX3_ok nmX3 hown hK.1 hP hD hS 0 rfl rfl 4 (by decide) (hts _ w_fieldLink_X3_32) (fun _ h9 => h9) rfl (by decide +kernel) rfl rfl (Nat.le_of_ble_eq_true rfl) dX3_init_38 (fun H locs hP hD hS => ?_)
  have hP : va_P (dC, dI) vwCl (([[(q, .inr (3, [.ref (u1 1), .ref (u2 9), .int (4 : Int32), .int (0 : Int32), .int (0 : Int32), .int 0]))], (cG cyI u1 gI), (cV cyI u2 vI)] : List va_W).flatten) H := hP
  have hD : va_D A (([[(q, .inr (3, [.ref (u1 1), .ref (u2 9), .int (4 : Int32), .int (0 : Int32), .int (0 : Int32), .int 0]))], (cG cyI u1 gI), (cV cyI u2 vI)] : List va_W).flatten) := hD
  refine lv_aload_n hx hb dX3_init_41 rfl (lv_at hl 0 rfl) ?_
  refine lv_iconst (v := 0) hx hb dX3_init_42 (by decide) ?_
  refine va_put (D := (dC, dI)) (ci := 3) (v := .int (0 : Int32)) (ty := .boolean) (C := RX3) (T := TX3) (N := 6) hx hb hts inX3 tyX3 tyX3_ok nmX3 hown hK.1 hP hD hS 0 rfl rfl 5 (by decide) (hts _ w_fieldLink_X3_36) (fun _ h9 => h9) rfl (by decide +kernel) rfl rfl (Nat.le_of_ble_eq_true rfl) dX3_init_43 (fun H locs hP hD hS => ?_)
  have hP : va_P (dC, dI) vwCl (([[(q, .inr (3, [.ref (u1 1), .ref (u2 9), .int (4 : Int32), .int (0 : Int32), .int (0 : Int32), .int (0 : Int32)]))], (cG cyI u1 gI), (cV cyI u2 vI)] : List va_W).flatten) H := hP
  have hD : va_D A (([[(q, .inr (3, [.ref (u1 1), .ref (u2 9), .int (4 : Int32), .int (0 : Int32), .int (0 : Int32), .int (0 : Int32)]))], (cG cyI u1 gI), (cV cyI u2 vI)] : List va_W).flatten) := hD
  refine W.widen (k := 12) (n := 108) (Nat.le_of_ble_eq_true rfl) (Nat.le_of_ble_eq_true rfl) ?_
  exact W.vret hx hb hr (fun t ht hW => ⟨⟨(adr [q, u1 1, u1 2, u1 3, u1 4, u1 5, u1 6, u1 7, u1 8, u2 9, u2 10, u2 11, u2 12]), rfl, rfl, by rw [ht]; exact hP, hD⟩, hS.F ht⟩) hS.2.2 dX3_init_46
theorem dX4_init_0 : decode cX4_init 0 = .ok (.aload_n 0, 1) := by decide +kernel
theorem dX4_init_1 : decode cX4_init 1 = .ok (.invokespecial 3, 3) := by decide +kernel
theorem dX4_init_4 : decode cX4_init 4 = .ok (.aload_n 0, 1) := by decide +kernel
theorem dX4_init_5 : decode cX4_init 5 = .ok (.bipush 60, 2) := by decide +kernel
theorem dX4_init_7 : decode cX4_init 7 = .ok (.newarray .int, 2) := by decide +kernel
theorem dX4_init_9 : decode cX4_init 9 = .ok (.putfield 9, 3) := by decide +kernel
theorem dX4_init_12 : decode cX4_init 12 = .ok (.aload_n 0, 1) := by decide +kernel
theorem dX4_init_13 : decode cX4_init 13 = .ok (.iconst 0, 1) := by decide +kernel
theorem dX4_init_14 : decode cX4_init 14 = .ok (.putfield 15, 3) := by decide +kernel
theorem dX4_init_17 : decode cX4_init 17 = .ok (.return_, 1) := by decide +kernel
set_option maxHeartbeats 4000000 in
set_option maxRecDepth 100000 in
theorem met_X4_init (l : Launch) (dC : Nat → ClassId) (dI : Nat → Nat → Nat) (cyI cyO : ClassId) (q sz : Nat) : Met l yX4_init (Cond.code yX4_init cX4_init 1 none :: wT) ({ frames := 1, cells := 1, slots := 60, locals := 12 } : Room) (wWrI dC dI cyI cyO [.ref q] (([[(q, .inr (4, dfX4))]] : List va_W).flatten) sz) (va_Qv (fun (u : (Nat → Nat)) => u 6 = q) (fun u t => va_P (dC, dI) vwCl (cT cyI u tI) t.heap ∧ va_D (va_A (([[(q, .inr (4, dfX4))]] : List va_W).flatten) sz) (cT cyI u tI)) (va_A (([[(q, .inr (4, dfX4))]] : List va_W).flatten) sz)) 1 60 (va_A (([[(q, .inr (4, dfX4))]] : List va_W).flatten) sz) := by
  refine Met.ofW (cc := cX4_init) (maxL := 1) (ret := none) (by decide) rfl ?_
  intro p e s m args below meth c s₁ B hml hv
  obtain ⟨rfl, hsz, hP, hK, hD0, hO⟩ := hv
  have hx := B.exec
  have hb := B.bytes
  have hr := B.returns
  have hts0 := atoms_spec (ws := (Cond.code yX4_init cX4_init 1 none :: wT)) B.pre
  have hts := fun w h => hts0 w (List.mem_cons_of_mem _ h)
  clear hts0
  have hown : s.vm.findClass RX4 = some m.cls := findClass_of_methodNamed B.named
  have hin2 : meth.name = "<init>" := (name_of_methodNamed B.named B.method).1
  subst hsz
  have hD := hD0.self (sz := s.heap.size)
  generalize hAe : va_A (([[(q, .inr (4, dfX4))]] : List va_W).flatten) s.heap.size = A at hD ⊢
  have hA : ∀ q : Nat, s.heap.size ≤ q → A q := fun q h => by rw [← hAe]; exact Or.inr h
  clear hD0
  have hS : va_S A s.heap s.heap [] := va_S.rf
  have hl := lv_entry [.ref q] (n := 1) (Nat.le_of_ble_eq_true rfl)
  rw [lg_entry_eq]
  generalize (lg_sl [.ref q] ++ List.replicate (1 - (lg_sl [.ref q]).length) Slot.unset).toArray = ls at hl ⊢
  have hl : lv_has ls 1 [(0, .ref q)] := hl
  refine lv_aload_n hx hb dX4_init_0 rfl (lv_at hl 0 rfl) ?_
  refine wobj hx hb hown (hts _ w_methodLink_X4_3) (hts _ w_instanceMethod_java_lang_Object__init____V) (hts _ w_code_java_lang_Object__init____V) (hl.1.trans hml.symm) dX4_init_1 (Nat.le_of_ble_eq_true rfl) (Nat.le_of_ble_eq_true rfl) ?_
  refine lv_aload_n hx hb dX4_init_4 rfl (lv_at hl 0 rfl) ?_
  refine lv_bipush (v := 60) hx hb dX4_init_5 (by decide) ?_
  refine wnewa hx hb (hts _ w_arrayClass_int) hK hP hD hS hA (n := (60 : Int32)) (N' := 60) (by decide) rfl (Nat.le_of_ble_eq_true rfl) (Nat.le_of_ble_eq_true rfl) (Nat.le_of_ble_eq_true rfl) dX4_init_7 (fun q1 H hP hD hS => ?_)
  have hP : va_P (dC, dI) vwCl (([[(q, .inr (4, [.null, .int 0]))], [cI cyI q1 60 (fun _ => 0)]] : List va_W).flatten) H := hP
  have hD : va_D A (([[(q, .inr (4, [.null, .int 0]))], [cI cyI q1 60 (fun _ => 0)]] : List va_W).flatten) := hD
  refine va_putF (D := (dC, dI)) (ci := 4) (v := .ref q1) (ty := .array .int) (C := RX4) (T := TX4) (N := 2) hx hb hts inX4 tyX4 tyX4_ok nmX4 hown hK.1 hP hD hS 0 rfl rfl 0 (by decide) (hts _ w_fieldLink_X4_9) (fun _ h9 => h9) rfl hin2 rfl (by decide +kernel) rfl rfl (Nat.le_of_ble_eq_true rfl) dX4_init_9 (fun H locs hP hD hS => ?_)
  have hP : va_P (dC, dI) vwCl (([[(q, .inr (4, [.ref q1, .int 0]))], [cI cyI q1 60 (fun _ => 0)]] : List va_W).flatten) H := hP
  have hD : va_D A (([[(q, .inr (4, [.ref q1, .int 0]))], [cI cyI q1 60 (fun _ => 0)]] : List va_W).flatten) := hD
  refine lv_aload_n hx hb dX4_init_12 rfl (lv_at hl 0 rfl) ?_
  refine lv_iconst (v := 0) hx hb dX4_init_13 (by decide) ?_
  refine va_put (D := (dC, dI)) (ci := 4) (v := .int (0 : Int32)) (ty := .int) (C := RX4) (T := TX4) (N := 2) hx hb hts inX4 tyX4 tyX4_ok nmX4 hown hK.1 hP hD hS 0 rfl rfl 1 (by decide) (hts _ w_fieldLink_X4_15) (fun _ h9 => h9) rfl (by decide +kernel) rfl rfl (Nat.le_of_ble_eq_true rfl) dX4_init_14 (fun H locs hP hD hS => ?_)
  have hP : va_P (dC, dI) vwCl (([[(q, .inr (4, [.ref q1, .int (0 : Int32)]))], [cI cyI q1 60 (fun _ => 0)]] : List va_W).flatten) H := hP
  have hD : va_D A (([[(q, .inr (4, [.ref q1, .int (0 : Int32)]))], [cI cyI q1 60 (fun _ => 0)]] : List va_W).flatten) := hD
  refine W.widen (k := 1) (n := 60) (Nat.le_of_ble_eq_true rfl) (Nat.le_of_ble_eq_true rfl) ?_
  exact W.vret hx hb hr (fun t ht hW => ⟨⟨(adr [0, 0, 0, 0, 0, 0, q, q1]), rfl, rfl, by rw [ht]; exact hP, hD⟩, hS.F ht⟩) hS.2.2 dX4_init_17
theorem dX2_init_0 : decode cX2_init 0 = .ok (.aload_n 0, 1) := by decide +kernel
theorem dX2_init_1 : decode cX2_init 1 = .ok (.invokespecial 1, 3) := by decide +kernel
theorem dX2_init_4 : decode cX2_init 4 = .ok (.aload_n 0, 1) := by decide +kernel
theorem dX2_init_5 : decode cX2_init 5 = .ok (.iload_n 1, 1) := by decide +kernel
theorem dX2_init_6 : decode cX2_init 6 = .ok (.iconst 0, 1) := by decide +kernel
theorem dX2_init_7 : decode cX2_init 7 = .ok (.invokestatic 7, 3) := by decide +kernel
theorem dX2_init_10 : decode cX2_init 10 = .ok (.anewarray 13, 3) := by decide +kernel
theorem dX2_init_13 : decode cX2_init 13 = .ok (.putfield 15, 3) := by decide +kernel
theorem dX2_init_16 : decode cX2_init 16 = .ok (.iconst 0, 1) := by decide +kernel
theorem dX2_init_17 : decode cX2_init 17 = .ok (.istore_n 2, 1) := by decide +kernel
theorem dX2_init_18 : decode cX2_init 18 = .ok (.iload_n 2, 1) := by decide +kernel
theorem dX2_init_19 : decode cX2_init 19 = .ok (.aload_n 0, 1) := by decide +kernel
theorem dX2_init_20 : decode cX2_init 20 = .ok (.getfield 15, 3) := by decide +kernel
theorem dX2_init_23 : decode cX2_init 23 = .ok (.arraylength, 1) := by decide +kernel
theorem dX2_init_24 : decode cX2_init 24 = .ok (.if_icmp .ge 22, 3) := by decide +kernel
theorem dX2_init_27 : decode cX2_init 27 = .ok (.aload_n 0, 1) := by decide +kernel
theorem dX2_init_28 : decode cX2_init 28 = .ok (.getfield 15, 3) := by decide +kernel
theorem dX2_init_31 : decode cX2_init 31 = .ok (.iload_n 2, 1) := by decide +kernel
theorem dX2_init_32 : decode cX2_init 32 = .ok (.new 13, 3) := by decide +kernel
theorem dX2_init_35 : decode cX2_init 35 = .ok (.dup, 1) := by decide +kernel
theorem dX2_init_36 : decode cX2_init 36 = .ok (.invokespecial 21, 3) := by decide +kernel
theorem dX2_init_39 : decode cX2_init 39 = .ok (.aastore, 1) := by decide +kernel
theorem dX2_init_40 : decode cX2_init 40 = .ok (.iinc 2 1, 3) := by decide +kernel
theorem dX2_init_43 : decode cX2_init 43 = .ok (.goto (-25), 3) := by decide +kernel
theorem dX2_init_46 : decode cX2_init 46 = .ok (.return_, 1) := by decide +kernel
set_option maxHeartbeats 4000000 in
set_option maxRecDepth 100000 in
theorem met_X2_init2 (l : Launch) (dC : Nat → ClassId) (dI : Nat → Nat → Nat) (cyI cyO : ClassId) (q sz : Nat) (N : Nat) : Met l yX2_init (Cond.code yX2_init cX2_init 3 none :: wT) ({ frames := 3, cells := 27, slots := 230, locals := 53 } : Room) (wWrI dC dI cyI cyO [.ref q, .int (2 : Int32)] (([[(q, .inr (2, dfX2))]] : List va_W).flatten) sz) (va_Qv (fun (u : (Nat × Nat × (Nat → Option Nat) × (Nat → Nat → Nat))) => u.1 = q ∧ u.2.2.1 0 = some (u.2.2.2 0 0) ∧ u.2.2.1 1 = some (u.2.2.2 1 0)) (fun u t => va_P (dC, dI) vwCl (([(cH cyO u.1 u.2.1 2 u.2.2.1), (cS cyI (u.2.2.2 0) sI), (cS cyI (u.2.2.2 1) sI)] : List va_W).flatten) t.heap ∧ va_D (va_A (([[(q, .inr (2, dfX2))]] : List va_W).flatten) sz) (([(cH cyO u.1 u.2.1 2 u.2.2.1), (cS cyI (u.2.2.2 0) sI), (cS cyI (u.2.2.2 1) sI)] : List va_W).flatten)) (va_A (([[(q, .inr (2, dfX2))]] : List va_W).flatten) sz)) 27 230 (va_A (([[(q, .inr (2, dfX2))]] : List va_W).flatten) sz) := by
  refine Met.ofW (cc := cX2_init) (maxL := 3) (ret := none) (by decide) rfl ?_
  intro p e s m args below meth c s₁ B hml hv
  obtain ⟨rfl, hsz, hP, hK, hD0, hO⟩ := hv
  have hx := B.exec
  have hb := B.bytes
  have hr := B.returns
  have hts0 := atoms_spec (ws := (Cond.code yX2_init cX2_init 3 none :: wT)) B.pre
  have hts := fun w h => hts0 w (List.mem_cons_of_mem _ h)
  clear hts0
  have hown : s.vm.findClass RX2 = some m.cls := findClass_of_methodNamed B.named
  have hin2 : meth.name = "<init>" := (name_of_methodNamed B.named B.method).1
  subst hsz
  have hD := hD0.self (sz := s.heap.size)
  generalize hAe : va_A (([[(q, .inr (2, dfX2))]] : List va_W).flatten) s.heap.size = A at hD ⊢
  have hA : ∀ q : Nat, s.heap.size ≤ q → A q := fun q h => by rw [← hAe]; exact Or.inr h
  clear hD0
  have hS : va_S A s.heap s.heap [] := va_S.rf
  have hl := lv_entry [.ref q, .int (2 : Int32)] (n := 3) (Nat.le_of_ble_eq_true rfl)
  rw [lg_entry_eq]
  generalize (lg_sl [.ref q, .int (2 : Int32)] ++ List.replicate (3 - (lg_sl [.ref q, .int (2 : Int32)]).length) Slot.unset).toArray = ls at hl ⊢
  have hl : lv_has ls 3 [(0, .ref q), (1, .int (2 : Int32))] := hl
  refine lv_aload_n hx hb dX2_init_0 rfl (lv_at hl 0 rfl) ?_
  refine wobj hx hb hown (hts _ w_methodLink_X2_1) (hts _ w_instanceMethod_java_lang_Object__init____V) (hts _ w_code_java_lang_Object__init____V) (hl.1.trans hml.symm) dX2_init_1 (Nat.le_of_ble_eq_true rfl) (Nat.le_of_ble_eq_true rfl) ?_
  refine lv_aload_n hx hb dX2_init_4 rfl (lv_at hl 0 rfl) ?_
  refine lv_iload_n hx hb dX2_init_5 rfl (lv_at hl 1 rfl) ?_
  refine lv_iconst (v := 0) hx hb dX2_init_6 (by decide) ?_
  refine wcRSi (As := [.int (2 : Int32), .int (0 : Int32)]) (rest := [.ref q]) ⟨hx, hb, hml, hown, hts⟩ (met_J9_max_7cf53 l dC dI cyI cyO N (2 : Int32) (0 : Int32) (2 : Int32) (by rfl)) (va_cwS 2 hts (gS w_methodLink_X2_7 w_static_J9_max_7cf53 w_initialized_J9 w_code_J9_max_7cf53) rfl rfl rfl (by decide +kernel) ⟨Nat.le_of_ble_eq_true rfl, Nat.le_of_ble_eq_true rfl⟩) hP hK [] rfl rfl hl.1 (Nat.le_of_ble_eq_true rfl) dX2_init_7 ⟨Nat.le_of_ble_eq_true rfl, Nat.le_of_ble_eq_true rfl⟩ hS (fun r H locs hw hP hS => ?_)
  have hw := hw.symm
  subst hw
  refine wnewq hx hb hown (hts _ w_classLink_X2_13) hO hK hP hD hS hA (n := (2 : Int32)) (N' := 2) (by decide) rfl (Nat.le_of_ble_eq_true rfl) (Nat.le_of_ble_eq_true rfl) (Nat.le_of_ble_eq_true rfl) dX2_init_10 (fun q1 H hP hD hS => ?_)
  have hP : va_P (dC, dI) vwCl (([[(q, .inr (2, [.null]))], [cA cyO q1 2 (fun _ => none)]] : List va_W).flatten) H := hP
  have hD : va_D A (([[(q, .inr (2, [.null]))], [cA cyO q1 2 (fun _ => none)]] : List va_W).flatten) := hD
  refine va_putF (D := (dC, dI)) (ci := 2) (v := .ref q1) (ty := .array (.object "WombatBowls$State")) (C := RX2) (T := TX2) (N := 1) hx hb hts inX2 tyX2 tyX2_ok nmX2 hown hK.1 hP hD hS 0 rfl rfl 0 (by decide) (hts _ w_fieldLink_X2_15) (fun _ h9 => h9) rfl hin2 rfl (by decide +kernel) rfl rfl (Nat.le_of_ble_eq_true rfl) dX2_init_13 (fun H locs hP hD hS => ?_)
  have hP : va_P (dC, dI) vwCl (([[(q, .inr (2, [.ref q1]))], [cA cyO q1 2 (fun _ => none)]] : List va_W).flatten) H := hP
  have hD : va_D A (([[(q, .inr (2, [.ref q1]))], [cA cyO q1 2 (fun _ => none)]] : List va_W).flatten) := hD
  refine lv_iconst (v := 0) hx hb dX2_init_16 (by decide) ?_
  refine lv_istore_n (lv' := [(2, .int (0 : Int32)), (0, .ref q), (1, .int (2 : Int32))]) hx hb dX2_init_17 rfl hl (by decide) rfl (fun ls hl => ?_)
  refine lv_iload_n hx hb dX2_init_18 rfl (lv_at hl 0 rfl) ?_
  refine lv_aload_n hx hb dX2_init_19 rfl (lv_at hl 1 rfl) ?_
  refine va_get (D := (dC, dI)) (ci := 2) (v := .ref q1) (C := RX2) (T := TX2) (N := 1) hx hb hts inX2 hown hK.1 hP 0 rfl rfl 0 (by decide) (hts _ w_fieldLink_X2_15) (fun _ h9 => h9) rfl dX2_init_20 ?_
  refine va_alen hx hb hK.1 hP 1 1 rfl rfl (v := (2 : Int32)) rfl dX2_init_23 ?_
  refine lv_icmp_ge (tgt := 46) hx hb dX2_init_24 (by decide) (fun c9 => ?_) (fun c9 => ?_)
  · exact absurd c9 (by decide)
  refine lv_aload_n hx hb dX2_init_27 rfl (lv_at hl 1 rfl) ?_
  refine va_get (D := (dC, dI)) (ci := 2) (v := .ref q1) (C := RX2) (T := TX2) (N := 1) hx hb hts inX2 hown hK.1 hP 0 rfl rfl 0 (by decide) (hts _ w_fieldLink_X2_15) (fun _ h9 => h9) rfl dX2_init_28 ?_
  refine lv_iload_n hx hb dX2_init_31 rfl (lv_at hl 0 rfl) ?_
  refine va_new (D := (dC, dI)) (ci := 3) (C := RX3) (T := TX3) (N := 6) (fs := dfX3) hx hb hts inX3 tyX3 tyX3_ok hown (hts _ w_classLink_X2_13) (hts _ w_instantiable_X3) (hts _ w_initialized_X3) hK.1 hP hD hS hA rfl dfX3_ok (Nat.le_of_ble_eq_true rfl) (Nat.le_of_ble_eq_true rfl) dX2_init_32 (fun q2 H hP hD hS => ?_)
  have hP : va_P (dC, dI) vwCl (([[(q, .inr (2, [.ref q1]))], [cA cyO q1 2 (fun _ => none)], [(q2, .inr (3, dfX3))]] : List va_W).flatten) H := hP.psh
  have hD : va_D A (([[(q, .inr (2, [.ref q1]))], [cA cyO q1 2 (fun _ => none)], [(q2, .inr (3, dfX3))]] : List va_W).flatten) := hD.psh
  refine lv_dup hx hb dX2_init_35 rfl ?_
  refine wcIN (As := []) (rest := [.ref q2, .int (0 : Int32), .ref q1]) (wr := ([[(q, .inr (2, [.ref q1]))], [cA cyO q1 2 (fun _ => none)]] : List va_W).flatten) (b := q2) ⟨hx, hb, hml, hown, hts⟩ (met_X3_init l dC dI cyI cyO q2 _) ⟨va_cnB 0 hts (gCode w_code_X3_init) rfl rfl rfl (hK.2 _ n_X2_21) (hts _ w_initialized_X3) (by decide +kernel) ⟨Nat.le_of_ble_eq_true rfl, Nat.le_of_ble_eq_true rfl⟩, rfl, hts _ w_instanceMethod_X3_init⟩ hP hD hK hO (seg_perm (n := 3) (R := [[(q, .inr (2, [.ref q1]))], [cA cyO q1 2 (fun _ => none)]]) (C := [[(q2, .inr (3, dfX3))]]) [0, 1] [2] rfl rfl rfl (by decide) rfl) rfl hl.1 (Nat.le_of_ble_eq_true rfl) dX2_init_36 ⟨Nat.le_of_ble_eq_true rfl, Nat.le_of_ble_eq_true rfl⟩ hS hA (fun u1 H locs hw hP1 hD1 hS => ?_)
  have hw := hw.symm
  subst hw
  have hq := seg_permS (segs := [[(q, .inr (2, [.ref q1]))], [cA cyO q1 2 (fun _ => none)], (cS cyI u1 sI)]) (R := [[(q, .inr (2, [.ref q1]))], [cA cyO q1 2 (fun _ => none)]]) (C := [(cS cyI u1 sI)]) (n := 3) [0, 1] [2] rfl rfl rfl (by decide)
  have hP : va_P (dC, dI) vwCl (([[(q, .inr (2, [.ref q1]))], [cA cyO q1 2 (fun _ => none)], (cS cyI u1 sI)] : List va_W).flatten) H := hP1.perm hq
  have hD : va_D A (([[(q, .inr (2, [.ref q1]))], [cA cyO q1 2 (fun _ => none)], (cS cyI u1 sI)] : List va_W).flatten) := hD1.perm hq
  clear hq hP1 hD1
  refine va_astq hx hb hK.1 hP hD hS 1 1 2 3 rfl rfl rfl rfl (i := (0 : Int32)) (show ixok (0 : Int32) 2 by decide) dX2_init_39 (fun H locs hP hD hS => ?_)
  have hP : va_P (dC, dI) vwCl (([[(q, .inr (2, [.ref q1]))], [cA cyO q1 2 (va_up (fun _ => none) (0 : Int32).toNatClampNeg (some (u1 0)))], (cS cyI u1 sI)] : List va_W).flatten) H := hP
  have hD : va_D A (([[(q, .inr (2, [.ref q1]))], [cA cyO q1 2 (va_up (fun _ => none) (0 : Int32).toNatClampNeg (some (u1 0)))], (cS cyI u1 sI)] : List va_W).flatten) := hD
  refine lv_iinc (v := (1 : Int32)) (lv' := [(2, .int (1 : Int32)), (0, .ref q), (1, .int (2 : Int32))]) hx hb dX2_init_40 hl (k := 0) rfl (by decide) (by decide) rfl (fun ls hl => ?_)
  refine lv_goto (tgt := 18) hx hb dX2_init_43 (by decide) ?_
  refine lv_iload_n hx hb dX2_init_18 rfl (lv_at hl 0 rfl) ?_
  refine lv_aload_n hx hb dX2_init_19 rfl (lv_at hl 1 rfl) ?_
  refine va_get (D := (dC, dI)) (ci := 2) (v := .ref q1) (C := RX2) (T := TX2) (N := 1) hx hb hts inX2 hown hK.1 hP 0 rfl rfl 0 (by decide) (hts _ w_fieldLink_X2_15) (fun _ h9 => h9) rfl dX2_init_20 ?_
  refine va_alen hx hb hK.1 hP 1 1 rfl rfl (v := (2 : Int32)) rfl dX2_init_23 ?_
  refine lv_icmp_ge (tgt := 46) hx hb dX2_init_24 (by decide) (fun c9 => ?_) (fun c9 => ?_)
  · exact absurd c9 (by decide)
  refine lv_aload_n hx hb dX2_init_27 rfl (lv_at hl 1 rfl) ?_
  refine va_get (D := (dC, dI)) (ci := 2) (v := .ref q1) (C := RX2) (T := TX2) (N := 1) hx hb hts inX2 hown hK.1 hP 0 rfl rfl 0 (by decide) (hts _ w_fieldLink_X2_15) (fun _ h9 => h9) rfl dX2_init_28 ?_
  refine lv_iload_n hx hb dX2_init_31 rfl (lv_at hl 0 rfl) ?_
  refine va_new (D := (dC, dI)) (ci := 3) (C := RX3) (T := TX3) (N := 6) (fs := dfX3) hx hb hts inX3 tyX3 tyX3_ok hown (hts _ w_classLink_X2_13) (hts _ w_instantiable_X3) (hts _ w_initialized_X3) hK.1 hP hD hS hA rfl dfX3_ok (Nat.le_of_ble_eq_true rfl) (Nat.le_of_ble_eq_true rfl) dX2_init_32 (fun q3 H hP hD hS => ?_)
  have hP : va_P (dC, dI) vwCl (([[(q, .inr (2, [.ref q1]))], [cA cyO q1 2 (va_up (fun _ => none) (0 : Int32).toNatClampNeg (some (u1 0)))], (cS cyI u1 sI), [(q3, .inr (3, dfX3))]] : List va_W).flatten) H := hP.psh
  have hD : va_D A (([[(q, .inr (2, [.ref q1]))], [cA cyO q1 2 (va_up (fun _ => none) (0 : Int32).toNatClampNeg (some (u1 0)))], (cS cyI u1 sI), [(q3, .inr (3, dfX3))]] : List va_W).flatten) := hD.psh
  refine lv_dup hx hb dX2_init_35 rfl ?_
  refine wcIN (As := []) (rest := [.ref q3, .int (1 : Int32), .ref q1]) (wr := ([[(q, .inr (2, [.ref q1]))], [cA cyO q1 2 (va_up (fun _ => none) (0 : Int32).toNatClampNeg (some (u1 0)))], (cS cyI u1 sI)] : List va_W).flatten) (b := q3) ⟨hx, hb, hml, hown, hts⟩ (met_X3_init l dC dI cyI cyO q3 _) ⟨va_cnB 0 hts (gCode w_code_X3_init) rfl rfl rfl (hK.2 _ n_X2_21) (hts _ w_initialized_X3) (by decide +kernel) ⟨Nat.le_of_ble_eq_true rfl, Nat.le_of_ble_eq_true rfl⟩, rfl, hts _ w_instanceMethod_X3_init⟩ hP hD hK hO (seg_perm (n := 4) (R := [[(q, .inr (2, [.ref q1]))], [cA cyO q1 2 (va_up (fun _ => none) (0 : Int32).toNatClampNeg (some (u1 0)))], (cS cyI u1 sI)]) (C := [[(q3, .inr (3, dfX3))]]) [0, 1, 2] [3] rfl rfl rfl (by decide) rfl) rfl hl.1 (Nat.le_of_ble_eq_true rfl) dX2_init_36 ⟨Nat.le_of_ble_eq_true rfl, Nat.le_of_ble_eq_true rfl⟩ hS hA (fun u2 H locs hw hP1 hD1 hS => ?_)
  have hw := hw.symm
  subst hw
  have hq := seg_permS (segs := [[(q, .inr (2, [.ref q1]))], [cA cyO q1 2 (va_up (fun _ => none) (0 : Int32).toNatClampNeg (some (u1 0)))], (cS cyI u1 sI), (cS cyI u2 sI)]) (R := [[(q, .inr (2, [.ref q1]))], [cA cyO q1 2 (va_up (fun _ => none) (0 : Int32).toNatClampNeg (some (u1 0)))], (cS cyI u1 sI)]) (C := [(cS cyI u2 sI)]) (n := 4) [0, 1, 2] [3] rfl rfl rfl (by decide)
  have hP : va_P (dC, dI) vwCl (([[(q, .inr (2, [.ref q1]))], [cA cyO q1 2 (va_up (fun _ => none) (0 : Int32).toNatClampNeg (some (u1 0)))], (cS cyI u1 sI), (cS cyI u2 sI)] : List va_W).flatten) H := hP1.perm hq
  have hD : va_D A (([[(q, .inr (2, [.ref q1]))], [cA cyO q1 2 (va_up (fun _ => none) (0 : Int32).toNatClampNeg (some (u1 0)))], (cS cyI u1 sI), (cS cyI u2 sI)] : List va_W).flatten) := hD1.perm hq
  clear hq hP1 hD1
  refine va_astq hx hb hK.1 hP hD hS 1 1 15 3 rfl rfl rfl rfl (i := (1 : Int32)) (show ixok (1 : Int32) 2 by decide) dX2_init_39 (fun H locs hP hD hS => ?_)
  have hP : va_P (dC, dI) vwCl (([[(q, .inr (2, [.ref q1]))], [cA cyO q1 2 (va_up (va_up (fun _ => none) (0 : Int32).toNatClampNeg (some (u1 0))) (1 : Int32).toNatClampNeg (some (u2 0)))], (cS cyI u1 sI), (cS cyI u2 sI)] : List va_W).flatten) H := hP
  have hD : va_D A (([[(q, .inr (2, [.ref q1]))], [cA cyO q1 2 (va_up (va_up (fun _ => none) (0 : Int32).toNatClampNeg (some (u1 0))) (1 : Int32).toNatClampNeg (some (u2 0)))], (cS cyI u1 sI), (cS cyI u2 sI)] : List va_W).flatten) := hD
  refine lv_iinc (v := (2 : Int32)) (lv' := [(2, .int (2 : Int32)), (0, .ref q), (1, .int (2 : Int32))]) hx hb dX2_init_40 hl (k := 0) rfl (by decide) (by decide) rfl (fun ls hl => ?_)
  refine lv_goto (tgt := 18) hx hb dX2_init_43 (by decide) ?_
  refine lv_iload_n hx hb dX2_init_18 rfl (lv_at hl 0 rfl) ?_
  refine lv_aload_n hx hb dX2_init_19 rfl (lv_at hl 1 rfl) ?_
  refine va_get (D := (dC, dI)) (ci := 2) (v := .ref q1) (C := RX2) (T := TX2) (N := 1) hx hb hts inX2 hown hK.1 hP 0 rfl rfl 0 (by decide) (hts _ w_fieldLink_X2_15) (fun _ h9 => h9) rfl dX2_init_20 ?_
  refine va_alen hx hb hK.1 hP 1 1 rfl rfl (v := (2 : Int32)) rfl dX2_init_23 ?_
  refine lv_icmp_ge (tgt := 46) hx hb dX2_init_24 (by decide) (fun c9 => ?_) (fun c9 => ?_)
  rotate_left
  · exact absurd (show (2 : Int32) ≤ 2 by decide) c9
  refine W.widen (k := 27) (n := 230) (Nat.le_of_ble_eq_true rfl) (Nat.le_of_ble_eq_true rfl) ?_
  exact W.vret hx hb hr (fun t ht hW => ⟨⟨(q, q1, (va_up (va_up (fun _ => none) (0 : Int32).toNatClampNeg (some (u1 0))) (1 : Int32).toNatClampNeg (some (u2 0))), fun k => ([u1, u2] : List (Nat → Nat)).getD k (fun _ => 0)), rfl, ⟨rfl, rfl, rfl⟩, by rw [ht]; exact hP, hD⟩, hS.F ht⟩) hS.2.2 dX2_init_46
set_option maxHeartbeats 4000000 in
set_option maxRecDepth 100000 in
theorem met_X2_init6 (l : Launch) (dC : Nat → ClassId) (dI : Nat → Nat → Nat) (cyI cyO : ClassId) (q sz : Nat) (N : Nat) : Met l yX2_init (Cond.code yX2_init cX2_init 3 none :: wT) ({ frames := 3, cells := 79, slots := 690, locals := 53 } : Room) (wWrI dC dI cyI cyO [.ref q, .int (6 : Int32)] (([[(q, .inr (2, dfX2))]] : List va_W).flatten) sz) (va_Qv (fun (u : (Nat × Nat × (Nat → Option Nat) × (Nat → Nat → Nat))) => u.1 = q ∧ u.2.2.1 0 = some (u.2.2.2 0 0) ∧ u.2.2.1 1 = some (u.2.2.2 1 0) ∧ u.2.2.1 2 = some (u.2.2.2 2 0) ∧ u.2.2.1 3 = some (u.2.2.2 3 0) ∧ u.2.2.1 4 = some (u.2.2.2 4 0) ∧ u.2.2.1 5 = some (u.2.2.2 5 0)) (fun u t => va_P (dC, dI) vwCl (([(cH cyO u.1 u.2.1 6 u.2.2.1), (cS cyI (u.2.2.2 0) sI), (cS cyI (u.2.2.2 1) sI), (cS cyI (u.2.2.2 2) sI), (cS cyI (u.2.2.2 3) sI), (cS cyI (u.2.2.2 4) sI), (cS cyI (u.2.2.2 5) sI)] : List va_W).flatten) t.heap ∧ va_D (va_A (([[(q, .inr (2, dfX2))]] : List va_W).flatten) sz) (([(cH cyO u.1 u.2.1 6 u.2.2.1), (cS cyI (u.2.2.2 0) sI), (cS cyI (u.2.2.2 1) sI), (cS cyI (u.2.2.2 2) sI), (cS cyI (u.2.2.2 3) sI), (cS cyI (u.2.2.2 4) sI), (cS cyI (u.2.2.2 5) sI)] : List va_W).flatten)) (va_A (([[(q, .inr (2, dfX2))]] : List va_W).flatten) sz)) 79 690 (va_A (([[(q, .inr (2, dfX2))]] : List va_W).flatten) sz) := by
  refine Met.ofW (cc := cX2_init) (maxL := 3) (ret := none) (by decide) rfl ?_
  intro p e s m args below meth c s₁ B hml hv
  obtain ⟨rfl, hsz, hP, hK, hD0, hO⟩ := hv
  have hx := B.exec
  have hb := B.bytes
  have hr := B.returns
  have hts0 := atoms_spec (ws := (Cond.code yX2_init cX2_init 3 none :: wT)) B.pre
  have hts := fun w h => hts0 w (List.mem_cons_of_mem _ h)
  clear hts0
  have hown : s.vm.findClass RX2 = some m.cls := findClass_of_methodNamed B.named
  have hin2 : meth.name = "<init>" := (name_of_methodNamed B.named B.method).1
  subst hsz
  have hD := hD0.self (sz := s.heap.size)
  generalize hAe : va_A (([[(q, .inr (2, dfX2))]] : List va_W).flatten) s.heap.size = A at hD ⊢
  have hA : ∀ q : Nat, s.heap.size ≤ q → A q := fun q h => by rw [← hAe]; exact Or.inr h
  clear hD0
  have hS : va_S A s.heap s.heap [] := va_S.rf
  have hl := lv_entry [.ref q, .int (6 : Int32)] (n := 3) (Nat.le_of_ble_eq_true rfl)
  rw [lg_entry_eq]
  generalize (lg_sl [.ref q, .int (6 : Int32)] ++ List.replicate (3 - (lg_sl [.ref q, .int (6 : Int32)]).length) Slot.unset).toArray = ls at hl ⊢
  have hl : lv_has ls 3 [(0, .ref q), (1, .int (6 : Int32))] := hl
  refine lv_aload_n hx hb dX2_init_0 rfl (lv_at hl 0 rfl) ?_
  refine wobj hx hb hown (hts _ w_methodLink_X2_1) (hts _ w_instanceMethod_java_lang_Object__init____V) (hts _ w_code_java_lang_Object__init____V) (hl.1.trans hml.symm) dX2_init_1 (Nat.le_of_ble_eq_true rfl) (Nat.le_of_ble_eq_true rfl) ?_
  refine lv_aload_n hx hb dX2_init_4 rfl (lv_at hl 0 rfl) ?_
  refine lv_iload_n hx hb dX2_init_5 rfl (lv_at hl 1 rfl) ?_
  refine lv_iconst (v := 0) hx hb dX2_init_6 (by decide) ?_
  refine wcRSi (As := [.int (6 : Int32), .int (0 : Int32)]) (rest := [.ref q]) ⟨hx, hb, hml, hown, hts⟩ (met_J9_max_7cf53 l dC dI cyI cyO N (6 : Int32) (0 : Int32) (6 : Int32) (by rfl)) (va_cwS 2 hts (gS w_methodLink_X2_7 w_static_J9_max_7cf53 w_initialized_J9 w_code_J9_max_7cf53) rfl rfl rfl (by decide +kernel) ⟨Nat.le_of_ble_eq_true rfl, Nat.le_of_ble_eq_true rfl⟩) hP hK [] rfl rfl hl.1 (Nat.le_of_ble_eq_true rfl) dX2_init_7 ⟨Nat.le_of_ble_eq_true rfl, Nat.le_of_ble_eq_true rfl⟩ hS (fun r H locs hw hP hS => ?_)
  have hw := hw.symm
  subst hw
  refine wnewq hx hb hown (hts _ w_classLink_X2_13) hO hK hP hD hS hA (n := (6 : Int32)) (N' := 6) (by decide) rfl (Nat.le_of_ble_eq_true rfl) (Nat.le_of_ble_eq_true rfl) (Nat.le_of_ble_eq_true rfl) dX2_init_10 (fun q1 H hP hD hS => ?_)
  have hP : va_P (dC, dI) vwCl (([[(q, .inr (2, [.null]))], [cA cyO q1 6 (fun _ => none)]] : List va_W).flatten) H := hP
  have hD : va_D A (([[(q, .inr (2, [.null]))], [cA cyO q1 6 (fun _ => none)]] : List va_W).flatten) := hD
  refine va_putF (D := (dC, dI)) (ci := 2) (v := .ref q1) (ty := .array (.object "WombatBowls$State")) (C := RX2) (T := TX2) (N := 1) hx hb hts inX2 tyX2 tyX2_ok nmX2 hown hK.1 hP hD hS 0 rfl rfl 0 (by decide) (hts _ w_fieldLink_X2_15) (fun _ h9 => h9) rfl hin2 rfl (by decide +kernel) rfl rfl (Nat.le_of_ble_eq_true rfl) dX2_init_13 (fun H locs hP hD hS => ?_)
  have hP : va_P (dC, dI) vwCl (([[(q, .inr (2, [.ref q1]))], [cA cyO q1 6 (fun _ => none)]] : List va_W).flatten) H := hP
  have hD : va_D A (([[(q, .inr (2, [.ref q1]))], [cA cyO q1 6 (fun _ => none)]] : List va_W).flatten) := hD
  refine lv_iconst (v := 0) hx hb dX2_init_16 (by decide) ?_
  refine lv_istore_n (lv' := [(2, .int (0 : Int32)), (0, .ref q), (1, .int (6 : Int32))]) hx hb dX2_init_17 rfl hl (by decide) rfl (fun ls hl => ?_)
  refine lv_iload_n hx hb dX2_init_18 rfl (lv_at hl 0 rfl) ?_
  refine lv_aload_n hx hb dX2_init_19 rfl (lv_at hl 1 rfl) ?_
  refine va_get (D := (dC, dI)) (ci := 2) (v := .ref q1) (C := RX2) (T := TX2) (N := 1) hx hb hts inX2 hown hK.1 hP 0 rfl rfl 0 (by decide) (hts _ w_fieldLink_X2_15) (fun _ h9 => h9) rfl dX2_init_20 ?_
  refine va_alen hx hb hK.1 hP 1 1 rfl rfl (v := (6 : Int32)) rfl dX2_init_23 ?_
  refine lv_icmp_ge (tgt := 46) hx hb dX2_init_24 (by decide) (fun c9 => ?_) (fun c9 => ?_)
  · exact absurd c9 (by decide)
  refine lv_aload_n hx hb dX2_init_27 rfl (lv_at hl 1 rfl) ?_
  refine va_get (D := (dC, dI)) (ci := 2) (v := .ref q1) (C := RX2) (T := TX2) (N := 1) hx hb hts inX2 hown hK.1 hP 0 rfl rfl 0 (by decide) (hts _ w_fieldLink_X2_15) (fun _ h9 => h9) rfl dX2_init_28 ?_
  refine lv_iload_n hx hb dX2_init_31 rfl (lv_at hl 0 rfl) ?_
  refine va_new (D := (dC, dI)) (ci := 3) (C := RX3) (T := TX3) (N := 6) (fs := dfX3) hx hb hts inX3 tyX3 tyX3_ok hown (hts _ w_classLink_X2_13) (hts _ w_instantiable_X3) (hts _ w_initialized_X3) hK.1 hP hD hS hA rfl dfX3_ok (Nat.le_of_ble_eq_true rfl) (Nat.le_of_ble_eq_true rfl) dX2_init_32 (fun q2 H hP hD hS => ?_)
  have hP : va_P (dC, dI) vwCl (([[(q, .inr (2, [.ref q1]))], [cA cyO q1 6 (fun _ => none)], [(q2, .inr (3, dfX3))]] : List va_W).flatten) H := hP.psh
  have hD : va_D A (([[(q, .inr (2, [.ref q1]))], [cA cyO q1 6 (fun _ => none)], [(q2, .inr (3, dfX3))]] : List va_W).flatten) := hD.psh
  refine lv_dup hx hb dX2_init_35 rfl ?_
  refine wcIN (As := []) (rest := [.ref q2, .int (0 : Int32), .ref q1]) (wr := ([[(q, .inr (2, [.ref q1]))], [cA cyO q1 6 (fun _ => none)]] : List va_W).flatten) (b := q2) ⟨hx, hb, hml, hown, hts⟩ (met_X3_init l dC dI cyI cyO q2 _) ⟨va_cnB 0 hts (gCode w_code_X3_init) rfl rfl rfl (hK.2 _ n_X2_21) (hts _ w_initialized_X3) (by decide +kernel) ⟨Nat.le_of_ble_eq_true rfl, Nat.le_of_ble_eq_true rfl⟩, rfl, hts _ w_instanceMethod_X3_init⟩ hP hD hK hO (seg_perm (n := 3) (R := [[(q, .inr (2, [.ref q1]))], [cA cyO q1 6 (fun _ => none)]]) (C := [[(q2, .inr (3, dfX3))]]) [0, 1] [2] rfl rfl rfl (by decide) rfl) rfl hl.1 (Nat.le_of_ble_eq_true rfl) dX2_init_36 ⟨Nat.le_of_ble_eq_true rfl, Nat.le_of_ble_eq_true rfl⟩ hS hA (fun u1 H locs hw hP1 hD1 hS => ?_)
  have hw := hw.symm
  subst hw
  have hq := seg_permS (segs := [[(q, .inr (2, [.ref q1]))], [cA cyO q1 6 (fun _ => none)], (cS cyI u1 sI)]) (R := [[(q, .inr (2, [.ref q1]))], [cA cyO q1 6 (fun _ => none)]]) (C := [(cS cyI u1 sI)]) (n := 3) [0, 1] [2] rfl rfl rfl (by decide)
  have hP : va_P (dC, dI) vwCl (([[(q, .inr (2, [.ref q1]))], [cA cyO q1 6 (fun _ => none)], (cS cyI u1 sI)] : List va_W).flatten) H := hP1.perm hq
  have hD : va_D A (([[(q, .inr (2, [.ref q1]))], [cA cyO q1 6 (fun _ => none)], (cS cyI u1 sI)] : List va_W).flatten) := hD1.perm hq
  clear hq hP1 hD1
  refine va_astq hx hb hK.1 hP hD hS 1 1 2 3 rfl rfl rfl rfl (i := (0 : Int32)) (show ixok (0 : Int32) 6 by decide) dX2_init_39 (fun H locs hP hD hS => ?_)
  have hP : va_P (dC, dI) vwCl (([[(q, .inr (2, [.ref q1]))], [cA cyO q1 6 (va_up (fun _ => none) (0 : Int32).toNatClampNeg (some (u1 0)))], (cS cyI u1 sI)] : List va_W).flatten) H := hP
  have hD : va_D A (([[(q, .inr (2, [.ref q1]))], [cA cyO q1 6 (va_up (fun _ => none) (0 : Int32).toNatClampNeg (some (u1 0)))], (cS cyI u1 sI)] : List va_W).flatten) := hD
  refine lv_iinc (v := (1 : Int32)) (lv' := [(2, .int (1 : Int32)), (0, .ref q), (1, .int (6 : Int32))]) hx hb dX2_init_40 hl (k := 0) rfl (by decide) (by decide) rfl (fun ls hl => ?_)
  refine lv_goto (tgt := 18) hx hb dX2_init_43 (by decide) ?_
  refine lv_iload_n hx hb dX2_init_18 rfl (lv_at hl 0 rfl) ?_
  refine lv_aload_n hx hb dX2_init_19 rfl (lv_at hl 1 rfl) ?_
  refine va_get (D := (dC, dI)) (ci := 2) (v := .ref q1) (C := RX2) (T := TX2) (N := 1) hx hb hts inX2 hown hK.1 hP 0 rfl rfl 0 (by decide) (hts _ w_fieldLink_X2_15) (fun _ h9 => h9) rfl dX2_init_20 ?_
  refine va_alen hx hb hK.1 hP 1 1 rfl rfl (v := (6 : Int32)) rfl dX2_init_23 ?_
  refine lv_icmp_ge (tgt := 46) hx hb dX2_init_24 (by decide) (fun c9 => ?_) (fun c9 => ?_)
  · exact absurd c9 (by decide)
  refine lv_aload_n hx hb dX2_init_27 rfl (lv_at hl 1 rfl) ?_
  refine va_get (D := (dC, dI)) (ci := 2) (v := .ref q1) (C := RX2) (T := TX2) (N := 1) hx hb hts inX2 hown hK.1 hP 0 rfl rfl 0 (by decide) (hts _ w_fieldLink_X2_15) (fun _ h9 => h9) rfl dX2_init_28 ?_
  refine lv_iload_n hx hb dX2_init_31 rfl (lv_at hl 0 rfl) ?_
  refine va_new (D := (dC, dI)) (ci := 3) (C := RX3) (T := TX3) (N := 6) (fs := dfX3) hx hb hts inX3 tyX3 tyX3_ok hown (hts _ w_classLink_X2_13) (hts _ w_instantiable_X3) (hts _ w_initialized_X3) hK.1 hP hD hS hA rfl dfX3_ok (Nat.le_of_ble_eq_true rfl) (Nat.le_of_ble_eq_true rfl) dX2_init_32 (fun q3 H hP hD hS => ?_)
  have hP : va_P (dC, dI) vwCl (([[(q, .inr (2, [.ref q1]))], [cA cyO q1 6 (va_up (fun _ => none) (0 : Int32).toNatClampNeg (some (u1 0)))], (cS cyI u1 sI), [(q3, .inr (3, dfX3))]] : List va_W).flatten) H := hP.psh
  have hD : va_D A (([[(q, .inr (2, [.ref q1]))], [cA cyO q1 6 (va_up (fun _ => none) (0 : Int32).toNatClampNeg (some (u1 0)))], (cS cyI u1 sI), [(q3, .inr (3, dfX3))]] : List va_W).flatten) := hD.psh
  refine lv_dup hx hb dX2_init_35 rfl ?_
  refine wcIN (As := []) (rest := [.ref q3, .int (1 : Int32), .ref q1]) (wr := ([[(q, .inr (2, [.ref q1]))], [cA cyO q1 6 (va_up (fun _ => none) (0 : Int32).toNatClampNeg (some (u1 0)))], (cS cyI u1 sI)] : List va_W).flatten) (b := q3) ⟨hx, hb, hml, hown, hts⟩ (met_X3_init l dC dI cyI cyO q3 _) ⟨va_cnB 0 hts (gCode w_code_X3_init) rfl rfl rfl (hK.2 _ n_X2_21) (hts _ w_initialized_X3) (by decide +kernel) ⟨Nat.le_of_ble_eq_true rfl, Nat.le_of_ble_eq_true rfl⟩, rfl, hts _ w_instanceMethod_X3_init⟩ hP hD hK hO (seg_perm (n := 4) (R := [[(q, .inr (2, [.ref q1]))], [cA cyO q1 6 (va_up (fun _ => none) (0 : Int32).toNatClampNeg (some (u1 0)))], (cS cyI u1 sI)]) (C := [[(q3, .inr (3, dfX3))]]) [0, 1, 2] [3] rfl rfl rfl (by decide) rfl) rfl hl.1 (Nat.le_of_ble_eq_true rfl) dX2_init_36 ⟨Nat.le_of_ble_eq_true rfl, Nat.le_of_ble_eq_true rfl⟩ hS hA (fun u2 H locs hw hP1 hD1 hS => ?_)
  have hw := hw.symm
  subst hw
  have hq := seg_permS (segs := [[(q, .inr (2, [.ref q1]))], [cA cyO q1 6 (va_up (fun _ => none) (0 : Int32).toNatClampNeg (some (u1 0)))], (cS cyI u1 sI), (cS cyI u2 sI)]) (R := [[(q, .inr (2, [.ref q1]))], [cA cyO q1 6 (va_up (fun _ => none) (0 : Int32).toNatClampNeg (some (u1 0)))], (cS cyI u1 sI)]) (C := [(cS cyI u2 sI)]) (n := 4) [0, 1, 2] [3] rfl rfl rfl (by decide)
  have hP : va_P (dC, dI) vwCl (([[(q, .inr (2, [.ref q1]))], [cA cyO q1 6 (va_up (fun _ => none) (0 : Int32).toNatClampNeg (some (u1 0)))], (cS cyI u1 sI), (cS cyI u2 sI)] : List va_W).flatten) H := hP1.perm hq
  have hD : va_D A (([[(q, .inr (2, [.ref q1]))], [cA cyO q1 6 (va_up (fun _ => none) (0 : Int32).toNatClampNeg (some (u1 0)))], (cS cyI u1 sI), (cS cyI u2 sI)] : List va_W).flatten) := hD1.perm hq
  clear hq hP1 hD1
  refine va_astq hx hb hK.1 hP hD hS 1 1 15 3 rfl rfl rfl rfl (i := (1 : Int32)) (show ixok (1 : Int32) 6 by decide) dX2_init_39 (fun H locs hP hD hS => ?_)
  have hP : va_P (dC, dI) vwCl (([[(q, .inr (2, [.ref q1]))], [cA cyO q1 6 (va_up (va_up (fun _ => none) (0 : Int32).toNatClampNeg (some (u1 0))) (1 : Int32).toNatClampNeg (some (u2 0)))], (cS cyI u1 sI), (cS cyI u2 sI)] : List va_W).flatten) H := hP
  have hD : va_D A (([[(q, .inr (2, [.ref q1]))], [cA cyO q1 6 (va_up (va_up (fun _ => none) (0 : Int32).toNatClampNeg (some (u1 0))) (1 : Int32).toNatClampNeg (some (u2 0)))], (cS cyI u1 sI), (cS cyI u2 sI)] : List va_W).flatten) := hD
  refine lv_iinc (v := (2 : Int32)) (lv' := [(2, .int (2 : Int32)), (0, .ref q), (1, .int (6 : Int32))]) hx hb dX2_init_40 hl (k := 0) rfl (by decide) (by decide) rfl (fun ls hl => ?_)
  refine lv_goto (tgt := 18) hx hb dX2_init_43 (by decide) ?_
  refine lv_iload_n hx hb dX2_init_18 rfl (lv_at hl 0 rfl) ?_
  refine lv_aload_n hx hb dX2_init_19 rfl (lv_at hl 1 rfl) ?_
  refine va_get (D := (dC, dI)) (ci := 2) (v := .ref q1) (C := RX2) (T := TX2) (N := 1) hx hb hts inX2 hown hK.1 hP 0 rfl rfl 0 (by decide) (hts _ w_fieldLink_X2_15) (fun _ h9 => h9) rfl dX2_init_20 ?_
  refine va_alen hx hb hK.1 hP 1 1 rfl rfl (v := (6 : Int32)) rfl dX2_init_23 ?_
  refine lv_icmp_ge (tgt := 46) hx hb dX2_init_24 (by decide) (fun c9 => ?_) (fun c9 => ?_)
  · exact absurd c9 (by decide)
  refine lv_aload_n hx hb dX2_init_27 rfl (lv_at hl 1 rfl) ?_
  refine va_get (D := (dC, dI)) (ci := 2) (v := .ref q1) (C := RX2) (T := TX2) (N := 1) hx hb hts inX2 hown hK.1 hP 0 rfl rfl 0 (by decide) (hts _ w_fieldLink_X2_15) (fun _ h9 => h9) rfl dX2_init_28 ?_
  refine lv_iload_n hx hb dX2_init_31 rfl (lv_at hl 0 rfl) ?_
  refine va_new (D := (dC, dI)) (ci := 3) (C := RX3) (T := TX3) (N := 6) (fs := dfX3) hx hb hts inX3 tyX3 tyX3_ok hown (hts _ w_classLink_X2_13) (hts _ w_instantiable_X3) (hts _ w_initialized_X3) hK.1 hP hD hS hA rfl dfX3_ok (Nat.le_of_ble_eq_true rfl) (Nat.le_of_ble_eq_true rfl) dX2_init_32 (fun q4 H hP hD hS => ?_)
  have hP : va_P (dC, dI) vwCl (([[(q, .inr (2, [.ref q1]))], [cA cyO q1 6 (va_up (va_up (fun _ => none) (0 : Int32).toNatClampNeg (some (u1 0))) (1 : Int32).toNatClampNeg (some (u2 0)))], (cS cyI u1 sI), (cS cyI u2 sI), [(q4, .inr (3, dfX3))]] : List va_W).flatten) H := hP.psh
  have hD : va_D A (([[(q, .inr (2, [.ref q1]))], [cA cyO q1 6 (va_up (va_up (fun _ => none) (0 : Int32).toNatClampNeg (some (u1 0))) (1 : Int32).toNatClampNeg (some (u2 0)))], (cS cyI u1 sI), (cS cyI u2 sI), [(q4, .inr (3, dfX3))]] : List va_W).flatten) := hD.psh
  refine lv_dup hx hb dX2_init_35 rfl ?_
  refine wcIN (As := []) (rest := [.ref q4, .int (2 : Int32), .ref q1]) (wr := ([[(q, .inr (2, [.ref q1]))], [cA cyO q1 6 (va_up (va_up (fun _ => none) (0 : Int32).toNatClampNeg (some (u1 0))) (1 : Int32).toNatClampNeg (some (u2 0)))], (cS cyI u1 sI), (cS cyI u2 sI)] : List va_W).flatten) (b := q4) ⟨hx, hb, hml, hown, hts⟩ (met_X3_init l dC dI cyI cyO q4 _) ⟨va_cnB 0 hts (gCode w_code_X3_init) rfl rfl rfl (hK.2 _ n_X2_21) (hts _ w_initialized_X3) (by decide +kernel) ⟨Nat.le_of_ble_eq_true rfl, Nat.le_of_ble_eq_true rfl⟩, rfl, hts _ w_instanceMethod_X3_init⟩ hP hD hK hO (seg_perm (n := 5) (R := [[(q, .inr (2, [.ref q1]))], [cA cyO q1 6 (va_up (va_up (fun _ => none) (0 : Int32).toNatClampNeg (some (u1 0))) (1 : Int32).toNatClampNeg (some (u2 0)))], (cS cyI u1 sI), (cS cyI u2 sI)]) (C := [[(q4, .inr (3, dfX3))]]) [0, 1, 2, 3] [4] rfl rfl rfl (by decide) rfl) rfl hl.1 (Nat.le_of_ble_eq_true rfl) dX2_init_36 ⟨Nat.le_of_ble_eq_true rfl, Nat.le_of_ble_eq_true rfl⟩ hS hA (fun u3 H locs hw hP1 hD1 hS => ?_)
  have hw := hw.symm
  subst hw
  have hq := seg_permS (segs := [[(q, .inr (2, [.ref q1]))], [cA cyO q1 6 (va_up (va_up (fun _ => none) (0 : Int32).toNatClampNeg (some (u1 0))) (1 : Int32).toNatClampNeg (some (u2 0)))], (cS cyI u1 sI), (cS cyI u2 sI), (cS cyI u3 sI)]) (R := [[(q, .inr (2, [.ref q1]))], [cA cyO q1 6 (va_up (va_up (fun _ => none) (0 : Int32).toNatClampNeg (some (u1 0))) (1 : Int32).toNatClampNeg (some (u2 0)))], (cS cyI u1 sI), (cS cyI u2 sI)]) (C := [(cS cyI u3 sI)]) (n := 5) [0, 1, 2, 3] [4] rfl rfl rfl (by decide)
  have hP : va_P (dC, dI) vwCl (([[(q, .inr (2, [.ref q1]))], [cA cyO q1 6 (va_up (va_up (fun _ => none) (0 : Int32).toNatClampNeg (some (u1 0))) (1 : Int32).toNatClampNeg (some (u2 0)))], (cS cyI u1 sI), (cS cyI u2 sI), (cS cyI u3 sI)] : List va_W).flatten) H := hP1.perm hq
  have hD : va_D A (([[(q, .inr (2, [.ref q1]))], [cA cyO q1 6 (va_up (va_up (fun _ => none) (0 : Int32).toNatClampNeg (some (u1 0))) (1 : Int32).toNatClampNeg (some (u2 0)))], (cS cyI u1 sI), (cS cyI u2 sI), (cS cyI u3 sI)] : List va_W).flatten) := hD1.perm hq
  clear hq hP1 hD1
  refine va_astq hx hb hK.1 hP hD hS 1 1 28 3 rfl rfl rfl rfl (i := (2 : Int32)) (show ixok (2 : Int32) 6 by decide) dX2_init_39 (fun H locs hP hD hS => ?_)
  have hP : va_P (dC, dI) vwCl (([[(q, .inr (2, [.ref q1]))], [cA cyO q1 6 (va_up (va_up (va_up (fun _ => none) (0 : Int32).toNatClampNeg (some (u1 0))) (1 : Int32).toNatClampNeg (some (u2 0))) (2 : Int32).toNatClampNeg (some (u3 0)))], (cS cyI u1 sI), (cS cyI u2 sI), (cS cyI u3 sI)] : List va_W).flatten) H := hP
  have hD : va_D A (([[(q, .inr (2, [.ref q1]))], [cA cyO q1 6 (va_up (va_up (va_up (fun _ => none) (0 : Int32).toNatClampNeg (some (u1 0))) (1 : Int32).toNatClampNeg (some (u2 0))) (2 : Int32).toNatClampNeg (some (u3 0)))], (cS cyI u1 sI), (cS cyI u2 sI), (cS cyI u3 sI)] : List va_W).flatten) := hD
  refine lv_iinc (v := (3 : Int32)) (lv' := [(2, .int (3 : Int32)), (0, .ref q), (1, .int (6 : Int32))]) hx hb dX2_init_40 hl (k := 0) rfl (by decide) (by decide) rfl (fun ls hl => ?_)
  refine lv_goto (tgt := 18) hx hb dX2_init_43 (by decide) ?_
  refine lv_iload_n hx hb dX2_init_18 rfl (lv_at hl 0 rfl) ?_
  refine lv_aload_n hx hb dX2_init_19 rfl (lv_at hl 1 rfl) ?_
  refine va_get (D := (dC, dI)) (ci := 2) (v := .ref q1) (C := RX2) (T := TX2) (N := 1) hx hb hts inX2 hown hK.1 hP 0 rfl rfl 0 (by decide) (hts _ w_fieldLink_X2_15) (fun _ h9 => h9) rfl dX2_init_20 ?_
  refine va_alen hx hb hK.1 hP 1 1 rfl rfl (v := (6 : Int32)) rfl dX2_init_23 ?_
  refine lv_icmp_ge (tgt := 46) hx hb dX2_init_24 (by decide) (fun c9 => ?_) (fun c9 => ?_)
  · exact absurd c9 (by decide)
  refine lv_aload_n hx hb dX2_init_27 rfl (lv_at hl 1 rfl) ?_
  refine va_get (D := (dC, dI)) (ci := 2) (v := .ref q1) (C := RX2) (T := TX2) (N := 1) hx hb hts inX2 hown hK.1 hP 0 rfl rfl 0 (by decide) (hts _ w_fieldLink_X2_15) (fun _ h9 => h9) rfl dX2_init_28 ?_
  refine lv_iload_n hx hb dX2_init_31 rfl (lv_at hl 0 rfl) ?_
  refine va_new (D := (dC, dI)) (ci := 3) (C := RX3) (T := TX3) (N := 6) (fs := dfX3) hx hb hts inX3 tyX3 tyX3_ok hown (hts _ w_classLink_X2_13) (hts _ w_instantiable_X3) (hts _ w_initialized_X3) hK.1 hP hD hS hA rfl dfX3_ok (Nat.le_of_ble_eq_true rfl) (Nat.le_of_ble_eq_true rfl) dX2_init_32 (fun q5 H hP hD hS => ?_)
  have hP : va_P (dC, dI) vwCl (([[(q, .inr (2, [.ref q1]))], [cA cyO q1 6 (va_up (va_up (va_up (fun _ => none) (0 : Int32).toNatClampNeg (some (u1 0))) (1 : Int32).toNatClampNeg (some (u2 0))) (2 : Int32).toNatClampNeg (some (u3 0)))], (cS cyI u1 sI), (cS cyI u2 sI), (cS cyI u3 sI), [(q5, .inr (3, dfX3))]] : List va_W).flatten) H := hP.psh
  have hD : va_D A (([[(q, .inr (2, [.ref q1]))], [cA cyO q1 6 (va_up (va_up (va_up (fun _ => none) (0 : Int32).toNatClampNeg (some (u1 0))) (1 : Int32).toNatClampNeg (some (u2 0))) (2 : Int32).toNatClampNeg (some (u3 0)))], (cS cyI u1 sI), (cS cyI u2 sI), (cS cyI u3 sI), [(q5, .inr (3, dfX3))]] : List va_W).flatten) := hD.psh
  refine lv_dup hx hb dX2_init_35 rfl ?_
  refine wcIN (As := []) (rest := [.ref q5, .int (3 : Int32), .ref q1]) (wr := ([[(q, .inr (2, [.ref q1]))], [cA cyO q1 6 (va_up (va_up (va_up (fun _ => none) (0 : Int32).toNatClampNeg (some (u1 0))) (1 : Int32).toNatClampNeg (some (u2 0))) (2 : Int32).toNatClampNeg (some (u3 0)))], (cS cyI u1 sI), (cS cyI u2 sI), (cS cyI u3 sI)] : List va_W).flatten) (b := q5) ⟨hx, hb, hml, hown, hts⟩ (met_X3_init l dC dI cyI cyO q5 _) ⟨va_cnB 0 hts (gCode w_code_X3_init) rfl rfl rfl (hK.2 _ n_X2_21) (hts _ w_initialized_X3) (by decide +kernel) ⟨Nat.le_of_ble_eq_true rfl, Nat.le_of_ble_eq_true rfl⟩, rfl, hts _ w_instanceMethod_X3_init⟩ hP hD hK hO (seg_perm (n := 6) (R := [[(q, .inr (2, [.ref q1]))], [cA cyO q1 6 (va_up (va_up (va_up (fun _ => none) (0 : Int32).toNatClampNeg (some (u1 0))) (1 : Int32).toNatClampNeg (some (u2 0))) (2 : Int32).toNatClampNeg (some (u3 0)))], (cS cyI u1 sI), (cS cyI u2 sI), (cS cyI u3 sI)]) (C := [[(q5, .inr (3, dfX3))]]) [0, 1, 2, 3, 4] [5] rfl rfl rfl (by decide) rfl) rfl hl.1 (Nat.le_of_ble_eq_true rfl) dX2_init_36 ⟨Nat.le_of_ble_eq_true rfl, Nat.le_of_ble_eq_true rfl⟩ hS hA (fun u4 H locs hw hP1 hD1 hS => ?_)
  have hw := hw.symm
  subst hw
  have hq := seg_permS (segs := [[(q, .inr (2, [.ref q1]))], [cA cyO q1 6 (va_up (va_up (va_up (fun _ => none) (0 : Int32).toNatClampNeg (some (u1 0))) (1 : Int32).toNatClampNeg (some (u2 0))) (2 : Int32).toNatClampNeg (some (u3 0)))], (cS cyI u1 sI), (cS cyI u2 sI), (cS cyI u3 sI), (cS cyI u4 sI)]) (R := [[(q, .inr (2, [.ref q1]))], [cA cyO q1 6 (va_up (va_up (va_up (fun _ => none) (0 : Int32).toNatClampNeg (some (u1 0))) (1 : Int32).toNatClampNeg (some (u2 0))) (2 : Int32).toNatClampNeg (some (u3 0)))], (cS cyI u1 sI), (cS cyI u2 sI), (cS cyI u3 sI)]) (C := [(cS cyI u4 sI)]) (n := 6) [0, 1, 2, 3, 4] [5] rfl rfl rfl (by decide)
  have hP : va_P (dC, dI) vwCl (([[(q, .inr (2, [.ref q1]))], [cA cyO q1 6 (va_up (va_up (va_up (fun _ => none) (0 : Int32).toNatClampNeg (some (u1 0))) (1 : Int32).toNatClampNeg (some (u2 0))) (2 : Int32).toNatClampNeg (some (u3 0)))], (cS cyI u1 sI), (cS cyI u2 sI), (cS cyI u3 sI), (cS cyI u4 sI)] : List va_W).flatten) H := hP1.perm hq
  have hD : va_D A (([[(q, .inr (2, [.ref q1]))], [cA cyO q1 6 (va_up (va_up (va_up (fun _ => none) (0 : Int32).toNatClampNeg (some (u1 0))) (1 : Int32).toNatClampNeg (some (u2 0))) (2 : Int32).toNatClampNeg (some (u3 0)))], (cS cyI u1 sI), (cS cyI u2 sI), (cS cyI u3 sI), (cS cyI u4 sI)] : List va_W).flatten) := hD1.perm hq
  clear hq hP1 hD1
  refine va_astq hx hb hK.1 hP hD hS 1 1 41 3 rfl rfl rfl rfl (i := (3 : Int32)) (show ixok (3 : Int32) 6 by decide) dX2_init_39 (fun H locs hP hD hS => ?_)
  have hP : va_P (dC, dI) vwCl (([[(q, .inr (2, [.ref q1]))], [cA cyO q1 6 (va_up (va_up (va_up (va_up (fun _ => none) (0 : Int32).toNatClampNeg (some (u1 0))) (1 : Int32).toNatClampNeg (some (u2 0))) (2 : Int32).toNatClampNeg (some (u3 0))) (3 : Int32).toNatClampNeg (some (u4 0)))], (cS cyI u1 sI), (cS cyI u2 sI), (cS cyI u3 sI), (cS cyI u4 sI)] : List va_W).flatten) H := hP
  have hD : va_D A (([[(q, .inr (2, [.ref q1]))], [cA cyO q1 6 (va_up (va_up (va_up (va_up (fun _ => none) (0 : Int32).toNatClampNeg (some (u1 0))) (1 : Int32).toNatClampNeg (some (u2 0))) (2 : Int32).toNatClampNeg (some (u3 0))) (3 : Int32).toNatClampNeg (some (u4 0)))], (cS cyI u1 sI), (cS cyI u2 sI), (cS cyI u3 sI), (cS cyI u4 sI)] : List va_W).flatten) := hD
  refine lv_iinc (v := (4 : Int32)) (lv' := [(2, .int (4 : Int32)), (0, .ref q), (1, .int (6 : Int32))]) hx hb dX2_init_40 hl (k := 0) rfl (by decide) (by decide) rfl (fun ls hl => ?_)
  refine lv_goto (tgt := 18) hx hb dX2_init_43 (by decide) ?_
  refine lv_iload_n hx hb dX2_init_18 rfl (lv_at hl 0 rfl) ?_
  refine lv_aload_n hx hb dX2_init_19 rfl (lv_at hl 1 rfl) ?_
  refine va_get (D := (dC, dI)) (ci := 2) (v := .ref q1) (C := RX2) (T := TX2) (N := 1) hx hb hts inX2 hown hK.1 hP 0 rfl rfl 0 (by decide) (hts _ w_fieldLink_X2_15) (fun _ h9 => h9) rfl dX2_init_20 ?_
  refine va_alen hx hb hK.1 hP 1 1 rfl rfl (v := (6 : Int32)) rfl dX2_init_23 ?_
  refine lv_icmp_ge (tgt := 46) hx hb dX2_init_24 (by decide) (fun c9 => ?_) (fun c9 => ?_)
  · exact absurd c9 (by decide)
  refine lv_aload_n hx hb dX2_init_27 rfl (lv_at hl 1 rfl) ?_
  refine va_get (D := (dC, dI)) (ci := 2) (v := .ref q1) (C := RX2) (T := TX2) (N := 1) hx hb hts inX2 hown hK.1 hP 0 rfl rfl 0 (by decide) (hts _ w_fieldLink_X2_15) (fun _ h9 => h9) rfl dX2_init_28 ?_
  refine lv_iload_n hx hb dX2_init_31 rfl (lv_at hl 0 rfl) ?_
  refine va_new (D := (dC, dI)) (ci := 3) (C := RX3) (T := TX3) (N := 6) (fs := dfX3) hx hb hts inX3 tyX3 tyX3_ok hown (hts _ w_classLink_X2_13) (hts _ w_instantiable_X3) (hts _ w_initialized_X3) hK.1 hP hD hS hA rfl dfX3_ok (Nat.le_of_ble_eq_true rfl) (Nat.le_of_ble_eq_true rfl) dX2_init_32 (fun q6 H hP hD hS => ?_)
  have hP : va_P (dC, dI) vwCl (([[(q, .inr (2, [.ref q1]))], [cA cyO q1 6 (va_up (va_up (va_up (va_up (fun _ => none) (0 : Int32).toNatClampNeg (some (u1 0))) (1 : Int32).toNatClampNeg (some (u2 0))) (2 : Int32).toNatClampNeg (some (u3 0))) (3 : Int32).toNatClampNeg (some (u4 0)))], (cS cyI u1 sI), (cS cyI u2 sI), (cS cyI u3 sI), (cS cyI u4 sI), [(q6, .inr (3, dfX3))]] : List va_W).flatten) H := hP.psh
  have hD : va_D A (([[(q, .inr (2, [.ref q1]))], [cA cyO q1 6 (va_up (va_up (va_up (va_up (fun _ => none) (0 : Int32).toNatClampNeg (some (u1 0))) (1 : Int32).toNatClampNeg (some (u2 0))) (2 : Int32).toNatClampNeg (some (u3 0))) (3 : Int32).toNatClampNeg (some (u4 0)))], (cS cyI u1 sI), (cS cyI u2 sI), (cS cyI u3 sI), (cS cyI u4 sI), [(q6, .inr (3, dfX3))]] : List va_W).flatten) := hD.psh
  refine lv_dup hx hb dX2_init_35 rfl ?_
  refine wcIN (As := []) (rest := [.ref q6, .int (4 : Int32), .ref q1]) (wr := ([[(q, .inr (2, [.ref q1]))], [cA cyO q1 6 (va_up (va_up (va_up (va_up (fun _ => none) (0 : Int32).toNatClampNeg (some (u1 0))) (1 : Int32).toNatClampNeg (some (u2 0))) (2 : Int32).toNatClampNeg (some (u3 0))) (3 : Int32).toNatClampNeg (some (u4 0)))], (cS cyI u1 sI), (cS cyI u2 sI), (cS cyI u3 sI), (cS cyI u4 sI)] : List va_W).flatten) (b := q6) ⟨hx, hb, hml, hown, hts⟩ (met_X3_init l dC dI cyI cyO q6 _) ⟨va_cnB 0 hts (gCode w_code_X3_init) rfl rfl rfl (hK.2 _ n_X2_21) (hts _ w_initialized_X3) (by decide +kernel) ⟨Nat.le_of_ble_eq_true rfl, Nat.le_of_ble_eq_true rfl⟩, rfl, hts _ w_instanceMethod_X3_init⟩ hP hD hK hO (seg_perm (n := 7) (R := [[(q, .inr (2, [.ref q1]))], [cA cyO q1 6 (va_up (va_up (va_up (va_up (fun _ => none) (0 : Int32).toNatClampNeg (some (u1 0))) (1 : Int32).toNatClampNeg (some (u2 0))) (2 : Int32).toNatClampNeg (some (u3 0))) (3 : Int32).toNatClampNeg (some (u4 0)))], (cS cyI u1 sI), (cS cyI u2 sI), (cS cyI u3 sI), (cS cyI u4 sI)]) (C := [[(q6, .inr (3, dfX3))]]) [0, 1, 2, 3, 4, 5] [6] rfl rfl rfl (by decide) rfl) rfl hl.1 (Nat.le_of_ble_eq_true rfl) dX2_init_36 ⟨Nat.le_of_ble_eq_true rfl, Nat.le_of_ble_eq_true rfl⟩ hS hA (fun u5 H locs hw hP1 hD1 hS => ?_)
  have hw := hw.symm
  subst hw
  have hq := seg_permS (segs := [[(q, .inr (2, [.ref q1]))], [cA cyO q1 6 (va_up (va_up (va_up (va_up (fun _ => none) (0 : Int32).toNatClampNeg (some (u1 0))) (1 : Int32).toNatClampNeg (some (u2 0))) (2 : Int32).toNatClampNeg (some (u3 0))) (3 : Int32).toNatClampNeg (some (u4 0)))], (cS cyI u1 sI), (cS cyI u2 sI), (cS cyI u3 sI), (cS cyI u4 sI), (cS cyI u5 sI)]) (R := [[(q, .inr (2, [.ref q1]))], [cA cyO q1 6 (va_up (va_up (va_up (va_up (fun _ => none) (0 : Int32).toNatClampNeg (some (u1 0))) (1 : Int32).toNatClampNeg (some (u2 0))) (2 : Int32).toNatClampNeg (some (u3 0))) (3 : Int32).toNatClampNeg (some (u4 0)))], (cS cyI u1 sI), (cS cyI u2 sI), (cS cyI u3 sI), (cS cyI u4 sI)]) (C := [(cS cyI u5 sI)]) (n := 7) [0, 1, 2, 3, 4, 5] [6] rfl rfl rfl (by decide)
  have hP : va_P (dC, dI) vwCl (([[(q, .inr (2, [.ref q1]))], [cA cyO q1 6 (va_up (va_up (va_up (va_up (fun _ => none) (0 : Int32).toNatClampNeg (some (u1 0))) (1 : Int32).toNatClampNeg (some (u2 0))) (2 : Int32).toNatClampNeg (some (u3 0))) (3 : Int32).toNatClampNeg (some (u4 0)))], (cS cyI u1 sI), (cS cyI u2 sI), (cS cyI u3 sI), (cS cyI u4 sI), (cS cyI u5 sI)] : List va_W).flatten) H := hP1.perm hq
  have hD : va_D A (([[(q, .inr (2, [.ref q1]))], [cA cyO q1 6 (va_up (va_up (va_up (va_up (fun _ => none) (0 : Int32).toNatClampNeg (some (u1 0))) (1 : Int32).toNatClampNeg (some (u2 0))) (2 : Int32).toNatClampNeg (some (u3 0))) (3 : Int32).toNatClampNeg (some (u4 0)))], (cS cyI u1 sI), (cS cyI u2 sI), (cS cyI u3 sI), (cS cyI u4 sI), (cS cyI u5 sI)] : List va_W).flatten) := hD1.perm hq
  clear hq hP1 hD1
  refine va_astq hx hb hK.1 hP hD hS 1 1 54 3 rfl rfl rfl rfl (i := (4 : Int32)) (show ixok (4 : Int32) 6 by decide) dX2_init_39 (fun H locs hP hD hS => ?_)
  have hP : va_P (dC, dI) vwCl (([[(q, .inr (2, [.ref q1]))], [cA cyO q1 6 (va_up (va_up (va_up (va_up (va_up (fun _ => none) (0 : Int32).toNatClampNeg (some (u1 0))) (1 : Int32).toNatClampNeg (some (u2 0))) (2 : Int32).toNatClampNeg (some (u3 0))) (3 : Int32).toNatClampNeg (some (u4 0))) (4 : Int32).toNatClampNeg (some (u5 0)))], (cS cyI u1 sI), (cS cyI u2 sI), (cS cyI u3 sI), (cS cyI u4 sI), (cS cyI u5 sI)] : List va_W).flatten) H := hP
  have hD : va_D A (([[(q, .inr (2, [.ref q1]))], [cA cyO q1 6 (va_up (va_up (va_up (va_up (va_up (fun _ => none) (0 : Int32).toNatClampNeg (some (u1 0))) (1 : Int32).toNatClampNeg (some (u2 0))) (2 : Int32).toNatClampNeg (some (u3 0))) (3 : Int32).toNatClampNeg (some (u4 0))) (4 : Int32).toNatClampNeg (some (u5 0)))], (cS cyI u1 sI), (cS cyI u2 sI), (cS cyI u3 sI), (cS cyI u4 sI), (cS cyI u5 sI)] : List va_W).flatten) := hD
  refine lv_iinc (v := (5 : Int32)) (lv' := [(2, .int (5 : Int32)), (0, .ref q), (1, .int (6 : Int32))]) hx hb dX2_init_40 hl (k := 0) rfl (by decide) (by decide) rfl (fun ls hl => ?_)
  refine lv_goto (tgt := 18) hx hb dX2_init_43 (by decide) ?_
  refine lv_iload_n hx hb dX2_init_18 rfl (lv_at hl 0 rfl) ?_
  refine lv_aload_n hx hb dX2_init_19 rfl (lv_at hl 1 rfl) ?_
  refine va_get (D := (dC, dI)) (ci := 2) (v := .ref q1) (C := RX2) (T := TX2) (N := 1) hx hb hts inX2 hown hK.1 hP 0 rfl rfl 0 (by decide) (hts _ w_fieldLink_X2_15) (fun _ h9 => h9) rfl dX2_init_20 ?_
  refine va_alen hx hb hK.1 hP 1 1 rfl rfl (v := (6 : Int32)) rfl dX2_init_23 ?_
  refine lv_icmp_ge (tgt := 46) hx hb dX2_init_24 (by decide) (fun c9 => ?_) (fun c9 => ?_)
  · exact absurd c9 (by decide)
  refine lv_aload_n hx hb dX2_init_27 rfl (lv_at hl 1 rfl) ?_
  refine va_get (D := (dC, dI)) (ci := 2) (v := .ref q1) (C := RX2) (T := TX2) (N := 1) hx hb hts inX2 hown hK.1 hP 0 rfl rfl 0 (by decide) (hts _ w_fieldLink_X2_15) (fun _ h9 => h9) rfl dX2_init_28 ?_
  refine lv_iload_n hx hb dX2_init_31 rfl (lv_at hl 0 rfl) ?_
  refine va_new (D := (dC, dI)) (ci := 3) (C := RX3) (T := TX3) (N := 6) (fs := dfX3) hx hb hts inX3 tyX3 tyX3_ok hown (hts _ w_classLink_X2_13) (hts _ w_instantiable_X3) (hts _ w_initialized_X3) hK.1 hP hD hS hA rfl dfX3_ok (Nat.le_of_ble_eq_true rfl) (Nat.le_of_ble_eq_true rfl) dX2_init_32 (fun q7 H hP hD hS => ?_)
  have hP : va_P (dC, dI) vwCl (([[(q, .inr (2, [.ref q1]))], [cA cyO q1 6 (va_up (va_up (va_up (va_up (va_up (fun _ => none) (0 : Int32).toNatClampNeg (some (u1 0))) (1 : Int32).toNatClampNeg (some (u2 0))) (2 : Int32).toNatClampNeg (some (u3 0))) (3 : Int32).toNatClampNeg (some (u4 0))) (4 : Int32).toNatClampNeg (some (u5 0)))], (cS cyI u1 sI), (cS cyI u2 sI), (cS cyI u3 sI), (cS cyI u4 sI), (cS cyI u5 sI), [(q7, .inr (3, dfX3))]] : List va_W).flatten) H := hP.psh
  have hD : va_D A (([[(q, .inr (2, [.ref q1]))], [cA cyO q1 6 (va_up (va_up (va_up (va_up (va_up (fun _ => none) (0 : Int32).toNatClampNeg (some (u1 0))) (1 : Int32).toNatClampNeg (some (u2 0))) (2 : Int32).toNatClampNeg (some (u3 0))) (3 : Int32).toNatClampNeg (some (u4 0))) (4 : Int32).toNatClampNeg (some (u5 0)))], (cS cyI u1 sI), (cS cyI u2 sI), (cS cyI u3 sI), (cS cyI u4 sI), (cS cyI u5 sI), [(q7, .inr (3, dfX3))]] : List va_W).flatten) := hD.psh
  refine lv_dup hx hb dX2_init_35 rfl ?_
  refine wcIN (As := []) (rest := [.ref q7, .int (5 : Int32), .ref q1]) (wr := ([[(q, .inr (2, [.ref q1]))], [cA cyO q1 6 (va_up (va_up (va_up (va_up (va_up (fun _ => none) (0 : Int32).toNatClampNeg (some (u1 0))) (1 : Int32).toNatClampNeg (some (u2 0))) (2 : Int32).toNatClampNeg (some (u3 0))) (3 : Int32).toNatClampNeg (some (u4 0))) (4 : Int32).toNatClampNeg (some (u5 0)))], (cS cyI u1 sI), (cS cyI u2 sI), (cS cyI u3 sI), (cS cyI u4 sI), (cS cyI u5 sI)] : List va_W).flatten) (b := q7) ⟨hx, hb, hml, hown, hts⟩ (met_X3_init l dC dI cyI cyO q7 _) ⟨va_cnB 0 hts (gCode w_code_X3_init) rfl rfl rfl (hK.2 _ n_X2_21) (hts _ w_initialized_X3) (by decide +kernel) ⟨Nat.le_of_ble_eq_true rfl, Nat.le_of_ble_eq_true rfl⟩, rfl, hts _ w_instanceMethod_X3_init⟩ hP hD hK hO (seg_perm (n := 8) (R := [[(q, .inr (2, [.ref q1]))], [cA cyO q1 6 (va_up (va_up (va_up (va_up (va_up (fun _ => none) (0 : Int32).toNatClampNeg (some (u1 0))) (1 : Int32).toNatClampNeg (some (u2 0))) (2 : Int32).toNatClampNeg (some (u3 0))) (3 : Int32).toNatClampNeg (some (u4 0))) (4 : Int32).toNatClampNeg (some (u5 0)))], (cS cyI u1 sI), (cS cyI u2 sI), (cS cyI u3 sI), (cS cyI u4 sI), (cS cyI u5 sI)]) (C := [[(q7, .inr (3, dfX3))]]) [0, 1, 2, 3, 4, 5, 6] [7] rfl rfl rfl (by decide) rfl) rfl hl.1 (Nat.le_of_ble_eq_true rfl) dX2_init_36 ⟨Nat.le_of_ble_eq_true rfl, Nat.le_of_ble_eq_true rfl⟩ hS hA (fun u6 H locs hw hP1 hD1 hS => ?_)
  have hw := hw.symm
  subst hw
  have hq := seg_permS (segs := [[(q, .inr (2, [.ref q1]))], [cA cyO q1 6 (va_up (va_up (va_up (va_up (va_up (fun _ => none) (0 : Int32).toNatClampNeg (some (u1 0))) (1 : Int32).toNatClampNeg (some (u2 0))) (2 : Int32).toNatClampNeg (some (u3 0))) (3 : Int32).toNatClampNeg (some (u4 0))) (4 : Int32).toNatClampNeg (some (u5 0)))], (cS cyI u1 sI), (cS cyI u2 sI), (cS cyI u3 sI), (cS cyI u4 sI), (cS cyI u5 sI), (cS cyI u6 sI)]) (R := [[(q, .inr (2, [.ref q1]))], [cA cyO q1 6 (va_up (va_up (va_up (va_up (va_up (fun _ => none) (0 : Int32).toNatClampNeg (some (u1 0))) (1 : Int32).toNatClampNeg (some (u2 0))) (2 : Int32).toNatClampNeg (some (u3 0))) (3 : Int32).toNatClampNeg (some (u4 0))) (4 : Int32).toNatClampNeg (some (u5 0)))], (cS cyI u1 sI), (cS cyI u2 sI), (cS cyI u3 sI), (cS cyI u4 sI), (cS cyI u5 sI)]) (C := [(cS cyI u6 sI)]) (n := 8) [0, 1, 2, 3, 4, 5, 6] [7] rfl rfl rfl (by decide)
  have hP : va_P (dC, dI) vwCl (([[(q, .inr (2, [.ref q1]))], [cA cyO q1 6 (va_up (va_up (va_up (va_up (va_up (fun _ => none) (0 : Int32).toNatClampNeg (some (u1 0))) (1 : Int32).toNatClampNeg (some (u2 0))) (2 : Int32).toNatClampNeg (some (u3 0))) (3 : Int32).toNatClampNeg (some (u4 0))) (4 : Int32).toNatClampNeg (some (u5 0)))], (cS cyI u1 sI), (cS cyI u2 sI), (cS cyI u3 sI), (cS cyI u4 sI), (cS cyI u5 sI), (cS cyI u6 sI)] : List va_W).flatten) H := hP1.perm hq
  have hD : va_D A (([[(q, .inr (2, [.ref q1]))], [cA cyO q1 6 (va_up (va_up (va_up (va_up (va_up (fun _ => none) (0 : Int32).toNatClampNeg (some (u1 0))) (1 : Int32).toNatClampNeg (some (u2 0))) (2 : Int32).toNatClampNeg (some (u3 0))) (3 : Int32).toNatClampNeg (some (u4 0))) (4 : Int32).toNatClampNeg (some (u5 0)))], (cS cyI u1 sI), (cS cyI u2 sI), (cS cyI u3 sI), (cS cyI u4 sI), (cS cyI u5 sI), (cS cyI u6 sI)] : List va_W).flatten) := hD1.perm hq
  clear hq hP1 hD1
  refine va_astq hx hb hK.1 hP hD hS 1 1 67 3 rfl rfl rfl rfl (i := (5 : Int32)) (show ixok (5 : Int32) 6 by decide) dX2_init_39 (fun H locs hP hD hS => ?_)
  have hP : va_P (dC, dI) vwCl (([[(q, .inr (2, [.ref q1]))], [cA cyO q1 6 (va_up (va_up (va_up (va_up (va_up (va_up (fun _ => none) (0 : Int32).toNatClampNeg (some (u1 0))) (1 : Int32).toNatClampNeg (some (u2 0))) (2 : Int32).toNatClampNeg (some (u3 0))) (3 : Int32).toNatClampNeg (some (u4 0))) (4 : Int32).toNatClampNeg (some (u5 0))) (5 : Int32).toNatClampNeg (some (u6 0)))], (cS cyI u1 sI), (cS cyI u2 sI), (cS cyI u3 sI), (cS cyI u4 sI), (cS cyI u5 sI), (cS cyI u6 sI)] : List va_W).flatten) H := hP
  have hD : va_D A (([[(q, .inr (2, [.ref q1]))], [cA cyO q1 6 (va_up (va_up (va_up (va_up (va_up (va_up (fun _ => none) (0 : Int32).toNatClampNeg (some (u1 0))) (1 : Int32).toNatClampNeg (some (u2 0))) (2 : Int32).toNatClampNeg (some (u3 0))) (3 : Int32).toNatClampNeg (some (u4 0))) (4 : Int32).toNatClampNeg (some (u5 0))) (5 : Int32).toNatClampNeg (some (u6 0)))], (cS cyI u1 sI), (cS cyI u2 sI), (cS cyI u3 sI), (cS cyI u4 sI), (cS cyI u5 sI), (cS cyI u6 sI)] : List va_W).flatten) := hD
  refine lv_iinc (v := (6 : Int32)) (lv' := [(2, .int (6 : Int32)), (0, .ref q), (1, .int (6 : Int32))]) hx hb dX2_init_40 hl (k := 0) rfl (by decide) (by decide) rfl (fun ls hl => ?_)
  refine lv_goto (tgt := 18) hx hb dX2_init_43 (by decide) ?_
  refine lv_iload_n hx hb dX2_init_18 rfl (lv_at hl 0 rfl) ?_
  refine lv_aload_n hx hb dX2_init_19 rfl (lv_at hl 1 rfl) ?_
  refine va_get (D := (dC, dI)) (ci := 2) (v := .ref q1) (C := RX2) (T := TX2) (N := 1) hx hb hts inX2 hown hK.1 hP 0 rfl rfl 0 (by decide) (hts _ w_fieldLink_X2_15) (fun _ h9 => h9) rfl dX2_init_20 ?_
  refine va_alen hx hb hK.1 hP 1 1 rfl rfl (v := (6 : Int32)) rfl dX2_init_23 ?_
  refine lv_icmp_ge (tgt := 46) hx hb dX2_init_24 (by decide) (fun c9 => ?_) (fun c9 => ?_)
  rotate_left
  · exact absurd (show (6 : Int32) ≤ 6 by decide) c9
  refine W.widen (k := 79) (n := 690) (Nat.le_of_ble_eq_true rfl) (Nat.le_of_ble_eq_true rfl) ?_
  exact W.vret hx hb hr (fun t ht hW => ⟨⟨(q, q1, (va_up (va_up (va_up (va_up (va_up (va_up (fun _ => none) (0 : Int32).toNatClampNeg (some (u1 0))) (1 : Int32).toNatClampNeg (some (u2 0))) (2 : Int32).toNatClampNeg (some (u3 0))) (3 : Int32).toNatClampNeg (some (u4 0))) (4 : Int32).toNatClampNeg (some (u5 0))) (5 : Int32).toNatClampNeg (some (u6 0))), fun k => ([u1, u2, u3, u4, u5, u6] : List (Nat → Nat)).getD k (fun _ => 0)), rfl, ⟨rfl, rfl, rfl, rfl, rfl, rfl, rfl⟩, by rw [ht]; exact hP, hD⟩, hS.F ht⟩) hS.2.2 dX2_init_46
theorem dX5_init_0 : decode cX5_init 0 = .ok (.aload_n 0, 1) := by decide +kernel
theorem dX5_init_1 : decode cX5_init 1 = .ok (.invokespecial 3, 3) := by decide +kernel
theorem dX5_init_4 : decode cX5_init 4 = .ok (.aload_n 0, 1) := by decide +kernel
theorem dX5_init_5 : decode cX5_init 5 = .ok (.new 9, 3) := by decide +kernel
theorem dX5_init_8 : decode cX5_init 8 = .ok (.dup, 1) := by decide +kernel
theorem dX5_init_9 : decode cX5_init 9 = .ok (.invokespecial 11, 3) := by decide +kernel
theorem dX5_init_12 : decode cX5_init 12 = .ok (.putfield 12, 3) := by decide +kernel
theorem dX5_init_15 : decode cX5_init 15 = .ok (.aload_n 0, 1) := by decide +kernel
theorem dX5_init_16 : decode cX5_init 16 = .ok (.new 9, 3) := by decide +kernel
theorem dX5_init_19 : decode cX5_init 19 = .ok (.dup, 1) := by decide +kernel
theorem dX5_init_20 : decode cX5_init 20 = .ok (.invokespecial 11, 3) := by decide +kernel
theorem dX5_init_23 : decode cX5_init 23 = .ok (.putfield 16, 3) := by decide +kernel
theorem dX5_init_26 : decode cX5_init 26 = .ok (.aload_n 0, 1) := by decide +kernel
theorem dX5_init_27 : decode cX5_init 27 = .ok (.new 19, 3) := by decide +kernel
theorem dX5_init_30 : decode cX5_init 30 = .ok (.dup, 1) := by decide +kernel
theorem dX5_init_31 : decode cX5_init 31 = .ok (.iconst 2, 1) := by decide +kernel
theorem dX5_init_32 : decode cX5_init 32 = .ok (.invokespecial 21, 3) := by decide +kernel
theorem dX5_init_35 : decode cX5_init 35 = .ok (.putfield 24, 3) := by decide +kernel
theorem dX5_init_38 : decode cX5_init 38 = .ok (.aload_n 0, 1) := by decide +kernel
theorem dX5_init_39 : decode cX5_init 39 = .ok (.iconst 2, 1) := by decide +kernel
theorem dX5_init_40 : decode cX5_init 40 = .ok (.newarray .int, 2) := by decide +kernel
theorem dX5_init_42 : decode cX5_init 42 = .ok (.putfield 28, 3) := by decide +kernel
theorem dX5_init_45 : decode cX5_init 45 = .ok (.aload_n 0, 1) := by decide +kernel
theorem dX5_init_46 : decode cX5_init 46 = .ok (.new 19, 3) := by decide +kernel
theorem dX5_init_49 : decode cX5_init 49 = .ok (.dup, 1) := by decide +kernel
theorem dX5_init_50 : decode cX5_init 50 = .ok (.bipush 6, 2) := by decide +kernel
theorem dX5_init_52 : decode cX5_init 52 = .ok (.invokespecial 21, 3) := by decide +kernel
theorem dX5_init_55 : decode cX5_init 55 = .ok (.putfield 32, 3) := by decide +kernel
theorem dX5_init_58 : decode cX5_init 58 = .ok (.aload_n 0, 1) := by decide +kernel
theorem dX5_init_59 : decode cX5_init 59 = .ok (.iconst 0, 1) := by decide +kernel
theorem dX5_init_60 : decode cX5_init 60 = .ok (.putfield 35, 3) := by decide +kernel
theorem dX5_init_63 : decode cX5_init 63 = .ok (.aload_n 0, 1) := by decide +kernel
theorem dX5_init_64 : decode cX5_init 64 = .ok (.iconst 0, 1) := by decide +kernel
theorem dX5_init_65 : decode cX5_init 65 = .ok (.putfield 39, 3) := by decide +kernel
theorem dX5_init_68 : decode cX5_init 68 = .ok (.aload_n 0, 1) := by decide +kernel
theorem dX5_init_69 : decode cX5_init 69 = .ok (.new 42, 3) := by decide +kernel
theorem dX5_init_72 : decode cX5_init 72 = .ok (.dup, 1) := by decide +kernel
theorem dX5_init_73 : decode cX5_init 73 = .ok (.invokespecial 44, 3) := by decide +kernel
theorem dX5_init_76 : decode cX5_init 76 = .ok (.putfield 45, 3) := by decide +kernel
theorem dX5_init_79 : decode cX5_init 79 = .ok (.return_, 1) := by decide +kernel
set_option maxHeartbeats 4000000 in
set_option maxRecDepth 100000 in
theorem met_X5_init (l : Launch) (dC : Nat → ClassId) (dI : Nat → Nat → Nat) (cyI cyO : ClassId) (q sz : Nat) (N : Nat) : Met l yX5_init (Cond.code yX5_init cX5_init 1 none :: wT) ({ frames := 4, cells := 137, slots := 1214, locals := 75 } : Room) (wWrI dC dI cyI cyO [.ref q] (([[(q, .inr (5, dfX5))]] : List va_W).flatten) sz) (va_Qv (fun (u : ((Nat → Nat) × (Nat → Option Nat) × (Nat → Option Nat) × (Nat → Nat → Nat))) => u.1 0 = q ∧ u.2.1 0 = some (u.2.2.2 2 0) ∧ u.2.1 1 = some (u.2.2.2 3 0) ∧ u.2.2.1 0 = some (u.2.2.2 4 0) ∧ u.2.2.1 1 = some (u.2.2.2 5 0) ∧ u.2.2.1 2 = some (u.2.2.2 6 0) ∧ u.2.2.1 3 = some (u.2.2.2 7 0) ∧ u.2.2.1 4 = some (u.2.2.2 8 0) ∧ u.2.2.1 5 = some (u.2.2.2 9 0)) (fun u t => va_P (dC, dI) vwCl (([(cXo u.1 (u.2.2.2 0) (u.2.2.2 1) xI), (cH cyO (u.1 1) (u.1 2) 2 u.2.1), (cXk cyI u.1 xI), (cH cyO (u.1 4) (u.1 5) 6 u.2.2.1), (cT cyI u.1 tI), (cS cyI (u.2.2.2 0) sI), (cS cyI (u.2.2.2 1) sI), (cS cyI (u.2.2.2 2) sI), (cS cyI (u.2.2.2 3) sI), (cS cyI (u.2.2.2 4) sI), (cS cyI (u.2.2.2 5) sI), (cS cyI (u.2.2.2 6) sI), (cS cyI (u.2.2.2 7) sI), (cS cyI (u.2.2.2 8) sI), (cS cyI (u.2.2.2 9) sI)] : List va_W).flatten) t.heap ∧ va_D (va_A (([[(q, .inr (5, dfX5))]] : List va_W).flatten) sz) (([(cXo u.1 (u.2.2.2 0) (u.2.2.2 1) xI), (cH cyO (u.1 1) (u.1 2) 2 u.2.1), (cXk cyI u.1 xI), (cH cyO (u.1 4) (u.1 5) 6 u.2.2.1), (cT cyI u.1 tI), (cS cyI (u.2.2.2 0) sI), (cS cyI (u.2.2.2 1) sI), (cS cyI (u.2.2.2 2) sI), (cS cyI (u.2.2.2 3) sI), (cS cyI (u.2.2.2 4) sI), (cS cyI (u.2.2.2 5) sI), (cS cyI (u.2.2.2 6) sI), (cS cyI (u.2.2.2 7) sI), (cS cyI (u.2.2.2 8) sI), (cS cyI (u.2.2.2 9) sI)] : List va_W).flatten)) (va_A (([[(q, .inr (5, dfX5))]] : List va_W).flatten) sz)) 137 1214 (va_A (([[(q, .inr (5, dfX5))]] : List va_W).flatten) sz) := by
  refine Met.ofW (cc := cX5_init) (maxL := 1) (ret := none) (by decide) rfl ?_
  intro p e s m args below meth c s₁ B hml hv
  obtain ⟨rfl, hsz, hP, hK, hD0, hO⟩ := hv
  have hx := B.exec
  have hb := B.bytes
  have hr := B.returns
  have hts0 := atoms_spec (ws := (Cond.code yX5_init cX5_init 1 none :: wT)) B.pre
  have hts := fun w h => hts0 w (List.mem_cons_of_mem _ h)
  clear hts0
  have hown : s.vm.findClass RX5 = some m.cls := findClass_of_methodNamed B.named
  have hin2 : meth.name = "<init>" := (name_of_methodNamed B.named B.method).1
  subst hsz
  have hD := hD0.self (sz := s.heap.size)
  generalize hAe : va_A (([[(q, .inr (5, dfX5))]] : List va_W).flatten) s.heap.size = A at hD ⊢
  have hA : ∀ q : Nat, s.heap.size ≤ q → A q := fun q h => by rw [← hAe]; exact Or.inr h
  clear hD0
  have hS : va_S A s.heap s.heap [] := va_S.rf
  have hl := lv_entry [.ref q] (n := 1) (Nat.le_of_ble_eq_true rfl)
  rw [lg_entry_eq]
  generalize (lg_sl [.ref q] ++ List.replicate (1 - (lg_sl [.ref q]).length) Slot.unset).toArray = ls at hl ⊢
  have hl : lv_has ls 1 [(0, .ref q)] := hl
  refine lv_aload_n hx hb dX5_init_0 rfl (lv_at hl 0 rfl) ?_
  refine wobj hx hb hown (hts _ w_methodLink_X5_3) (hts _ w_instanceMethod_java_lang_Object__init____V) (hts _ w_code_java_lang_Object__init____V) (hl.1.trans hml.symm) dX5_init_1 (Nat.le_of_ble_eq_true rfl) (Nat.le_of_ble_eq_true rfl) ?_
  refine lv_aload_n hx hb dX5_init_4 rfl (lv_at hl 0 rfl) ?_
  refine va_new (D := (dC, dI)) (ci := 3) (C := RX3) (T := TX3) (N := 6) (fs := dfX3) hx hb hts inX3 tyX3 tyX3_ok hown (hts _ w_classLink_X5_9) (hts _ w_instantiable_X3) (hts _ w_initialized_X3) hK.1 hP hD hS hA rfl dfX3_ok (Nat.le_of_ble_eq_true rfl) (Nat.le_of_ble_eq_true rfl) dX5_init_5 (fun q1 H hP hD hS => ?_)
  have hP : va_P (dC, dI) vwCl (([[(q, .inr (5, [.null, .null, .null, .null, .null, .int 0, .int 0, .null]))], [(q1, .inr (3, dfX3))]] : List va_W).flatten) H := hP.psh
  have hD : va_D A (([[(q, .inr (5, [.null, .null, .null, .null, .null, .int 0, .int 0, .null]))], [(q1, .inr (3, dfX3))]] : List va_W).flatten) := hD.psh
  refine lv_dup hx hb dX5_init_8 rfl ?_
  refine wcIN (As := []) (rest := [.ref q1, .ref q]) (wr := ([[(q, .inr (5, [.null, .null, .null, .null, .null, .int 0, .int 0, .null]))]] : List va_W).flatten) (b := q1) ⟨hx, hb, hml, hown, hts⟩ (met_X3_init l dC dI cyI cyO q1 _) ⟨va_cnB 0 hts (gCode w_code_X3_init) rfl rfl rfl (hK.2 _ n_X5_11) (hts _ w_initialized_X3) (by decide +kernel) ⟨Nat.le_of_ble_eq_true rfl, Nat.le_of_ble_eq_true rfl⟩, rfl, hts _ w_instanceMethod_X3_init⟩ hP hD hK hO (seg_perm (n := 2) (R := [[(q, .inr (5, [.null, .null, .null, .null, .null, .int 0, .int 0, .null]))]]) (C := [[(q1, .inr (3, dfX3))]]) [0] [1] rfl rfl rfl (by decide) rfl) rfl hl.1 (Nat.le_of_ble_eq_true rfl) dX5_init_9 ⟨Nat.le_of_ble_eq_true rfl, Nat.le_of_ble_eq_true rfl⟩ hS hA (fun u1 H locs hw hP1 hD1 hS => ?_)
  have hw := hw.symm
  subst hw
  have hq := seg_permS (segs := [[(q, .inr (5, [.null, .null, .null, .null, .null, .int 0, .int 0, .null]))], (cS cyI u1 sI)]) (R := [[(q, .inr (5, [.null, .null, .null, .null, .null, .int 0, .int 0, .null]))]]) (C := [(cS cyI u1 sI)]) (n := 2) [0] [1] rfl rfl rfl (by decide)
  have hP : va_P (dC, dI) vwCl (([[(q, .inr (5, [.null, .null, .null, .null, .null, .int 0, .int 0, .null]))], (cS cyI u1 sI)] : List va_W).flatten) H := hP1.perm hq
  have hD : va_D A (([[(q, .inr (5, [.null, .null, .null, .null, .null, .int 0, .int 0, .null]))], (cS cyI u1 sI)] : List va_W).flatten) := hD1.perm hq
  clear hq hP1 hD1
  refine va_putF (D := (dC, dI)) (ci := 5) (v := .ref (u1 0)) (ty := .object "WombatBowls$State") (C := RX5) (T := TX5) (N := 8) hx hb hts inX5 tyX5 tyX5_ok nmX5 hown hK.1 hP hD hS 0 rfl rfl 0 (by decide) (hts _ w_fieldLink_X5_12) (fun _ h9 => h9) rfl hin2 rfl (by decide +kernel) rfl rfl (Nat.le_of_ble_eq_true rfl) dX5_init_12 (fun H locs hP hD hS => ?_)
  have hP : va_P (dC, dI) vwCl (([[(q, .inr (5, [.ref (u1 0), .null, .null, .null, .null, .int 0, .int 0, .null]))], (cS cyI u1 sI)] : List va_W).flatten) H := hP
  have hD : va_D A (([[(q, .inr (5, [.ref (u1 0), .null, .null, .null, .null, .int 0, .int 0, .null]))], (cS cyI u1 sI)] : List va_W).flatten) := hD
  refine lv_aload_n hx hb dX5_init_15 rfl (lv_at hl 0 rfl) ?_
  refine va_new (D := (dC, dI)) (ci := 3) (C := RX3) (T := TX3) (N := 6) (fs := dfX3) hx hb hts inX3 tyX3 tyX3_ok hown (hts _ w_classLink_X5_9) (hts _ w_instantiable_X3) (hts _ w_initialized_X3) hK.1 hP hD hS hA rfl dfX3_ok (Nat.le_of_ble_eq_true rfl) (Nat.le_of_ble_eq_true rfl) dX5_init_16 (fun q2 H hP hD hS => ?_)
  have hP : va_P (dC, dI) vwCl (([[(q, .inr (5, [.ref (u1 0), .null, .null, .null, .null, .int 0, .int 0, .null]))], (cS cyI u1 sI), [(q2, .inr (3, dfX3))]] : List va_W).flatten) H := hP.psh
  have hD : va_D A (([[(q, .inr (5, [.ref (u1 0), .null, .null, .null, .null, .int 0, .int 0, .null]))], (cS cyI u1 sI), [(q2, .inr (3, dfX3))]] : List va_W).flatten) := hD.psh
  refine lv_dup hx hb dX5_init_19 rfl ?_
  refine wcIN (As := []) (rest := [.ref q2, .ref q]) (wr := ([[(q, .inr (5, [.ref (u1 0), .null, .null, .null, .null, .int 0, .int 0, .null]))], (cS cyI u1 sI)] : List va_W).flatten) (b := q2) ⟨hx, hb, hml, hown, hts⟩ (met_X3_init l dC dI cyI cyO q2 _) ⟨va_cnB 0 hts (gCode w_code_X3_init) rfl rfl rfl (hK.2 _ n_X5_11) (hts _ w_initialized_X3) (by decide +kernel) ⟨Nat.le_of_ble_eq_true rfl, Nat.le_of_ble_eq_true rfl⟩, rfl, hts _ w_instanceMethod_X3_init⟩ hP hD hK hO (seg_perm (n := 3) (R := [[(q, .inr (5, [.ref (u1 0), .null, .null, .null, .null, .int 0, .int 0, .null]))], (cS cyI u1 sI)]) (C := [[(q2, .inr (3, dfX3))]]) [0, 1] [2] rfl rfl rfl (by decide) rfl) rfl hl.1 (Nat.le_of_ble_eq_true rfl) dX5_init_20 ⟨Nat.le_of_ble_eq_true rfl, Nat.le_of_ble_eq_true rfl⟩ hS hA (fun u2 H locs hw hP1 hD1 hS => ?_)
  have hw := hw.symm
  subst hw
  have hq := seg_permS (segs := [[(q, .inr (5, [.ref (u1 0), .null, .null, .null, .null, .int 0, .int 0, .null]))], (cS cyI u1 sI), (cS cyI u2 sI)]) (R := [[(q, .inr (5, [.ref (u1 0), .null, .null, .null, .null, .int 0, .int 0, .null]))], (cS cyI u1 sI)]) (C := [(cS cyI u2 sI)]) (n := 3) [0, 1] [2] rfl rfl rfl (by decide)
  have hP : va_P (dC, dI) vwCl (([[(q, .inr (5, [.ref (u1 0), .null, .null, .null, .null, .int 0, .int 0, .null]))], (cS cyI u1 sI), (cS cyI u2 sI)] : List va_W).flatten) H := hP1.perm hq
  have hD : va_D A (([[(q, .inr (5, [.ref (u1 0), .null, .null, .null, .null, .int 0, .int 0, .null]))], (cS cyI u1 sI), (cS cyI u2 sI)] : List va_W).flatten) := hD1.perm hq
  clear hq hP1 hD1
  refine va_putF (D := (dC, dI)) (ci := 5) (v := .ref (u2 0)) (ty := .object "WombatBowls$State") (C := RX5) (T := TX5) (N := 8) hx hb hts inX5 tyX5 tyX5_ok nmX5 hown hK.1 hP hD hS 0 rfl rfl 1 (by decide) (hts _ w_fieldLink_X5_16) (fun _ h9 => h9) rfl hin2 rfl (by decide +kernel) rfl rfl (Nat.le_of_ble_eq_true rfl) dX5_init_23 (fun H locs hP hD hS => ?_)
  have hP : va_P (dC, dI) vwCl (([[(q, .inr (5, [.ref (u1 0), .ref (u2 0), .null, .null, .null, .int 0, .int 0, .null]))], (cS cyI u1 sI), (cS cyI u2 sI)] : List va_W).flatten) H := hP
  have hD : va_D A (([[(q, .inr (5, [.ref (u1 0), .ref (u2 0), .null, .null, .null, .int 0, .int 0, .null]))], (cS cyI u1 sI), (cS cyI u2 sI)] : List va_W).flatten) := hD
  refine lv_aload_n hx hb dX5_init_26 rfl (lv_at hl 0 rfl) ?_
  refine va_new (D := (dC, dI)) (ci := 2) (C := RX2) (T := TX2) (N := 1) (fs := dfX2) hx hb hts inX2 tyX2 tyX2_ok hown (hts _ w_classLink_X5_19) (hts _ w_instantiable_X2) (hts _ w_initialized_X2) hK.1 hP hD hS hA rfl dfX2_ok (Nat.le_of_ble_eq_true rfl) (Nat.le_of_ble_eq_true rfl) dX5_init_27 (fun q3 H hP hD hS => ?_)
  have hP : va_P (dC, dI) vwCl (([[(q, .inr (5, [.ref (u1 0), .ref (u2 0), .null, .null, .null, .int 0, .int 0, .null]))], (cS cyI u1 sI), (cS cyI u2 sI), [(q3, .inr (2, dfX2))]] : List va_W).flatten) H := hP.psh
  have hD : va_D A (([[(q, .inr (5, [.ref (u1 0), .ref (u2 0), .null, .null, .null, .int 0, .int 0, .null]))], (cS cyI u1 sI), (cS cyI u2 sI), [(q3, .inr (2, dfX2))]] : List va_W).flatten) := hD.psh
  refine lv_dup hx hb dX5_init_30 rfl ?_
  refine lv_iconst (v := 2) hx hb dX5_init_31 (by decide) ?_
  refine wcII (As := [.int (2 : Int32)]) (rest := [.ref q3, .ref q]) (wr := ([[(q, .inr (5, [.ref (u1 0), .ref (u2 0), .null, .null, .null, .int 0, .int 0, .null]))], (cS cyI u1 sI), (cS cyI u2 sI)] : List va_W).flatten) (b := q3) ⟨hx, hb, hml, hown, hts⟩ (met_X2_init2 l dC dI cyI cyO q3 _ N) (cwI 1 hts (gCode w_code_X2_init) rfl rfl rfl (hts _ w_initialized_X2) (hts _ w_methodLink_X5_21) (hts _ w_instanceMethod_X2_init) rfl (by decide +kernel) ⟨Nat.le_of_ble_eq_true rfl, Nat.le_of_ble_eq_true rfl⟩) hP hD hK hO (seg_perm (n := 4) (R := [[(q, .inr (5, [.ref (u1 0), .ref (u2 0), .null, .null, .null, .int 0, .int 0, .null]))], (cS cyI u1 sI), (cS cyI u2 sI)]) (C := [[(q3, .inr (2, dfX2))]]) [0, 1, 2] [3] rfl rfl rfl (by decide) rfl) rfl hl.1 (Nat.le_of_ble_eq_true rfl) dX5_init_32 ⟨Nat.le_of_ble_eq_true rfl, Nat.le_of_ble_eq_true rfl⟩ hS hA (fun u3 H locs hw hP1 hD1 hS => ?_)
  obtain ⟨hw, hfu3_0, hfu3_1⟩ := hw
  have hw := hw.symm
  subst hw
  have hq := seg_permS (segs := [[(q, .inr (5, [.ref (u1 0), .ref (u2 0), .null, .null, .null, .int 0, .int 0, .null]))], (cS cyI u1 sI), (cS cyI u2 sI), (cH cyO u3.1 u3.2.1 2 u3.2.2.1), (cS cyI (u3.2.2.2 0) sI), (cS cyI (u3.2.2.2 1) sI)]) (R := [[(q, .inr (5, [.ref (u1 0), .ref (u2 0), .null, .null, .null, .int 0, .int 0, .null]))], (cS cyI u1 sI), (cS cyI u2 sI)]) (C := [(cH cyO u3.1 u3.2.1 2 u3.2.2.1), (cS cyI (u3.2.2.2 0) sI), (cS cyI (u3.2.2.2 1) sI)]) (n := 6) [0, 1, 2] [3, 4, 5] rfl rfl rfl (by decide)
  have hP : va_P (dC, dI) vwCl (([[(q, .inr (5, [.ref (u1 0), .ref (u2 0), .null, .null, .null, .int 0, .int 0, .null]))], (cS cyI u1 sI), (cS cyI u2 sI), (cH cyO u3.1 u3.2.1 2 u3.2.2.1), (cS cyI (u3.2.2.2 0) sI), (cS cyI (u3.2.2.2 1) sI)] : List va_W).flatten) H := hP1.perm hq
  have hD : va_D A (([[(q, .inr (5, [.ref (u1 0), .ref (u2 0), .null, .null, .null, .int 0, .int 0, .null]))], (cS cyI u1 sI), (cS cyI u2 sI), (cH cyO u3.1 u3.2.1 2 u3.2.2.1), (cS cyI (u3.2.2.2 0) sI), (cS cyI (u3.2.2.2 1) sI)] : List va_W).flatten) := hD1.perm hq
  clear hq hP1 hD1
  refine va_putF (D := (dC, dI)) (ci := 5) (v := .ref u3.1) (ty := .object "WombatBowls$Shelf") (C := RX5) (T := TX5) (N := 8) hx hb hts inX5 tyX5 tyX5_ok nmX5 hown hK.1 hP hD hS 0 rfl rfl 2 (by decide) (hts _ w_fieldLink_X5_24) (fun _ h9 => h9) rfl hin2 rfl (by decide +kernel) rfl rfl (Nat.le_of_ble_eq_true rfl) dX5_init_35 (fun H locs hP hD hS => ?_)
  have hP : va_P (dC, dI) vwCl (([[(q, .inr (5, [.ref (u1 0), .ref (u2 0), .ref u3.1, .null, .null, .int 0, .int 0, .null]))], (cS cyI u1 sI), (cS cyI u2 sI), (cH cyO u3.1 u3.2.1 2 u3.2.2.1), (cS cyI (u3.2.2.2 0) sI), (cS cyI (u3.2.2.2 1) sI)] : List va_W).flatten) H := hP
  have hD : va_D A (([[(q, .inr (5, [.ref (u1 0), .ref (u2 0), .ref u3.1, .null, .null, .int 0, .int 0, .null]))], (cS cyI u1 sI), (cS cyI u2 sI), (cH cyO u3.1 u3.2.1 2 u3.2.2.1), (cS cyI (u3.2.2.2 0) sI), (cS cyI (u3.2.2.2 1) sI)] : List va_W).flatten) := hD
  refine lv_aload_n hx hb dX5_init_38 rfl (lv_at hl 0 rfl) ?_
  refine lv_iconst (v := 2) hx hb dX5_init_39 (by decide) ?_
  refine wnewa hx hb (hts _ w_arrayClass_int) hK hP hD hS hA (n := (2 : Int32)) (N' := 2) (by decide) rfl (Nat.le_of_ble_eq_true rfl) (Nat.le_of_ble_eq_true rfl) (Nat.le_of_ble_eq_true rfl) dX5_init_40 (fun q4 H hP hD hS => ?_)
  have hP : va_P (dC, dI) vwCl (([[(q, .inr (5, [.ref (u1 0), .ref (u2 0), .ref u3.1, .null, .null, .int 0, .int 0, .null]))], (cS cyI u1 sI), (cS cyI u2 sI), (cH cyO u3.1 u3.2.1 2 u3.2.2.1), (cS cyI (u3.2.2.2 0) sI), (cS cyI (u3.2.2.2 1) sI), [cI cyI q4 2 (fun _ => 0)]] : List va_W).flatten) H := hP
  have hD : va_D A (([[(q, .inr (5, [.ref (u1 0), .ref (u2 0), .ref u3.1, .null, .null, .int 0, .int 0, .null]))], (cS cyI u1 sI), (cS cyI u2 sI), (cH cyO u3.1 u3.2.1 2 u3.2.2.1), (cS cyI (u3.2.2.2 0) sI), (cS cyI (u3.2.2.2 1) sI), [cI cyI q4 2 (fun _ => 0)]] : List va_W).flatten) := hD
  refine va_putF (D := (dC, dI)) (ci := 5) (v := .ref q4) (ty := .array .int) (C := RX5) (T := TX5) (N := 8) hx hb hts inX5 tyX5 tyX5_ok nmX5 hown hK.1 hP hD hS 0 rfl rfl 3 (by decide) (hts _ w_fieldLink_X5_28) (fun _ h9 => h9) rfl hin2 rfl (by decide +kernel) rfl rfl (Nat.le_of_ble_eq_true rfl) dX5_init_42 (fun H locs hP hD hS => ?_)
  have hP : va_P (dC, dI) vwCl (([[(q, .inr (5, [.ref (u1 0), .ref (u2 0), .ref u3.1, .ref q4, .null, .int 0, .int 0, .null]))], (cS cyI u1 sI), (cS cyI u2 sI), (cH cyO u3.1 u3.2.1 2 u3.2.2.1), (cS cyI (u3.2.2.2 0) sI), (cS cyI (u3.2.2.2 1) sI), [cI cyI q4 2 (fun _ => 0)]] : List va_W).flatten) H := hP
  have hD : va_D A (([[(q, .inr (5, [.ref (u1 0), .ref (u2 0), .ref u3.1, .ref q4, .null, .int 0, .int 0, .null]))], (cS cyI u1 sI), (cS cyI u2 sI), (cH cyO u3.1 u3.2.1 2 u3.2.2.1), (cS cyI (u3.2.2.2 0) sI), (cS cyI (u3.2.2.2 1) sI), [cI cyI q4 2 (fun _ => 0)]] : List va_W).flatten) := hD
  refine lv_aload_n hx hb dX5_init_45 rfl (lv_at hl 0 rfl) ?_
  refine va_new (D := (dC, dI)) (ci := 2) (C := RX2) (T := TX2) (N := 1) (fs := dfX2) hx hb hts inX2 tyX2 tyX2_ok hown (hts _ w_classLink_X5_19) (hts _ w_instantiable_X2) (hts _ w_initialized_X2) hK.1 hP hD hS hA rfl dfX2_ok (Nat.le_of_ble_eq_true rfl) (Nat.le_of_ble_eq_true rfl) dX5_init_46 (fun q5 H hP hD hS => ?_)
  have hP : va_P (dC, dI) vwCl (([[(q, .inr (5, [.ref (u1 0), .ref (u2 0), .ref u3.1, .ref q4, .null, .int 0, .int 0, .null]))], (cS cyI u1 sI), (cS cyI u2 sI), (cH cyO u3.1 u3.2.1 2 u3.2.2.1), (cS cyI (u3.2.2.2 0) sI), (cS cyI (u3.2.2.2 1) sI), [cI cyI q4 2 (fun _ => 0)], [(q5, .inr (2, dfX2))]] : List va_W).flatten) H := hP.psh
  have hD : va_D A (([[(q, .inr (5, [.ref (u1 0), .ref (u2 0), .ref u3.1, .ref q4, .null, .int 0, .int 0, .null]))], (cS cyI u1 sI), (cS cyI u2 sI), (cH cyO u3.1 u3.2.1 2 u3.2.2.1), (cS cyI (u3.2.2.2 0) sI), (cS cyI (u3.2.2.2 1) sI), [cI cyI q4 2 (fun _ => 0)], [(q5, .inr (2, dfX2))]] : List va_W).flatten) := hD.psh
  refine lv_dup hx hb dX5_init_49 rfl ?_
  refine lv_bipush (v := 6) hx hb dX5_init_50 (by decide) ?_
  refine wcII (As := [.int (6 : Int32)]) (rest := [.ref q5, .ref q]) (wr := ([[(q, .inr (5, [.ref (u1 0), .ref (u2 0), .ref u3.1, .ref q4, .null, .int 0, .int 0, .null]))], (cS cyI u1 sI), (cS cyI u2 sI), (cH cyO u3.1 u3.2.1 2 u3.2.2.1), (cS cyI (u3.2.2.2 0) sI), (cS cyI (u3.2.2.2 1) sI), [cI cyI q4 2 (fun _ => 0)]] : List va_W).flatten) (b := q5) ⟨hx, hb, hml, hown, hts⟩ (met_X2_init6 l dC dI cyI cyO q5 _ N) (cwI 1 hts (gCode w_code_X2_init) rfl rfl rfl (hts _ w_initialized_X2) (hts _ w_methodLink_X5_21) (hts _ w_instanceMethod_X2_init) rfl (by decide +kernel) ⟨Nat.le_of_ble_eq_true rfl, Nat.le_of_ble_eq_true rfl⟩) hP hD hK hO (seg_perm (n := 8) (R := [[(q, .inr (5, [.ref (u1 0), .ref (u2 0), .ref u3.1, .ref q4, .null, .int 0, .int 0, .null]))], (cS cyI u1 sI), (cS cyI u2 sI), (cH cyO u3.1 u3.2.1 2 u3.2.2.1), (cS cyI (u3.2.2.2 0) sI), (cS cyI (u3.2.2.2 1) sI), [cI cyI q4 2 (fun _ => 0)]]) (C := [[(q5, .inr (2, dfX2))]]) [0, 1, 2, 3, 4, 5, 6] [7] rfl rfl rfl (by decide) rfl) rfl hl.1 (Nat.le_of_ble_eq_true rfl) dX5_init_52 ⟨Nat.le_of_ble_eq_true rfl, Nat.le_of_ble_eq_true rfl⟩ hS hA (fun u4 H locs hw hP1 hD1 hS => ?_)
  obtain ⟨hw, hfu4_0, hfu4_1, hfu4_2, hfu4_3, hfu4_4, hfu4_5⟩ := hw
  have hw := hw.symm
  subst hw
  have hq := seg_permS (segs := [[(q, .inr (5, [.ref (u1 0), .ref (u2 0), .ref u3.1, .ref q4, .null, .int 0, .int 0, .null]))], (cS cyI u1 sI), (cS cyI u2 sI), (cH cyO u3.1 u3.2.1 2 u3.2.2.1), (cS cyI (u3.2.2.2 0) sI), (cS cyI (u3.2.2.2 1) sI), [cI cyI q4 2 (fun _ => 0)], (cH cyO u4.1 u4.2.1 6 u4.2.2.1), (cS cyI (u4.2.2.2 0) sI), (cS cyI (u4.2.2.2 1) sI), (cS cyI (u4.2.2.2 2) sI), (cS cyI (u4.2.2.2 3) sI), (cS cyI (u4.2.2.2 4) sI), (cS cyI (u4.2.2.2 5) sI)]) (R := [[(q, .inr (5, [.ref (u1 0), .ref (u2 0), .ref u3.1, .ref q4, .null, .int 0, .int 0, .null]))], (cS cyI u1 sI), (cS cyI u2 sI), (cH cyO u3.1 u3.2.1 2 u3.2.2.1), (cS cyI (u3.2.2.2 0) sI), (cS cyI (u3.2.2.2 1) sI), [cI cyI q4 2 (fun _ => 0)]]) (C := [(cH cyO u4.1 u4.2.1 6 u4.2.2.1), (cS cyI (u4.2.2.2 0) sI), (cS cyI (u4.2.2.2 1) sI), (cS cyI (u4.2.2.2 2) sI), (cS cyI (u4.2.2.2 3) sI), (cS cyI (u4.2.2.2 4) sI), (cS cyI (u4.2.2.2 5) sI)]) (n := 14) [0, 1, 2, 3, 4, 5, 6] [7, 8, 9, 10, 11, 12, 13] rfl rfl rfl (by decide)
  have hP : va_P (dC, dI) vwCl (([[(q, .inr (5, [.ref (u1 0), .ref (u2 0), .ref u3.1, .ref q4, .null, .int 0, .int 0, .null]))], (cS cyI u1 sI), (cS cyI u2 sI), (cH cyO u3.1 u3.2.1 2 u3.2.2.1), (cS cyI (u3.2.2.2 0) sI), (cS cyI (u3.2.2.2 1) sI), [cI cyI q4 2 (fun _ => 0)], (cH cyO u4.1 u4.2.1 6 u4.2.2.1), (cS cyI (u4.2.2.2 0) sI), (cS cyI (u4.2.2.2 1) sI), (cS cyI (u4.2.2.2 2) sI), (cS cyI (u4.2.2.2 3) sI), (cS cyI (u4.2.2.2 4) sI), (cS cyI (u4.2.2.2 5) sI)] : List va_W).flatten) H := hP1.perm hq
  have hD : va_D A (([[(q, .inr (5, [.ref (u1 0), .ref (u2 0), .ref u3.1, .ref q4, .null, .int 0, .int 0, .null]))], (cS cyI u1 sI), (cS cyI u2 sI), (cH cyO u3.1 u3.2.1 2 u3.2.2.1), (cS cyI (u3.2.2.2 0) sI), (cS cyI (u3.2.2.2 1) sI), [cI cyI q4 2 (fun _ => 0)], (cH cyO u4.1 u4.2.1 6 u4.2.2.1), (cS cyI (u4.2.2.2 0) sI), (cS cyI (u4.2.2.2 1) sI), (cS cyI (u4.2.2.2 2) sI), (cS cyI (u4.2.2.2 3) sI), (cS cyI (u4.2.2.2 4) sI), (cS cyI (u4.2.2.2 5) sI)] : List va_W).flatten) := hD1.perm hq
  clear hq hP1 hD1
  refine va_putF (D := (dC, dI)) (ci := 5) (v := .ref u4.1) (ty := .object "WombatBowls$Shelf") (C := RX5) (T := TX5) (N := 8) hx hb hts inX5 tyX5 tyX5_ok nmX5 hown hK.1 hP hD hS 0 rfl rfl 4 (by decide) (hts _ w_fieldLink_X5_32) (fun _ h9 => h9) rfl hin2 rfl (by decide +kernel) rfl rfl (Nat.le_of_ble_eq_true rfl) dX5_init_55 (fun H locs hP hD hS => ?_)
  have hP : va_P (dC, dI) vwCl (([[(q, .inr (5, [.ref (u1 0), .ref (u2 0), .ref u3.1, .ref q4, .ref u4.1, .int 0, .int 0, .null]))], (cS cyI u1 sI), (cS cyI u2 sI), (cH cyO u3.1 u3.2.1 2 u3.2.2.1), (cS cyI (u3.2.2.2 0) sI), (cS cyI (u3.2.2.2 1) sI), [cI cyI q4 2 (fun _ => 0)], (cH cyO u4.1 u4.2.1 6 u4.2.2.1), (cS cyI (u4.2.2.2 0) sI), (cS cyI (u4.2.2.2 1) sI), (cS cyI (u4.2.2.2 2) sI), (cS cyI (u4.2.2.2 3) sI), (cS cyI (u4.2.2.2 4) sI), (cS cyI (u4.2.2.2 5) sI)] : List va_W).flatten) H := hP
  have hD : va_D A (([[(q, .inr (5, [.ref (u1 0), .ref (u2 0), .ref u3.1, .ref q4, .ref u4.1, .int 0, .int 0, .null]))], (cS cyI u1 sI), (cS cyI u2 sI), (cH cyO u3.1 u3.2.1 2 u3.2.2.1), (cS cyI (u3.2.2.2 0) sI), (cS cyI (u3.2.2.2 1) sI), [cI cyI q4 2 (fun _ => 0)], (cH cyO u4.1 u4.2.1 6 u4.2.2.1), (cS cyI (u4.2.2.2 0) sI), (cS cyI (u4.2.2.2 1) sI), (cS cyI (u4.2.2.2 2) sI), (cS cyI (u4.2.2.2 3) sI), (cS cyI (u4.2.2.2 4) sI), (cS cyI (u4.2.2.2 5) sI)] : List va_W).flatten) := hD
  refine lv_aload_n hx hb dX5_init_58 rfl (lv_at hl 0 rfl) ?_
  refine lv_iconst (v := 0) hx hb dX5_init_59 (by decide) ?_
  refine va_put (D := (dC, dI)) (ci := 5) (v := .int (0 : Int32)) (ty := .int) (C := RX5) (T := TX5) (N := 8) hx hb hts inX5 tyX5 tyX5_ok nmX5 hown hK.1 hP hD hS 0 rfl rfl 5 (by decide) (hts _ w_fieldLink_X5_35) (fun _ h9 => h9) rfl (by decide +kernel) rfl rfl (Nat.le_of_ble_eq_true rfl) dX5_init_60 (fun H locs hP hD hS => ?_)
  have hP : va_P (dC, dI) vwCl (([[(q, .inr (5, [.ref (u1 0), .ref (u2 0), .ref u3.1, .ref q4, .ref u4.1, .int (0 : Int32), .int 0, .null]))], (cS cyI u1 sI), (cS cyI u2 sI), (cH cyO u3.1 u3.2.1 2 u3.2.2.1), (cS cyI (u3.2.2.2 0) sI), (cS cyI (u3.2.2.2 1) sI), [cI cyI q4 2 (fun _ => 0)], (cH cyO u4.1 u4.2.1 6 u4.2.2.1), (cS cyI (u4.2.2.2 0) sI), (cS cyI (u4.2.2.2 1) sI), (cS cyI (u4.2.2.2 2) sI), (cS cyI (u4.2.2.2 3) sI), (cS cyI (u4.2.2.2 4) sI), (cS cyI (u4.2.2.2 5) sI)] : List va_W).flatten) H := hP
  have hD : va_D A (([[(q, .inr (5, [.ref (u1 0), .ref (u2 0), .ref u3.1, .ref q4, .ref u4.1, .int (0 : Int32), .int 0, .null]))], (cS cyI u1 sI), (cS cyI u2 sI), (cH cyO u3.1 u3.2.1 2 u3.2.2.1), (cS cyI (u3.2.2.2 0) sI), (cS cyI (u3.2.2.2 1) sI), [cI cyI q4 2 (fun _ => 0)], (cH cyO u4.1 u4.2.1 6 u4.2.2.1), (cS cyI (u4.2.2.2 0) sI), (cS cyI (u4.2.2.2 1) sI), (cS cyI (u4.2.2.2 2) sI), (cS cyI (u4.2.2.2 3) sI), (cS cyI (u4.2.2.2 4) sI), (cS cyI (u4.2.2.2 5) sI)] : List va_W).flatten) := hD
  refine lv_aload_n hx hb dX5_init_63 rfl (lv_at hl 0 rfl) ?_
  refine lv_iconst (v := 0) hx hb dX5_init_64 (by decide) ?_
  refine va_put (D := (dC, dI)) (ci := 5) (v := .int (0 : Int32)) (ty := .int) (C := RX5) (T := TX5) (N := 8) hx hb hts inX5 tyX5 tyX5_ok nmX5 hown hK.1 hP hD hS 0 rfl rfl 6 (by decide) (hts _ w_fieldLink_X5_39) (fun _ h9 => h9) rfl (by decide +kernel) rfl rfl (Nat.le_of_ble_eq_true rfl) dX5_init_65 (fun H locs hP hD hS => ?_)
  have hP : va_P (dC, dI) vwCl (([[(q, .inr (5, [.ref (u1 0), .ref (u2 0), .ref u3.1, .ref q4, .ref u4.1, .int (0 : Int32), .int (0 : Int32), .null]))], (cS cyI u1 sI), (cS cyI u2 sI), (cH cyO u3.1 u3.2.1 2 u3.2.2.1), (cS cyI (u3.2.2.2 0) sI), (cS cyI (u3.2.2.2 1) sI), [cI cyI q4 2 (fun _ => 0)], (cH cyO u4.1 u4.2.1 6 u4.2.2.1), (cS cyI (u4.2.2.2 0) sI), (cS cyI (u4.2.2.2 1) sI), (cS cyI (u4.2.2.2 2) sI), (cS cyI (u4.2.2.2 3) sI), (cS cyI (u4.2.2.2 4) sI), (cS cyI (u4.2.2.2 5) sI)] : List va_W).flatten) H := hP
  have hD : va_D A (([[(q, .inr (5, [.ref (u1 0), .ref (u2 0), .ref u3.1, .ref q4, .ref u4.1, .int (0 : Int32), .int (0 : Int32), .null]))], (cS cyI u1 sI), (cS cyI u2 sI), (cH cyO u3.1 u3.2.1 2 u3.2.2.1), (cS cyI (u3.2.2.2 0) sI), (cS cyI (u3.2.2.2 1) sI), [cI cyI q4 2 (fun _ => 0)], (cH cyO u4.1 u4.2.1 6 u4.2.2.1), (cS cyI (u4.2.2.2 0) sI), (cS cyI (u4.2.2.2 1) sI), (cS cyI (u4.2.2.2 2) sI), (cS cyI (u4.2.2.2 3) sI), (cS cyI (u4.2.2.2 4) sI), (cS cyI (u4.2.2.2 5) sI)] : List va_W).flatten) := hD
  refine lv_aload_n hx hb dX5_init_68 rfl (lv_at hl 0 rfl) ?_
  refine va_new (D := (dC, dI)) (ci := 4) (C := RX4) (T := TX4) (N := 2) (fs := dfX4) hx hb hts inX4 tyX4 tyX4_ok hown (hts _ w_classLink_X5_42) (hts _ w_instantiable_X4) (hts _ w_initialized_X4) hK.1 hP hD hS hA rfl dfX4_ok (Nat.le_of_ble_eq_true rfl) (Nat.le_of_ble_eq_true rfl) dX5_init_69 (fun q6 H hP hD hS => ?_)
  have hP : va_P (dC, dI) vwCl (([[(q, .inr (5, [.ref (u1 0), .ref (u2 0), .ref u3.1, .ref q4, .ref u4.1, .int (0 : Int32), .int (0 : Int32), .null]))], (cS cyI u1 sI), (cS cyI u2 sI), (cH cyO u3.1 u3.2.1 2 u3.2.2.1), (cS cyI (u3.2.2.2 0) sI), (cS cyI (u3.2.2.2 1) sI), [cI cyI q4 2 (fun _ => 0)], (cH cyO u4.1 u4.2.1 6 u4.2.2.1), (cS cyI (u4.2.2.2 0) sI), (cS cyI (u4.2.2.2 1) sI), (cS cyI (u4.2.2.2 2) sI), (cS cyI (u4.2.2.2 3) sI), (cS cyI (u4.2.2.2 4) sI), (cS cyI (u4.2.2.2 5) sI), [(q6, .inr (4, dfX4))]] : List va_W).flatten) H := hP.psh
  have hD : va_D A (([[(q, .inr (5, [.ref (u1 0), .ref (u2 0), .ref u3.1, .ref q4, .ref u4.1, .int (0 : Int32), .int (0 : Int32), .null]))], (cS cyI u1 sI), (cS cyI u2 sI), (cH cyO u3.1 u3.2.1 2 u3.2.2.1), (cS cyI (u3.2.2.2 0) sI), (cS cyI (u3.2.2.2 1) sI), [cI cyI q4 2 (fun _ => 0)], (cH cyO u4.1 u4.2.1 6 u4.2.2.1), (cS cyI (u4.2.2.2 0) sI), (cS cyI (u4.2.2.2 1) sI), (cS cyI (u4.2.2.2 2) sI), (cS cyI (u4.2.2.2 3) sI), (cS cyI (u4.2.2.2 4) sI), (cS cyI (u4.2.2.2 5) sI), [(q6, .inr (4, dfX4))]] : List va_W).flatten) := hD.psh
  refine lv_dup hx hb dX5_init_72 rfl ?_
  refine wcIN (As := []) (rest := [.ref q6, .ref q]) (wr := ([[(q, .inr (5, [.ref (u1 0), .ref (u2 0), .ref u3.1, .ref q4, .ref u4.1, .int (0 : Int32), .int (0 : Int32), .null]))], (cS cyI u1 sI), (cS cyI u2 sI), (cH cyO u3.1 u3.2.1 2 u3.2.2.1), (cS cyI (u3.2.2.2 0) sI), (cS cyI (u3.2.2.2 1) sI), [cI cyI q4 2 (fun _ => 0)], (cH cyO u4.1 u4.2.1 6 u4.2.2.1), (cS cyI (u4.2.2.2 0) sI), (cS cyI (u4.2.2.2 1) sI), (cS cyI (u4.2.2.2 2) sI), (cS cyI (u4.2.2.2 3) sI), (cS cyI (u4.2.2.2 4) sI), (cS cyI (u4.2.2.2 5) sI)] : List va_W).flatten) (b := q6) ⟨hx, hb, hml, hown, hts⟩ (met_X4_init l dC dI cyI cyO q6 _) ⟨va_cnB 0 hts (gCode w_code_X4_init) rfl rfl rfl (hK.2 _ n_X5_44) (hts _ w_initialized_X4) (by decide +kernel) ⟨Nat.le_of_ble_eq_true rfl, Nat.le_of_ble_eq_true rfl⟩, rfl, hts _ w_instanceMethod_X4_init⟩ hP hD hK hO (seg_perm (n := 15) (R := [[(q, .inr (5, [.ref (u1 0), .ref (u2 0), .ref u3.1, .ref q4, .ref u4.1, .int (0 : Int32), .int (0 : Int32), .null]))], (cS cyI u1 sI), (cS cyI u2 sI), (cH cyO u3.1 u3.2.1 2 u3.2.2.1), (cS cyI (u3.2.2.2 0) sI), (cS cyI (u3.2.2.2 1) sI), [cI cyI q4 2 (fun _ => 0)], (cH cyO u4.1 u4.2.1 6 u4.2.2.1), (cS cyI (u4.2.2.2 0) sI), (cS cyI (u4.2.2.2 1) sI), (cS cyI (u4.2.2.2 2) sI), (cS cyI (u4.2.2.2 3) sI), (cS cyI (u4.2.2.2 4) sI), (cS cyI (u4.2.2.2 5) sI)]) (C := [[(q6, .inr (4, dfX4))]]) [0, 1, 2, 3, 4, 5, 6, 7, 8, 9, 10, 11, 12, 13] [14] rfl rfl rfl (by decide) rfl) rfl hl.1 (Nat.le_of_ble_eq_true rfl) dX5_init_73 ⟨Nat.le_of_ble_eq_true rfl, Nat.le_of_ble_eq_true rfl⟩ hS hA (fun u5 H locs hw hP1 hD1 hS => ?_)
  have hw := hw.symm
  subst hw
  have hq := seg_permS (segs := [[(q, .inr (5, [.ref (u1 0), .ref (u2 0), .ref u3.1, .ref q4, .ref u4.1, .int (0 : Int32), .int (0 : Int32), .null]))], (cS cyI u1 sI), (cS cyI u2 sI), (cH cyO u3.1 u3.2.1 2 u3.2.2.1), (cS cyI (u3.2.2.2 0) sI), (cS cyI (u3.2.2.2 1) sI), [cI cyI q4 2 (fun _ => 0)], (cH cyO u4.1 u4.2.1 6 u4.2.2.1), (cS cyI (u4.2.2.2 0) sI), (cS cyI (u4.2.2.2 1) sI), (cS cyI (u4.2.2.2 2) sI), (cS cyI (u4.2.2.2 3) sI), (cS cyI (u4.2.2.2 4) sI), (cS cyI (u4.2.2.2 5) sI), (cT cyI u5 tI)]) (R := [[(q, .inr (5, [.ref (u1 0), .ref (u2 0), .ref u3.1, .ref q4, .ref u4.1, .int (0 : Int32), .int (0 : Int32), .null]))], (cS cyI u1 sI), (cS cyI u2 sI), (cH cyO u3.1 u3.2.1 2 u3.2.2.1), (cS cyI (u3.2.2.2 0) sI), (cS cyI (u3.2.2.2 1) sI), [cI cyI q4 2 (fun _ => 0)], (cH cyO u4.1 u4.2.1 6 u4.2.2.1), (cS cyI (u4.2.2.2 0) sI), (cS cyI (u4.2.2.2 1) sI), (cS cyI (u4.2.2.2 2) sI), (cS cyI (u4.2.2.2 3) sI), (cS cyI (u4.2.2.2 4) sI), (cS cyI (u4.2.2.2 5) sI)]) (C := [(cT cyI u5 tI)]) (n := 15) [0, 1, 2, 3, 4, 5, 6, 7, 8, 9, 10, 11, 12, 13] [14] rfl rfl rfl (by decide)
  have hP : va_P (dC, dI) vwCl (([[(q, .inr (5, [.ref (u1 0), .ref (u2 0), .ref u3.1, .ref q4, .ref u4.1, .int (0 : Int32), .int (0 : Int32), .null]))], (cS cyI u1 sI), (cS cyI u2 sI), (cH cyO u3.1 u3.2.1 2 u3.2.2.1), (cS cyI (u3.2.2.2 0) sI), (cS cyI (u3.2.2.2 1) sI), [cI cyI q4 2 (fun _ => 0)], (cH cyO u4.1 u4.2.1 6 u4.2.2.1), (cS cyI (u4.2.2.2 0) sI), (cS cyI (u4.2.2.2 1) sI), (cS cyI (u4.2.2.2 2) sI), (cS cyI (u4.2.2.2 3) sI), (cS cyI (u4.2.2.2 4) sI), (cS cyI (u4.2.2.2 5) sI), (cT cyI u5 tI)] : List va_W).flatten) H := hP1.perm hq
  have hD : va_D A (([[(q, .inr (5, [.ref (u1 0), .ref (u2 0), .ref u3.1, .ref q4, .ref u4.1, .int (0 : Int32), .int (0 : Int32), .null]))], (cS cyI u1 sI), (cS cyI u2 sI), (cH cyO u3.1 u3.2.1 2 u3.2.2.1), (cS cyI (u3.2.2.2 0) sI), (cS cyI (u3.2.2.2 1) sI), [cI cyI q4 2 (fun _ => 0)], (cH cyO u4.1 u4.2.1 6 u4.2.2.1), (cS cyI (u4.2.2.2 0) sI), (cS cyI (u4.2.2.2 1) sI), (cS cyI (u4.2.2.2 2) sI), (cS cyI (u4.2.2.2 3) sI), (cS cyI (u4.2.2.2 4) sI), (cS cyI (u4.2.2.2 5) sI), (cT cyI u5 tI)] : List va_W).flatten) := hD1.perm hq
  clear hq hP1 hD1
  refine va_putF (D := (dC, dI)) (ci := 5) (v := .ref (u5 6)) (ty := .object "WombatBowls$Text") (C := RX5) (T := TX5) (N := 8) hx hb hts inX5 tyX5 tyX5_ok nmX5 hown hK.1 hP hD hS 0 rfl rfl 7 (by decide) (hts _ w_fieldLink_X5_45) (fun _ h9 => h9) rfl hin2 rfl (by decide +kernel) rfl rfl (Nat.le_of_ble_eq_true rfl) dX5_init_76 (fun H locs hP hD hS => ?_)
  have hP : va_P (dC, dI) vwCl (([[(q, .inr (5, [.ref (u1 0), .ref (u2 0), .ref u3.1, .ref q4, .ref u4.1, .int (0 : Int32), .int (0 : Int32), .ref (u5 6)]))], (cS cyI u1 sI), (cS cyI u2 sI), (cH cyO u3.1 u3.2.1 2 u3.2.2.1), (cS cyI (u3.2.2.2 0) sI), (cS cyI (u3.2.2.2 1) sI), [cI cyI q4 2 (fun _ => 0)], (cH cyO u4.1 u4.2.1 6 u4.2.2.1), (cS cyI (u4.2.2.2 0) sI), (cS cyI (u4.2.2.2 1) sI), (cS cyI (u4.2.2.2 2) sI), (cS cyI (u4.2.2.2 3) sI), (cS cyI (u4.2.2.2 4) sI), (cS cyI (u4.2.2.2 5) sI), (cT cyI u5 tI)] : List va_W).flatten) H := hP
  have hD : va_D A (([[(q, .inr (5, [.ref (u1 0), .ref (u2 0), .ref u3.1, .ref q4, .ref u4.1, .int (0 : Int32), .int (0 : Int32), .ref (u5 6)]))], (cS cyI u1 sI), (cS cyI u2 sI), (cH cyO u3.1 u3.2.1 2 u3.2.2.1), (cS cyI (u3.2.2.2 0) sI), (cS cyI (u3.2.2.2 1) sI), [cI cyI q4 2 (fun _ => 0)], (cH cyO u4.1 u4.2.1 6 u4.2.2.1), (cS cyI (u4.2.2.2 0) sI), (cS cyI (u4.2.2.2 1) sI), (cS cyI (u4.2.2.2 2) sI), (cS cyI (u4.2.2.2 3) sI), (cS cyI (u4.2.2.2 4) sI), (cS cyI (u4.2.2.2 5) sI), (cT cyI u5 tI)] : List va_W).flatten) := hD
  have hq := seg_permS (segs := [[(q, .inr (5, [.ref (u1 0), .ref (u2 0), .ref u3.1, .ref q4, .ref u4.1, .int (0 : Int32), .int (0 : Int32), .ref (u5 6)]))], (cH cyO u3.1 u3.2.1 2 u3.2.2.1), [cI cyI q4 2 (fun _ => 0)], (cH cyO u4.1 u4.2.1 6 u4.2.2.1), (cT cyI u5 tI), (cS cyI u1 sI), (cS cyI u2 sI), (cS cyI (u3.2.2.2 0) sI), (cS cyI (u3.2.2.2 1) sI), (cS cyI (u4.2.2.2 0) sI), (cS cyI (u4.2.2.2 1) sI), (cS cyI (u4.2.2.2 2) sI), (cS cyI (u4.2.2.2 3) sI), (cS cyI (u4.2.2.2 4) sI), (cS cyI (u4.2.2.2 5) sI)]) (R := []) (C := [[(q, .inr (5, [.ref (u1 0), .ref (u2 0), .ref u3.1, .ref q4, .ref u4.1, .int (0 : Int32), .int (0 : Int32), .ref (u5 6)]))], (cS cyI u1 sI), (cS cyI u2 sI), (cH cyO u3.1 u3.2.1 2 u3.2.2.1), (cS cyI (u3.2.2.2 0) sI), (cS cyI (u3.2.2.2 1) sI), [cI cyI q4 2 (fun _ => 0)], (cH cyO u4.1 u4.2.1 6 u4.2.2.1), (cS cyI (u4.2.2.2 0) sI), (cS cyI (u4.2.2.2 1) sI), (cS cyI (u4.2.2.2 2) sI), (cS cyI (u4.2.2.2 3) sI), (cS cyI (u4.2.2.2 4) sI), (cS cyI (u4.2.2.2 5) sI), (cT cyI u5 tI)]) (n := 15) [] [0, 5, 6, 1, 7, 8, 2, 3, 9, 10, 11, 12, 13, 14, 4] rfl rfl rfl (by decide)
  have hP := hP.perm hq
  have hD := hD.perm hq
  refine W.widen (k := 137) (n := 1214) (Nat.le_of_ble_eq_true rfl) (Nat.le_of_ble_eq_true rfl) ?_
  exact W.vret hx hb hr (fun t ht hW => ⟨⟨(adr [q, u3.1, u3.2.1, q4, u4.1, u4.2.1, u5 6, u5 7], u3.2.2.1, u4.2.2.1, fun k => ([u1, u2, (u3.2.2.2 0), (u3.2.2.2 1), (u4.2.2.2 0), (u4.2.2.2 1), (u4.2.2.2 2), (u4.2.2.2 3), (u4.2.2.2 4), (u4.2.2.2 5)] : List (Nat → Nat)).getD k (fun _ => 0)), rfl, ⟨rfl, hfu3_0, hfu3_1, hfu4_0, hfu4_1, hfu4_2, hfu4_3, hfu4_4, hfu4_5⟩, by rw [ht]; exact hP, hD⟩, hS.F ht⟩) hS.2.2 dX5_init_79
