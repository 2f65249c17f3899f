/-! the law: cases, part 2 -/
section LAW2
variable {p : Program} {l : Launch} {e : Env} {R : Room} {s : State} {m : MethodId} {args : Array Value} {below : List Frame} {meth : Method} {c : Code} {H : Heap} {locs : List Loc} {cells slots : Nat} {Q : State → Prop} {ls : Array Slot}
variable {A : Nat → Prop} {z0 b L : Nat} {xs : Nat → Int32} {dC : Nat → ClassId} {dI : Nat → Nat → Nat} {cyI cyO cyL : ClassId}
theorem dL_law_1560 : decode cL_law 1560 = .ok (.aload_n 1, 1) := by decide +kernel
theorem dL_law_1561 : decode cL_law 1561 = .ok (.aload_n 0, 1) := by decide +kernel
theorem dL_law_1562 : decode cL_law 1562 = .ok (.iload 4, 2) := by decide +kernel
theorem dL_law_1564 : decode cL_law 1564 = .ok (.iconst 1, 1) := by decide +kernel
theorem dL_law_1565 : decode cL_law 1565 = .ok (.iadd, 1) := by decide +kernel
theorem dL_law_1566 : decode cL_law 1566 = .ok (.iaload, 1) := by decide +kernel
theorem dL_law_1567 : decode cL_law 1567 = .ok (.aload_n 3, 1) := by decide +kernel
theorem dL_law_1568 : decode cL_law 1568 = .ok (.invokestatic 251, 3) := by decide +kernel
theorem dL_law_1571 : decode cL_law 1571 = .ok (.istore 5, 2) := by decide +kernel
theorem dL_law_1573 : decode cL_law 1573 = .ok (.aload_n 2, 1) := by decide +kernel
theorem dL_law_1574 : decode cL_law 1574 = .ok (.aload_n 0, 1) := by decide +kernel
theorem dL_law_1575 : decode cL_law 1575 = .ok (.iload 4, 2) := by decide +kernel
theorem dL_law_1577 : decode cL_law 1577 = .ok (.iconst 1, 1) := by decide +kernel
theorem dL_law_1578 : decode cL_law 1578 = .ok (.iadd, 1) := by decide +kernel
theorem dL_law_1579 : decode cL_law 1579 = .ok (.iaload, 1) := by decide +kernel
theorem dL_law_1580 : decode cL_law 1580 = .ok (.invokevirtual 253, 3) := by decide +kernel
theorem dL_law_1583 : decode cL_law 1583 = .ok (.istore 6, 2) := by decide +kernel
theorem dL_law_1585 : decode cL_law 1585 = .ok (.aload_n 2, 1) := by decide +kernel
theorem dL_law_1586 : decode cL_law 1586 = .ok (.invokevirtual 143, 3) := by decide +kernel
theorem dL_law_1589 : decode cL_law 1589 = .ok (.iload 5, 2) := by decide +kernel
theorem dL_law_1591 : decode cL_law 1591 = .ok (.if_icmp .eq 5, 3) := by decide +kernel
theorem dL_law_1594 : decode cL_law 1594 = .ok (.iconst 0, 1) := by decide +kernel
theorem dL_law_1596 : decode cL_law 1596 = .ok (.iload 5, 2) := by decide +kernel
theorem dL_law_1598 : decode cL_law 1598 = .ok (.ifCond .ne 15, 3) := by decide +kernel
theorem dL_law_1601 : decode cL_law 1601 = .ok (.aload_n 3, 1) := by decide +kernel
theorem dL_law_1602 : decode cL_law 1602 = .ok (.iconst 0, 1) := by decide +kernel
theorem dL_law_1603 : decode cL_law 1603 = .ok (.laload, 1) := by decide +kernel
theorem dL_law_1604 : decode cL_law 1604 = .ok (.iload 6, 2) := by decide +kernel
theorem dL_law_1606 : decode cL_law 1606 = .ok (.i2l, 1) := by decide +kernel
theorem dL_law_1607 : decode cL_law 1607 = .ok (.lcmp, 1) := by decide +kernel
theorem dL_law_1608 : decode cL_law 1608 = .ok (.ifCond .eq 5, 3) := by decide +kernel
theorem dL_law_1611 : decode cL_law 1611 = .ok (.iconst 0, 1) := by decide +kernel
theorem dL_law_1613 : decode cL_law 1613 = .ok (.goto 1120, 3) := by decide +kernel
def f_law31 (N L : Nat) (xs : Nat → Int32) (i : Int32) (fo : (Nat → Int64)) (mv : MV) (xv : XV) (nv : SV) (tv : SV) (w0 : SV) (w1 : SV) (v0 : SV) (v1 : SV) (v2 : SV) (v3 : SV) (v4 : SV) (v5 : SV) : Option ((Nat → Int64) × MV × XV × SV × SV × SV × SV × SV × SV × SV × SV × SV × SV) :=
  gd (ixok (i + (1 : Int32)) L) ((f_L_weightOf N fo xv nv (xs (i + (1 : Int32)).toNatClampNeg)).bind (fun o2 => gd (ixok (i + (1 : Int32)) L) ((f_X6_weightOf N mv (xs (i + (1 : Int32)).toNatClampNeg)).bind (fun o5 => (f_X6_thrown N o5.2).bind (fun o7 => (if o7 = o2.1 then jn (fun (s1613 : Unit) => some (o2.2.1, o5.2, o2.2.2.1, o2.2.2.2, tv, w0, w1, v0, v1, v2, v3, v4, v5)) (fun (j1613 : (Unit) → Option ((Nat → Int64) × MV × XV × SV × SV × SV × SV × SV × SV × SV × SV × SV × SV)) => (if o2.1 = 0 then (if (lg_cmp (o2.2.1 (0 : Int32).toNatClampNeg) ((o5.1).toInt64)) = 0 then j1613 () else none) else j1613 ())) else none))))))
set_option maxHeartbeats 4000000 in
set_option maxRecDepth 100000 in
theorem law31 (hst : l.stackTraces = false) (hx : p.tables.exec = Jvm.exec) (hb : c.code = code) (hml : c.maxLocals = 9) (hown : s.vm.findClass RL = some m.cls) (hts : ∀ w ∈ wT, w.before args s = true) (hK : wK dC dI cyI cyO cyL s) (hZ : wZ z0 s) (hAz : ∀ q, A q → z0 ≤ q) (hz0 : z0 ≤ s.heap.size) (hA : ∀ q : Nat, s.heap.size ≤ q → A q) (hX : va_X b L xs s s.heap) (hbl : b < s.heap.size) (hbA : ¬ A b) (hRf : 11 ≤ R.frames) (hRl : 398 ≤ R.locals) (qo : Nat) (mm x an tr k0 k1 b0 b1 b2 b3 b4 b5 : Nat → Nat) (fl fs : Nat → Option Nat) (N : Nat) (fo : (Nat → Int64)) (mv : MV) (xv : XV) (nv : SV) (tv : SV) (w0 : SV) (w1 : SV) (v0 : SV) (v1 : SV) (v2 : SV) (v3 : SV) (v4 : SV) (v5 : SV) (i : Int32) (hl0 : fl 0 = some (k0 0)) (hl1 : fl 1 = some (k1 0)) (hs0 : fs 0 = some (b0 0)) (hs1 : fs 1 = some (b1 0)) (hs2 : fs 2 = some (b2 0)) (hs3 : fs 3 = some (b3 0)) (hs4 : fs 4 = some (b4 0)) (hs5 : fs 5 = some (b5 0)) (out : (Nat → Int64) × MV × XV × SV × SV × SV × SV × SV × SV × SV × SV × SV × SV) (hF : f_law31 N L xs i fo mv xv nv tv w0 w1 v0 v1 v2 v3 v4 v5 = some out) (hP : va_P (dC, dI) vwCl (([[cLo cyL qo 1 fo], (cM cyI mm mv), (cXo x an tr xv), (cH cyO (x 1) (x 2) 2 fl), (cXk cyI x xv), (cH cyO (x 4) (x 5) 6 fs), (cT cyI x (X_text xv)), (cSo an nv), (cG cyI an (S_green nv)), (cV cyI an (S_score nv)), (cSo tr tv), (cG cyI tr (S_green tv)), (cV cyI tr (S_score tv)), (cS cyI k0 w0), (cS cyI k1 w1), (cS cyI b0 v0), (cS cyI b1 v1), (cS cyI b2 v2), (cS cyI b3 v3), (cS cyI b4 v4), (cS cyI b5 v5)] : List va_W).flatten) H) (hD : va_D A (([[cLo cyL qo 1 fo], (cM cyI mm mv), (cXo x an tr xv), (cH cyO (x 1) (x 2) 2 fl), (cXk cyI x xv), (cH cyO (x 4) (x 5) 6 fs), (cT cyI x (X_text xv)), (cSo an nv), (cG cyI an (S_green nv)), (cV cyI an (S_score nv)), (cSo tr tv), (cG cyI tr (S_green tv)), (cV cyI tr (S_score tv)), (cS cyI k0 w0), (cS cyI k1 w1), (cS cyI b0 v0), (cS cyI b1 v1), (cS cyI b2 v2), (cS cyI b3 v3), (cS cyI b4 v4), (cS cyI b5 v5)] : List va_W).flatten)) (hS : va_S A s.heap H locs) (hl : lv_has ls 9 [(0, .ref b), (1, .ref (x 0)), (2, .ref (mm 0)), (3, .ref qo), (4, .int i)]) (hRc : cells + 4 ≤ R.cells) (hRs : slots + 24 ≤ R.slots) (kk : ∀ (H : Heap) (locs : List Loc) (ls : Array Slot), va_P (dC, dI) vwCl (([[cLo cyL qo 1 out.1], (cM cyI mm out.2.1), (cXo x an tr out.2.2.1), (cH cyO (x 1) (x 2) 2 fl), (cXk cyI x out.2.2.1), (cH cyO (x 4) (x 5) 6 fs), (cT cyI x (X_text out.2.2.1)), (cSo an out.2.2.2.1), (cG cyI an (S_green out.2.2.2.1)), (cV cyI an (S_score out.2.2.2.1)), (cSo tr out.2.2.2.2.1), (cG cyI tr (S_green out.2.2.2.2.1)), (cV cyI tr (S_score out.2.2.2.2.1)), (cS cyI k0 out.2.2.2.2.2.1), (cS cyI k1 out.2.2.2.2.2.2.1), (cS cyI b0 out.2.2.2.2.2.2.2.1), (cS cyI b1 out.2.2.2.2.2.2.2.2.1), (cS cyI b2 out.2.2.2.2.2.2.2.2.2.1), (cS cyI b3 out.2.2.2.2.2.2.2.2.2.2.1), (cS cyI b4 out.2.2.2.2.2.2.2.2.2.2.2.1), (cS cyI b5 out.2.2.2.2.2.2.2.2.2.2.2.2)] : List va_W).flatten) H → va_D A (([[cLo cyL qo 1 out.1], (cM cyI mm out.2.1), (cXo x an tr out.2.2.1), (cH cyO (x 1) (x 2) 2 fl), (cXk cyI x out.2.2.1), (cH cyO (x 4) (x 5) 6 fs), (cT cyI x (X_text out.2.2.1)), (cSo an out.2.2.2.1), (cG cyI an (S_green out.2.2.2.1)), (cV cyI an (S_score out.2.2.2.1)), (cSo tr out.2.2.2.2.1), (cG cyI tr (S_green out.2.2.2.2.1)), (cV cyI tr (S_score out.2.2.2.2.1)), (cS cyI k0 out.2.2.2.2.2.1), (cS cyI k1 out.2.2.2.2.2.2.1), (cS cyI b0 out.2.2.2.2.2.2.2.1), (cS cyI b1 out.2.2.2.2.2.2.2.2.1), (cS cyI b2 out.2.2.2.2.2.2.2.2.2.1), (cS cyI b3 out.2.2.2.2.2.2.2.2.2.2.1), (cS cyI b4 out.2.2.2.2.2.2.2.2.2.2.2.1), (cS cyI b5 out.2.2.2.2.2.2.2.2.2.2.2.2)] : List va_W).flatten) → va_S A s.heap H locs → lv_has ls 9 [(0, .ref b), (1, .ref (x 0)), (2, .ref (mm 0)), (3, .ref qo), (4, .int i)] → W p l e R s m args below meth c H locs (cells + 4) (slots + 24) Q (F0 m 2733 ls [])) : W p l e R s m args below meth c H locs cells slots Q (F0 m 1560 ls []) := by
  unfold f_law31 at hF
  refine lv_aload_n hx hb dL_law_1560 rfl (lv_at hl 1 rfl) ?_
  refine lv_aload_n hx hb dL_law_1561 rfl (lv_at hl 0 rfl) ?_
  refine lv_iload hx hb dL_law_1562 (lv_at hl 4 rfl) ?_
  refine lv_iconst (v := 1) hx hb dL_law_1564 (by decide) ?_
  refine lv_iadd hx hb dL_law_1565 ?_
  obtain ⟨hg1, hF⟩ := gd_use hF
  refine va_sld hx hb hX hbl hbA hS hg1 dL_law_1566 ?_
  refine lv_aload_n hx hb dL_law_1567 rfl (lv_at hl 3 rfl) ?_
  obtain ⟨o2, h3, hF⟩ := obd hF
  refine wcLi (As := [.ref (x 0), .int (xs (i + (1 : Int32)).toNatClampNeg), .ref qo]) (rest := []) (wr := ([(cM cyI mm mv), (cSo tr tv), (cG cyI tr (S_green tv)), (cV cyI tr (S_score tv)), (cS cyI k0 w0), (cS cyI k1 w1), (cS cyI b0 v0), (cS cyI b1 v1), (cS cyI b2 v2), (cS cyI b3 v3), (cS cyI b4 v4), (cS cyI b5 v5)] : List va_W).flatten) ⟨hx, hb, hml, hown, hts⟩ (met_L_weightOf l z0 hst dC dI cyI cyO cyL qo x tr an fl fs _ N fo xv nv (xs (i + (1 : Int32)).toNatClampNeg) o2 h3) (vx_cwSW 3 hts (gS w_methodLink_L_251 w_static_L_weightOf w_initialized_L w_codeW_L_weightOf) rfl rfl rfl (by decide +kernel) ⟨Nat.le_trans (Nat.le_of_ble_eq_true rfl) hRf, Nat.le_trans (Nat.le_of_ble_eq_true rfl) hRl⟩) hP hD hK hZ hAz hz0 (seg_perm (n := 21) (R := [(cM cyI mm mv), (cSo tr tv), (cG cyI tr (S_green tv)), (cV cyI tr (S_score tv)), (cS cyI k0 w0), (cS cyI k1 w1), (cS cyI b0 v0), (cS cyI b1 v1), (cS cyI b2 v2), (cS cyI b3 v3), (cS cyI b4 v4), (cS cyI b5 v5)]) (C := [[cLo cyL qo 1 fo], (cXo x an tr xv), (cH cyO (x 1) (x 2) 2 fl), (cXk cyI x xv), (cH cyO (x 4) (x 5) 6 fs), (cT cyI x (X_text xv)), (cSo an nv), (cG cyI an (S_green nv)), (cV cyI an (S_score nv))]) [1, 10, 11, 12, 13, 14, 15, 16, 17, 18, 19, 20] [0, 2, 3, 4, 5, 6, 7, 8, 9] rfl rfl rfl (by decide) rfl) rfl hl.1 (Nat.le_of_ble_eq_true rfl) dL_law_1568 ⟨by omega, by omega⟩ hS hA (fun r u H locs hw hP hD hS => ?_)
  obtain rfl : r = o2.1 := congrArg Prod.fst hw
  obtain rfl : u = o2.2 := congrArg Prod.snd hw
  clear hw
  have hq := seg_permS (segs := [[cLo cyL qo 1 o2.2.1], (cM cyI mm mv), (cXo x an tr o2.2.2.1), (cH cyO (x 1) (x 2) 2 fl), (cXk cyI x o2.2.2.1), (cH cyO (x 4) (x 5) 6 fs), (cT cyI x (X_text o2.2.2.1)), (cSo an o2.2.2.2), (cG cyI an (S_green o2.2.2.2)), (cV cyI an (S_score o2.2.2.2)), (cSo tr tv), (cG cyI tr (S_green tv)), (cV cyI tr (S_score tv)), (cS cyI k0 w0), (cS cyI k1 w1), (cS cyI b0 v0), (cS cyI b1 v1), (cS cyI b2 v2), (cS cyI b3 v3), (cS cyI b4 v4), (cS cyI b5 v5)]) (R := [(cM cyI mm mv), (cSo tr tv), (cG cyI tr (S_green tv)), (cV cyI tr (S_score tv)), (cS cyI k0 w0), (cS cyI k1 w1), (cS cyI b0 v0), (cS cyI b1 v1), (cS cyI b2 v2), (cS cyI b3 v3), (cS cyI b4 v4), (cS cyI b5 v5)]) (C := [[cLo cyL qo 1 o2.2.1], (cXo x an tr o2.2.2.1), (cH cyO (x 1) (x 2) 2 fl), (cXk cyI x o2.2.2.1), (cH cyO (x 4) (x 5) 6 fs), (cT cyI x (X_text o2.2.2.1)), (cSo an o2.2.2.2), (cG cyI an (S_green o2.2.2.2)), (cV cyI an (S_score o2.2.2.2))]) (n := 21) [1, 10, 11, 12, 13, 14, 15, 16, 17, 18, 19, 20] [0, 2, 3, 4, 5, 6, 7, 8, 9] rfl rfl rfl (by decide)
  have hP : va_P (dC, dI) vwCl (([[cLo cyL qo 1 o2.2.1], (cM cyI mm mv), (cXo x an tr o2.2.2.1), (cH cyO (x 1) (x 2) 2 fl), (cXk cyI x o2.2.2.1), (cH cyO (x 4) (x 5) 6 fs), (cT cyI x (X_text o2.2.2.1)), (cSo an o2.2.2.2), (cG cyI an (S_green o2.2.2.2)), (cV cyI an (S_score o2.2.2.2)), (cSo tr tv), (cG cyI tr (S_green tv)), (cV cyI tr (S_score tv)), (cS cyI k0 w0), (cS cyI k1 w1), (cS cyI b0 v0), (cS cyI b1 v1), (cS cyI b2 v2), (cS cyI b3 v3), (cS cyI b4 v4), (cS cyI b5 v5)] : List va_W).flatten) H := hP.perm hq
  have hD : va_D A (([[cLo cyL qo 1 o2.2.1], (cM cyI mm mv), (cXo x an tr o2.2.2.1), (cH cyO (x 1) (x 2) 2 fl), (cXk cyI x o2.2.2.1), (cH cyO (x 4) (x 5) 6 fs), (cT cyI x (X_text o2.2.2.1)), (cSo an o2.2.2.2), (cG cyI an (S_green o2.2.2.2)), (cV cyI an (S_score o2.2.2.2)), (cSo tr tv), (cG cyI tr (S_green tv)), (cV cyI tr (S_score tv)), (cS cyI k0 w0), (cS cyI k1 w1), (cS cyI b0 v0), (cS cyI b1 v1), (cS cyI b2 v2), (cS cyI b3 v3), (cS cyI b4 v4), (cS cyI b5 v5)] : List va_W).flatten) := hD.perm hq
  clear hq
  refine lv_istore (lv' := [(5, .int o2.1), (0, .ref b), (1, .ref (x 0)), (2, .ref (mm 0)), (3, .ref qo), (4, .int i)]) hx hb dL_law_1571 hl (by decide) rfl (fun ls hl => ?_)
  refine lv_aload_n hx hb dL_law_1573 rfl (lv_at hl 3 rfl) ?_
  refine lv_aload_n hx hb dL_law_1574 rfl (lv_at hl 1 rfl) ?_
  refine lv_iload hx hb dL_law_1575 (lv_at hl 5 rfl) ?_
  refine lv_iconst (v := 1) hx hb dL_law_1577 (by decide) ?_
  refine lv_iadd hx hb dL_law_1578 ?_
  obtain ⟨hg4, hF⟩ := gd_use hF
  refine va_sld hx hb hX hbl hbA hS hg4 dL_law_1579 ?_
  obtain ⟨o5, h6, hF⟩ := obd hF
  refine wcPVi (As := [.int (xs (i + (1 : Int32)).toNatClampNeg)]) (rest := []) (wr := ([[cLo cyL qo 1 o2.2.1], (cXo x an tr o2.2.2.1), (cH cyO (x 1) (x 2) 2 fl), (cXk cyI x o2.2.2.1), (cH cyO (x 4) (x 5) 6 fs), (cT cyI x (X_text o2.2.2.1)), (cSo an o2.2.2.2), (cG cyI an (S_green o2.2.2.2)), (cV cyI an (S_score o2.2.2.2)), (cSo tr tv), (cG cyI tr (S_green tv)), (cV cyI tr (S_score tv)), (cS cyI k0 w0), (cS cyI k1 w1), (cS cyI b0 v0), (cS cyI b1 v1), (cS cyI b2 v2), (cS cyI b3 v3), (cS cyI b4 v4), (cS cyI b5 v5)] : List va_W).flatten) (b := (mm 0)) ⟨hx, hb, hml, hown, hts⟩ (met_X6_weightOf l dC dI cyI cyO cyL mm _ N mv (xs (i + (1 : Int32)).toNatClampNeg) o5 h6) (cwV 1 hts (gV w_methodLink_L_253 w_instanceMethod_X6_weightOf w_selects_X6_weightOf w_initialized_X6 w_code_X6_weightOf) rfl rfl rfl (by decide +kernel) ⟨Nat.le_trans (Nat.le_of_ble_eq_true rfl) hRf, Nat.le_trans (Nat.le_of_ble_eq_true rfl) hRl⟩) (va_recv hK.1 hP (ci := 6) (q0 := 1) rfl rfl) hP hD hK (seg_perm (n := 21) (R := [[cLo cyL qo 1 o2.2.1], (cXo x an tr o2.2.2.1), (cH cyO (x 1) (x 2) 2 fl), (cXk cyI x o2.2.2.1), (cH cyO (x 4) (x 5) 6 fs), (cT cyI x (X_text o2.2.2.1)), (cSo an o2.2.2.2), (cG cyI an (S_green o2.2.2.2)), (cV cyI an (S_score o2.2.2.2)), (cSo tr tv), (cG cyI tr (S_green tv)), (cV cyI tr (S_score tv)), (cS cyI k0 w0), (cS cyI k1 w1), (cS cyI b0 v0), (cS cyI b1 v1), (cS cyI b2 v2), (cS cyI b3 v3), (cS cyI b4 v4), (cS cyI b5 v5)]) (C := [(cM cyI mm mv)]) [0, 2, 3, 4, 5, 6, 7, 8, 9, 10, 11, 12, 13, 14, 15, 16, 17, 18, 19, 20] [1] rfl rfl rfl (by decide) rfl) rfl hl.1 (Nat.le_of_ble_eq_true rfl) dL_law_1580 ⟨by omega, by omega⟩ hS hA (fun r u H locs hw hP hD hS => ?_)
  obtain rfl : r = o5.1 := congrArg Prod.fst hw
  obtain rfl : u = o5.2 := congrArg Prod.snd hw
  clear hw
  have hq := seg_permS (segs := [[cLo cyL qo 1 o2.2.1], (cM cyI mm o5.2), (cXo x an tr o2.2.2.1), (cH cyO (x 1) (x 2) 2 fl), (cXk cyI x o2.2.2.1), (cH cyO (x 4) (x 5) 6 fs), (cT cyI x (X_text o2.2.2.1)), (cSo an o2.2.2.2), (cG cyI an (S_green o2.2.2.2)), (cV cyI an (S_score o2.2.2.2)), (cSo tr tv), (cG cyI tr (S_green tv)), (cV cyI tr (S_score tv)), (cS cyI k0 w0), (cS cyI k1 w1), (cS cyI b0 v0), (cS cyI b1 v1), (cS cyI b2 v2), (cS cyI b3 v3), (cS cyI b4 v4), (cS cyI b5 v5)]) (R := [[cLo cyL qo 1 o2.2.1], (cXo x an tr o2.2.2.1), (cH cyO (x 1) (x 2) 2 fl), (cXk cyI x o2.2.2.1), (cH cyO (x 4) (x 5) 6 fs), (cT cyI x (X_text o2.2.2.1)), (cSo an o2.2.2.2), (cG cyI an (S_green o2.2.2.2)), (cV cyI an (S_score o2.2.2.2)), (cSo tr tv), (cG cyI tr (S_green tv)), (cV cyI tr (S_score tv)), (cS cyI k0 w0), (cS cyI k1 w1), (cS cyI b0 v0), (cS cyI b1 v1), (cS cyI b2 v2), (cS cyI b3 v3), (cS cyI b4 v4), (cS cyI b5 v5)]) (C := [(cM cyI mm o5.2)]) (n := 21) [0, 2, 3, 4, 5, 6, 7, 8, 9, 10, 11, 12, 13, 14, 15, 16, 17, 18, 19, 20] [1] rfl rfl rfl (by decide)
  have hP : va_P (dC, dI) vwCl (([[cLo cyL qo 1 o2.2.1], (cM cyI mm o5.2), (cXo x an tr o2.2.2.1), (cH cyO (x 1) (x 2) 2 fl), (cXk cyI x o2.2.2.1), (cH cyO (x 4) (x 5) 6 fs), (cT cyI x (X_text o2.2.2.1)), (cSo an o2.2.2.2), (cG cyI an (S_green o2.2.2.2)), (cV cyI an (S_score o2.2.2.2)), (cSo tr tv), (cG cyI tr (S_green tv)), (cV cyI tr (S_score tv)), (cS cyI k0 w0), (cS cyI k1 w1), (cS cyI b0 v0), (cS cyI b1 v1), (cS cyI b2 v2), (cS cyI b3 v3), (cS cyI b4 v4), (cS cyI b5 v5)] : List va_W).flatten) H := hP.perm hq
  have hD : va_D A (([[cLo cyL qo 1 o2.2.1], (cM cyI mm o5.2), (cXo x an tr o2.2.2.1), (cH cyO (x 1) (x 2) 2 fl), (cXk cyI x o2.2.2.1), (cH cyO (x 4) (x 5) 6 fs), (cT cyI x (X_text o2.2.2.1)), (cSo an o2.2.2.2), (cG cyI an (S_green o2.2.2.2)), (cV cyI an (S_score o2.2.2.2)), (cSo tr tv), (cG cyI tr (S_green tv)), (cV cyI tr (S_score tv)), (cS cyI k0 w0), (cS cyI k1 w1), (cS cyI b0 v0), (cS cyI b1 v1), (cS cyI b2 v2), (cS cyI b3 v3), (cS cyI b4 v4), (cS cyI b5 v5)] : List va_W).flatten) := hD.perm hq
  clear hq
  refine lv_istore (lv' := [(6, .int o5.1), (5, .int o2.1), (0, .ref b), (1, .ref (x 0)), (2, .ref (mm 0)), (3, .ref qo), (4, .int i)]) hx hb dL_law_1583 hl (by decide) rfl (fun ls hl => ?_)
  refine lv_aload_n hx hb dL_law_1585 rfl (lv_at hl 4 rfl) ?_
  obtain ⟨o7, h8, hF⟩ := obd hF
  refine wcRVi (As := []) (rest := []) (b := (mm 0)) ⟨hx, hb, hml, hown, hts⟩ (met_X6_thrown l dC dI cyI cyO cyL mm N o5.2  o7 h8) (cwV 0 hts (gV w_methodLink_L_143 w_instanceMethod_X6_thrown w_selects_X6_thrown w_initialized_X6 w_code_X6_thrown) rfl rfl rfl (by decide +kernel) ⟨Nat.le_trans (Nat.le_of_ble_eq_true rfl) hRf, Nat.le_trans (Nat.le_of_ble_eq_true rfl) hRl⟩) (va_recv hK.1 hP (ci := 6) (q0 := 1) rfl rfl) hP hK [1, 2, 3, 4, 5, 6, 7, 8] rfl rfl hl.1 (Nat.le_of_ble_eq_true rfl) dL_law_1586 ⟨by omega, by omega⟩ hS (fun r H locs hw hP hS => ?_)
  have hw := hw.symm
  subst hw
  refine lv_iload hx hb dL_law_1589 (lv_at hl 1 rfl) ?_
  refine lv_icmp_eq (tgt := 1596) hx hb dL_law_1591 (by decide) (fun c9 => ?_) (fun c9 => ?_)
  · have hF := itp c9 hF
    refine lv_iload hx hb dL_law_1596 (lv_at hl 1 rfl) ?_
    obtain ⟨j1613, hj1613, hF⟩ := jn_use hF
    have hJ1613 : ∀ (s1613 : Unit) (H : Heap) (locs : List Loc) (ls : Array Slot), va_P (dC, dI) vwCl (([[cLo cyL qo 1 o2.2.1], (cM cyI mm o5.2), (cXo x an tr o2.2.2.1), (cH cyO (x 1) (x 2) 2 fl), (cXk cyI x o2.2.2.1), (cH cyO (x 4) (x 5) 6 fs), (cT cyI x (X_text o2.2.2.1)), (cSo an o2.2.2.2), (cG cyI an (S_green o2.2.2.2)), (cV cyI an (S_score o2.2.2.2)), (cSo tr tv), (cG cyI tr (S_green tv)), (cV cyI tr (S_score tv)), (cS cyI k0 w0), (cS cyI k1 w1), (cS cyI b0 v0), (cS cyI b1 v1), (cS cyI b2 v2), (cS cyI b3 v3), (cS cyI b4 v4), (cS cyI b5 v5)] : List va_W).flatten) H → va_D A (([[cLo cyL qo 1 o2.2.1], (cM cyI mm o5.2), (cXo x an tr o2.2.2.1), (cH cyO (x 1) (x 2) 2 fl), (cXk cyI x o2.2.2.1), (cH cyO (x 4) (x 5) 6 fs), (cT cyI x (X_text o2.2.2.1)), (cSo an o2.2.2.2), (cG cyI an (S_green o2.2.2.2)), (cV cyI an (S_score o2.2.2.2)), (cSo tr tv), (cG cyI tr (S_green tv)), (cV cyI tr (S_score tv)), (cS cyI k0 w0), (cS cyI k1 w1), (cS cyI b0 v0), (cS cyI b1 v1), (cS cyI b2 v2), (cS cyI b3 v3), (cS cyI b4 v4), (cS cyI b5 v5)] : List va_W).flatten) → va_S A s.heap H locs → lv_has ls 9 [(0, .ref b), (1, .ref (x 0)), (2, .ref (mm 0)), (3, .ref qo), (4, .int i)] → j1613 s1613 = some out → W p l e R s m args below meth c H locs (cells + 1) (slots + 6) Q (F0 m 1613 ls []) := by
      intro s1613 H locs ls hP hD hS hl hF
      have hF := (congrFun hj1613 s1613).symm.trans hF
      refine lv_goto (tgt := 2733) hx hb dL_law_1613 (by decide) ?_
      obtain rfl := Option.some.inj hF
      refine W.widen (k := cells + 4) (n := slots + 24) (by omega) (by omega) ?_
      exact kk _ _ _ hP hD hS (lv_sub hl [0, 1, 2, 3, 4] rfl)
    refine lv_if_ne (tgt := 1613) hx hb dL_law_1598 (by decide) (fun c10 => ?_) (fun c10 => ?_)
    · have hF := itn c10 hF
      exact hJ1613 () _ _ _ hP hD hS (lv_sub hl [2, 3, 4, 5, 6] rfl) hF
    · have hF := itp c10 hF
      refine lv_aload_n hx hb dL_law_1601 rfl (lv_at hl 5 rfl) ?_
      refine lv_iconst (v := 0) hx hb dL_law_1602 (by decide) ?_
      refine va_lald hx hb hK.1 hP 0 2 rfl rfl (i := (0 : Int32)) (show ixok (0 : Int32) 1 by decide) dL_law_1603 ?_
      refine lv_iload hx hb dL_law_1604 (lv_at hl 0 rfl) ?_
      refine lv_i2l (v := (o5.1).toInt64) hx hb dL_law_1606 rfl ?_
      refine W.lcmp hx hb dL_law_1607 ?_
      refine lv_if_eq (tgt := 1613) hx hb dL_law_1608 (by decide) (fun c11 => ?_) (fun c11 => ?_)
      · have hF := itp c11 hF
        exact hJ1613 () _ _ _ hP hD hS (lv_sub hl [2, 3, 4, 5, 6] rfl) hF
      · have hF := itn c11 hF
        refine lv_iconst (v := 0) hx hb dL_law_1611 (by decide) ?_
        cases hF
  · have hF := itn c9 hF
    refine lv_iconst (v := 0) hx hb dL_law_1594 (by decide) ?_
    cases hF
theorem dL_law_1616 : decode cL_law 1616 = .ok (.aload_n 1, 1) := by decide +kernel
theorem dL_law_1617 : decode cL_law 1617 = .ok (.aload_n 0, 1) := by decide +kernel
theorem dL_law_1618 : decode cL_law 1618 = .ok (.iload 4, 2) := by decide +kernel
theorem dL_law_1620 : decode cL_law 1620 = .ok (.iconst 1, 1) := by decide +kernel
theorem dL_law_1621 : decode cL_law 1621 = .ok (.iadd, 1) := by decide +kernel
theorem dL_law_1622 : decode cL_law 1622 = .ok (.iaload, 1) := by decide +kernel
theorem dL_law_1623 : decode cL_law 1623 = .ok (.aload_n 3, 1) := by decide +kernel
theorem dL_law_1624 : decode cL_law 1624 = .ok (.invokestatic 254, 3) := by decide +kernel
theorem dL_law_1627 : decode cL_law 1627 = .ok (.istore 5, 2) := by decide +kernel
theorem dL_law_1629 : decode cL_law 1629 = .ok (.aload_n 2, 1) := by decide +kernel
theorem dL_law_1630 : decode cL_law 1630 = .ok (.aload_n 0, 1) := by decide +kernel
theorem dL_law_1631 : decode cL_law 1631 = .ok (.iload 4, 2) := by decide +kernel
theorem dL_law_1633 : decode cL_law 1633 = .ok (.iconst 1, 1) := by decide +kernel
theorem dL_law_1634 : decode cL_law 1634 = .ok (.iadd, 1) := by decide +kernel
theorem dL_law_1635 : decode cL_law 1635 = .ok (.iaload, 1) := by decide +kernel
theorem dL_law_1636 : decode cL_law 1636 = .ok (.invokevirtual 256, 3) := by decide +kernel
theorem dL_law_1639 : decode cL_law 1639 = .ok (.istore 6, 2) := by decide +kernel
theorem dL_law_1641 : decode cL_law 1641 = .ok (.aload_n 2, 1) := by decide +kernel
theorem dL_law_1642 : decode cL_law 1642 = .ok (.invokevirtual 143, 3) := by decide +kernel
theorem dL_law_1645 : decode cL_law 1645 = .ok (.iload 5, 2) := by decide +kernel
theorem dL_law_1647 : decode cL_law 1647 = .ok (.if_icmp .eq 5, 3) := by decide +kernel
theorem dL_law_1650 : decode cL_law 1650 = .ok (.iconst 0, 1) := by decide +kernel
theorem dL_law_1652 : decode cL_law 1652 = .ok (.iload 5, 2) := by decide +kernel
theorem dL_law_1654 : decode cL_law 1654 = .ok (.ifCond .ne 15, 3) := by decide +kernel
theorem dL_law_1657 : decode cL_law 1657 = .ok (.aload_n 3, 1) := by decide +kernel
theorem dL_law_1658 : decode cL_law 1658 = .ok (.iconst 0, 1) := by decide +kernel
theorem dL_law_1659 : decode cL_law 1659 = .ok (.laload, 1) := by decide +kernel
theorem dL_law_1660 : decode cL_law 1660 = .ok (.iload 6, 2) := by decide +kernel
theorem dL_law_1662 : decode cL_law 1662 = .ok (.i2l, 1) := by decide +kernel
theorem dL_law_1663 : decode cL_law 1663 = .ok (.lcmp, 1) := by decide +kernel
theorem dL_law_1664 : decode cL_law 1664 = .ok (.ifCond .eq 5, 3) := by decide +kernel
theorem dL_law_1667 : decode cL_law 1667 = .ok (.iconst 0, 1) := by decide +kernel
theorem dL_law_1669 : decode cL_law 1669 = .ok (.goto 1064, 3) := by decide +kernel
def f_law32 (N L : Nat) (xs : Nat → Int32) (i : Int32) (fo : (Nat → Int64)) (mv : MV) (xv : XV) (nv : SV) (tv : SV) (w0 : SV) (w1 : SV) (v0 : SV) (v1 : SV) (v2 : SV) (v3 : SV) (v4 : SV) (v5 : SV) : Option ((Nat → Int64) × MV × XV × SV × SV × SV × SV × SV × SV × SV × SV × SV × SV) :=
  gd (ixok (i + (1 : Int32)) L) ((f_L_biasOf N fo xv nv (xs (i + (1 : Int32)).toNatClampNeg)).bind (fun o2 => gd (ixok (i + (1 : Int32)) L) ((f_X6_biasOf N mv (xs (i + (1 : Int32)).toNatClampNeg)).bind (fun o5 => (f_X6_thrown N o5.2).bind (fun o7 => (if o7 = o2.1 then jn (fun (s1669 : Unit) => some (o2.2.1, o5.2, o2.2.2.1, o2.2.2.2, tv, w0, w1, v0, v1, v2, v3, v4, v5)) (fun (j1669 : (Unit) → Option ((Nat → Int64) × MV × XV × SV × SV × SV × SV × SV × SV × SV × SV × SV × SV)) => (if o2.1 = 0 then (if (lg_cmp (o2.2.1 (0 : Int32).toNatClampNeg) ((o5.1).toInt64)) = 0 then j1669 () else none) else j1669 ())) else none))))))
set_option maxHeartbeats 4000000 in
set_option maxRecDepth 100000 in
theorem law32 (hst : l.stackTraces = false) (hx : p.tables.exec = Jvm.exec) (hb : c.code = code) (hml : c.maxLocals = 9) (hown : s.vm.findClass RL = some m.cls) (hts : ∀ w ∈ wT, w.before args s = true) (hK : wK dC dI cyI cyO cyL s) (hZ : wZ z0 s) (hAz : ∀ q, A q → z0 ≤ q) (hz0 : z0 ≤ s.heap.size) (hA : ∀ q : Nat, s.heap.size ≤ q → A q) (hX : va_X b L xs s s.heap) (hbl : b < s.heap.size) (hbA : ¬ A b) (hRf : 11 ≤ R.frames) (hRl : 398 ≤ R.locals) (qo : Nat) (mm x an tr k0 k1 b0 b1 b2 b3 b4 b5 : Nat → Nat) (fl fs : Nat → Option Nat) (N : Nat) (fo : (Nat → Int64)) (mv : MV) (xv : XV) (nv : SV) (tv : SV) (w0 : SV) (w1 : SV) (v0 : SV) (v1 : SV) (v2 : SV) (v3 : SV) (v4 : SV) (v5 : SV) (i : Int32) (hl0 : fl 0 = some (k0 0)) (hl1 : fl 1 = some (k1 0)) (hs0 : fs 0 = some (b0 0)) (hs1 : fs 1 = some (b1 0)) (hs2 : fs 2 = some (b2 0)) (hs3 : fs 3 = some (b3 0)) (hs4 : fs 4 = some (b4 0)) (hs5 : fs 5 = some (b5 0)) (out : (Nat → Int64) × MV × XV × SV × SV × SV × SV × SV × SV × SV × SV × SV × SV) (hF : f_law32 N L xs i fo mv xv nv tv w0 w1 v0 v1 v2 v3 v4 v5 = some out) (hP : va_P (dC, dI) vwCl (([[cLo cyL qo 1 fo], (cM cyI mm mv), (cXo x an tr xv), (cH cyO (x 1) (x 2) 2 fl), (cXk cyI x xv), (cH cyO (x 4) (x 5) 6 fs), (cT cyI x (X_text xv)), (cSo an nv), (cG cyI an (S_green nv)), (cV cyI an (S_score nv)), (cSo tr tv), (cG cyI tr (S_green tv)), (cV cyI tr (S_score tv)), (cS cyI k0 w0), (cS cyI k1 w1), (cS cyI b0 v0), (cS cyI b1 v1), (cS cyI b2 v2), (cS cyI b3 v3), (cS cyI b4 v4), (cS cyI b5 v5)] : List va_W).flatten) H) (hD : va_D A (([[cLo cyL qo 1 fo], (cM cyI mm mv), (cXo x an tr xv), (cH cyO (x 1) (x 2) 2 fl), (cXk cyI x xv), (cH cyO (x 4) (x 5) 6 fs), (cT cyI x (X_text xv)), (cSo an nv), (cG cyI an (S_green nv)), (cV cyI an (S_score nv)), (cSo tr tv), (cG cyI tr (S_green tv)), (cV cyI tr (S_score tv)), (cS cyI k0 w0), (cS cyI k1 w1), (cS cyI b0 v0), (cS cyI b1 v1), (cS cyI b2 v2), (cS cyI b3 v3), (cS cyI b4 v4), (cS cyI b5 v5)] : List va_W).flatten)) (hS : va_S A s.heap H locs) (hl : lv_has ls 9 [(0, .ref b), (1, .ref (x 0)), (2, .ref (mm 0)), (3, .ref qo), (4, .int i)]) (hRc : cells + 4 ≤ R.cells) (hRs : slots + 24 ≤ R.slots) (kk : ∀ (H : Heap) (locs : List Loc) (ls : Array Slot), va_P (dC, dI) vwCl (([[cLo cyL qo 1 out.1], (cM cyI mm out.2.1), (cXo x an tr out.2.2.1), (cH cyO (x 1) (x 2) 2 fl), (cXk cyI x out.2.2.1), (cH cyO (x 4) (x 5) 6 fs), (cT cyI x (X_text out.2.2.1)), (cSo an out.2.2.2.1), (cG cyI an (S_green out.2.2.2.1)), (cV cyI an (S_score out.2.2.2.1)), (cSo tr out.2.2.2.2.1), (cG cyI tr (S_green out.2.2.2.2.1)), (cV cyI tr (S_score out.2.2.2.2.1)), (cS cyI k0 out.2.2.2.2.2.1), (cS cyI k1 out.2.2.2.2.2.2.1), (cS cyI b0 out.2.2.2.2.2.2.2.1), (cS cyI b1 out.2.2.2.2.2.2.2.2.1), (cS cyI b2 out.2.2.2.2.2.2.2.2.2.1), (cS cyI b3 out.2.2.2.2.2.2.2.2.2.2.1), (cS cyI b4 out.2.2.2.2.2.2.2.2.2.2.2.1), (cS cyI b5 out.2.2.2.2.2.2.2.2.2.2.2.2)] : List va_W).flatten) H → va_D A (([[cLo cyL qo 1 out.1], (cM cyI mm out.2.1), (cXo x an tr out.2.2.1), (cH cyO (x 1) (x 2) 2 fl), (cXk cyI x out.2.2.1), (cH cyO (x 4) (x 5) 6 fs), (cT cyI x (X_text out.2.2.1)), (cSo an out.2.2.2.1), (cG cyI an (S_green out.2.2.2.1)), (cV cyI an (S_score out.2.2.2.1)), (cSo tr out.2.2.2.2.1), (cG cyI tr (S_green out.2.2.2.2.1)), (cV cyI tr (S_score out.2.2.2.2.1)), (cS cyI k0 out.2.2.2.2.2.1), (cS cyI k1 out.2.2.2.2.2.2.1), (cS cyI b0 out.2.2.2.2.2.2.2.1), (cS cyI b1 out.2.2.2.2.2.2.2.2.1), (cS cyI b2 out.2.2.2.2.2.2.2.2.2.1), (cS cyI b3 out.2.2.2.2.2.2.2.2.2.2.1), (cS cyI b4 out.2.2.2.2.2.2.2.2.2.2.2.1), (cS cyI b5 out.2.2.2.2.2.2.2.2.2.2.2.2)] : List va_W).flatten) → va_S A s.heap H locs → lv_has ls 9 [(0, .ref b), (1, .ref (x 0)), (2, .ref (mm 0)), (3, .ref qo), (4, .int i)] → W p l e R s m args below meth c H locs (cells + 4) (slots + 24) Q (F0 m 2733 ls [])) : W p l e R s m args below meth c H locs cells slots Q (F0 m 1616 ls []) := by
  unfold f_law32 at hF
  refine lv_aload_n hx hb dL_law_1616 rfl (lv_at hl 1 rfl) ?_
  refine lv_aload_n hx hb dL_law_1617 rfl (lv_at hl 0 rfl) ?_
  refine lv_iload hx hb dL_law_1618 (lv_at hl 4 rfl) ?_
  refine lv_iconst (v := 1) hx hb dL_law_1620 (by decide) ?_
  refine lv_iadd hx hb dL_law_1621 ?_
  obtain ⟨hg1, hF⟩ := gd_use hF
  refine va_sld hx hb hX hbl hbA hS hg1 dL_law_1622 ?_
  refine lv_aload_n hx hb dL_law_1623 rfl (lv_at hl 3 rfl) ?_
  obtain ⟨o2, h3, hF⟩ := obd hF
  refine wcLi (As := [.ref (x 0), .int (xs (i + (1 : Int32)).toNatClampNeg), .ref qo]) (rest := []) (wr := ([(cM cyI mm mv), (cSo tr tv), (cG cyI tr (S_green tv)), (cV cyI tr (S_score tv)), (cS cyI k0 w0), (cS cyI k1 w1), (cS cyI b0 v0), (cS cyI b1 v1), (cS cyI b2 v2), (cS cyI b3 v3), (cS cyI b4 v4), (cS cyI b5 v5)] : List va_W).flatten) ⟨hx, hb, hml, hown, hts⟩ (met_L_biasOf l z0 hst dC dI cyI cyO cyL qo x tr an fl fs _ N fo xv nv (xs (i + (1 : Int32)).toNatClampNeg) o2 h3) (vx_cwSW 3 hts (gS w_methodLink_L_254 w_static_L_biasOf w_initialized_L w_codeW_L_biasOf) rfl rfl rfl (by decide +kernel) ⟨Nat.le_trans (Nat.le_of_ble_eq_true rfl) hRf, Nat.le_trans (Nat.le_of_ble_eq_true rfl) hRl⟩) hP hD hK hZ hAz hz0 (seg_perm (n := 21) (R := [(cM cyI mm mv), (cSo tr tv), (cG cyI tr (S_green tv)), (cV cyI tr (S_score tv)), (cS cyI k0 w0), (cS cyI k1 w1), (cS cyI b0 v0), (cS cyI b1 v1), (cS cyI b2 v2), (cS cyI b3 v3), (cS cyI b4 v4), (cS cyI b5 v5)]) (C := [[cLo cyL qo 1 fo], (cXo x an tr xv), (cH cyO (x 1) (x 2) 2 fl), (cXk cyI x xv), (cH cyO (x 4) (x 5) 6 fs), (cT cyI x (X_text xv)), (cSo an nv), (cG cyI an (S_green nv)), (cV cyI an (S_score nv))]) [1, 10, 11, 12, 13, 14, 15, 16, 17, 18, 19, 20] [0, 2, 3, 4, 5, 6, 7, 8, 9] rfl rfl rfl (by decide) rfl) rfl hl.1 (Nat.le_of_ble_eq_true rfl) dL_law_1624 ⟨by omega, by omega⟩ hS hA (fun r u H locs hw hP hD hS => ?_)
  obtain rfl : r = o2.1 := congrArg Prod.fst hw
  obtain rfl : u = o2.2 := congrArg Prod.snd hw
  clear hw
  have hq := seg_permS (segs := [[cLo cyL qo 1 o2.2.1], (cM cyI mm mv), (cXo x an tr o2.2.2.1), (cH cyO (x 1) (x 2) 2 fl), (cXk cyI x o2.2.2.1), (cH cyO (x 4) (x 5) 6 fs), (cT cyI x (X_text o2.2.2.1)), (cSo an o2.2.2.2), (cG cyI an (S_green o2.2.2.2)), (cV cyI an (S_score o2.2.2.2)), (cSo tr tv), (cG cyI tr (S_green tv)), (cV cyI tr (S_score tv)), (cS cyI k0 w0), (cS cyI k1 w1), (cS cyI b0 v0), (cS cyI b1 v1), (cS cyI b2 v2), (cS cyI b3 v3), (cS cyI b4 v4), (cS cyI b5 v5)]) (R := [(cM cyI mm mv), (cSo tr tv), (cG cyI tr (S_green tv)), (cV cyI tr (S_score tv)), (cS cyI k0 w0), (cS cyI k1 w1), (cS cyI b0 v0), (cS cyI b1 v1), (cS cyI b2 v2), (cS cyI b3 v3), (cS cyI b4 v4), (cS cyI b5 v5)]) (C := [[cLo cyL qo 1 o2.2.1], (cXo x an tr o2.2.2.1), (cH cyO (x 1) (x 2) 2 fl), (cXk cyI x o2.2.2.1), (cH cyO (x 4) (x 5) 6 fs), (cT cyI x (X_text o2.2.2.1)), (cSo an o2.2.2.2), (cG cyI an (S_green o2.2.2.2)), (cV cyI an (S_score o2.2.2.2))]) (n := 21) [1, 10, 11, 12, 13, 14, 15, 16, 17, 18, 19, 20] [0, 2, 3, 4, 5, 6, 7, 8, 9] rfl rfl rfl (by decide)
  have hP : va_P (dC, dI) vwCl (([[cLo cyL qo 1 o2.2.1], (cM cyI mm mv), (cXo x an tr o2.2.2.1), (cH cyO (x 1) (x 2) 2 fl), (cXk cyI x o2.2.2.1), (cH cyO (x 4) (x 5) 6 fs), (cT cyI x (X_text o2.2.2.1)), (cSo an o2.2.2.2), (cG cyI an (S_green o2.2.2.2)), (cV cyI an (S_score o2.2.2.2)), (cSo tr tv), (cG cyI tr (S_green tv)), (cV cyI tr (S_score tv)), (cS cyI k0 w0), (cS cyI k1 w1), (cS cyI b0 v0), (cS cyI b1 v1), (cS cyI b2 v2), (cS cyI b3 v3), (cS cyI b4 v4), (cS cyI b5 v5)] : List va_W).flatten) H := hP.perm hq
  have hD : va_D A (([[cLo cyL qo 1 o2.2.1], (cM cyI mm mv), (cXo x an tr o2.2.2.1), (cH cyO (x 1) (x 2) 2 fl), (cXk cyI x o2.2.2.1), (cH cyO (x 4) (x 5) 6 fs), (cT cyI x (X_text o2.2.2.1)), (cSo an o2.2.2.2), (cG cyI an (S_green o2.2.2.2)), (cV cyI an (S_score o2.2.2.2)), (cSo tr tv), (cG cyI tr (S_green tv)), (cV cyI tr (S_score tv)), (cS cyI k0 w0), (cS cyI k1 w1), (cS cyI b0 v0), (cS cyI b1 v1), (cS cyI b2 v2), (cS cyI b3 v3), (cS cyI b4 v4), (cS cyI b5 v5)] : List va_W).flatten) := hD.perm hq
  clear hq
  refine lv_istore (lv' := [(5, .int o2.1), (0, .ref b), (1, .ref (x 0)), (2, .ref (mm 0)), (3, .ref qo), (4, .int i)]) hx hb dL_law_1627 hl (by decide) rfl (fun ls hl => ?_)
  refine lv_aload_n hx hb dL_law_1629 rfl (lv_at hl 3 rfl) ?_
  refine lv_aload_n hx hb dL_law_1630 rfl (lv_at hl 1 rfl) ?_
  refine lv_iload hx hb dL_law_1631 (lv_at hl 5 rfl) ?_
  refine lv_iconst (v := 1) hx hb dL_law_1633 (by decide) ?_
  refine lv_iadd hx hb dL_law_1634 ?_
  obtain ⟨hg4, hF⟩ := gd_use hF
  refine va_sld hx hb hX hbl hbA hS hg4 dL_law_1635 ?_
  obtain ⟨o5, h6, hF⟩ := obd hF
  refine wcPVi (As := [.int (xs (i + (1 : Int32)).toNatClampNeg)]) (rest := []) (wr := ([[cLo cyL qo 1 o2.2.1], (cXo x an tr o2.2.2.1), (cH cyO (x 1) (x 2) 2 fl), (cXk cyI x o2.2.2.1), (cH cyO (x 4) (x 5) 6 fs), (cT cyI x (X_text o2.2.2.1)), (cSo an o2.2.2.2), (cG cyI an (S_green o2.2.2.2)), (cV cyI an (S_score o2.2.2.2)), (cSo tr tv), (cG cyI tr (S_green tv)), (cV cyI tr (S_score tv)), (cS cyI k0 w0), (cS cyI k1 w1), (cS cyI b0 v0), (cS cyI b1 v1), (cS cyI b2 v2), (cS cyI b3 v3), (cS cyI b4 v4), (cS cyI b5 v5)] : List va_W).flatten) (b := (mm 0)) ⟨hx, hb, hml, hown, hts⟩ (met_X6_biasOf l dC dI cyI cyO cyL mm _ N mv (xs (i + (1 : Int32)).toNatClampNeg) o5 h6) (cwV 1 hts (gV w_methodLink_L_256 w_instanceMethod_X6_biasOf w_selects_X6_biasOf w_initialized_X6 w_code_X6_biasOf) rfl rfl rfl (by decide +kernel) ⟨Nat.le_trans (Nat.le_of_ble_eq_true rfl) hRf, Nat.le_trans (Nat.le_of_ble_eq_true rfl) hRl⟩) (va_recv hK.1 hP (ci := 6) (q0 := 1) rfl rfl) hP hD hK (seg_perm (n := 21) (R := [[cLo cyL qo 1 o2.2.1], (cXo x an tr o2.2.2.1), (cH cyO (x 1) (x 2) 2 fl), (cXk cyI x o2.2.2.1), (cH cyO (x 4) (x 5) 6 fs), (cT cyI x (X_text o2.2.2.1)), (cSo an o2.2.2.2), (cG cyI an (S_green o2.2.2.2)), (cV cyI an (S_score o2.2.2.2)), (cSo tr tv), (cG cyI tr (S_green tv)), (cV cyI tr (S_score tv)), (cS cyI k0 w0), (cS cyI k1 w1), (cS cyI b0 v0), (cS cyI b1 v1), (cS cyI b2 v2), (cS cyI b3 v3), (cS cyI b4 v4), (cS cyI b5 v5)]) (C := [(cM cyI mm mv)]) [0, 2, 3, 4, 5, 6, 7, 8, 9, 10, 11, 12, 13, 14, 15, 16, 17, 18, 19, 20] [1] rfl rfl rfl (by decide) rfl) rfl hl.1 (Nat.le_of_ble_eq_true rfl) dL_law_1636 ⟨by omega, by omega⟩ hS hA (fun r u H locs hw hP hD hS => ?_)
  obtain rfl : r = o5.1 := congrArg Prod.fst hw
  obtain rfl : u = o5.2 := congrArg Prod.snd hw
  clear hw
  have hq := seg_permS (segs := [[cLo cyL qo 1 o2.2.1], (cM cyI mm o5.2), (cXo x an tr o2.2.2.1), (cH cyO (x 1) (x 2) 2 fl), (cXk cyI x o2.2.2.1), (cH cyO (x 4) (x 5) 6 fs), (cT cyI x (X_text o2.2.2.1)), (cSo an o2.2.2.2), (cG cyI an (S_green o2.2.2.2)), (cV cyI an (S_score o2.2.2.2)), (cSo tr tv), (cG cyI tr (S_green tv)), (cV cyI tr (S_score tv)), (cS cyI k0 w0), (cS cyI k1 w1), (cS cyI b0 v0), (cS cyI b1 v1), (cS cyI b2 v2), (cS cyI b3 v3), (cS cyI b4 v4), (cS cyI b5 v5)]) (R := [[cLo cyL qo 1 o2.2.1], (cXo x an tr o2.2.2.1), (cH cyO (x 1) (x 2) 2 fl), (cXk cyI x o2.2.2.1), (cH cyO (x 4) (x 5) 6 fs), (cT cyI x (X_text o2.2.2.1)), (cSo an o2.2.2.2), (cG cyI an (S_green o2.2.2.2)), (cV cyI an (S_score o2.2.2.2)), (cSo tr tv), (cG cyI tr (S_green tv)), (cV cyI tr (S_score tv)), (cS cyI k0 w0), (cS cyI k1 w1), (cS cyI b0 v0), (cS cyI b1 v1), (cS cyI b2 v2), (cS cyI b3 v3), (cS cyI b4 v4), (cS cyI b5 v5)]) (C := [(cM cyI mm o5.2)]) (n := 21) [0, 2, 3, 4, 5, 6, 7, 8, 9, 10, 11, 12, 13, 14, 15, 16, 17, 18, 19, 20] [1] rfl rfl rfl (by decide)
  have hP : va_P (dC, dI) vwCl (([[cLo cyL qo 1 o2.2.1], (cM cyI mm o5.2), (cXo x an tr o2.2.2.1), (cH cyO (x 1) (x 2) 2 fl), (cXk cyI x o2.2.2.1), (cH cyO (x 4) (x 5) 6 fs), (cT cyI x (X_text o2.2.2.1)), (cSo an o2.2.2.2), (cG cyI an (S_green o2.2.2.2)), (cV cyI an (S_score o2.2.2.2)), (cSo tr tv), (cG cyI tr (S_green tv)), (cV cyI tr (S_score tv)), (cS cyI k0 w0), (cS cyI k1 w1), (cS cyI b0 v0), (cS cyI b1 v1), (cS cyI b2 v2), (cS cyI b3 v3), (cS cyI b4 v4), (cS cyI b5 v5)] : List va_W).flatten) H := hP.perm hq
  have hD : va_D A (([[cLo cyL qo 1 o2.2.1], (cM cyI mm o5.2), (cXo x an tr o2.2.2.1), (cH cyO (x 1) (x 2) 2 fl), (cXk cyI x o2.2.2.1), (cH cyO (x 4) (x 5) 6 fs), (cT cyI x (X_text o2.2.2.1)), (cSo an o2.2.2.2), (cG cyI an (S_green o2.2.2.2)), (cV cyI an (S_score o2.2.2.2)), (cSo tr tv), (cG cyI tr (S_green tv)), (cV cyI tr (S_score tv)), (cS cyI k0 w0), (cS cyI k1 w1), (cS cyI b0 v0), (cS cyI b1 v1), (cS cyI b2 v2), (cS cyI b3 v3), (cS cyI b4 v4), (cS cyI b5 v5)] : List va_W).flatten) := hD.perm hq
  clear hq
  refine lv_istore (lv' := [(6, .int o5.1), (5, .int o2.1), (0, .ref b), (1, .ref (x 0)), (2, .ref (mm 0)), (3, .ref qo), (4, .int i)]) hx hb dL_law_1639 hl (by decide) rfl (fun ls hl => ?_)
  refine lv_aload_n hx hb dL_law_1641 rfl (lv_at hl 4 rfl) ?_
  obtain ⟨o7, h8, hF⟩ := obd hF
  refine wcRVi (As := []) (rest := []) (b := (mm 0)) ⟨hx, hb, hml, hown, hts⟩ (met_X6_thrown l dC dI cyI cyO cyL mm N o5.2  o7 h8) (cwV 0 hts (gV w_methodLink_L_143 w_instanceMethod_X6_thrown w_selects_X6_thrown w_initialized_X6 w_code_X6_thrown) rfl rfl rfl (by decide +kernel) ⟨Nat.le_trans (Nat.le_of_ble_eq_true rfl) hRf, Nat.le_trans (Nat.le_of_ble_eq_true rfl) hRl⟩) (va_recv hK.1 hP (ci := 6) (q0 := 1) rfl rfl) hP hK [1, 2, 3, 4, 5, 6, 7, 8] rfl rfl hl.1 (Nat.le_of_ble_eq_true rfl) dL_law_1642 ⟨by omega, by omega⟩ hS (fun r H locs hw hP hS => ?_)
  have hw := hw.symm
  subst hw
  refine lv_iload hx hb dL_law_1645 (lv_at hl 1 rfl) ?_
  refine lv_icmp_eq (tgt := 1652) hx hb dL_law_1647 (by decide) (fun c9 => ?_) (fun c9 => ?_)
  · have hF := itp c9 hF
    refine lv_iload hx hb dL_law_1652 (lv_at hl 1 rfl) ?_
    obtain ⟨j1669, hj1669, hF⟩ := jn_use hF
    have hJ1669 : ∀ (s1669 : Unit) (H : Heap) (locs : List Loc) (ls : Array Slot), va_P (dC, dI) vwCl (([[cLo cyL qo 1 o2.2.1], (cM cyI mm o5.2), (cXo x an tr o2.2.2.1), (cH cyO (x 1) (x 2) 2 fl), (cXk cyI x o2.2.2.1), (cH cyO (x 4) (x 5) 6 fs), (cT cyI x (X_text o2.2.2.1)), (cSo an o2.2.2.2), (cG cyI an (S_green o2.2.2.2)), (cV cyI an (S_score o2.2.2.2)), (cSo tr tv), (cG cyI tr (S_green tv)), (cV cyI tr (S_score tv)), (cS cyI k0 w0), (cS cyI k1 w1), (cS cyI b0 v0), (cS cyI b1 v1), (cS cyI b2 v2), (cS cyI b3 v3), (cS cyI b4 v4), (cS cyI b5 v5)] : List va_W).flatten) H → va_D A (([[cLo cyL qo 1 o2.2.1], (cM cyI mm o5.2), (cXo x an tr o2.2.2.1), (cH cyO (x 1) (x 2) 2 fl), (cXk cyI x o2.2.2.1), (cH cyO (x 4) (x 5) 6 fs), (cT cyI x (X_text o2.2.2.1)), (cSo an o2.2.2.2), (cG cyI an (S_green o2.2.2.2)), (cV cyI an (S_score o2.2.2.2)), (cSo tr tv), (cG cyI tr (S_green tv)), (cV cyI tr (S_score tv)), (cS cyI k0 w0), (cS cyI k1 w1), (cS cyI b0 v0), (cS cyI b1 v1), (cS cyI b2 v2), (cS cyI b3 v3), (cS cyI b4 v4), (cS cyI b5 v5)] : List va_W).flatten) → va_S A s.heap H locs → lv_has ls 9 [(0, .ref b), (1, .ref (x 0)), (2, .ref (mm 0)), (3, .ref qo), (4, .int i)] → j1669 s1669 = some out → W p l e R s m args below meth c H locs (cells + 1) (slots + 6) Q (F0 m 1669 ls []) := by
      intro s1669 H locs ls hP hD hS hl hF
      have hF := (congrFun hj1669 s1669).symm.trans hF
      refine lv_goto (tgt := 2733) hx hb dL_law_1669 (by decide) ?_
      obtain rfl := Option.some.inj hF
      refine W.widen (k := cells + 4) (n := slots + 24) (by omega) (by omega) ?_
      exact kk _ _ _ hP hD hS (lv_sub hl [0, 1, 2, 3, 4] rfl)
    refine lv_if_ne (tgt := 1669) hx hb dL_law_1654 (by decide) (fun c10 => ?_) (fun c10 => ?_)
    · have hF := itn c10 hF
      exact hJ1669 () _ _ _ hP hD hS (lv_sub hl [2, 3, 4, 5, 6] rfl) hF
    · have hF := itp c10 hF
      refine lv_aload_n hx hb dL_law_1657 rfl (lv_at hl 5 rfl) ?_
      refine lv_iconst (v := 0) hx hb dL_law_1658 (by decide) ?_
      refine va_lald hx hb hK.1 hP 0 2 rfl rfl (i := (0 : Int32)) (show ixok (0 : Int32) 1 by decide) dL_law_1659 ?_
      refine lv_iload hx hb dL_law_1660 (lv_at hl 0 rfl) ?_
      refine lv_i2l (v := (o5.1).toInt64) hx hb dL_law_1662 rfl ?_
      refine W.lcmp hx hb dL_law_1663 ?_
      refine lv_if_eq (tgt := 1669) hx hb dL_law_1664 (by decide) (fun c11 => ?_) (fun c11 => ?_)
      · have hF := itp c11 hF
        exact hJ1669 () _ _ _ hP hD hS (lv_sub hl [2, 3, 4, 5, 6] rfl) hF
      · have hF := itn c11 hF
        refine lv_iconst (v := 0) hx hb dL_law_1667 (by decide) ?_
        cases hF
  · have hF := itn c9 hF
    refine lv_iconst (v := 0) hx hb dL_law_1650 (by decide) ?_
    cases hF
theorem dL_law_1672 : decode cL_law 1672 = .ok (.aload_n 1, 1) := by decide +kernel
theorem dL_law_1673 : decode cL_law 1673 = .ok (.aload_n 3, 1) := by decide +kernel
theorem dL_law_1674 : decode cL_law 1674 = .ok (.invokestatic 257, 3) := by decide +kernel
theorem dL_law_1677 : decode cL_law 1677 = .ok (.istore 5, 2) := by decide +kernel
theorem dL_law_1679 : decode cL_law 1679 = .ok (.aload_n 2, 1) := by decide +kernel
theorem dL_law_1680 : decode cL_law 1680 = .ok (.invokevirtual 259, 3) := by decide +kernel
theorem dL_law_1683 : decode cL_law 1683 = .ok (.istore 6, 2) := by decide +kernel
theorem dL_law_1685 : decode cL_law 1685 = .ok (.aload_n 2, 1) := by decide +kernel
theorem dL_law_1686 : decode cL_law 1686 = .ok (.invokevirtual 143, 3) := by decide +kernel
theorem dL_law_1689 : decode cL_law 1689 = .ok (.iload 5, 2) := by decide +kernel
theorem dL_law_1691 : decode cL_law 1691 = .ok (.if_icmp .eq 5, 3) := by decide +kernel
theorem dL_law_1694 : decode cL_law 1694 = .ok (.iconst 0, 1) := by decide +kernel
theorem dL_law_1696 : decode cL_law 1696 = .ok (.iload 5, 2) := by decide +kernel
theorem dL_law_1698 : decode cL_law 1698 = .ok (.ifCond .ne 15, 3) := by decide +kernel
theorem dL_law_1701 : decode cL_law 1701 = .ok (.aload_n 3, 1) := by decide +kernel
theorem dL_law_1702 : decode cL_law 1702 = .ok (.iconst 0, 1) := by decide +kernel
theorem dL_law_1703 : decode cL_law 1703 = .ok (.laload, 1) := by decide +kernel
theorem dL_law_1704 : decode cL_law 1704 = .ok (.iload 6, 2) := by decide +kernel
theorem dL_law_1706 : decode cL_law 1706 = .ok (.i2l, 1) := by decide +kernel
theorem dL_law_1707 : decode cL_law 1707 = .ok (.lcmp, 1) := by decide +kernel
theorem dL_law_1708 : decode cL_law 1708 = .ok (.ifCond .eq 5, 3) := by decide +kernel
theorem dL_law_1711 : decode cL_law 1711 = .ok (.iconst 0, 1) := by decide +kernel
theorem dL_law_1713 : decode cL_law 1713 = .ok (.goto 1020, 3) := by decide +kernel
def f_law33 (N L : Nat) (xs : Nat → Int32) (i : Int32) (fo : (Nat → Int64)) (mv : MV) (xv : XV) (nv : SV) (tv : SV) (w0 : SV) (w1 : SV) (v0 : SV) (v1 : SV) (v2 : SV) (v3 : SV) (v4 : SV) (v5 : SV) : Option ((Nat → Int64) × MV × XV × SV × SV × SV × SV × SV × SV × SV × SV × SV × SV) :=
  (f_L_leader N fo xv nv).bind (fun o1 => (f_X6_leader N mv).bind (fun o3 => (f_X6_thrown N o3.2).bind (fun o5 => (if o5 = o1.1 then jn (fun (s1713 : Unit) => some (o1.2.1, o3.2, o1.2.2.1, o1.2.2.2, tv, w0, w1, v0, v1, v2, v3, v4, v5)) (fun (j1713 : (Unit) → Option ((Nat → Int64) × MV × XV × SV × SV × SV × SV × SV × SV × SV × SV × SV × SV)) => (if o1.1 = 0 then (if (lg_cmp (o1.2.1 (0 : Int32).toNatClampNeg) ((o3.1).toInt64)) = 0 then j1713 () else none) else j1713 ())) else none))))
set_option maxHeartbeats 4000000 in
set_option maxRecDepth 100000 in
theorem law33 (hst : l.stackTraces = false) (hx : p.tables.exec = Jvm.exec) (hb : c.code = code) (hml : c.maxLocals = 9) (hown : s.vm.findClass RL = some m.cls) (hts : ∀ w ∈ wT, w.before args s = true) (hK : wK dC dI cyI cyO cyL s) (hZ : wZ z0 s) (hAz : ∀ q, A q → z0 ≤ q) (hz0 : z0 ≤ s.heap.size) (hA : ∀ q : Nat, s.heap.size ≤ q → A q) (hX : va_X b L xs s s.heap) (hbl : b < s.heap.size) (hbA : ¬ A b) (hRf : 11 ≤ R.frames) (hRl : 398 ≤ R.locals) (qo : Nat) (mm x an tr k0 k1 b0 b1 b2 b3 b4 b5 : Nat → Nat) (fl fs : Nat → Option Nat) (N : Nat) (fo : (Nat → Int64)) (mv : MV) (xv : XV) (nv : SV) (tv : SV) (w0 : SV) (w1 : SV) (v0 : SV) (v1 : SV) (v2 : SV) (v3 : SV) (v4 : SV) (v5 : SV) (i : Int32) (hl0 : fl 0 = some (k0 0)) (hl1 : fl 1 = some (k1 0)) (hs0 : fs 0 = some (b0 0)) (hs1 : fs 1 = some (b1 0)) (hs2 : fs 2 = some (b2 0)) (hs3 : fs 3 = some (b3 0)) (hs4 : fs 4 = some (b4 0)) (hs5 : fs 5 = some (b5 0)) (out : (Nat → Int64) × MV × XV × SV × SV × SV × SV × SV × SV × SV × SV × SV × SV) (hF : f_law33 N L xs i fo mv xv nv tv w0 w1 v0 v1 v2 v3 v4 v5 = some out) (hP : va_P (dC, dI) vwCl (([[cLo cyL qo 1 fo], (cM cyI mm mv), (cXo x an tr xv), (cH cyO (x 1) (x 2) 2 fl), (cXk cyI x xv), (cH cyO (x 4) (x 5) 6 fs), (cT cyI x (X_text xv)), (cSo an nv), (cG cyI an (S_green nv)), (cV cyI an (S_score nv)), (cSo tr tv), (cG cyI tr (S_green tv)), (cV cyI tr (S_score tv)), (cS cyI k0 w0), (cS cyI k1 w1), (cS cyI b0 v0), (cS cyI b1 v1), (cS cyI b2 v2), (cS cyI b3 v3), (cS cyI b4 v4), (cS cyI b5 v5)] : List va_W).flatten) H) (hD : va_D A (([[cLo cyL qo 1 fo], (cM cyI mm mv), (cXo x an tr xv), (cH cyO (x 1) (x 2) 2 fl), (cXk cyI x xv), (cH cyO (x 4) (x 5) 6 fs), (cT cyI x (X_text xv)), (cSo an nv), (cG cyI an (S_green nv)), (cV cyI an (S_score nv)), (cSo tr tv), (cG cyI tr (S_green tv)), (cV cyI tr (S_score tv)), (cS cyI k0 w0), (cS cyI k1 w1), (cS cyI b0 v0), (cS cyI b1 v1), (cS cyI b2 v2), (cS cyI b3 v3), (cS cyI b4 v4), (cS cyI b5 v5)] : List va_W).flatten)) (hS : va_S A s.heap H locs) (hl : lv_has ls 9 [(0, .ref b), (1, .ref (x 0)), (2, .ref (mm 0)), (3, .ref qo), (4, .int i)]) (hRc : cells + 4 ≤ R.cells) (hRs : slots + 24 ≤ R.slots) (kk : ∀ (H : Heap) (locs : List Loc) (ls : Array Slot), va_P (dC, dI) vwCl (([[cLo cyL qo 1 out.1], (cM cyI mm out.2.1), (cXo x an tr out.2.2.1), (cH cyO (x 1) (x 2) 2 fl), (cXk cyI x out.2.2.1), (cH cyO (x 4) (x 5) 6 fs), (cT cyI x (X_text out.2.2.1)), (cSo an out.2.2.2.1), (cG cyI an (S_green out.2.2.2.1)), (cV cyI an (S_score out.2.2.2.1)), (cSo tr out.2.2.2.2.1), (cG cyI tr (S_green out.2.2.2.2.1)), (cV cyI tr (S_score out.2.2.2.2.1)), (cS cyI k0 out.2.2.2.2.2.1), (cS cyI k1 out.2.2.2.2.2.2.1), (cS cyI b0 out.2.2.2.2.2.2.2.1), (cS cyI b1 out.2.2.2.2.2.2.2.2.1), (cS cyI b2 out.2.2.2.2.2.2.2.2.2.1), (cS cyI b3 out.2.2.2.2.2.2.2.2.2.2.1), (cS cyI b4 out.2.2.2.2.2.2.2.2.2.2.2.1), (cS cyI b5 out.2.2.2.2.2.2.2.2.2.2.2.2)] : List va_W).flatten) H → va_D A (([[cLo cyL qo 1 out.1], (cM cyI mm out.2.1), (cXo x an tr out.2.2.1), (cH cyO (x 1) (x 2) 2 fl), (cXk cyI x out.2.2.1), (cH cyO (x 4) (x 5) 6 fs), (cT cyI x (X_text out.2.2.1)), (cSo an out.2.2.2.1), (cG cyI an (S_green out.2.2.2.1)), (cV cyI an (S_score out.2.2.2.1)), (cSo tr out.2.2.2.2.1), (cG cyI tr (S_green out.2.2.2.2.1)), (cV cyI tr (S_score out.2.2.2.2.1)), (cS cyI k0 out.2.2.2.2.2.1), (cS cyI k1 out.2.2.2.2.2.2.1), (cS cyI b0 out.2.2.2.2.2.2.2.1), (cS cyI b1 out.2.2.2.2.2.2.2.2.1), (cS cyI b2 out.2.2.2.2.2.2.2.2.2.1), (cS cyI b3 out.2.2.2.2.2.2.2.2.2.2.1), (cS cyI b4 out.2.2.2.2.2.2.2.2.2.2.2.1), (cS cyI b5 out.2.2.2.2.2.2.2.2.2.2.2.2)] : List va_W).flatten) → va_S A s.heap H locs → lv_has ls 9 [(0, .ref b), (1, .ref (x 0)), (2, .ref (mm 0)), (3, .ref qo), (4, .int i)] → W p l e R s m args below meth c H locs (cells + 4) (slots + 24) Q (F0 m 2733 ls [])) : W p l e R s m args below meth c H locs cells slots Q (F0 m 1672 ls []) := by
  unfold f_law33 at hF
  refine lv_aload_n hx hb dL_law_1672 rfl (lv_at hl 1 rfl) ?_
  refine lv_aload_n hx hb dL_law_1673 rfl (lv_at hl 3 rfl) ?_
  obtain ⟨o1, h2, hF⟩ := obd hF
  refine wcLi (As := [.ref (x 0), .ref qo]) (rest := []) (wr := ([(cM cyI mm mv), (cSo tr tv), (cG cyI tr (S_green tv)), (cV cyI tr (S_score tv)), (cS cyI k0 w0), (cS cyI k1 w1), (cS cyI b0 v0), (cS cyI b1 v1), (cS cyI b2 v2), (cS cyI b3 v3), (cS cyI b4 v4), (cS cyI b5 v5)] : List va_W).flatten) ⟨hx, hb, hml, hown, hts⟩ (met_L_leader l z0 hst dC dI cyI cyO cyL qo x tr an fl fs _ N fo xv nv  o1 h2) (vx_cwSW 2 hts (gS w_methodLink_L_257 w_static_L_leader w_initialized_L w_codeW_L_leader) rfl rfl rfl (by decide +kernel) ⟨Nat.le_trans (Nat.le_of_ble_eq_true rfl) hRf, Nat.le_trans (Nat.le_of_ble_eq_true rfl) hRl⟩) hP hD hK hZ hAz hz0 (seg_perm (n := 21) (R := [(cM cyI mm mv), (cSo tr tv), (cG cyI tr (S_green tv)), (cV cyI tr (S_score tv)), (cS cyI k0 w0), (cS cyI k1 w1), (cS cyI b0 v0), (cS cyI b1 v1), (cS cyI b2 v2), (cS cyI b3 v3), (cS cyI b4 v4), (cS cyI b5 v5)]) (C := [[cLo cyL qo 1 fo], (cXo x an tr xv), (cH cyO (x 1) (x 2) 2 fl), (cXk cyI x xv), (cH cyO (x 4) (x 5) 6 fs), (cT cyI x (X_text xv)), (cSo an nv), (cG cyI an (S_green nv)), (cV cyI an (S_score nv))]) [1, 10, 11, 12, 13, 14, 15, 16, 17, 18, 19, 20] [0, 2, 3, 4, 5, 6, 7, 8, 9] rfl rfl rfl (by decide) rfl) rfl hl.1 (Nat.le_of_ble_eq_true rfl) dL_law_1674 ⟨by omega, by omega⟩ hS hA (fun r u H locs hw hP hD hS => ?_)
  obtain rfl : r = o1.1 := congrArg Prod.fst hw
  obtain rfl : u = o1.2 := congrArg Prod.snd hw
  clear hw
  have hq := seg_permS (segs := [[cLo cyL qo 1 o1.2.1], (cM cyI mm mv), (cXo x an tr o1.2.2.1), (cH cyO (x 1) (x 2) 2 fl), (cXk cyI x o1.2.2.1), (cH cyO (x 4) (x 5) 6 fs), (cT cyI x (X_text o1.2.2.1)), (cSo an o1.2.2.2), (cG cyI an (S_green o1.2.2.2)), (cV cyI an (S_score o1.2.2.2)), (cSo tr tv), (cG cyI tr (S_green tv)), (cV cyI tr (S_score tv)), (cS cyI k0 w0), (cS cyI k1 w1), (cS cyI b0 v0), (cS cyI b1 v1), (cS cyI b2 v2), (cS cyI b3 v3), (cS cyI b4 v4), (cS cyI b5 v5)]) (R := [(cM cyI mm mv), (cSo tr tv), (cG cyI tr (S_green tv)), (cV cyI tr (S_score tv)), (cS cyI k0 w0), (cS cyI k1 w1), (cS cyI b0 v0), (cS cyI b1 v1), (cS cyI b2 v2), (cS cyI b3 v3), (cS cyI b4 v4), (cS cyI b5 v5)]) (C := [[cLo cyL qo 1 o1.2.1], (cXo x an tr o1.2.2.1), (cH cyO (x 1) (x 2) 2 fl), (cXk cyI x o1.2.2.1), (cH cyO (x 4) (x 5) 6 fs), (cT cyI x (X_text o1.2.2.1)), (cSo an o1.2.2.2), (cG cyI an (S_green o1.2.2.2)), (cV cyI an (S_score o1.2.2.2))]) (n := 21) [1, 10, 11, 12, 13, 14, 15, 16, 17, 18, 19, 20] [0, 2, 3, 4, 5, 6, 7, 8, 9] rfl rfl rfl (by decide)
  have hP : va_P (dC, dI) vwCl (([[cLo cyL qo 1 o1.2.1], (cM cyI mm mv), (cXo x an tr o1.2.2.1), (cH cyO (x 1) (x 2) 2 fl), (cXk cyI x o1.2.2.1), (cH cyO (x 4) (x 5) 6 fs), (cT cyI x (X_text o1.2.2.1)), (cSo an o1.2.2.2), (cG cyI an (S_green o1.2.2.2)), (cV cyI an (S_score o1.2.2.2)), (cSo tr tv), (cG cyI tr (S_green tv)), (cV cyI tr (S_score tv)), (cS cyI k0 w0), (cS cyI k1 w1), (cS cyI b0 v0), (cS cyI b1 v1), (cS cyI b2 v2), (cS cyI b3 v3), (cS cyI b4 v4), (cS cyI b5 v5)] : List va_W).flatten) H := hP.perm hq
  have hD : va_D A (([[cLo cyL qo 1 o1.2.1], (cM cyI mm mv), (cXo x an tr o1.2.2.1), (cH cyO (x 1) (x 2) 2 fl), (cXk cyI x o1.2.2.1), (cH cyO (x 4) (x 5) 6 fs), (cT cyI x (X_text o1.2.2.1)), (cSo an o1.2.2.2), (cG cyI an (S_green o1.2.2.2)), (cV cyI an (S_score o1.2.2.2)), (cSo tr tv), (cG cyI tr (S_green tv)), (cV cyI tr (S_score tv)), (cS cyI k0 w0), (cS cyI k1 w1), (cS cyI b0 v0), (cS cyI b1 v1), (cS cyI b2 v2), (cS cyI b3 v3), (cS cyI b4 v4), (cS cyI b5 v5)] : List va_W).flatten) := hD.perm hq
  clear hq
  refine lv_istore (lv' := [(5, .int o1.1), (0, .ref b), (1, .ref (x 0)), (2, .ref (mm 0)), (3, .ref qo), (4, .int i)]) hx hb dL_law_1677 hl (by decide) rfl (fun ls hl => ?_)
  refine lv_aload_n hx hb dL_law_1679 rfl (lv_at hl 3 rfl) ?_
  obtain ⟨o3, h4, hF⟩ := obd hF
  refine wcPVi (As := []) (rest := []) (wr := ([[cLo cyL qo 1 o1.2.1], (cXo x an tr o1.2.2.1), (cH cyO (x 1) (x 2) 2 fl), (cXk cyI x o1.2.2.1), (cH cyO (x 4) (x 5) 6 fs), (cT cyI x (X_text o1.2.2.1)), (cSo an o1.2.2.2), (cG cyI an (S_green o1.2.2.2)), (cV cyI an (S_score o1.2.2.2)), (cSo tr tv), (cG cyI tr (S_green tv)), (cV cyI tr (S_score tv)), (cS cyI k0 w0), (cS cyI k1 w1), (cS cyI b0 v0), (cS cyI b1 v1), (cS cyI b2 v2), (cS cyI b3 v3), (cS cyI b4 v4), (cS cyI b5 v5)] : List va_W).flatten) (b := (mm 0)) ⟨hx, hb, hml, hown, hts⟩ (met_X6_leader l dC dI cyI cyO cyL mm _ N mv  o3 h4) (cwV 0 hts (gV w_methodLink_L_259 w_instanceMethod_X6_leader w_selects_X6_leader w_initialized_X6 w_code_X6_leader) rfl rfl rfl (by decide +kernel) ⟨Nat.le_trans (Nat.le_of_ble_eq_true rfl) hRf, Nat.le_trans (Nat.le_of_ble_eq_true rfl) hRl⟩) (va_recv hK.1 hP (ci := 6) (q0 := 1) rfl rfl) hP hD hK (seg_perm (n := 21) (R := [[cLo cyL qo 1 o1.2.1], (cXo x an tr o1.2.2.1), (cH cyO (x 1) (x 2) 2 fl), (cXk cyI x o1.2.2.1), (cH cyO (x 4) (x 5) 6 fs), (cT cyI x (X_text o1.2.2.1)), (cSo an o1.2.2.2), (cG cyI an (S_green o1.2.2.2)), (cV cyI an (S_score o1.2.2.2)), (cSo tr tv), (cG cyI tr (S_green tv)), (cV cyI tr (S_score tv)), (cS cyI k0 w0), (cS cyI k1 w1), (cS cyI b0 v0), (cS cyI b1 v1), (cS cyI b2 v2), (cS cyI b3 v3), (cS cyI b4 v4), (cS cyI b5 v5)]) (C := [(cM cyI mm mv)]) [0, 2, 3, 4, 5, 6, 7, 8, 9, 10, 11, 12, 13, 14, 15, 16, 17, 18, 19, 20] [1] rfl rfl rfl (by decide) rfl) rfl hl.1 (Nat.le_of_ble_eq_true rfl) dL_law_1680 ⟨by omega, by omega⟩ hS hA (fun r u H locs hw hP hD hS => ?_)
  obtain rfl : r = o3.1 := congrArg Prod.fst hw
  obtain rfl : u = o3.2 := congrArg Prod.snd hw
  clear hw
  have hq := seg_permS (segs := [[cLo cyL qo 1 o1.2.1], (cM cyI mm o3.2), (cXo x an tr o1.2.2.1), (cH cyO (x 1) (x 2) 2 fl), (cXk cyI x o1.2.2.1), (cH cyO (x 4) (x 5) 6 fs), (cT cyI x (X_text o1.2.2.1)), (cSo an o1.2.2.2), (cG cyI an (S_green o1.2.2.2)), (cV cyI an (S_score o1.2.2.2)), (cSo tr tv), (cG cyI tr (S_green tv)), (cV cyI tr (S_score tv)), (cS cyI k0 w0), (cS cyI k1 w1), (cS cyI b0 v0), (cS cyI b1 v1), (cS cyI b2 v2), (cS cyI b3 v3), (cS cyI b4 v4), (cS cyI b5 v5)]) (R := [[cLo cyL qo 1 o1.2.1], (cXo x an tr o1.2.2.1), (cH cyO (x 1) (x 2) 2 fl), (cXk cyI x o1.2.2.1), (cH cyO (x 4) (x 5) 6 fs), (cT cyI x (X_text o1.2.2.1)), (cSo an o1.2.2.2), (cG cyI an (S_green o1.2.2.2)), (cV cyI an (S_score o1.2.2.2)), (cSo tr tv), (cG cyI tr (S_green tv)), (cV cyI tr (S_score tv)), (cS cyI k0 w0), (cS cyI k1 w1), (cS cyI b0 v0), (cS cyI b1 v1), (cS cyI b2 v2), (cS cyI b3 v3), (cS cyI b4 v4), (cS cyI b5 v5)]) (C := [(cM cyI mm o3.2)]) (n := 21) [0, 2, 3, 4, 5, 6, 7, 8, 9, 10, 11, 12, 13, 14, 15, 16, 17, 18, 19, 20] [1] rfl rfl rfl (by decide)
  have hP : va_P (dC, dI) vwCl (([[cLo cyL qo 1 o1.2.1], (cM cyI mm o3.2), (cXo x an tr o1.2.2.1), (cH cyO (x 1) (x 2) 2 fl), (cXk cyI x o1.2.2.1), (cH cyO (x 4) (x 5) 6 fs), (cT cyI x (X_text o1.2.2.1)), (cSo an o1.2.2.2), (cG cyI an (S_green o1.2.2.2)), (cV cyI an (S_score o1.2.2.2)), (cSo tr tv), (cG cyI tr (S_green tv)), (cV cyI tr (S_score tv)), (cS cyI k0 w0), (cS cyI k1 w1), (cS cyI b0 v0), (cS cyI b1 v1), (cS cyI b2 v2), (cS cyI b3 v3), (cS cyI b4 v4), (cS cyI b5 v5)] : List va_W).flatten) H := hP.perm hq
  have hD : va_D A (([[cLo cyL qo 1 o1.2.1], (cM cyI mm o3.2), (cXo x an tr o1.2.2.1), (cH cyO (x 1) (x 2) 2 fl), (cXk cyI x o1.2.2.1), (cH cyO (x 4) (x 5) 6 fs), (cT cyI x (X_text o1.2.2.1)), (cSo an o1.2.2.2), (cG cyI an (S_green o1.2.2.2)), (cV cyI an (S_score o1.2.2.2)), (cSo tr tv), (cG cyI tr (S_green tv)), (cV cyI tr (S_score tv)), (cS cyI k0 w0), (cS cyI k1 w1), (cS cyI b0 v0), (cS cyI b1 v1), (cS cyI b2 v2), (cS cyI b3 v3), (cS cyI b4 v4), (cS cyI b5 v5)] : List va_W).flatten) := hD.perm hq
  clear hq
  refine lv_istore (lv' := [(6, .int o3.1), (5, .int o1.1), (0, .ref b), (1, .ref (x 0)), (2, .ref (mm 0)), (3, .ref qo), (4, .int i)]) hx hb dL_law_1683 hl (by decide) rfl (fun ls hl => ?_)
  refine lv_aload_n hx hb dL_law_1685 rfl (lv_at hl 4 rfl) ?_
  obtain ⟨o5, h6, hF⟩ := obd hF
  refine wcRVi (As := []) (rest := []) (b := (mm 0)) ⟨hx, hb, hml, hown, hts⟩ (met_X6_thrown l dC dI cyI cyO cyL mm N o3.2  o5 h6) (cwV 0 hts (gV w_methodLink_L_143 w_instanceMethod_X6_thrown w_selects_X6_thrown w_initialized_X6 w_code_X6_thrown) rfl rfl rfl (by decide +kernel) ⟨Nat.le_trans (Nat.le_of_ble_eq_true rfl) hRf, Nat.le_trans (Nat.le_of_ble_eq_true rfl) hRl⟩) (va_recv hK.1 hP (ci := 6) (q0 := 1) rfl rfl) hP hK [1, 2, 3, 4, 5, 6, 7, 8] rfl rfl hl.1 (Nat.le_of_ble_eq_true rfl) dL_law_1686 ⟨by omega, by omega⟩ hS (fun r H locs hw hP hS => ?_)
  have hw := hw.symm
  subst hw
  refine lv_iload hx hb dL_law_1689 (lv_at hl 1 rfl) ?_
  refine lv_icmp_eq (tgt := 1696) hx hb dL_law_1691 (by decide) (fun c7 => ?_) (fun c7 => ?_)
  · have hF := itp c7 hF
    refine lv_iload hx hb dL_law_1696 (lv_at hl 1 rfl) ?_
    obtain ⟨j1713, hj1713, hF⟩ := jn_use hF
    have hJ1713 : ∀ (s1713 : Unit) (H : Heap) (locs : List Loc) (ls : Array Slot), va_P (dC, dI) vwCl (([[cLo cyL qo 1 o1.2.1], (cM cyI mm o3.2), (cXo x an tr o1.2.2.1), (cH cyO (x 1) (x 2) 2 fl), (cXk cyI x o1.2.2.1), (cH cyO (x 4) (x 5) 6 fs), (cT cyI x (X_text o1.2.2.1)), (cSo an o1.2.2.2), (cG cyI an (S_green o1.2.2.2)), (cV cyI an (S_score o1.2.2.2)), (cSo tr tv), (cG cyI tr (S_green tv)), (cV cyI tr (S_score tv)), (cS cyI k0 w0), (cS cyI k1 w1), (cS cyI b0 v0), (cS cyI b1 v1), (cS cyI b2 v2), (cS cyI b3 v3), (cS cyI b4 v4), (cS cyI b5 v5)] : List va_W).flatten) H → va_D A (([[cLo cyL qo 1 o1.2.1], (cM cyI mm o3.2), (cXo x an tr o1.2.2.1), (cH cyO (x 1) (x 2) 2 fl), (cXk cyI x o1.2.2.1), (cH cyO (x 4) (x 5) 6 fs), (cT cyI x (X_text o1.2.2.1)), (cSo an o1.2.2.2), (cG cyI an (S_green o1.2.2.2)), (cV cyI an (S_score o1.2.2.2)), (cSo tr tv), (cG cyI tr (S_green tv)), (cV cyI tr (S_score tv)), (cS cyI k0 w0), (cS cyI k1 w1), (cS cyI b0 v0), (cS cyI b1 v1), (cS cyI b2 v2), (cS cyI b3 v3), (cS cyI b4 v4), (cS cyI b5 v5)] : List va_W).flatten) → va_S A s.heap H locs → lv_has ls 9 [(0, .ref b), (1, .ref (x 0)), (2, .ref (mm 0)), (3, .ref qo), (4, .int i)] → j1713 s1713 = some out → W p l e R s m args below meth c H locs (cells + 1) (slots + 6) Q (F0 m 1713 ls []) := by
      intro s1713 H locs ls hP hD hS hl hF
      have hF := (congrFun hj1713 s1713).symm.trans hF
      refine lv_goto (tgt := 2733) hx hb dL_law_1713 (by decide) ?_
      obtain rfl := Option.some.inj hF
      refine W.widen (k := cells + 4) (n := slots + 24) (by omega) (by omega) ?_
      exact kk _ _ _ hP hD hS (lv_sub hl [0, 1, 2, 3, 4] rfl)
    refine lv_if_ne (tgt := 1713) hx hb dL_law_1698 (by decide) (fun c8 => ?_) (fun c8 => ?_)
    · have hF := itn c8 hF
      exact hJ1713 () _ _ _ hP hD hS (lv_sub hl [2, 3, 4, 5, 6] rfl) hF
    · have hF := itp c8 hF
      refine lv_aload_n hx hb dL_law_1701 rfl (lv_at hl 5 rfl) ?_
      refine lv_iconst (v := 0) hx hb dL_law_1702 (by decide) ?_
      refine va_lald hx hb hK.1 hP 0 2 rfl rfl (i := (0 : Int32)) (show ixok (0 : Int32) 1 by decide) dL_law_1703 ?_
      refine lv_iload hx hb dL_law_1704 (lv_at hl 0 rfl) ?_
      refine lv_i2l (v := (o3.1).toInt64) hx hb dL_law_1706 rfl ?_
      refine W.lcmp hx hb dL_law_1707 ?_
      refine lv_if_eq (tgt := 1713) hx hb dL_law_1708 (by decide) (fun c9 => ?_) (fun c9 => ?_)
      · have hF := itp c9 hF
        exact hJ1713 () _ _ _ hP hD hS (lv_sub hl [2, 3, 4, 5, 6] rfl) hF
      · have hF := itn c9 hF
        refine lv_iconst (v := 0) hx hb dL_law_1711 (by decide) ?_
        cases hF
  · have hF := itn c7 hF
    refine lv_iconst (v := 0) hx hb dL_law_1694 (by decide) ?_
    cases hF
theorem dL_law_1716 : decode cL_law 1716 = .ok (.aload_n 1, 1) := by decide +kernel
theorem dL_law_1717 : decode cL_law 1717 = .ok (.invokevirtual 260, 3) := by decide +kernel
theorem dL_law_1720 : decode cL_law 1720 = .ok (.aload_n 2, 1) := by decide +kernel
theorem dL_law_1721 : decode cL_law 1721 = .ok (.invokevirtual 263, 3) := by decide +kernel
theorem dL_law_1724 : decode cL_law 1724 = .ok (.if_icmp .eq 1009, 3) := by decide +kernel
theorem dL_law_1727 : decode cL_law 1727 = .ok (.iconst 0, 1) := by decide +kernel
def f_law34 (N L : Nat) (xs : Nat → Int32) (i : Int32) (fo : (Nat → Int64)) (mv : MV) (xv : XV) (nv : SV) (tv : SV) (w0 : SV) (w1 : SV) (v0 : SV) (v1 : SV) (v2 : SV) (v3 : SV) (v4 : SV) (v5 : SV) : Option ((Nat → Int64) × MV × XV × SV × SV × SV × SV × SV × SV × SV × SV × SV × SV) :=
  (f_X5_pointsByOrder N xv nv).bind (fun o1 => (f_X6_pointsByOrder N mv).bind (fun o3 => (if o1.1 = o3.1 then some (fo, o3.2, o1.2.1, o1.2.2, tv, w0, w1, v0, v1, v2, v3, v4, v5) else none)))
set_option maxHeartbeats 4000000 in
set_option maxRecDepth 100000 in
theorem law34 (hst : l.stackTraces = false) (hx : p.tables.exec = Jvm.exec) (hb : c.code = code) (hml : c.maxLocals = 9) (hown : s.vm.findClass RL = some m.cls) (hts : ∀ w ∈ wT, w.before args s = true) (hK : wK dC dI cyI cyO cyL s) (hZ : wZ z0 s) (hAz : ∀ q, A q → z0 ≤ q) (hz0 : z0 ≤ s.heap.size) (hA : ∀ q : Nat, s.heap.size ≤ q → A q) (hX : va_X b L xs s s.heap) (hbl : b < s.heap.size) (hbA : ¬ A b) (hRf : 11 ≤ R.frames) (hRl : 398 ≤ R.locals) (qo : Nat) (mm x an tr k0 k1 b0 b1 b2 b3 b4 b5 : Nat → Nat) (fl fs : Nat → Option Nat) (N : Nat) (fo : (Nat → Int64)) (mv : MV) (xv : XV) (nv : SV) (tv : SV) (w0 : SV) (w1 : SV) (v0 : SV) (v1 : SV) (v2 : SV) (v3 : SV) (v4 : SV) (v5 : SV) (i : Int32) (hl0 : fl 0 = some (k0 0)) (hl1 : fl 1 = some (k1 0)) (hs0 : fs 0 = some (b0 0)) (hs1 : fs 1 = some (b1 0)) (hs2 : fs 2 = some (b2 0)) (hs3 : fs 3 = some (b3 0)) (hs4 : fs 4 = some (b4 0)) (hs5 : fs 5 = some (b5 0)) (out : (Nat → Int64) × MV × XV × SV × SV × SV × SV × SV × SV × SV × SV × SV × SV) (hF : f_law34 N L xs i fo mv xv nv tv w0 w1 v0 v1 v2 v3 v4 v5 = some out) (hP : va_P (dC, dI) vwCl (([[cLo cyL qo 1 fo], (cM cyI mm mv), (cXo x an tr xv), (cH cyO (x 1) (x 2) 2 fl), (cXk cyI x xv), (cH cyO (x 4) (x 5) 6 fs), (cT cyI x (X_text xv)), (cSo an nv), (cG cyI an (S_green nv)), (cV cyI an (S_score nv)), (cSo tr tv), (cG cyI tr (S_green tv)), (cV cyI tr (S_score tv)), (cS cyI k0 w0), (cS cyI k1 w1), (cS cyI b0 v0), (cS cyI b1 v1), (cS cyI b2 v2), (cS cyI b3 v3), (cS cyI b4 v4), (cS cyI b5 v5)] : List va_W).flatten) H) (hD : va_D A (([[cLo cyL qo 1 fo], (cM cyI mm mv), (cXo x an tr xv), (cH cyO (x 1) (x 2) 2 fl), (cXk cyI x xv), (cH cyO (x 4) (x 5) 6 fs), (cT cyI x (X_text xv)), (cSo an nv), (cG cyI an (S_green nv)), (cV cyI an (S_score nv)), (cSo tr tv), (cG cyI tr (S_green tv)), (cV cyI tr (S_score tv)), (cS cyI k0 w0), (cS cyI k1 w1), (cS cyI b0 v0), (cS cyI b1 v1), (cS cyI b2 v2), (cS cyI b3 v3), (cS cyI b4 v4), (cS cyI b5 v5)] : List va_W).flatten)) (hS : va_S A s.heap H locs) (hl : lv_has ls 9 [(0, .ref b), (1, .ref (x 0)), (2, .ref (mm 0)), (3, .ref qo), (4, .int i)]) (hRc : cells + 4 ≤ R.cells) (hRs : slots + 24 ≤ R.slots) (kk : ∀ (H : Heap) (locs : List Loc) (ls : Array Slot), va_P (dC, dI) vwCl (([[cLo cyL qo 1 out.1], (cM cyI mm out.2.1), (cXo x an tr out.2.2.1), (cH cyO (x 1) (x 2) 2 fl), (cXk cyI x out.2.2.1), (cH cyO (x 4) (x 5) 6 fs), (cT cyI x (X_text out.2.2.1)), (cSo an out.2.2.2.1), (cG cyI an (S_green out.2.2.2.1)), (cV cyI an (S_score out.2.2.2.1)), (cSo tr out.2.2.2.2.1), (cG cyI tr (S_green out.2.2.2.2.1)), (cV cyI tr (S_score out.2.2.2.2.1)), (cS cyI k0 out.2.2.2.2.2.1), (cS cyI k1 out.2.2.2.2.2.2.1), (cS cyI b0 out.2.2.2.2.2.2.2.1), (cS cyI b1 out.2.2.2.2.2.2.2.2.1), (cS cyI b2 out.2.2.2.2.2.2.2.2.2.1), (cS cyI b3 out.2.2.2.2.2.2.2.2.2.2.1), (cS cyI b4 out.2.2.2.2.2.2.2.2.2.2.2.1), (cS cyI b5 out.2.2.2.2.2.2.2.2.2.2.2.2)] : List va_W).flatten) H → va_D A (([[cLo cyL qo 1 out.1], (cM cyI mm out.2.1), (cXo x an tr out.2.2.1), (cH cyO (x 1) (x 2) 2 fl), (cXk cyI x out.2.2.1), (cH cyO (x 4) (x 5) 6 fs), (cT cyI x (X_text out.2.2.1)), (cSo an out.2.2.2.1), (cG cyI an (S_green out.2.2.2.1)), (cV cyI an (S_score out.2.2.2.1)), (cSo tr out.2.2.2.2.1), (cG cyI tr (S_green out.2.2.2.2.1)), (cV cyI tr (S_score out.2.2.2.2.1)), (cS cyI k0 out.2.2.2.2.2.1), (cS cyI k1 out.2.2.2.2.2.2.1), (cS cyI b0 out.2.2.2.2.2.2.2.1), (cS cyI b1 out.2.2.2.2.2.2.2.2.1), (cS cyI b2 out.2.2.2.2.2.2.2.2.2.1), (cS cyI b3 out.2.2.2.2.2.2.2.2.2.2.1), (cS cyI b4 out.2.2.2.2.2.2.2.2.2.2.2.1), (cS cyI b5 out.2.2.2.2.2.2.2.2.2.2.2.2)] : List va_W).flatten) → va_S A s.heap H locs → lv_has ls 9 [(0, .ref b), (1, .ref (x 0)), (2, .ref (mm 0)), (3, .ref qo), (4, .int i)] → W p l e R s m args below meth c H locs (cells + 4) (slots + 24) Q (F0 m 2733 ls [])) : W p l e R s m args below meth c H locs cells slots Q (F0 m 1716 ls []) := by
  unfold f_law34 at hF
  refine lv_aload_n hx hb dL_law_1716 rfl (lv_at hl 1 rfl) ?_
  obtain ⟨o1, h2, hF⟩ := obd hF
  refine wcPVi (As := []) (rest := []) (wr := ([[cLo cyL qo 1 fo], (cM cyI mm mv), (cSo tr tv), (cG cyI tr (S_green tv)), (cV cyI tr (S_score tv)), (cS cyI k0 w0), (cS cyI k1 w1), (cS cyI b0 v0), (cS cyI b1 v1), (cS cyI b2 v2), (cS cyI b3 v3), (cS cyI b4 v4), (cS cyI b5 v5)] : List va_W).flatten) (b := (x 0)) ⟨hx, hb, hml, hown, hts⟩ (met_X5_pointsByOrder l dC dI cyI cyO cyL x tr an fl fs _ N xv nv  o1 h2) (cwV 0 hts (gV w_methodLink_L_260 w_instanceMethod_X5_pointsByOrder w_selects_X5_pointsByOrder w_initialized_X5 w_code_X5_pointsByOrder) rfl rfl rfl (by decide +kernel) ⟨Nat.le_trans (Nat.le_of_ble_eq_true rfl) hRf, Nat.le_trans (Nat.le_of_ble_eq_true rfl) hRl⟩) (va_recv hK.1 hP (ci := 5) (q0 := 9) rfl rfl) hP hD hK (seg_perm (n := 21) (R := [[cLo cyL qo 1 fo], (cM cyI mm mv), (cSo tr tv), (cG cyI tr (S_green tv)), (cV cyI tr (S_score tv)), (cS cyI k0 w0), (cS cyI k1 w1), (cS cyI b0 v0), (cS cyI b1 v1), (cS cyI b2 v2), (cS cyI b3 v3), (cS cyI b4 v4), (cS cyI b5 v5)]) (C := [(cXo x an tr xv), (cH cyO (x 1) (x 2) 2 fl), (cXk cyI x xv), (cH cyO (x 4) (x 5) 6 fs), (cT cyI x (X_text xv)), (cSo an nv), (cG cyI an (S_green nv)), (cV cyI an (S_score nv))]) [0, 1, 10, 11, 12, 13, 14, 15, 16, 17, 18, 19, 20] [2, 3, 4, 5, 6, 7, 8, 9] rfl rfl rfl (by decide) rfl) rfl hl.1 (Nat.le_of_ble_eq_true rfl) dL_law_1717 ⟨by omega, by omega⟩ hS hA (fun r u H locs hw hP hD hS => ?_)
  obtain rfl : r = o1.1 := congrArg Prod.fst hw
  obtain rfl : u = o1.2 := congrArg Prod.snd hw
  clear hw
  have hq := seg_permS (segs := [[cLo cyL qo 1 fo], (cM cyI mm mv), (cXo x an tr o1.2.1), (cH cyO (x 1) (x 2) 2 fl), (cXk cyI x o1.2.1), (cH cyO (x 4) (x 5) 6 fs), (cT cyI x (X_text o1.2.1)), (cSo an o1.2.2), (cG cyI an (S_green o1.2.2)), (cV cyI an (S_score o1.2.2)), (cSo tr tv), (cG cyI tr (S_green tv)), (cV cyI tr (S_score tv)), (cS cyI k0 w0), (cS cyI k1 w1), (cS cyI b0 v0), (cS cyI b1 v1), (cS cyI b2 v2), (cS cyI b3 v3), (cS cyI b4 v4), (cS cyI b5 v5)]) (R := [[cLo cyL qo 1 fo], (cM cyI mm mv), (cSo tr tv), (cG cyI tr (S_green tv)), (cV cyI tr (S_score tv)), (cS cyI k0 w0), (cS cyI k1 w1), (cS cyI b0 v0), (cS cyI b1 v1), (cS cyI b2 v2), (cS cyI b3 v3), (cS cyI b4 v4), (cS cyI b5 v5)]) (C := [(cXo x an tr o1.2.1), (cH cyO (x 1) (x 2) 2 fl), (cXk cyI x o1.2.1), (cH cyO (x 4) (x 5) 6 fs), (cT cyI x (X_text o1.2.1)), (cSo an o1.2.2), (cG cyI an (S_green o1.2.2)), (cV cyI an (S_score o1.2.2))]) (n := 21) [0, 1, 10, 11, 12, 13, 14, 15, 16, 17, 18, 19, 20] [2, 3, 4, 5, 6, 7, 8, 9] rfl rfl rfl (by decide)
  have hP : va_P (dC, dI) vwCl (([[cLo cyL qo 1 fo], (cM cyI mm mv), (cXo x an tr o1.2.1), (cH cyO (x 1) (x 2) 2 fl), (cXk cyI x o1.2.1), (cH cyO (x 4) (x 5) 6 fs), (cT cyI x (X_text o1.2.1)), (cSo an o1.2.2), (cG cyI an (S_green o1.2.2)), (cV cyI an (S_score o1.2.2)), (cSo tr tv), (cG cyI tr (S_green tv)), (cV cyI tr (S_score tv)), (cS cyI k0 w0), (cS cyI k1 w1), (cS cyI b0 v0), (cS cyI b1 v1), (cS cyI b2 v2), (cS cyI b3 v3), (cS cyI b4 v4), (cS cyI b5 v5)] : List va_W).flatten) H := hP.perm hq
  have hD : va_D A (([[cLo cyL qo 1 fo], (cM cyI mm mv), (cXo x an tr o1.2.1), (cH cyO (x 1) (x 2) 2 fl), (cXk cyI x o1.2.1), (cH cyO (x 4) (x 5) 6 fs), (cT cyI x (X_text o1.2.1)), (cSo an o1.2.2), (cG cyI an (S_green o1.2.2)), (cV cyI an (S_score o1.2.2)), (cSo tr tv), (cG cyI tr (S_green tv)), (cV cyI tr (S_score tv)), (cS cyI k0 w0), (cS cyI k1 w1), (cS cyI b0 v0), (cS cyI b1 v1), (cS cyI b2 v2), (cS cyI b3 v3), (cS cyI b4 v4), (cS cyI b5 v5)] : List va_W).flatten) := hD.perm hq
  clear hq
  refine lv_aload_n hx hb dL_law_1720 rfl (lv_at hl 2 rfl) ?_
  obtain ⟨o3, h4, hF⟩ := obd hF
  refine wcPVi (As := []) (rest := [.int o1.1]) (wr := ([[cLo cyL qo 1 fo], (cXo x an tr o1.2.1), (cH cyO (x 1) (x 2) 2 fl), (cXk cyI x o1.2.1), (cH cyO (x 4) (x 5) 6 fs), (cT cyI x (X_text o1.2.1)), (cSo an o1.2.2), (cG cyI an (S_green o1.2.2)), (cV cyI an (S_score o1.2.2)), (cSo tr tv), (cG cyI tr (S_green tv)), (cV cyI tr (S_score tv)), (cS cyI k0 w0), (cS cyI k1 w1), (cS cyI b0 v0), (cS cyI b1 v1), (cS cyI b2 v2), (cS cyI b3 v3), (cS cyI b4 v4), (cS cyI b5 v5)] : List va_W).flatten) (b := (mm 0)) ⟨hx, hb, hml, hown, hts⟩ (met_X6_pointsByOrder l dC dI cyI cyO cyL mm _ N mv  o3 h4) (cwV 0 hts (gV w_methodLink_L_263 w_instanceMethod_X6_pointsByOrder w_selects_X6_pointsByOrder w_initialized_X6 w_code_X6_pointsByOrder) rfl rfl rfl (by decide +kernel) ⟨Nat.le_trans (Nat.le_of_ble_eq_true rfl) hRf, Nat.le_trans (Nat.le_of_ble_eq_true rfl) hRl⟩) (va_recv hK.1 hP (ci := 6) (q0 := 1) rfl rfl) hP hD hK (seg_perm (n := 21) (R := [[cLo cyL qo 1 fo], (cXo x an tr o1.2.1), (cH cyO (x 1) (x 2) 2 fl), (cXk cyI x o1.2.1), (cH cyO (x 4) (x 5) 6 fs), (cT cyI x (X_text o1.2.1)), (cSo an o1.2.2), (cG cyI an (S_green o1.2.2)), (cV cyI an (S_score o1.2.2)), (cSo tr tv), (cG cyI tr (S_green tv)), (cV cyI tr (S_score tv)), (cS cyI k0 w0), (cS cyI k1 w1), (cS cyI b0 v0), (cS cyI b1 v1), (cS cyI b2 v2), (cS cyI b3 v3), (cS cyI b4 v4), (cS cyI b5 v5)]) (C := [(cM cyI mm mv)]) [0, 2, 3, 4, 5, 6, 7, 8, 9, 10, 11, 12, 13, 14, 15, 16, 17, 18, 19, 20] [1] rfl rfl rfl (by decide) rfl) rfl hl.1 (Nat.le_of_ble_eq_true rfl) dL_law_1721 ⟨by omega, by omega⟩ hS hA (fun r u H locs hw hP hD hS => ?_)
  obtain rfl : r = o3.1 := congrArg Prod.fst hw
  obtain rfl : u = o3.2 := congrArg Prod.snd hw
  clear hw
  have hq := seg_permS (segs := [[cLo cyL qo 1 fo], (cM cyI mm o3.2), (cXo x an tr o1.2.1), (cH cyO (x 1) (x 2) 2 fl), (cXk cyI x o1.2.1), (cH cyO (x 4) (x 5) 6 fs), (cT cyI x (X_text o1.2.1)), (cSo an o1.2.2), (cG cyI an (S_green o1.2.2)), (cV cyI an (S_score o1.2.2)), (cSo tr tv), (cG cyI tr (S_green tv)), (cV cyI tr (S_score tv)), (cS cyI k0 w0), (cS cyI k1 w1), (cS cyI b0 v0), (cS cyI b1 v1), (cS cyI b2 v2), (cS cyI b3 v3), (cS cyI b4 v4), (cS cyI b5 v5)]) (R := [[cLo cyL qo 1 fo], (cXo x an tr o1.2.1), (cH cyO (x 1) (x 2) 2 fl), (cXk cyI x o1.2.1), (cH cyO (x 4) (x 5) 6 fs), (cT cyI x (X_text o1.2.1)), (cSo an o1.2.2), (cG cyI an (S_green o1.2.2)), (cV cyI an (S_score o1.2.2)), (cSo tr tv), (cG cyI tr (S_green tv)), (cV cyI tr (S_score tv)), (cS cyI k0 w0), (cS cyI k1 w1), (cS cyI b0 v0), (cS cyI b1 v1), (cS cyI b2 v2), (cS cyI b3 v3), (cS cyI b4 v4), (cS cyI b5 v5)]) (C := [(cM cyI mm o3.2)]) (n := 21) [0, 2, 3, 4, 5, 6, 7, 8, 9, 10, 11, 12, 13, 14, 15, 16, 17, 18, 19, 20] [1] rfl rfl rfl (by decide)
  have hP : va_P (dC, dI) vwCl (([[cLo cyL qo 1 fo], (cM cyI mm o3.2), (cXo x an tr o1.2.1), (cH cyO (x 1) (x 2) 2 fl), (cXk cyI x o1.2.1), (cH cyO (x 4) (x 5) 6 fs), (cT cyI x (X_text o1.2.1)), (cSo an o1.2.2), (cG cyI an (S_green o1.2.2)), (cV cyI an (S_score o1.2.2)), (cSo tr tv), (cG cyI tr (S_green tv)), (cV cyI tr (S_score tv)), (cS cyI k0 w0), (cS cyI k1 w1), (cS cyI b0 v0), (cS cyI b1 v1), (cS cyI b2 v2), (cS cyI b3 v3), (cS cyI b4 v4), (cS cyI b5 v5)] : List va_W).flatten) H := hP.perm hq
  have hD : va_D A (([[cLo cyL qo 1 fo], (cM cyI mm o3.2), (cXo x an tr o1.2.1), (cH cyO (x 1) (x 2) 2 fl), (cXk cyI x o1.2.1), (cH cyO (x 4) (x 5) 6 fs), (cT cyI x (X_text o1.2.1)), (cSo an o1.2.2), (cG cyI an (S_green o1.2.2)), (cV cyI an (S_score o1.2.2)), (cSo tr tv), (cG cyI tr (S_green tv)), (cV cyI tr (S_score tv)), (cS cyI k0 w0), (cS cyI k1 w1), (cS cyI b0 v0), (cS cyI b1 v1), (cS cyI b2 v2), (cS cyI b3 v3), (cS cyI b4 v4), (cS cyI b5 v5)] : List va_W).flatten) := hD.perm hq
  clear hq
  refine lv_icmp_eq (tgt := 2733) hx hb dL_law_1724 (by decide) (fun c5 => ?_) (fun c5 => ?_)
  · have hF := itp c5 hF
    obtain rfl := Option.some.inj hF
    refine W.widen (k := cells + 4) (n := slots + 24) (by omega) (by omega) ?_
    exact kk _ _ _ hP hD hS (lv_sub hl [0, 1, 2, 3, 4] rfl)
  · have hF := itn c5 hF
    refine lv_iconst (v := 0) hx hb dL_law_1727 (by decide) ?_
    cases hF
theorem dL_law_1729 : decode cL_law 1729 = .ok (.aload_n 1, 1) := by decide +kernel
theorem dL_law_1730 : decode cL_law 1730 = .ok (.invokevirtual 264, 3) := by decide +kernel
theorem dL_law_1733 : decode cL_law 1733 = .ok (.aload_n 2, 1) := by decide +kernel
theorem dL_law_1734 : decode cL_law 1734 = .ok (.invokevirtual 267, 3) := by decide +kernel
theorem dL_law_1737 : decode cL_law 1737 = .ok (.if_icmp .eq 996, 3) := by decide +kernel
theorem dL_law_1740 : decode cL_law 1740 = .ok (.iconst 0, 1) := by decide +kernel
def f_law35 (N L : Nat) (xs : Nat → Int32) (i : Int32) (fo : (Nat → Int64)) (mv : MV) (xv : XV) (nv : SV) (tv : SV) (w0 : SV) (w1 : SV) (v0 : SV) (v1 : SV) (v2 : SV) (v3 : SV) (v4 : SV) (v5 : SV) : Option ((Nat → Int64) × MV × XV × SV × SV × SV × SV × SV × SV × SV × SV × SV × SV) :=
  (f_X5_pointsByPairs N xv nv).bind (fun o1 => (f_X6_pointsByPairs N mv).bind (fun o3 => (if o1 = o3.1 then some (fo, o3.2, xv, nv, tv, w0, w1, v0, v1, v2, v3, v4, v5) else none)))
set_option maxHeartbeats 4000000 in
set_option maxRecDepth 100000 in
theorem law35 (hst : l.stackTraces = false) (hx : p.tables.exec = Jvm.exec) (hb : c.code = code) (hml : c.maxLocals = 9) (hown : s.vm.findClass RL = some m.cls) (hts : ∀ w ∈ wT, w.before args s = true) (hK : wK dC dI cyI cyO cyL s) (hZ : wZ z0 s) (hAz : ∀ q, A q → z0 ≤ q) (hz0 : z0 ≤ s.heap.size) (hA : ∀ q : Nat, s.heap.size ≤ q → A q) (hX : va_X b L xs s s.heap) (hbl : b < s.heap.size) (hbA : ¬ A b) (hRf : 11 ≤ R.frames) (hRl : 398 ≤ R.locals) (qo : Nat) (mm x an tr k0 k1 b0 b1 b2 b3 b4 b5 : Nat → Nat) (fl fs : Nat → Option Nat) (N : Nat) (fo : (Nat → Int64)) (mv : MV) (xv : XV) (nv : SV) (tv : SV) (w0 : SV) (w1 : SV) (v0 : SV) (v1 : SV) (v2 : SV) (v3 : SV) (v4 : SV) (v5 : SV) (i : Int32) (hl0 : fl 0 = some (k0 0)) (hl1 : fl 1 = some (k1 0)) (hs0 : fs 0 = some (b0 0)) (hs1 : fs 1 = some (b1 0)) (hs2 : fs 2 = some (b2 0)) (hs3 : fs 3 = some (b3 0)) (hs4 : fs 4 = some (b4 0)) (hs5 : fs 5 = some (b5 0)) (out : (Nat → Int64) × MV × XV × SV × SV × SV × SV × SV × SV × SV × SV × SV × SV) (hF : f_law35 N L xs i fo mv xv nv tv w0 w1 v0 v1 v2 v3 v4 v5 = some out) (hP : va_P (dC, dI) vwCl (([[cLo cyL qo 1 fo], (cM cyI mm mv), (cXo x an tr xv), (cH cyO (x 1) (x 2) 2 fl), (cXk cyI x xv), (cH cyO (x 4) (x 5) 6 fs), (cT cyI x (X_text xv)), (cSo an nv), (cG cyI an (S_green nv)), (cV cyI an (S_score nv)), (cSo tr tv), (cG cyI tr (S_green tv)), (cV cyI tr (S_score tv)), (cS cyI k0 w0), (cS cyI k1 w1), (cS cyI b0 v0), (cS cyI b1 v1), (cS cyI b2 v2), (cS cyI b3 v3), (cS cyI b4 v4), (cS cyI b5 v5)] : List va_W).flatten) H) (hD : va_D A (([[cLo cyL qo 1 fo], (cM cyI mm mv), (cXo x an tr xv), (cH cyO (x 1) (x 2) 2 fl), (cXk cyI x xv), (cH cyO (x 4) (x 5) 6 fs), (cT cyI x (X_text xv)), (cSo an nv), (cG cyI an (S_green nv)), (cV cyI an (S_score nv)), (cSo tr tv), (cG cyI tr (S_green tv)), (cV cyI tr (S_score tv)), (cS cyI k0 w0), (cS cyI k1 w1), (cS cyI b0 v0), (cS cyI b1 v1), (cS cyI b2 v2), (cS cyI b3 v3), (cS cyI b4 v4), (cS cyI b5 v5)] : List va_W).flatten)) (hS : va_S A s.heap H locs) (hl : lv_has ls 9 [(0, .ref b), (1, .ref (x 0)), (2, .ref (mm 0)), (3, .ref qo), (4, .int i)]) (hRc : cells + 4 ≤ R.cells) (hRs : slots + 24 ≤ R.slots) (kk : ∀ (H : Heap) (locs : List Loc) (ls : Array Slot), va_P (dC, dI) vwCl (([[cLo cyL qo 1 out.1], (cM cyI mm out.2.1), (cXo x an tr out.2.2.1), (cH cyO (x 1) (x 2) 2 fl), (cXk cyI x out.2.2.1), (cH cyO (x 4) (x 5) 6 fs), (cT cyI x (X_text out.2.2.1)), (cSo an out.2.2.2.1), (cG cyI an (S_green out.2.2.2.1)), (cV cyI an (S_score out.2.2.2.1)), (cSo tr out.2.2.2.2.1), (cG cyI tr (S_green out.2.2.2.2.1)), (cV cyI tr (S_score out.2.2.2.2.1)), (cS cyI k0 out.2.2.2.2.2.1), (cS cyI k1 out.2.2.2.2.2.2.1), (cS cyI b0 out.2.2.2.2.2.2.2.1), (cS cyI b1 out.2.2.2.2.2.2.2.2.1), (cS cyI b2 out.2.2.2.2.2.2.2.2.2.1), (cS cyI b3 out.2.2.2.2.2.2.2.2.2.2.1), (cS cyI b4 out.2.2.2.2.2.2.2.2.2.2.2.1), (cS cyI b5 out.2.2.2.2.2.2.2.2.2.2.2.2)] : List va_W).flatten) H → va_D A (([[cLo cyL qo 1 out.1], (cM cyI mm out.2.1), (cXo x an tr out.2.2.1), (cH cyO (x 1) (x 2) 2 fl), (cXk cyI x out.2.2.1), (cH cyO (x 4) (x 5) 6 fs), (cT cyI x (X_text out.2.2.1)), (cSo an out.2.2.2.1), (cG cyI an (S_green out.2.2.2.1)), (cV cyI an (S_score out.2.2.2.1)), (cSo tr out.2.2.2.2.1), (cG cyI tr (S_green out.2.2.2.2.1)), (cV cyI tr (S_score out.2.2.2.2.1)), (cS cyI k0 out.2.2.2.2.2.1), (cS cyI k1 out.2.2.2.2.2.2.1), (cS cyI b0 out.2.2.2.2.2.2.2.1), (cS cyI b1 out.2.2.2.2.2.2.2.2.1), (cS cyI b2 out.2.2.2.2.2.2.2.2.2.1), (cS cyI b3 out.2.2.2.2.2.2.2.2.2.2.1), (cS cyI b4 out.2.2.2.2.2.2.2.2.2.2.2.1), (cS cyI b5 out.2.2.2.2.2.2.2.2.2.2.2.2)] : List va_W).flatten) → va_S A s.heap H locs → lv_has ls 9 [(0, .ref b), (1, .ref (x 0)), (2, .ref (mm 0)), (3, .ref qo), (4, .int i)] → W p l e R s m args below meth c H locs (cells + 4) (slots + 24) Q (F0 m 2733 ls [])) : W p l e R s m args below meth c H locs cells slots Q (F0 m 1729 ls []) := by
  unfold f_law35 at hF
  refine lv_aload_n hx hb dL_law_1729 rfl (lv_at hl 1 rfl) ?_
  obtain ⟨o1, h2, hF⟩ := obd hF
  refine wcRVi (As := []) (rest := []) (b := (x 0)) ⟨hx, hb, hml, hown, hts⟩ (met_X5_pointsByPairs l dC dI cyI cyO cyL x tr an fl fs N xv nv  o1 h2) (cwV 0 hts (gV w_methodLink_L_264 w_instanceMethod_X5_pointsByPairs w_selects_X5_pointsByPairs w_initialized_X5 w_code_X5_pointsByPairs) rfl rfl rfl (by decide +kernel) ⟨Nat.le_trans (Nat.le_of_ble_eq_true rfl) hRf, Nat.le_trans (Nat.le_of_ble_eq_true rfl) hRl⟩) (va_recv hK.1 hP (ci := 5) (q0 := 9) rfl rfl) hP hK [9, 10, 11, 12, 13, 14, 15, 16, 17, 18, 19, 20, 21, 22, 23, 24, 25, 26, 27, 28, 29] rfl rfl hl.1 (Nat.le_of_ble_eq_true rfl) dL_law_1730 ⟨by omega, by omega⟩ hS (fun r H locs hw hP hS => ?_)
  have hw := hw.symm
  subst hw
  refine lv_aload_n hx hb dL_law_1733 rfl (lv_at hl 2 rfl) ?_
  obtain ⟨o3, h4, hF⟩ := obd hF
  refine wcPVi (As := []) (rest := [.int o1]) (wr := ([[cLo cyL qo 1 fo], (cXo x an tr xv), (cH cyO (x 1) (x 2) 2 fl), (cXk cyI x xv), (cH cyO (x 4) (x 5) 6 fs), (cT cyI x (X_text xv)), (cSo an nv), (cG cyI an (S_green nv)), (cV cyI an (S_score nv)), (cSo tr tv), (cG cyI tr (S_green tv)), (cV cyI tr (S_score tv)), (cS cyI k0 w0), (cS cyI k1 w1), (cS cyI b0 v0), (cS cyI b1 v1), (cS cyI b2 v2), (cS cyI b3 v3), (cS cyI b4 v4), (cS cyI b5 v5)] : List va_W).flatten) (b := (mm 0)) ⟨hx, hb, hml, hown, hts⟩ (met_X6_pointsByPairs l dC dI cyI cyO cyL mm _ N mv  o3 h4) (cwV 0 hts (gV w_methodLink_L_267 w_instanceMethod_X6_pointsByPairs w_selects_X6_pointsByPairs w_initialized_X6 w_code_X6_pointsByPairs) rfl rfl rfl (by decide +kernel) ⟨Nat.le_trans (Nat.le_of_ble_eq_true rfl) hRf, Nat.le_trans (Nat.le_of_ble_eq_true rfl) hRl⟩) (va_recv hK.1 hP (ci := 6) (q0 := 1) rfl rfl) hP hD hK (seg_perm (n := 21) (R := [[cLo cyL qo 1 fo], (cXo x an tr xv), (cH cyO (x 1) (x 2) 2 fl), (cXk cyI x xv), (cH cyO (x 4) (x 5) 6 fs), (cT cyI x (X_text xv)), (cSo an nv), (cG cyI an (S_green nv)), (cV cyI an (S_score nv)), (cSo tr tv), (cG cyI tr (S_green tv)), (cV cyI tr (S_score tv)), (cS cyI k0 w0), (cS cyI k1 w1), (cS cyI b0 v0), (cS cyI b1 v1), (cS cyI b2 v2), (cS cyI b3 v3), (cS cyI b4 v4), (cS cyI b5 v5)]) (C := [(cM cyI mm mv)]) [0, 2, 3, 4, 5, 6, 7, 8, 9, 10, 11, 12, 13, 14, 15, 16, 17, 18, 19, 20] [1] rfl rfl rfl (by decide) rfl) rfl hl.1 (Nat.le_of_ble_eq_true rfl) dL_law_1734 ⟨by omega, by omega⟩ hS hA (fun r u H locs hw hP hD hS => ?_)
  obtain rfl : r = o3.1 := congrArg Prod.fst hw
  obtain rfl : u = o3.2 := congrArg Prod.snd hw
  clear hw
  have hq := seg_permS (segs := [[cLo cyL qo 1 fo], (cM cyI mm o3.2), (cXo x an tr xv), (cH cyO (x 1) (x 2) 2 fl), (cXk cyI x xv), (cH cyO (x 4) (x 5) 6 fs), (cT cyI x (X_text xv)), (cSo an nv), (cG cyI an (S_green nv)), (cV cyI an (S_score nv)), (cSo tr tv), (cG cyI tr (S_green tv)), (cV cyI tr (S_score tv)), (cS cyI k0 w0), (cS cyI k1 w1), (cS cyI b0 v0), (cS cyI b1 v1), (cS cyI b2 v2), (cS cyI b3 v3), (cS cyI b4 v4), (cS cyI b5 v5)]) (R := [[cLo cyL qo 1 fo], (cXo x an tr xv), (cH cyO (x 1) (x 2) 2 fl), (cXk cyI x xv), (cH cyO (x 4) (x 5) 6 fs), (cT cyI x (X_text xv)), (cSo an nv), (cG cyI an (S_green nv)), (cV cyI an (S_score nv)), (cSo tr tv), (cG cyI tr (S_green tv)), (cV cyI tr (S_score tv)), (cS cyI k0 w0), (cS cyI k1 w1), (cS cyI b0 v0), (cS cyI b1 v1), (cS cyI b2 v2), (cS cyI b3 v3), (cS cyI b4 v4), (cS cyI b5 v5)]) (C := [(cM cyI mm o3.2)]) (n := 21) [0, 2, 3, 4, 5, 6, 7, 8, 9, 10, 11, 12, 13, 14, 15, 16, 17, 18, 19, 20] [1] rfl rfl rfl (by decide)
  have hP : va_P (dC, dI) vwCl (([[cLo cyL qo 1 fo], (cM cyI mm o3.2), (cXo x an tr xv), (cH cyO (x 1) (x 2) 2 fl), (cXk cyI x xv), (cH cyO (x 4) (x 5) 6 fs), (cT cyI x (X_text xv)), (cSo an nv), (cG cyI an (S_green nv)), (cV cyI an (S_score nv)), (cSo tr tv), (cG cyI tr (S_green tv)), (cV cyI tr (S_score tv)), (cS cyI k0 w0), (cS cyI k1 w1), (cS cyI b0 v0), (cS cyI b1 v1), (cS cyI b2 v2), (cS cyI b3 v3), (cS cyI b4 v4), (cS cyI b5 v5)] : List va_W).flatten) H := hP.perm hq
  have hD : va_D A (([[cLo cyL qo 1 fo], (cM cyI mm o3.2), (cXo x an tr xv), (cH cyO (x 1) (x 2) 2 fl), (cXk cyI x xv), (cH cyO (x 4) (x 5) 6 fs), (cT cyI x (X_text xv)), (cSo an nv), (cG cyI an (S_green nv)), (cV cyI an (S_score nv)), (cSo tr tv), (cG cyI tr (S_green tv)), (cV cyI tr (S_score tv)), (cS cyI k0 w0), (cS cyI k1 w1), (cS cyI b0 v0), (cS cyI b1 v1), (cS cyI b2 v2), (cS cyI b3 v3), (cS cyI b4 v4), (cS cyI b5 v5)] : List va_W).flatten) := hD.perm hq
  clear hq
  refine lv_icmp_eq (tgt := 2733) hx hb dL_law_1737 (by decide) (fun c5 => ?_) (fun c5 => ?_)
  · have hF := itp c5 hF
    obtain rfl := Option.some.inj hF
    refine W.widen (k := cells + 4) (n := slots + 24) (by omega) (by omega) ?_
    exact kk _ _ _ hP hD hS (lv_sub hl [0, 1, 2, 3, 4] rfl)
  · have hF := itn c5 hF
    refine lv_iconst (v := 0) hx hb dL_law_1740 (by decide) ?_
    cases hF
theorem dL_law_1742 : decode cL_law 1742 = .ok (.aload_n 1, 1) := by decide +kernel
theorem dL_law_1743 : decode cL_law 1743 = .ok (.aload_n 0, 1) := by decide +kernel
theorem dL_law_1744 : decode cL_law 1744 = .ok (.iload 4, 2) := by decide +kernel
theorem dL_law_1746 : decode cL_law 1746 = .ok (.iconst 1, 1) := by decide +kernel
theorem dL_law_1747 : decode cL_law 1747 = .ok (.iadd, 1) := by decide +kernel
theorem dL_law_1748 : decode cL_law 1748 = .ok (.iaload, 1) := by decide +kernel
theorem dL_law_1749 : decode cL_law 1749 = .ok (.aload_n 3, 1) := by decide +kernel
theorem dL_law_1750 : decode cL_law 1750 = .ok (.invokestatic 268, 3) := by decide +kernel
theorem dL_law_1753 : decode cL_law 1753 = .ok (.istore 5, 2) := by decide +kernel
theorem dL_law_1755 : decode cL_law 1755 = .ok (.aload_n 2, 1) := by decide +kernel
theorem dL_law_1756 : decode cL_law 1756 = .ok (.aload_n 0, 1) := by decide +kernel
theorem dL_law_1757 : decode cL_law 1757 = .ok (.iload 4, 2) := by decide +kernel
theorem dL_law_1759 : decode cL_law 1759 = .ok (.iconst 1, 1) := by decide +kernel
theorem dL_law_1760 : decode cL_law 1760 = .ok (.iadd, 1) := by decide +kernel
theorem dL_law_1761 : decode cL_law 1761 = .ok (.iaload, 1) := by decide +kernel
theorem dL_law_1762 : decode cL_law 1762 = .ok (.invokevirtual 270, 3) := by decide +kernel
theorem dL_law_1765 : decode cL_law 1765 = .ok (.istore 6, 2) := by decide +kernel
theorem dL_law_1767 : decode cL_law 1767 = .ok (.aload_n 2, 1) := by decide +kernel
theorem dL_law_1768 : decode cL_law 1768 = .ok (.invokevirtual 143, 3) := by decide +kernel
theorem dL_law_1771 : decode cL_law 1771 = .ok (.iload 5, 2) := by decide +kernel
theorem dL_law_1773 : decode cL_law 1773 = .ok (.if_icmp .eq 5, 3) := by decide +kernel
theorem dL_law_1776 : decode cL_law 1776 = .ok (.iconst 0, 1) := by decide +kernel
theorem dL_law_1778 : decode cL_law 1778 = .ok (.iload 5, 2) := by decide +kernel
theorem dL_law_1780 : decode cL_law 1780 = .ok (.ifCond .ne 15, 3) := by decide +kernel
theorem dL_law_1783 : decode cL_law 1783 = .ok (.aload_n 3, 1) := by decide +kernel
theorem dL_law_1784 : decode cL_law 1784 = .ok (.iconst 0, 1) := by decide +kernel
theorem dL_law_1785 : decode cL_law 1785 = .ok (.laload, 1) := by decide +kernel
theorem dL_law_1786 : decode cL_law 1786 = .ok (.iload 6, 2) := by decide +kernel
theorem dL_law_1788 : decode cL_law 1788 = .ok (.i2l, 1) := by decide +kernel
theorem dL_law_1789 : decode cL_law 1789 = .ok (.lcmp, 1) := by decide +kernel
theorem dL_law_1790 : decode cL_law 1790 = .ok (.ifCond .eq 5, 3) := by decide +kernel
theorem dL_law_1793 : decode cL_law 1793 = .ok (.iconst 0, 1) := by decide +kernel
theorem dL_law_1795 : decode cL_law 1795 = .ok (.goto 938, 3) := by decide +kernel
def f_law36 (N L : Nat) (xs : Nat → Int32) (i : Int32) (fo : (Nat → Int64)) (mv : MV) (xv : XV) (nv : SV) (tv : SV) (w0 : SV) (w1 : SV) (v0 : SV) (v1 : SV) (v2 : SV) (v3 : SV) (v4 : SV) (v5 : SV) : Option ((Nat → Int64) × MV × XV × SV × SV × SV × SV × SV × SV × SV × SV × SV × SV) :=
  gd (ixok (i + (1 : Int32)) L) ((f_L_nearest N fo xv nv (xs (i + (1 : Int32)).toNatClampNeg)).bind (fun o2 => gd (ixok (i + (1 : Int32)) L) ((f_X6_nearest N mv (xs (i + (1 : Int32)).toNatClampNeg)).bind (fun o5 => (f_X6_thrown N o5.2).bind (fun o7 => (if o7 = o2.1 then jn (fun (s1795 : Unit) => some (o2.2.1, o5.2, o2.2.2.1, o2.2.2.2, tv, w0, w1, v0, v1, v2, v3, v4, v5)) (fun (j1795 : (Unit) → Option ((Nat → Int64) × MV × XV × SV × SV × SV × SV × SV × SV × SV × SV × SV × SV)) => (if o2.1 = 0 then (if (lg_cmp (o2.2.1 (0 : Int32).toNatClampNeg) ((o5.1).toInt64)) = 0 then j1795 () else none) else j1795 ())) else none))))))
set_option maxHeartbeats 4000000 in
set_option maxRecDepth 100000 in
theorem law36 (hst : l.stackTraces = false) (hx : p.tables.exec = Jvm.exec) (hb : c.code = code) (hml : c.maxLocals = 9) (hown : s.vm.findClass RL = some m.cls) (hts : ∀ w ∈ wT, w.before args s = true) (hK : wK dC dI cyI cyO cyL s) (hZ : wZ z0 s) (hAz : ∀ q, A q → z0 ≤ q) (hz0 : z0 ≤ s.heap.size) (hA : ∀ q : Nat, s.heap.size ≤ q → A q) (hX : va_X b L xs s s.heap) (hbl : b < s.heap.size) (hbA : ¬ A b) (hRf : 11 ≤ R.frames) (hRl : 398 ≤ R.locals) (qo : Nat) (mm x an tr k0 k1 b0 b1 b2 b3 b4 b5 : Nat → Nat) (fl fs : Nat → Option Nat) (N : Nat) (fo : (Nat → Int64)) (mv : MV) (xv : XV) (nv : SV) (tv : SV) (w0 : SV) (w1 : SV) (v0 : SV) (v1 : SV) (v2 : SV) (v3 : SV) (v4 : SV) (v5 : SV) (i : Int32) (hl0 : fl 0 = some (k0 0)) (hl1 : fl 1 = some (k1 0)) (hs0 : fs 0 = some (b0 0)) (hs1 : fs 1 = some (b1 0)) (hs2 : fs 2 = some (b2 0)) (hs3 : fs 3 = some (b3 0)) (hs4 : fs 4 = some (b4 0)) (hs5 : fs 5 = some (b5 0)) (out : (Nat → Int64) × MV × XV × SV × SV × SV × SV × SV × SV × SV × SV × SV × SV) (hF : f_law36 N L xs i fo mv xv nv tv w0 w1 v0 v1 v2 v3 v4 v5 = some out) (hP : va_P (dC, dI) vwCl (([[cLo cyL qo 1 fo], (cM cyI mm mv), (cXo x an tr xv), (cH cyO (x 1) (x 2) 2 fl), (cXk cyI x xv), (cH cyO (x 4) (x 5) 6 fs), (cT cyI x (X_text xv)), (cSo an nv), (cG cyI an (S_green nv)), (cV cyI an (S_score nv)), (cSo tr tv), (cG cyI tr (S_green tv)), (cV cyI tr (S_score tv)), (cS cyI k0 w0), (cS cyI k1 w1), (cS cyI b0 v0), (cS cyI b1 v1), (cS cyI b2 v2), (cS cyI b3 v3), (cS cyI b4 v4), (cS cyI b5 v5)] : List va_W).flatten) H) (hD : va_D A (([[cLo cyL qo 1 fo], (cM cyI mm mv), (cXo x an tr xv), (cH cyO (x 1) (x 2) 2 fl), (cXk cyI x xv), (cH cyO (x 4) (x 5) 6 fs), (cT cyI x (X_text xv)), (cSo an nv), (cG cyI an (S_green nv)), (cV cyI an (S_score nv)), (cSo tr tv), (cG cyI tr (S_green tv)), (cV cyI tr (S_score tv)), (cS cyI k0 w0), (cS cyI k1 w1), (cS cyI b0 v0), (cS cyI b1 v1), (cS cyI b2 v2), (cS cyI b3 v3), (cS cyI b4 v4), (cS cyI b5 v5)] : List va_W).flatten)) (hS : va_S A s.heap H locs) (hl : lv_has ls 9 [(0, .ref b), (1, .ref (x 0)), (2, .ref (mm 0)), (3, .ref qo), (4, .int i)]) (hRc : cells + 4 ≤ R.cells) (hRs : slots + 24 ≤ R.slots) (kk : ∀ (H : Heap) (locs : List Loc) (ls : Array Slot), va_P (dC, dI) vwCl (([[cLo cyL qo 1 out.1], (cM cyI mm out.2.1), (cXo x an tr out.2.2.1), (cH cyO (x 1) (x 2) 2 fl), (cXk cyI x out.2.2.1), (cH cyO (x 4) (x 5) 6 fs), (cT cyI x (X_text out.2.2.1)), (cSo an out.2.2.2.1), (cG cyI an (S_green out.2.2.2.1)), (cV cyI an (S_score out.2.2.2.1)), (cSo tr out.2.2.2.2.1), (cG cyI tr (S_green out.2.2.2.2.1)), (cV cyI tr (S_score out.2.2.2.2.1)), (cS cyI k0 out.2.2.2.2.2.1), (cS cyI k1 out.2.2.2.2.2.2.1), (cS cyI b0 out.2.2.2.2.2.2.2.1), (cS cyI b1 out.2.2.2.2.2.2.2.2.1), (cS cyI b2 out.2.2.2.2.2.2.2.2.2.1), (cS cyI b3 out.2.2.2.2.2.2.2.2.2.2.1), (cS cyI b4 out.2.2.2.2.2.2.2.2.2.2.2.1), (cS cyI b5 out.2.2.2.2.2.2.2.2.2.2.2.2)] : List va_W).flatten) H → va_D A (([[cLo cyL qo 1 out.1], (cM cyI mm out.2.1), (cXo x an tr out.2.2.1), (cH cyO (x 1) (x 2) 2 fl), (cXk cyI x out.2.2.1), (cH cyO (x 4) (x 5) 6 fs), (cT cyI x (X_text out.2.2.1)), (cSo an out.2.2.2.1), (cG cyI an (S_green out.2.2.2.1)), (cV cyI an (S_score out.2.2.2.1)), (cSo tr out.2.2.2.2.1), (cG cyI tr (S_green out.2.2.2.2.1)), (cV cyI tr (S_score out.2.2.2.2.1)), (cS cyI k0 out.2.2.2.2.2.1), (cS cyI k1 out.2.2.2.2.2.2.1), (cS cyI b0 out.2.2.2.2.2.2.2.1), (cS cyI b1 out.2.2.2.2.2.2.2.2.1), (cS cyI b2 out.2.2.2.2.2.2.2.2.2.1), (cS cyI b3 out.2.2.2.2.2.2.2.2.2.2.1), (cS cyI b4 out.2.2.2.2.2.2.2.2.2.2.2.1), (cS cyI b5 out.2.2.2.2.2.2.2.2.2.2.2.2)] : List va_W).flatten) → va_S A s.heap H locs → lv_has ls 9 [(0, .ref b), (1, .ref (x 0)), (2, .ref (mm 0)), (3, .ref qo), (4, .int i)] → W p l e R s m args below meth c H locs (cells + 4) (slots + 24) Q (F0 m 2733 ls [])) : W p l e R s m args below meth c H locs cells slots Q (F0 m 1742 ls []) := by
  unfold f_law36 at hF
  refine lv_aload_n hx hb dL_law_1742 rfl (lv_at hl 1 rfl) ?_
  refine lv_aload_n hx hb dL_law_1743 rfl (lv_at hl 0 rfl) ?_
  refine lv_iload hx hb dL_law_1744 (lv_at hl 4 rfl) ?_
  refine lv_iconst (v := 1) hx hb dL_law_1746 (by decide) ?_
  refine lv_iadd hx hb dL_law_1747 ?_
  obtain ⟨hg1, hF⟩ := gd_use hF
  refine va_sld hx hb hX hbl hbA hS hg1 dL_law_1748 ?_
  refine lv_aload_n hx hb dL_law_1749 rfl (lv_at hl 3 rfl) ?_
  obtain ⟨o2, h3, hF⟩ := obd hF
  refine wcLi (As := [.ref (x 0), .int (xs (i + (1 : Int32)).toNatClampNeg), .ref qo]) (rest := []) (wr := ([(cM cyI mm mv), (cSo tr tv), (cG cyI tr (S_green tv)), (cV cyI tr (S_score tv)), (cS cyI k0 w0), (cS cyI k1 w1), (cS cyI b0 v0), (cS cyI b1 v1), (cS cyI b2 v2), (cS cyI b3 v3), (cS cyI b4 v4), (cS cyI b5 v5)] : List va_W).flatten) ⟨hx, hb, hml, hown, hts⟩ (met_L_nearest l z0 hst dC dI cyI cyO cyL qo x tr an fl fs _ N fo xv nv (xs (i + (1 : Int32)).toNatClampNeg) o2 h3) (vx_cwSW 3 hts (gS w_methodLink_L_268 w_static_L_nearest w_initialized_L w_codeW_L_nearest) rfl rfl rfl (by decide +kernel) ⟨Nat.le_trans (Nat.le_of_ble_eq_true rfl) hRf, Nat.le_trans (Nat.le_of_ble_eq_true rfl) hRl⟩) hP hD hK hZ hAz hz0 (seg_perm (n := 21) (R := [(cM cyI mm mv), (cSo tr tv), (cG cyI tr (S_green tv)), (cV cyI tr (S_score tv)), (cS cyI k0 w0), (cS cyI k1 w1), (cS cyI b0 v0), (cS cyI b1 v1), (cS cyI b2 v2), (cS cyI b3 v3), (cS cyI b4 v4), (cS cyI b5 v5)]) (C := [[cLo cyL qo 1 fo], (cXo x an tr xv), (cH cyO (x 1) (x 2) 2 fl), (cXk cyI x xv), (cH cyO (x 4) (x 5) 6 fs), (cT cyI x (X_text xv)), (cSo an nv), (cG cyI an (S_green nv)), (cV cyI an (S_score nv))]) [1, 10, 11, 12, 13, 14, 15, 16, 17, 18, 19, 20] [0, 2, 3, 4, 5, 6, 7, 8, 9] rfl rfl rfl (by decide) rfl) rfl hl.1 (Nat.le_of_ble_eq_true rfl) dL_law_1750 ⟨by omega, by omega⟩ hS hA (fun r u H locs hw hP hD hS => ?_)
  obtain rfl : r = o2.1 := congrArg Prod.fst hw
  obtain rfl : u = o2.2 := congrArg Prod.snd hw
  clear hw
  have hq := seg_permS (segs := [[cLo cyL qo 1 o2.2.1], (cM cyI mm mv), (cXo x an tr o2.2.2.1), (cH cyO (x 1) (x 2) 2 fl), (cXk cyI x o2.2.2.1), (cH cyO (x 4) (x 5) 6 fs), (cT cyI x (X_text o2.2.2.1)), (cSo an o2.2.2.2), (cG cyI an (S_green o2.2.2.2)), (cV cyI an (S_score o2.2.2.2)), (cSo tr tv), (cG cyI tr (S_green tv)), (cV cyI tr (S_score tv)), (cS cyI k0 w0), (cS cyI k1 w1), (cS cyI b0 v0), (cS cyI b1 v1), (cS cyI b2 v2), (cS cyI b3 v3), (cS cyI b4 v4), (cS cyI b5 v5)]) (R := [(cM cyI mm mv), (cSo tr tv), (cG cyI tr (S_green tv)), (cV cyI tr (S_score tv)), (cS cyI k0 w0), (cS cyI k1 w1), (cS cyI b0 v0), (cS cyI b1 v1), (cS cyI b2 v2), (cS cyI b3 v3), (cS cyI b4 v4), (cS cyI b5 v5)]) (C := [[cLo cyL qo 1 o2.2.1], (cXo x an tr o2.2.2.1), (cH cyO (x 1) (x 2) 2 fl), (cXk cyI x o2.2.2.1), (cH cyO (x 4) (x 5) 6 fs), (cT cyI x (X_text o2.2.2.1)), (cSo an o2.2.2.2), (cG cyI an (S_green o2.2.2.2)), (cV cyI an (S_score o2.2.2.2))]) (n := 21) [1, 10, 11, 12, 13, 14, 15, 16, 17, 18, 19, 20] [0, 2, 3, 4, 5, 6, 7, 8, 9] rfl rfl rfl (by decide)
  have hP : va_P (dC, dI) vwCl (([[cLo cyL qo 1 o2.2.1], (cM cyI mm mv), (cXo x an tr o2.2.2.1), (cH cyO (x 1) (x 2) 2 fl), (cXk cyI x o2.2.2.1), (cH cyO (x 4) (x 5) 6 fs), (cT cyI x (X_text o2.2.2.1)), (cSo an o2.2.2.2), (cG cyI an (S_green o2.2.2.2)), (cV cyI an (S_score o2.2.2.2)), (cSo tr tv), (cG cyI tr (S_green tv)), (cV cyI tr (S_score tv)), (cS cyI k0 w0), (cS cyI k1 w1), (cS cyI b0 v0), (cS cyI b1 v1), (cS cyI b2 v2), (cS cyI b3 v3), (cS cyI b4 v4), (cS cyI b5 v5)] : List va_W).flatten) H := hP.perm hq
  have hD : va_D A (([[cLo cyL qo 1 o2.2.1], (cM cyI mm mv), (cXo x an tr o2.2.2.1), (cH cyO (x 1) (x 2) 2 fl), (cXk cyI x o2.2.2.1), (cH cyO (x 4) (x 5) 6 fs), (cT cyI x (X_text o2.2.2.1)), (cSo an o2.2.2.2), (cG cyI an (S_green o2.2.2.2)), (cV cyI an (S_score o2.2.2.2)), (cSo tr tv), (cG cyI tr (S_green tv)), (cV cyI tr (S_score tv)), (cS cyI k0 w0), (cS cyI k1 w1), (cS cyI b0 v0), (cS cyI b1 v1), (cS cyI b2 v2), (cS cyI b3 v3), (cS cyI b4 v4), (cS cyI b5 v5)] : List va_W).flatten) := hD.perm hq
  clear hq
  refine lv_istore (lv' := [(5, .int o2.1), (0, .ref b), (1, .ref (x 0)), (2, .ref (mm 0)), (3, .ref qo), (4, .int i)]) hx hb dL_law_1753 hl (by decide) rfl (fun ls hl => ?_)
  refine lv_aload_n hx hb dL_law_1755 rfl (lv_at hl 3 rfl) ?_
  refine lv_aload_n hx hb dL_law_1756 rfl (lv_at hl 1 rfl) ?_
  refine lv_iload hx hb dL_law_1757 (lv_at hl 5 rfl) ?_
  refine lv_iconst (v := 1) hx hb dL_law_1759 (by decide) ?_
  refine lv_iadd hx hb dL_law_1760 ?_
  obtain ⟨hg4, hF⟩ := gd_use hF
  refine va_sld hx hb hX hbl hbA hS hg4 dL_law_1761 ?_
  obtain ⟨o5, h6, hF⟩ := obd hF
  refine wcPVi (As := [.int (xs (i + (1 : Int32)).toNatClampNeg)]) (rest := []) (wr := ([[cLo cyL qo 1 o2.2.1], (cXo x an tr o2.2.2.1), (cH cyO (x 1) (x 2) 2 fl), (cXk cyI x o2.2.2.1), (cH cyO (x 4) (x 5) 6 fs), (cT cyI x (X_text o2.2.2.1)), (cSo an o2.2.2.2), (cG cyI an (S_green o2.2.2.2)), (cV cyI an (S_score o2.2.2.2)), (cSo tr tv), (cG cyI tr (S_green tv)), (cV cyI tr (S_score tv)), (cS cyI k0 w0), (cS cyI k1 w1), (cS cyI b0 v0), (cS cyI b1 v1), (cS cyI b2 v2), (cS cyI b3 v3), (cS cyI b4 v4), (cS cyI b5 v5)] : List va_W).flatten) (b := (mm 0)) ⟨hx, hb, hml, hown, hts⟩ (met_X6_nearest l dC dI cyI cyO cyL mm _ N mv (xs (i + (1 : Int32)).toNatClampNeg) o5 h6) (cwV 1 hts (gV w_methodLink_L_270 w_instanceMethod_X6_nearest w_selects_X6_nearest w_initialized_X6 w_code_X6_nearest) rfl rfl rfl (by decide +kernel) ⟨Nat.le_trans (Nat.le_of_ble_eq_true rfl) hRf, Nat.le_trans (Nat.le_of_ble_eq_true rfl) hRl⟩) (va_recv hK.1 hP (ci := 6) (q0 := 1) rfl rfl) hP hD hK (seg_perm (n := 21) (R := [[cLo cyL qo 1 o2.2.1], (cXo x an tr o2.2.2.1), (cH cyO (x 1) (x 2) 2 fl), (cXk cyI x o2.2.2.1), (cH cyO (x 4) (x 5) 6 fs), (cT cyI x (X_text o2.2.2.1)), (cSo an o2.2.2.2), (cG cyI an (S_green o2.2.2.2)), (cV cyI an (S_score o2.2.2.2)), (cSo tr tv), (cG cyI tr (S_green tv)), (cV cyI tr (S_score tv)), (cS cyI k0 w0), (cS cyI k1 w1), (cS cyI b0 v0), (cS cyI b1 v1), (cS cyI b2 v2), (cS cyI b3 v3), (cS cyI b4 v4), (cS cyI b5 v5)]) (C := [(cM cyI mm mv)]) [0, 2, 3, 4, 5, 6, 7, 8, 9, 10, 11, 12, 13, 14, 15, 16, 17, 18, 19, 20] [1] rfl rfl rfl (by decide) rfl) rfl hl.1 (Nat.le_of_ble_eq_true rfl) dL_law_1762 ⟨by omega, by omega⟩ hS hA (fun r u H locs hw hP hD hS => ?_)
  obtain rfl : r = o5.1 := congrArg Prod.fst hw
  obtain rfl : u = o5.2 := congrArg Prod.snd hw
  clear hw
  have hq := seg_permS (segs := [[cLo cyL qo 1 o2.2.1], (cM cyI mm o5.2), (cXo x an tr o2.2.2.1), (cH cyO (x 1) (x 2) 2 fl), (cXk cyI x o2.2.2.1), (cH cyO (x 4) (x 5) 6 fs), (cT cyI x (X_text o2.2.2.1)), (cSo an o2.2.2.2), (cG cyI an (S_green o2.2.2.2)), (cV cyI an (S_score o2.2.2.2)), (cSo tr tv), (cG cyI tr (S_green tv)), (cV cyI tr (S_score tv)), (cS cyI k0 w0), (cS cyI k1 w1), (cS cyI b0 v0), (cS cyI b1 v1), (cS cyI b2 v2), (cS cyI b3 v3), (cS cyI b4 v4), (cS cyI b5 v5)]) (R := [[cLo cyL qo 1 o2.2.1], (cXo x an tr o2.2.2.1), (cH cyO (x 1) (x 2) 2 fl), (cXk cyI x o2.2.2.1), (cH cyO (x 4) (x 5) 6 fs), (cT cyI x (X_text o2.2.2.1)), (cSo an o2.2.2.2), (cG cyI an (S_green o2.2.2.2)), (cV cyI an (S_score o2.2.2.2)), (cSo tr tv), (cG cyI tr (S_green tv)), (cV cyI tr (S_score tv)), (cS cyI k0 w0), (cS cyI k1 w1), (cS cyI b0 v0), (cS cyI b1 v1), (cS cyI b2 v2), (cS cyI b3 v3), (cS cyI b4 v4), (cS cyI b5 v5)]) (C := [(cM cyI mm o5.2)]) (n := 21) [0, 2, 3, 4, 5, 6, 7, 8, 9, 10, 11, 12, 13, 14, 15, 16, 17, 18, 19, 20] [1] rfl rfl rfl (by decide)
  have hP : va_P (dC, dI) vwCl (([[cLo cyL qo 1 o2.2.1], (cM cyI mm o5.2), (cXo x an tr o2.2.2.1), (cH cyO (x 1) (x 2) 2 fl), (cXk cyI x o2.2.2.1), (cH cyO (x 4) (x 5) 6 fs), (cT cyI x (X_text o2.2.2.1)), (cSo an o2.2.2.2), (cG cyI an (S_green o2.2.2.2)), (cV cyI an (S_score o2.2.2.2)), (cSo tr tv), (cG cyI tr (S_green tv)), (cV cyI tr (S_score tv)), (cS cyI k0 w0), (cS cyI k1 w1), (cS cyI b0 v0), (cS cyI b1 v1), (cS cyI b2 v2), (cS cyI b3 v3), (cS cyI b4 v4), (cS cyI b5 v5)] : List va_W).flatten) H := hP.perm hq
  have hD : va_D A (([[cLo cyL qo 1 o2.2.1], (cM cyI mm o5.2), (cXo x an tr o2.2.2.1), (cH cyO (x 1) (x 2) 2 fl), (cXk cyI x o2.2.2.1), (cH cyO (x 4) (x 5) 6 fs), (cT cyI x (X_text o2.2.2.1)), (cSo an o2.2.2.2), (cG cyI an (S_green o2.2.2.2)), (cV cyI an (S_score o2.2.2.2)), (cSo tr tv), (cG cyI tr (S_green tv)), (cV cyI tr (S_score tv)), (cS cyI k0 w0), (cS cyI k1 w1), (cS cyI b0 v0), (cS cyI b1 v1), (cS cyI b2 v2), (cS cyI b3 v3), (cS cyI b4 v4), (cS cyI b5 v5)] : List va_W).flatten) := hD.perm hq
  clear hq
  refine lv_istore (lv' := [(6, .int o5.1), (5, .int o2.1), (0, .ref b), (1, .ref (x 0)), (2, .ref (mm 0)), (3, .ref qo), (4, .int i)]) hx hb dL_law_1765 hl (by decide) rfl (fun ls hl => ?_)
  refine lv_aload_n hx hb dL_law_1767 rfl (lv_at hl 4 rfl) ?_
  obtain ⟨o7, h8, hF⟩ := obd hF
  refine wcRVi (As := []) (rest := []) (b := (mm 0)) ⟨hx, hb, hml, hown, hts⟩ (met_X6_thrown l dC dI cyI cyO cyL mm N o5.2  o7 h8) (cwV 0 hts (gV w_methodLink_L_143 w_instanceMethod_X6_thrown w_selects_X6_thrown w_initialized_X6 w_code_X6_thrown) rfl rfl rfl (by decide +kernel) ⟨Nat.le_trans (Nat.le_of_ble_eq_true rfl) hRf, Nat.le_trans (Nat.le_of_ble_eq_true rfl) hRl⟩) (va_recv hK.1 hP (ci := 6) (q0 := 1) rfl rfl) hP hK [1, 2, 3, 4, 5, 6, 7, 8] rfl rfl hl.1 (Nat.le_of_ble_eq_true rfl) dL_law_1768 ⟨by omega, by omega⟩ hS (fun r H locs hw hP hS => ?_)
  have hw := hw.symm
  subst hw
  refine lv_iload hx hb dL_law_1771 (lv_at hl 1 rfl) ?_
  refine lv_icmp_eq (tgt := 1778) hx hb dL_law_1773 (by decide) (fun c9 => ?_) (fun c9 => ?_)
  · have hF := itp c9 hF
    refine lv_iload hx hb dL_law_1778 (lv_at hl 1 rfl) ?_
    obtain ⟨j1795, hj1795, hF⟩ := jn_use hF
    have hJ1795 : ∀ (s1795 : Unit) (H : Heap) (locs : List Loc) (ls : Array Slot), va_P (dC, dI) vwCl (([[cLo cyL qo 1 o2.2.1], (cM cyI mm o5.2), (cXo x an tr o2.2.2.1), (cH cyO (x 1) (x 2) 2 fl), (cXk cyI x o2.2.2.1), (cH cyO (x 4) (x 5) 6 fs), (cT cyI x (X_text o2.2.2.1)), (cSo an o2.2.2.2), (cG cyI an (S_green o2.2.2.2)), (cV cyI an (S_score o2.2.2.2)), (cSo tr tv), (cG cyI tr (S_green tv)), (cV cyI tr (S_score tv)), (cS cyI k0 w0), (cS cyI k1 w1), (cS cyI b0 v0), (cS cyI b1 v1), (cS cyI b2 v2), (cS cyI b3 v3), (cS cyI b4 v4), (cS cyI b5 v5)] : List va_W).flatten) H → va_D A (([[cLo cyL qo 1 o2.2.1], (cM cyI mm o5.2), (cXo x an tr o2.2.2.1), (cH cyO (x 1) (x 2) 2 fl), (cXk cyI x o2.2.2.1), (cH cyO (x 4) (x 5) 6 fs), (cT cyI x (X_text o2.2.2.1)), (cSo an o2.2.2.2), (cG cyI an (S_green o2.2.2.2)), (cV cyI an (S_score o2.2.2.2)), (cSo tr tv), (cG cyI tr (S_green tv)), (cV cyI tr (S_score tv)), (cS cyI k0 w0), (cS cyI k1 w1), (cS cyI b0 v0), (cS cyI b1 v1), (cS cyI b2 v2), (cS cyI b3 v3), (cS cyI b4 v4), (cS cyI b5 v5)] : List va_W).flatten) → va_S A s.heap H locs → lv_has ls 9 [(0, .ref b), (1, .ref (x 0)), (2, .ref (mm 0)), (3, .ref qo), (4, .int i)] → j1795 s1795 = some out → W p l e R s m args below meth c H locs (cells + 1) (slots + 6) Q (F0 m 1795 ls []) := by
      intro s1795 H locs ls hP hD hS hl hF
      have hF := (congrFun hj1795 s1795).symm.trans hF
      refine lv_goto (tgt := 2733) hx hb dL_law_1795 (by decide) ?_
      obtain rfl := Option.some.inj hF
      refine W.widen (k := cells + 4) (n := slots + 24) (by omega) (by omega) ?_
      exact kk _ _ _ hP hD hS (lv_sub hl [0, 1, 2, 3, 4] rfl)
    refine lv_if_ne (tgt := 1795) hx hb dL_law_1780 (by decide) (fun c10 => ?_) (fun c10 => ?_)
    · have hF := itn c10 hF
      exact hJ1795 () _ _ _ hP hD hS (lv_sub hl [2, 3, 4, 5, 6] rfl) hF
    · have hF := itp c10 hF
      refine lv_aload_n hx hb dL_law_1783 rfl (lv_at hl 5 rfl) ?_
      refine lv_iconst (v := 0) hx hb dL_law_1784 (by decide) ?_
      refine va_lald hx hb hK.1 hP 0 2 rfl rfl (i := (0 : Int32)) (show ixok (0 : Int32) 1 by decide) dL_law_1785 ?_
      refine lv_iload hx hb dL_law_1786 (lv_at hl 0 rfl) ?_
      refine lv_i2l (v := (o5.1).toInt64) hx hb dL_law_1788 rfl ?_
      refine W.lcmp hx hb dL_law_1789 ?_
      refine lv_if_eq (tgt := 1795) hx hb dL_law_1790 (by decide) (fun c11 => ?_) (fun c11 => ?_)
      · have hF := itp c11 hF
        exact hJ1795 () _ _ _ hP hD hS (lv_sub hl [2, 3, 4, 5, 6] rfl) hF
      · have hF := itn c11 hF
        refine lv_iconst (v := 0) hx hb dL_law_1793 (by decide) ?_
        cases hF
  · have hF := itn c9 hF
    refine lv_iconst (v := 0) hx hb dL_law_1776 (by decide) ?_
    cases hF
theorem dL_law_1798 : decode cL_law 1798 = .ok (.aload_n 1, 1) := by decide +kernel
theorem dL_law_1799 : decode cL_law 1799 = .ok (.aload_n 0, 1) := by decide +kernel
theorem dL_law_1800 : decode cL_law 1800 = .ok (.iload 4, 2) := by decide +kernel
theorem dL_law_1802 : decode cL_law 1802 = .ok (.iconst 1, 1) := by decide +kernel
theorem dL_law_1803 : decode cL_law 1803 = .ok (.iadd, 1) := by decide +kernel
theorem dL_law_1804 : decode cL_law 1804 = .ok (.iaload, 1) := by decide +kernel
theorem dL_law_1805 : decode cL_law 1805 = .ok (.aload_n 3, 1) := by decide +kernel
theorem dL_law_1806 : decode cL_law 1806 = .ok (.invokestatic 271, 3) := by decide +kernel
theorem dL_law_1809 : decode cL_law 1809 = .ok (.istore 5, 2) := by decide +kernel
theorem dL_law_1811 : decode cL_law 1811 = .ok (.aload_n 2, 1) := by decide +kernel
theorem dL_law_1812 : decode cL_law 1812 = .ok (.aload_n 0, 1) := by decide +kernel
theorem dL_law_1813 : decode cL_law 1813 = .ok (.iload 4, 2) := by decide +kernel
theorem dL_law_1815 : decode cL_law 1815 = .ok (.iconst 1, 1) := by decide +kernel
theorem dL_law_1816 : decode cL_law 1816 = .ok (.iadd, 1) := by decide +kernel
theorem dL_law_1817 : decode cL_law 1817 = .ok (.iaload, 1) := by decide +kernel
theorem dL_law_1818 : decode cL_law 1818 = .ok (.invokevirtual 273, 3) := by decide +kernel
theorem dL_law_1821 : decode cL_law 1821 = .ok (.istore 6, 2) := by decide +kernel
theorem dL_law_1823 : decode cL_law 1823 = .ok (.aload_n 2, 1) := by decide +kernel
theorem dL_law_1824 : decode cL_law 1824 = .ok (.invokevirtual 143, 3) := by decide +kernel
theorem dL_law_1827 : decode cL_law 1827 = .ok (.iload 5, 2) := by decide +kernel
theorem dL_law_1829 : decode cL_law 1829 = .ok (.if_icmp .eq 5, 3) := by decide +kernel
theorem dL_law_1832 : decode cL_law 1832 = .ok (.iconst 0, 1) := by decide +kernel
theorem dL_law_1834 : decode cL_law 1834 = .ok (.iload 5, 2) := by decide +kernel
theorem dL_law_1836 : decode cL_law 1836 = .ok (.ifCond .ne 15, 3) := by decide +kernel
theorem dL_law_1839 : decode cL_law 1839 = .ok (.aload_n 3, 1) := by decide +kernel
theorem dL_law_1840 : decode cL_law 1840 = .ok (.iconst 0, 1) := by decide +kernel
theorem dL_law_1841 : decode cL_law 1841 = .ok (.laload, 1) := by decide +kernel
theorem dL_law_1842 : decode cL_law 1842 = .ok (.iload 6, 2) := by decide +kernel
theorem dL_law_1844 : decode cL_law 1844 = .ok (.i2l, 1) := by decide +kernel
theorem dL_law_1845 : decode cL_law 1845 = .ok (.lcmp, 1) := by decide +kernel
theorem dL_law_1846 : decode cL_law 1846 = .ok (.ifCond .eq 5, 3) := by decide +kernel
theorem dL_law_1849 : decode cL_law 1849 = .ok (.iconst 0, 1) := by decide +kernel
theorem dL_law_1851 : decode cL_law 1851 = .ok (.goto 882, 3) := by decide +kernel
def f_law37 (N L : Nat) (xs : Nat → Int32) (i : Int32) (fo : (Nat → Int64)) (mv : MV) (xv : XV) (nv : SV) (tv : SV) (w0 : SV) (w1 : SV) (v0 : SV) (v1 : SV) (v2 : SV) (v3 : SV) (v4 : SV) (v5 : SV) : Option ((Nat → Int64) × MV × XV × SV × SV × SV × SV × SV × SV × SV × SV × SV × SV) :=
  gd (ixok (i + (1 : Int32)) L) ((f_L_aliveOf N fo xv nv (xs (i + (1 : Int32)).toNatClampNeg)).bind (fun o2 => gd (ixok (i + (1 : Int32)) L) ((f_X6_aliveOf N mv (xs (i + (1 : Int32)).toNatClampNeg)).bind (fun o5 => (f_X6_thrown N o5.2).bind (fun o7 => (if o7 = o2.1 then jn (fun (s1851 : Unit) => some (o2.2.1, o5.2, o2.2.2.1, o2.2.2.2, tv, w0, w1, v0, v1, v2, v3, v4, v5)) (fun (j1851 : (Unit) → Option ((Nat → Int64) × MV × XV × SV × SV × SV × SV × SV × SV × SV × SV × SV × SV)) => (if o2.1 = 0 then (if (lg_cmp (o2.2.1 (0 : Int32).toNatClampNeg) ((o5.1).toInt64)) = 0 then j1851 () else none) else j1851 ())) else none))))))
set_option maxHeartbeats 4000000 in
set_option maxRecDepth 100000 in
theorem law37 (hst : l.stackTraces = false) (hx : p.tables.exec = Jvm.exec) (hb : c.code = code) (hml : c.maxLocals = 9) (hown : s.vm.findClass RL = some m.cls) (hts : ∀ w ∈ wT, w.before args s = true) (hK : wK dC dI cyI cyO cyL s) (hZ : wZ z0 s) (hAz : ∀ q, A q → z0 ≤ q) (hz0 : z0 ≤ s.heap.size) (hA : ∀ q : Nat, s.heap.size ≤ q → A q) (hX : va_X b L xs s s.heap) (hbl : b < s.heap.size) (hbA : ¬ A b) (hRf : 11 ≤ R.frames) (hRl : 398 ≤ R.locals) (qo : Nat) (mm x an tr k0 k1 b0 b1 b2 b3 b4 b5 : Nat → Nat) (fl fs : Nat → Option Nat) (N : Nat) (fo : (Nat → Int64)) (mv : MV) (xv : XV) (nv : SV) (tv : SV) (w0 : SV) (w1 : SV) (v0 : SV) (v1 : SV) (v2 : SV) (v3 : SV) (v4 : SV) (v5 : SV) (i : Int32) (hl0 : fl 0 = some (k0 0)) (hl1 : fl 1 = some (k1 0)) (hs0 : fs 0 = some (b0 0)) (hs1 : fs 1 = some (b1 0)) (hs2 : fs 2 = some (b2 0)) (hs3 : fs 3 = some (b3 0)) (hs4 : fs 4 = some (b4 0)) (hs5 : fs 5 = some (b5 0)) (out : (Nat → Int64) × MV × XV × SV × SV × SV × SV × SV × SV × SV × SV × SV × SV) (hF : f_law37 N L xs i fo mv xv nv tv w0 w1 v0 v1 v2 v3 v4 v5 = some out) (hP : va_P (dC, dI) vwCl (([[cLo cyL qo 1 fo], (cM cyI mm mv), (cXo x an tr xv), (cH cyO (x 1) (x 2) 2 fl), (cXk cyI x xv), (cH cyO (x 4) (x 5) 6 fs), (cT cyI x (X_text xv)), (cSo an nv), (cG cyI an (S_green nv)), (cV cyI an (S_score nv)), (cSo tr tv), (cG cyI tr (S_green tv)), (cV cyI tr (S_score tv)), (cS cyI k0 w0), (cS cyI k1 w1), (cS cyI b0 v0), (cS cyI b1 v1), (cS cyI b2 v2), (cS cyI b3 v3), (cS cyI b4 v4), (cS cyI b5 v5)] : List va_W).flatten) H) (hD : va_D A (([[cLo cyL qo 1 fo], (cM cyI mm mv), (cXo x an tr xv), (cH cyO (x 1) (x 2) 2 fl), (cXk cyI x xv), (cH cyO (x 4) (x 5) 6 fs), (cT cyI x (X_text xv)), (cSo an nv), (cG cyI an (S_green nv)), (cV cyI an (S_score nv)), (cSo tr tv), (cG cyI tr (S_green tv)), (cV cyI tr (S_score tv)), (cS cyI k0 w0), (cS cyI k1 w1), (cS cyI b0 v0), (cS cyI b1 v1), (cS cyI b2 v2), (cS cyI b3 v3), (cS cyI b4 v4), (cS cyI b5 v5)] : List va_W).flatten)) (hS : va_S A s.heap H locs) (hl : lv_has ls 9 [(0, .ref b), (1, .ref (x 0)), (2, .ref (mm 0)), (3, .ref qo), (4, .int i)]) (hRc : cells + 4 ≤ R.cells) (hRs : slots + 24 ≤ R.slots) (kk : ∀ (H : Heap) (locs : List Loc) (ls : Array Slot), va_P (dC, dI) vwCl (([[cLo cyL qo 1 out.1], (cM cyI mm out.2.1), (cXo x an tr out.2.2.1), (cH cyO (x 1) (x 2) 2 fl), (cXk cyI x out.2.2.1), (cH cyO (x 4) (x 5) 6 fs), (cT cyI x (X_text out.2.2.1)), (cSo an out.2.2.2.1), (cG cyI an (S_green out.2.2.2.1)), (cV cyI an (S_score out.2.2.2.1)), (cSo tr out.2.2.2.2.1), (cG cyI tr (S_green out.2.2.2.2.1)), (cV cyI tr (S_score out.2.2.2.2.1)), (cS cyI k0 out.2.2.2.2.2.1), (cS cyI k1 out.2.2.2.2.2.2.1), (cS cyI b0 out.2.2.2.2.2.2.2.1), (cS cyI b1 out.2.2.2.2.2.2.2.2.1), (cS cyI b2 out.2.2.2.2.2.2.2.2.2.1), (cS cyI b3 out.2.2.2.2.2.2.2.2.2.2.1), (cS cyI b4 out.2.2.2.2.2.2.2.2.2.2.2.1), (cS cyI b5 out.2.2.2.2.2.2.2.2.2.2.2.2)] : List va_W).flatten) H → va_D A (([[cLo cyL qo 1 out.1], (cM cyI mm out.2.1), (cXo x an tr out.2.2.1), (cH cyO (x 1) (x 2) 2 fl), (cXk cyI x out.2.2.1), (cH cyO (x 4) (x 5) 6 fs), (cT cyI x (X_text out.2.2.1)), (cSo an out.2.2.2.1), (cG cyI an (S_green out.2.2.2.1)), (cV cyI an (S_score out.2.2.2.1)), (cSo tr out.2.2.2.2.1), (cG cyI tr (S_green out.2.2.2.2.1)), (cV cyI tr (S_score out.2.2.2.2.1)), (cS cyI k0 out.2.2.2.2.2.1), (cS cyI k1 out.2.2.2.2.2.2.1), (cS cyI b0 out.2.2.2.2.2.2.2.1), (cS cyI b1 out.2.2.2.2.2.2.2.2.1), (cS cyI b2 out.2.2.2.2.2.2.2.2.2.1), (cS cyI b3 out.2.2.2.2.2.2.2.2.2.2.1), (cS cyI b4 out.2.2.2.2.2.2.2.2.2.2.2.1), (cS cyI b5 out.2.2.2.2.2.2.2.2.2.2.2.2)] : List va_W).flatten) → va_S A s.heap H locs → lv_has ls 9 [(0, .ref b), (1, .ref (x 0)), (2, .ref (mm 0)), (3, .ref qo), (4, .int i)] → W p l e R s m args below meth c H locs (cells + 4) (slots + 24) Q (F0 m 2733 ls [])) : W p l e R s m args below meth c H locs cells slots Q (F0 m 1798 ls []) := by
  unfold f_law37 at hF
  refine lv_aload_n hx hb dL_law_1798 rfl (lv_at hl 1 rfl) ?_
  refine lv_aload_n hx hb dL_law_1799 rfl (lv_at hl 0 rfl) ?_
  refine lv_iload hx hb dL_law_1800 (lv_at hl 4 rfl) ?_
  refine lv_iconst (v := 1) hx hb dL_law_1802 (by decide) ?_
  refine lv_iadd hx hb dL_law_1803 ?_
  obtain ⟨hg1, hF⟩ := gd_use hF
  refine va_sld hx hb hX hbl hbA hS hg1 dL_law_1804 ?_
  refine lv_aload_n hx hb dL_law_1805 rfl (lv_at hl 3 rfl) ?_
  obtain ⟨o2, h3, hF⟩ := obd hF
  refine wcLi (As := [.ref (x 0), .int (xs (i + (1 : Int32)).toNatClampNeg), .ref qo]) (rest := []) (wr := ([(cM cyI mm mv), (cSo tr tv), (cG cyI tr (S_green tv)), (cV cyI tr (S_score tv)), (cS cyI k0 w0), (cS cyI k1 w1), (cS cyI b0 v0), (cS cyI b1 v1), (cS cyI b2 v2), (cS cyI b3 v3), (cS cyI b4 v4), (cS cyI b5 v5)] : List va_W).flatten) ⟨hx, hb, hml, hown, hts⟩ (met_L_aliveOf l z0 hst dC dI cyI cyO cyL qo x tr an fl fs _ N fo xv nv (xs (i + (1 : Int32)).toNatClampNeg) o2 h3) (vx_cwSW 3 hts (gS w_methodLink_L_271 w_static_L_aliveOf w_initialized_L w_codeW_L_aliveOf) rfl rfl rfl (by decide +kernel) ⟨Nat.le_trans (Nat.le_of_ble_eq_true rfl) hRf, Nat.le_trans (Nat.le_of_ble_eq_true rfl) hRl⟩) hP hD hK hZ hAz hz0 (seg_perm (n := 21) (R := [(cM cyI mm mv), (cSo tr tv), (cG cyI tr (S_green tv)), (cV cyI tr (S_score tv)), (cS cyI k0 w0), (cS cyI k1 w1), (cS cyI b0 v0), (cS cyI b1 v1), (cS cyI b2 v2), (cS cyI b3 v3), (cS cyI b4 v4), (cS cyI b5 v5)]) (C := [[cLo cyL qo 1 fo], (cXo x an tr xv), (cH cyO (x 1) (x 2) 2 fl), (cXk cyI x xv), (cH cyO (x 4) (x 5) 6 fs), (cT cyI x (X_text xv)), (cSo an nv), (cG cyI an (S_green nv)), (cV cyI an (S_score nv))]) [1, 10, 11, 12, 13, 14, 15, 16, 17, 18, 19, 20] [0, 2, 3, 4, 5, 6, 7, 8, 9] rfl rfl rfl (by decide) rfl) rfl hl.1 (Nat.le_of_ble_eq_true rfl) dL_law_1806 ⟨by omega, by omega⟩ hS hA (fun r u H locs hw hP hD hS => ?_)
  obtain rfl : r = o2.1 := congrArg Prod.fst hw
  obtain rfl : u = o2.2 := congrArg Prod.snd hw
  clear hw
  have hq := seg_permS (segs := [[cLo cyL qo 1 o2.2.1], (cM cyI mm mv), (cXo x an tr o2.2.2.1), (cH cyO (x 1) (x 2) 2 fl), (cXk cyI x o2.2.2.1), (cH cyO (x 4) (x 5) 6 fs), (cT cyI x (X_text o2.2.2.1)), (cSo an o2.2.2.2), (cG cyI an (S_green o2.2.2.2)), (cV cyI an (S_score o2.2.2.2)), (cSo tr tv), (cG cyI tr (S_green tv)), (cV cyI tr (S_score tv)), (cS cyI k0 w0), (cS cyI k1 w1), (cS cyI b0 v0), (cS cyI b1 v1), (cS cyI b2 v2), (cS cyI b3 v3), (cS cyI b4 v4), (cS cyI b5 v5)]) (R := [(cM cyI mm mv), (cSo tr tv), (cG cyI tr (S_green tv)), (cV cyI tr (S_score tv)), (cS cyI k0 w0), (cS cyI k1 w1), (cS cyI b0 v0), (cS cyI b1 v1), (cS cyI b2 v2), (cS cyI b3 v3), (cS cyI b4 v4), (cS cyI b5 v5)]) (C := [[cLo cyL qo 1 o2.2.1], (cXo x an tr o2.2.2.1), (cH cyO (x 1) (x 2) 2 fl), (cXk cyI x o2.2.2.1), (cH cyO (x 4) (x 5) 6 fs), (cT cyI x (X_text o2.2.2.1)), (cSo an o2.2.2.2), (cG cyI an (S_green o2.2.2.2)), (cV cyI an (S_score o2.2.2.2))]) (n := 21) [1, 10, 11, 12, 13, 14, 15, 16, 17, 18, 19, 20] [0, 2, 3, 4, 5, 6, 7, 8, 9] rfl rfl rfl (by decide)
  have hP : va_P (dC, dI) vwCl (([[cLo cyL qo 1 o2.2.1], (cM cyI mm mv), (cXo x an tr o2.2.2.1), (cH cyO (x 1) (x 2) 2 fl), (cXk cyI x o2.2.2.1), (cH cyO (x 4) (x 5) 6 fs), (cT cyI x (X_text o2.2.2.1)), (cSo an o2.2.2.2), (cG cyI an (S_green o2.2.2.2)), (cV cyI an (S_score o2.2.2.2)), (cSo tr tv), (cG cyI tr (S_green tv)), (cV cyI tr (S_score tv)), (cS cyI k0 w0), (cS cyI k1 w1), (cS cyI b0 v0), (cS cyI b1 v1), (cS cyI b2 v2), (cS cyI b3 v3), (cS cyI b4 v4), (cS cyI b5 v5)] : List va_W).flatten) H := hP.perm hq
  have hD : va_D A (([[cLo cyL qo 1 o2.2.1], (cM cyI mm mv), (cXo x an tr o2.2.2.1), (cH cyO (x 1) (x 2) 2 fl), (cXk cyI x o2.2.2.1), (cH cyO (x 4) (x 5) 6 fs), (cT cyI x (X_text o2.2.2.1)), (cSo an o2.2.2.2), (cG cyI an (S_green o2.2.2.2)), (cV cyI an (S_score o2.2.2.2)), (cSo tr tv), (cG cyI tr (S_green tv)), (cV cyI tr (S_score tv)), (cS cyI k0 w0), (cS cyI k1 w1), (cS cyI b0 v0), (cS cyI b1 v1), (cS cyI b2 v2), (cS cyI b3 v3), (cS cyI b4 v4), (cS cyI b5 v5)] : List va_W).flatten) := hD.perm hq
  clear hq
  refine lv_istore (lv' := [(5, .int o2.1), (0, .ref b), (1, .ref (x 0)), (2, .ref (mm 0)), (3, .ref qo), (4, .int i)]) hx hb dL_law_1809 hl (by decide) rfl (fun ls hl => ?_)
  refine lv_aload_n hx hb dL_law_1811 rfl (lv_at hl 3 rfl) ?_
  refine lv_aload_n hx hb dL_law_1812 rfl (lv_at hl 1 rfl) ?_
  refine lv_iload hx hb dL_law_1813 (lv_at hl 5 rfl) ?_
  refine lv_iconst (v := 1) hx hb dL_law_1815 (by decide) ?_
  refine lv_iadd hx hb dL_law_1816 ?_
  obtain ⟨hg4, hF⟩ := gd_use hF
  refine va_sld hx hb hX hbl hbA hS hg4 dL_law_1817 ?_
  obtain ⟨o5, h6, hF⟩ := obd hF
  refine wcPVi (As := [.int (xs (i + (1 : Int32)).toNatClampNeg)]) (rest := []) (wr := ([[cLo cyL qo 1 o2.2.1], (cXo x an tr o2.2.2.1), (cH cyO (x 1) (x 2) 2 fl), (cXk cyI x o2.2.2.1), (cH cyO (x 4) (x 5) 6 fs), (cT cyI x (X_text o2.2.2.1)), (cSo an o2.2.2.2), (cG cyI an (S_green o2.2.2.2)), (cV cyI an (S_score o2.2.2.2)), (cSo tr tv), (cG cyI tr (S_green tv)), (cV cyI tr (S_score tv)), (cS cyI k0 w0), (cS cyI k1 w1), (cS cyI b0 v0), (cS cyI b1 v1), (cS cyI b2 v2), (cS cyI b3 v3), (cS cyI b4 v4), (cS cyI b5 v5)] : List va_W).flatten) (b := (mm 0)) ⟨hx, hb, hml, hown, hts⟩ (met_X6_aliveOf l dC dI cyI cyO cyL mm _ N mv (xs (i + (1 : Int32)).toNatClampNeg) o5 h6) (cwV 1 hts (gV w_methodLink_L_273 w_instanceMethod_X6_aliveOf w_selects_X6_aliveOf w_initialized_X6 w_code_X6_aliveOf) rfl rfl rfl (by decide +kernel) ⟨Nat.le_trans (Nat.le_of_ble_eq_true rfl) hRf, Nat.le_trans (Nat.le_of_ble_eq_true rfl) hRl⟩) (va_recv hK.1 hP (ci := 6) (q0 := 1) rfl rfl) hP hD hK (seg_perm (n := 21) (R := [[cLo cyL qo 1 o2.2.1], (cXo x an tr o2.2.2.1), (cH cyO (x 1) (x 2) 2 fl), (cXk cyI x o2.2.2.1), (cH cyO (x 4) (x 5) 6 fs), (cT cyI x (X_text o2.2.2.1)), (cSo an o2.2.2.2), (cG cyI an (S_green o2.2.2.2)), (cV cyI an (S_score o2.2.2.2)), (cSo tr tv), (cG cyI tr (S_green tv)), (cV cyI tr (S_score tv)), (cS cyI k0 w0), (cS cyI k1 w1), (cS cyI b0 v0), (cS cyI b1 v1), (cS cyI b2 v2), (cS cyI b3 v3), (cS cyI b4 v4), (cS cyI b5 v5)]) (C := [(cM cyI mm mv)]) [0, 2, 3, 4, 5, 6, 7, 8, 9, 10, 11, 12, 13, 14, 15, 16, 17, 18, 19, 20] [1] rfl rfl rfl (by decide) rfl) rfl hl.1 (Nat.le_of_ble_eq_true rfl) dL_law_1818 ⟨by omega, by omega⟩ hS hA (fun r u H locs hw hP hD hS => ?_)
  obtain rfl : r = o5.1 := congrArg Prod.fst hw
  obtain rfl : u = o5.2 := congrArg Prod.snd hw
  clear hw
  have hq := seg_permS (segs := [[cLo cyL qo 1 o2.2.1], (cM cyI mm o5.2), (cXo x an tr o2.2.2.1), (cH cyO (x 1) (x 2) 2 fl), (cXk cyI x o2.2.2.1), (cH cyO (x 4) (x 5) 6 fs), (cT cyI x (X_text o2.2.2.1)), (cSo an o2.2.2.2), (cG cyI an (S_green o2.2.2.2)), (cV cyI an (S_score o2.2.2.2)), (cSo tr tv), (cG cyI tr (S_green tv)), (cV cyI tr (S_score tv)), (cS cyI k0 w0), (cS cyI k1 w1), (cS cyI b0 v0), (cS cyI b1 v1), (cS cyI b2 v2), (cS cyI b3 v3), (cS cyI b4 v4), (cS cyI b5 v5)]) (R := [[cLo cyL qo 1 o2.2.1], (cXo x an tr o2.2.2.1), (cH cyO (x 1) (x 2) 2 fl), (cXk cyI x o2.2.2.1), (cH cyO (x 4) (x 5) 6 fs), (cT cyI x (X_text o2.2.2.1)), (cSo an o2.2.2.2), (cG cyI an (S_green o2.2.2.2)), (cV cyI an (S_score o2.2.2.2)), (cSo tr tv), (cG cyI tr (S_green tv)), (cV cyI tr (S_score tv)), (cS cyI k0 w0), (cS cyI k1 w1), (cS cyI b0 v0), (cS cyI b1 v1), (cS cyI b2 v2), (cS cyI b3 v3), (cS cyI b4 v4), (cS cyI b5 v5)]) (C := [(cM cyI mm o5.2)]) (n := 21) [0, 2, 3, 4, 5, 6, 7, 8, 9, 10, 11, 12, 13, 14, 15, 16, 17, 18, 19, 20] [1] rfl rfl rfl (by decide)
  have hP : va_P (dC, dI) vwCl (([[cLo cyL qo 1 o2.2.1], (cM cyI mm o5.2), (cXo x an tr o2.2.2.1), (cH cyO (x 1) (x 2) 2 fl), (cXk cyI x o2.2.2.1), (cH cyO (x 4) (x 5) 6 fs), (cT cyI x (X_text o2.2.2.1)), (cSo an o2.2.2.2), (cG cyI an (S_green o2.2.2.2)), (cV cyI an (S_score o2.2.2.2)), (cSo tr tv), (cG cyI tr (S_green tv)), (cV cyI tr (S_score tv)), (cS cyI k0 w0), (cS cyI k1 w1), (cS cyI b0 v0), (cS cyI b1 v1), (cS cyI b2 v2), (cS cyI b3 v3), (cS cyI b4 v4), (cS cyI b5 v5)] : List va_W).flatten) H := hP.perm hq
  have hD : va_D A (([[cLo cyL qo 1 o2.2.1], (cM cyI mm o5.2), (cXo x an tr o2.2.2.1), (cH cyO (x 1) (x 2) 2 fl), (cXk cyI x o2.2.2.1), (cH cyO (x 4) (x 5) 6 fs), (cT cyI x (X_text o2.2.2.1)), (cSo an o2.2.2.2), (cG cyI an (S_green o2.2.2.2)), (cV cyI an (S_score o2.2.2.2)), (cSo tr tv), (cG cyI tr (S_green tv)), (cV cyI tr (S_score tv)), (cS cyI k0 w0), (cS cyI k1 w1), (cS cyI b0 v0), (cS cyI b1 v1), (cS cyI b2 v2), (cS cyI b3 v3), (cS cyI b4 v4), (cS cyI b5 v5)] : List va_W).flatten) := hD.perm hq
  clear hq
  refine lv_istore (lv' := [(6, .int o5.1), (5, .int o2.1), (0, .ref b), (1, .ref (x 0)), (2, .ref (mm 0)), (3, .ref qo), (4, .int i)]) hx hb dL_law_1821 hl (by decide) rfl (fun ls hl => ?_)
  refine lv_aload_n hx hb dL_law_1823 rfl (lv_at hl 4 rfl) ?_
  obtain ⟨o7, h8, hF⟩ := obd hF
  refine wcRVi (As := []) (rest := []) (b := (mm 0)) ⟨hx, hb, hml, hown, hts⟩ (met_X6_thrown l dC dI cyI cyO cyL mm N o5.2  o7 h8) (cwV 0 hts (gV w_methodLink_L_143 w_instanceMethod_X6_thrown w_selects_X6_thrown w_initialized_X6 w_code_X6_thrown) rfl rfl rfl (by decide +kernel) ⟨Nat.le_trans (Nat.le_of_ble_eq_true rfl) hRf, Nat.le_trans (Nat.le_of_ble_eq_true rfl) hRl⟩) (va_recv hK.1 hP (ci := 6) (q0 := 1) rfl rfl) hP hK [1, 2, 3, 4, 5, 6, 7, 8] rfl rfl hl.1 (Nat.le_of_ble_eq_true rfl) dL_law_1824 ⟨by omega, by omega⟩ hS (fun r H locs hw hP hS => ?_)
  have hw := hw.symm
  subst hw
  refine lv_iload hx hb dL_law_1827 (lv_at hl 1 rfl) ?_
  refine lv_icmp_eq (tgt := 1834) hx hb dL_law_1829 (by decide) (fun c9 => ?_) (fun c9 => ?_)
  · have hF := itp c9 hF
    refine lv_iload hx hb dL_law_1834 (lv_at hl 1 rfl) ?_
    obtain ⟨j1851, hj1851, hF⟩ := jn_use hF
    have hJ1851 : ∀ (s1851 : Unit) (H : Heap) (locs : List Loc) (ls : Array Slot), va_P (dC, dI) vwCl (([[cLo cyL qo 1 o2.2.1], (cM cyI mm o5.2), (cXo x an tr o2.2.2.1), (cH cyO (x 1) (x 2) 2 fl), (cXk cyI x o2.2.2.1), (cH cyO (x 4) (x 5) 6 fs), (cT cyI x (X_text o2.2.2.1)), (cSo an o2.2.2.2), (cG cyI an (S_green o2.2.2.2)), (cV cyI an (S_score o2.2.2.2)), (cSo tr tv), (cG cyI tr (S_green tv)), (cV cyI tr (S_score tv)), (cS cyI k0 w0), (cS cyI k1 w1), (cS cyI b0 v0), (cS cyI b1 v1), (cS cyI b2 v2), (cS cyI b3 v3), (cS cyI b4 v4), (cS cyI b5 v5)] : List va_W).flatten) H → va_D A (([[cLo cyL qo 1 o2.2.1], (cM cyI mm o5.2), (cXo x an tr o2.2.2.1), (cH cyO (x 1) (x 2) 2 fl), (cXk cyI x o2.2.2.1), (cH cyO (x 4) (x 5) 6 fs), (cT cyI x (X_text o2.2.2.1)), (cSo an o2.2.2.2), (cG cyI an (S_green o2.2.2.2)), (cV cyI an (S_score o2.2.2.2)), (cSo tr tv), (cG cyI tr (S_green tv)), (cV cyI tr (S_score tv)), (cS cyI k0 w0), (cS cyI k1 w1), (cS cyI b0 v0), (cS cyI b1 v1), (cS cyI b2 v2), (cS cyI b3 v3), (cS cyI b4 v4), (cS cyI b5 v5)] : List va_W).flatten) → va_S A s.heap H locs → lv_has ls 9 [(0, .ref b), (1, .ref (x 0)), (2, .ref (mm 0)), (3, .ref qo), (4, .int i)] → j1851 s1851 = some out → W p l e R s m args below meth c H locs (cells + 1) (slots + 6) Q (F0 m 1851 ls []) := by
      intro s1851 H locs ls hP hD hS hl hF
      have hF := (congrFun hj1851 s1851).symm.trans hF
      refine lv_goto (tgt := 2733) hx hb dL_law_1851 (by decide) ?_
      obtain rfl := Option.some.inj hF
      refine W.widen (k := cells + 4) (n := slots + 24) (by omega) (by omega) ?_
      exact kk _ _ _ hP hD hS (lv_sub hl [0, 1, 2, 3, 4] rfl)
    refine lv_if_ne (tgt := 1851) hx hb dL_law_1836 (by decide) (fun c10 => ?_) (fun c10 => ?_)
    · have hF := itn c10 hF
      exact hJ1851 () _ _ _ hP hD hS (lv_sub hl [2, 3, 4, 5, 6] rfl) hF
    · have hF := itp c10 hF
      refine lv_aload_n hx hb dL_law_1839 rfl (lv_at hl 5 rfl) ?_
      refine lv_iconst (v := 0) hx hb dL_law_1840 (by decide) ?_
      refine va_lald hx hb hK.1 hP 0 2 rfl rfl (i := (0 : Int32)) (show ixok (0 : Int32) 1 by decide) dL_law_1841 ?_
      refine lv_iload hx hb dL_law_1842 (lv_at hl 0 rfl) ?_
      refine lv_i2l (v := (o5.1).toInt64) hx hb dL_law_1844 rfl ?_
      refine W.lcmp hx hb dL_law_1845 ?_
      refine lv_if_eq (tgt := 1851) hx hb dL_law_1846 (by decide) (fun c11 => ?_) (fun c11 => ?_)
      · have hF := itp c11 hF
        exact hJ1851 () _ _ _ hP hD hS (lv_sub hl [2, 3, 4, 5, 6] rfl) hF
      · have hF := itn c11 hF
        refine lv_iconst (v := 0) hx hb dL_law_1849 (by decide) ?_
        cases hF
  · have hF := itn c9 hF
    refine lv_iconst (v := 0) hx hb dL_law_1832 (by decide) ?_
    cases hF
theorem dL_law_1854 : decode cL_law 1854 = .ok (.aload_n 1, 1) := by decide +kernel
theorem dL_law_1855 : decode cL_law 1855 = .ok (.aload_n 3, 1) := by decide +kernel
theorem dL_law_1856 : decode cL_law 1856 = .ok (.invokestatic 274, 3) := by decide +kernel
theorem dL_law_1859 : decode cL_law 1859 = .ok (.istore 5, 2) := by decide +kernel
theorem dL_law_1861 : decode cL_law 1861 = .ok (.aload_n 2, 1) := by decide +kernel
theorem dL_law_1862 : decode cL_law 1862 = .ok (.invokevirtual 276, 3) := by decide +kernel
theorem dL_law_1865 : decode cL_law 1865 = .ok (.istore 6, 2) := by decide +kernel
theorem dL_law_1867 : decode cL_law 1867 = .ok (.aload_n 2, 1) := by decide +kernel
theorem dL_law_1868 : decode cL_law 1868 = .ok (.invokevirtual 143, 3) := by decide +kernel
theorem dL_law_1871 : decode cL_law 1871 = .ok (.iload 5, 2) := by decide +kernel
theorem dL_law_1873 : decode cL_law 1873 = .ok (.if_icmp .eq 5, 3) := by decide +kernel
theorem dL_law_1876 : decode cL_law 1876 = .ok (.iconst 0, 1) := by decide +kernel
theorem dL_law_1878 : decode cL_law 1878 = .ok (.iload 5, 2) := by decide +kernel
theorem dL_law_1880 : decode cL_law 1880 = .ok (.ifCond .ne 15, 3) := by decide +kernel
theorem dL_law_1883 : decode cL_law 1883 = .ok (.aload_n 3, 1) := by decide +kernel
theorem dL_law_1884 : decode cL_law 1884 = .ok (.iconst 0, 1) := by decide +kernel
theorem dL_law_1885 : decode cL_law 1885 = .ok (.laload, 1) := by decide +kernel
theorem dL_law_1886 : decode cL_law 1886 = .ok (.iload 6, 2) := by decide +kernel
theorem dL_law_1888 : decode cL_law 1888 = .ok (.i2l, 1) := by decide +kernel
theorem dL_law_1889 : decode cL_law 1889 = .ok (.lcmp, 1) := by decide +kernel
theorem dL_law_1890 : decode cL_law 1890 = .ok (.ifCond .eq 5, 3) := by decide +kernel
theorem dL_law_1893 : decode cL_law 1893 = .ok (.iconst 0, 1) := by decide +kernel
theorem dL_law_1895 : decode cL_law 1895 = .ok (.goto 838, 3) := by decide +kernel
def f_law38 (N L : Nat) (xs : Nat → Int32) (i : Int32) (fo : (Nat → Int64)) (mv : MV) (xv : XV) (nv : SV) (tv : SV) (w0 : SV) (w1 : SV) (v0 : SV) (v1 : SV) (v2 : SV) (v3 : SV) (v4 : SV) (v5 : SV) : Option ((Nat → Int64) × MV × XV × SV × SV × SV × SV × SV × SV × SV × SV × SV × SV) :=
  (f_L_gap N fo xv nv).bind (fun o1 => (f_X6_gap N mv).bind (fun o3 => (f_X6_thrown N o3.2).bind (fun o5 => (if o5 = o1.1 then jn (fun (s1895 : Unit) => some (o1.2.1, o3.2, o1.2.2.1, o1.2.2.2, tv, w0, w1, v0, v1, v2, v3, v4, v5)) (fun (j1895 : (Unit) → Option ((Nat → Int64) × MV × XV × SV × SV × SV × SV × SV × SV × SV × SV × SV × SV)) => (if o1.1 = 0 then (if (lg_cmp (o1.2.1 (0 : Int32).toNatClampNeg) ((o3.1).toInt64)) = 0 then j1895 () else none) else j1895 ())) else none))))
set_option maxHeartbeats 4000000 in
set_option maxRecDepth 100000 in
theorem law38 (hst : l.stackTraces = false) (hx : p.tables.exec = Jvm.exec) (hb : c.code = code) (hml : c.maxLocals = 9) (hown : s.vm.findClass RL = some m.cls) (hts : ∀ w ∈ wT, w.before args s = true) (hK : wK dC dI cyI cyO cyL s) (hZ : wZ z0 s) (hAz : ∀ q, A q → z0 ≤ q) (hz0 : z0 ≤ s.heap.size) (hA : ∀ q : Nat, s.heap.size ≤ q → A q) (hX : va_X b L xs s s.heap) (hbl : b < s.heap.size) (hbA : ¬ A b) (hRf : 11 ≤ R.frames) (hRl : 398 ≤ R.locals) (qo : Nat) (mm x an tr k0 k1 b0 b1 b2 b3 b4 b5 : Nat → Nat) (fl fs : Nat → Option Nat) (N : Nat) (fo : (Nat → Int64)) (mv : MV) (xv : XV) (nv : SV) (tv : SV) (w0 : SV) (w1 : SV) (v0 : SV) (v1 : SV) (v2 : SV) (v3 : SV) (v4 : SV) (v5 : SV) (i : Int32) (hl0 : fl 0 = some (k0 0)) (hl1 : fl 1 = some (k1 0)) (hs0 : fs 0 = some (b0 0)) (hs1 : fs 1 = some (b1 0)) (hs2 : fs 2 = some (b2 0)) (hs3 : fs 3 = some (b3 0)) (hs4 : fs 4 = some (b4 0)) (hs5 : fs 5 = some (b5 0)) (out : (Nat → Int64) × MV × XV × SV × SV × SV × SV × SV × SV × SV × SV × SV × SV) (hF : f_law38 N L xs i fo mv xv nv tv w0 w1 v0 v1 v2 v3 v4 v5 = some out) (hP : va_P (dC, dI) vwCl (([[cLo cyL qo 1 fo], (cM cyI mm mv), (cXo x an tr xv), (cH cyO (x 1) (x 2) 2 fl), (cXk cyI x xv), (cH cyO (x 4) (x 5) 6 fs), (cT cyI x (X_text xv)), (cSo an nv), (cG cyI an (S_green nv)), (cV cyI an (S_score nv)), (cSo tr tv), (cG cyI tr (S_green tv)), (cV cyI tr (S_score tv)), (cS cyI k0 w0), (cS cyI k1 w1), (cS cyI b0 v0), (cS cyI b1 v1), (cS cyI b2 v2), (cS cyI b3 v3), (cS cyI b4 v4), (cS cyI b5 v5)] : List va_W).flatten) H) (hD : va_D A (([[cLo cyL qo 1 fo], (cM cyI mm mv), (cXo x an tr xv), (cH cyO (x 1) (x 2) 2 fl), (cXk cyI x xv), (cH cyO (x 4) (x 5) 6 fs), (cT cyI x (X_text xv)), (cSo an nv), (cG cyI an (S_green nv)), (cV cyI an (S_score nv)), (cSo tr tv), (cG cyI tr (S_green tv)), (cV cyI tr (S_score tv)), (cS cyI k0 w0), (cS cyI k1 w1), (cS cyI b0 v0), (cS cyI b1 v1), (cS cyI b2 v2), (cS cyI b3 v3), (cS cyI b4 v4), (cS cyI b5 v5)] : List va_W).flatten)) (hS : va_S A s.heap H locs) (hl : lv_has ls 9 [(0, .ref b), (1, .ref (x 0)), (2, .ref (mm 0)), (3, .ref qo), (4, .int i)]) (hRc : cells + 4 ≤ R.cells) (hRs : slots + 24 ≤ R.slots) (kk : ∀ (H : Heap) (locs : List Loc) (ls : Array Slot), va_P (dC, dI) vwCl (([[cLo cyL qo 1 out.1], (cM cyI mm out.2.1), (cXo x an tr out.2.2.1), (cH cyO (x 1) (x 2) 2 fl), (cXk cyI x out.2.2.1), (cH cyO (x 4) (x 5) 6 fs), (cT cyI x (X_text out.2.2.1)), (cSo an out.2.2.2.1), (cG cyI an (S_green out.2.2.2.1)), (cV cyI an (S_score out.2.2.2.1)), (cSo tr out.2.2.2.2.1), (cG cyI tr (S_green out.2.2.2.2.1)), (cV cyI tr (S_score out.2.2.2.2.1)), (cS cyI k0 out.2.2.2.2.2.1), (cS cyI k1 out.2.2.2.2.2.2.1), (cS cyI b0 out.2.2.2.2.2.2.2.1), (cS cyI b1 out.2.2.2.2.2.2.2.2.1), (cS cyI b2 out.2.2.2.2.2.2.2.2.2.1), (cS cyI b3 out.2.2.2.2.2.2.2.2.2.2.1), (cS cyI b4 out.2.2.2.2.2.2.2.2.2.2.2.1), (cS cyI b5 out.2.2.2.2.2.2.2.2.2.2.2.2)] : List va_W).flatten) H → va_D A (([[cLo cyL qo 1 out.1], (cM cyI mm out.2.1), (cXo x an tr out.2.2.1), (cH cyO (x 1) (x 2) 2 fl), (cXk cyI x out.2.2.1), (cH cyO (x 4) (x 5) 6 fs), (cT cyI x (X_text out.2.2.1)), (cSo an out.2.2.2.1), (cG cyI an (S_green out.2.2.2.1)), (cV cyI an (S_score out.2.2.2.1)), (cSo tr out.2.2.2.2.1), (cG cyI tr (S_green out.2.2.2.2.1)), (cV cyI tr (S_score out.2.2.2.2.1)), (cS cyI k0 out.2.2.2.2.2.1), (cS cyI k1 out.2.2.2.2.2.2.1), (cS cyI b0 out.2.2.2.2.2.2.2.1), (cS cyI b1 out.2.2.2.2.2.2.2.2.1), (cS cyI b2 out.2.2.2.2.2.2.2.2.2.1), (cS cyI b3 out.2.2.2.2.2.2.2.2.2.2.1), (cS cyI b4 out.2.2.2.2.2.2.2.2.2.2.2.1), (cS cyI b5 out.2.2.2.2.2.2.2.2.2.2.2.2)] : List va_W).flatten) → va_S A s.heap H locs → lv_has ls 9 [(0, .ref b), (1, .ref (x 0)), (2, .ref (mm 0)), (3, .ref qo), (4, .int i)] → W p l e R s m args below meth c H locs (cells + 4) (slots + 24) Q (F0 m 2733 ls [])) : W p l e R s m args below meth c H locs cells slots Q (F0 m 1854 ls []) := by
  unfold f_law38 at hF
  refine lv_aload_n hx hb dL_law_1854 rfl (lv_at hl 1 rfl) ?_
  refine lv_aload_n hx hb dL_law_1855 rfl (lv_at hl 3 rfl) ?_
  obtain ⟨o1, h2, hF⟩ := obd hF
  refine wcLi (As := [.ref (x 0), .ref qo]) (rest := []) (wr := ([(cM cyI mm mv), (cSo tr tv), (cG cyI tr (S_green tv)), (cV cyI tr (S_score tv)), (cS cyI k0 w0), (cS cyI k1 w1), (cS cyI b0 v0), (cS cyI b1 v1), (cS cyI b2 v2), (cS cyI b3 v3), (cS cyI b4 v4), (cS cyI b5 v5)] : List va_W).flatten) ⟨hx, hb, hml, hown, hts⟩ (met_L_gap l z0 hst dC dI cyI cyO cyL qo x tr an fl fs _ N fo xv nv  o1 h2) (vx_cwSW 2 hts (gS w_methodLink_L_274 w_static_L_gap w_initialized_L w_codeW_L_gap) rfl rfl rfl (by decide +kernel) ⟨Nat.le_trans (Nat.le_of_ble_eq_true rfl) hRf, Nat.le_trans (Nat.le_of_ble_eq_true rfl) hRl⟩) hP hD hK hZ hAz hz0 (seg_perm (n := 21) (R := [(cM cyI mm mv), (cSo tr tv), (cG cyI tr (S_green tv)), (cV cyI tr (S_score tv)), (cS cyI k0 w0), (cS cyI k1 w1), (cS cyI b0 v0), (cS cyI b1 v1), (cS cyI b2 v2), (cS cyI b3 v3), (cS cyI b4 v4), (cS cyI b5 v5)]) (C := [[cLo cyL qo 1 fo], (cXo x an tr xv), (cH cyO (x 1) (x 2) 2 fl), (cXk cyI x xv), (cH cyO (x 4) (x 5) 6 fs), (cT cyI x (X_text xv)), (cSo an nv), (cG cyI an (S_green nv)), (cV cyI an (S_score nv))]) [1, 10, 11, 12, 13, 14, 15, 16, 17, 18, 19, 20] [0, 2, 3, 4, 5, 6, 7, 8, 9] rfl rfl rfl (by decide) rfl) rfl hl.1 (Nat.le_of_ble_eq_true rfl) dL_law_1856 ⟨by omega, by omega⟩ hS hA (fun r u H locs hw hP hD hS => ?_)
  obtain rfl : r = o1.1 := congrArg Prod.fst hw
  obtain rfl : u = o1.2 := congrArg Prod.snd hw
  clear hw
  have hq := seg_permS (segs := [[cLo cyL qo 1 o1.2.1], (cM cyI mm mv), (cXo x an tr o1.2.2.1), (cH cyO (x 1) (x 2) 2 fl), (cXk cyI x o1.2.2.1), (cH cyO (x 4) (x 5) 6 fs), (cT cyI x (X_text o1.2.2.1)), (cSo an o1.2.2.2), (cG cyI an (S_green o1.2.2.2)), (cV cyI an (S_score o1.2.2.2)), (cSo tr tv), (cG cyI tr (S_green tv)), (cV cyI tr (S_score tv)), (cS cyI k0 w0), (cS cyI k1 w1), (cS cyI b0 v0), (cS cyI b1 v1), (cS cyI b2 v2), (cS cyI b3 v3), (cS cyI b4 v4), (cS cyI b5 v5)]) (R := [(cM cyI mm mv), (cSo tr tv), (cG cyI tr (S_green tv)), (cV cyI tr (S_score tv)), (cS cyI k0 w0), (cS cyI k1 w1), (cS cyI b0 v0), (cS cyI b1 v1), (cS cyI b2 v2), (cS cyI b3 v3), (cS cyI b4 v4), (cS cyI b5 v5)]) (C := [[cLo cyL qo 1 o1.2.1], (cXo x an tr o1.2.2.1), (cH cyO (x 1) (x 2) 2 fl), (cXk cyI x o1.2.2.1), (cH cyO (x 4) (x 5) 6 fs), (cT cyI x (X_text o1.2.2.1)), (cSo an o1.2.2.2), (cG cyI an (S_green o1.2.2.2)), (cV cyI an (S_score o1.2.2.2))]) (n := 21) [1, 10, 11, 12, 13, 14, 15, 16, 17, 18, 19, 20] [0, 2, 3, 4, 5, 6, 7, 8, 9] rfl rfl rfl (by decide)
  have hP : va_P (dC, dI) vwCl (([[cLo cyL qo 1 o1.2.1], (cM cyI mm mv), (cXo x an tr o1.2.2.1), (cH cyO (x 1) (x 2) 2 fl), (cXk cyI x o1.2.2.1), (cH cyO (x 4) (x 5) 6 fs), (cT cyI x (X_text o1.2.2.1)), (cSo an o1.2.2.2), (cG cyI an (S_green o1.2.2.2)), (cV cyI an (S_score o1.2.2.2)), (cSo tr tv), (cG cyI tr (S_green tv)), (cV cyI tr (S_score tv)), (cS cyI k0 w0), (cS cyI k1 w1), (cS cyI b0 v0), (cS cyI b1 v1), (cS cyI b2 v2), (cS cyI b3 v3), (cS cyI b4 v4), (cS cyI b5 v5)] : List va_W).flatten) H := hP.perm hq
  have hD : va_D A (([[cLo cyL qo 1 o1.2.1], (cM cyI mm mv), (cXo x an tr o1.2.2.1), (cH cyO (x 1) (x 2) 2 fl), (cXk cyI x o1.2.2.1), (cH cyO (x 4) (x 5) 6 fs), (cT cyI x (X_text o1.2.2.1)), (cSo an o1.2.2.2), (cG cyI an (S_green o1.2.2.2)), (cV cyI an (S_score o1.2.2.2)), (cSo tr tv), (cG cyI tr (S_green tv)), (cV cyI tr (S_score tv)), (cS cyI k0 w0), (cS cyI k1 w1), (cS cyI b0 v0), (cS cyI b1 v1), (cS cyI b2 v2), (cS cyI b3 v3), (cS cyI b4 v4), (cS cyI b5 v5)] : List va_W).flatten) := hD.perm hq
  clear hq
  refine lv_istore (lv' := [(5, .int o1.1), (0, .ref b), (1, .ref (x 0)), (2, .ref (mm 0)), (3, .ref qo), (4, .int i)]) hx hb dL_law_1859 hl (by decide) rfl (fun ls hl => ?_)
  refine lv_aload_n hx hb dL_law_1861 rfl (lv_at hl 3 rfl) ?_
  obtain ⟨o3, h4, hF⟩ := obd hF
  refine wcPVi (As := []) (rest := []) (wr := ([[cLo cyL qo 1 o1.2.1], (cXo x an tr o1.2.2.1), (cH cyO (x 1) (x 2) 2 fl), (cXk cyI x o1.2.2.1), (cH cyO (x 4) (x 5) 6 fs), (cT cyI x (X_text o1.2.2.1)), (cSo an o1.2.2.2), (cG cyI an (S_green o1.2.2.2)), (cV cyI an (S_score o1.2.2.2)), (cSo tr tv), (cG cyI tr (S_green tv)), (cV cyI tr (S_score tv)), (cS cyI k0 w0), (cS cyI k1 w1), (cS cyI b0 v0), (cS cyI b1 v1), (cS cyI b2 v2), (cS cyI b3 v3), (cS cyI b4 v4), (cS cyI b5 v5)] : List va_W).flatten) (b := (mm 0)) ⟨hx, hb, hml, hown, hts⟩ (met_X6_gap l dC dI cyI cyO cyL mm _ N mv  o3 h4) (cwV 0 hts (gV w_methodLink_L_276 w_instanceMethod_X6_gap w_selects_X6_gap w_initialized_X6 w_code_X6_gap) rfl rfl rfl (by decide +kernel) ⟨Nat.le_trans (Nat.le_of_ble_eq_true rfl) hRf, Nat.le_trans (Nat.le_of_ble_eq_true rfl) hRl⟩) (va_recv hK.1 hP (ci := 6) (q0 := 1) rfl rfl) hP hD hK (seg_perm (n := 21) (R := [[cLo cyL qo 1 o1.2.1], (cXo x an tr o1.2.2.1), (cH cyO (x 1) (x 2) 2 fl), (cXk cyI x o1.2.2.1), (cH cyO (x 4) (x 5) 6 fs), (cT cyI x (X_text o1.2.2.1)), (cSo an o1.2.2.2), (cG cyI an (S_green o1.2.2.2)), (cV cyI an (S_score o1.2.2.2)), (cSo tr tv), (cG cyI tr (S_green tv)), (cV cyI tr (S_score tv)), (cS cyI k0 w0), (cS cyI k1 w1), (cS cyI b0 v0), (cS cyI b1 v1), (cS cyI b2 v2), (cS cyI b3 v3), (cS cyI b4 v4), (cS cyI b5 v5)]) (C := [(cM cyI mm mv)]) [0, 2, 3, 4, 5, 6, 7, 8, 9, 10, 11, 12, 13, 14, 15, 16, 17, 18, 19, 20] [1] rfl rfl rfl (by decide) rfl) rfl hl.1 (Nat.le_of_ble_eq_true rfl) dL_law_1862 ⟨by omega, by omega⟩ hS hA (fun r u H locs hw hP hD hS => ?_)
  obtain rfl : r = o3.1 := congrArg Prod.fst hw
  obtain rfl : u = o3.2 := congrArg Prod.snd hw
  clear hw
  have hq := seg_permS (segs := [[cLo cyL qo 1 o1.2.1], (cM cyI mm o3.2), (cXo x an tr o1.2.2.1), (cH cyO (x 1) (x 2) 2 fl), (cXk cyI x o1.2.2.1), (cH cyO (x 4) (x 5) 6 fs), (cT cyI x (X_text o1.2.2.1)), (cSo an o1.2.2.2), (cG cyI an (S_green o1.2.2.2)), (cV cyI an (S_score o1.2.2.2)), (cSo tr tv), (cG cyI tr (S_green tv)), (cV cyI tr (S_score tv)), (cS cyI k0 w0), (cS cyI k1 w1), (cS cyI b0 v0), (cS cyI b1 v1), (cS cyI b2 v2), (cS cyI b3 v3), (cS cyI b4 v4), (cS cyI b5 v5)]) (R := [[cLo cyL qo 1 o1.2.1], (cXo x an tr o1.2.2.1), (cH cyO (x 1) (x 2) 2 fl), (cXk cyI x o1.2.2.1), (cH cyO (x 4) (x 5) 6 fs), (cT cyI x (X_text o1.2.2.1)), (cSo an o1.2.2.2), (cG cyI an (S_green o1.2.2.2)), (cV cyI an (S_score o1.2.2.2)), (cSo tr tv), (cG cyI tr (S_green tv)), (cV cyI tr (S_score tv)), (cS cyI k0 w0), (cS cyI k1 w1), (cS cyI b0 v0), (cS cyI b1 v1), (cS cyI b2 v2), (cS cyI b3 v3), (cS cyI b4 v4), (cS cyI b5 v5)]) (C := [(cM cyI mm o3.2)]) (n := 21) [0, 2, 3, 4, 5, 6, 7, 8, 9, 10, 11, 12, 13, 14, 15, 16, 17, 18, 19, 20] [1] rfl rfl rfl (by decide)
  have hP : va_P (dC, dI) vwCl (([[cLo cyL qo 1 o1.2.1], (cM cyI mm o3.2), (cXo x an tr o1.2.2.1), (cH cyO (x 1) (x 2) 2 fl), (cXk cyI x o1.2.2.1), (cH cyO (x 4) (x 5) 6 fs), (cT cyI x (X_text o1.2.2.1)), (cSo an o1.2.2.2), (cG cyI an (S_green o1.2.2.2)), (cV cyI an (S_score o1.2.2.2)), (cSo tr tv), (cG cyI tr (S_green tv)), (cV cyI tr (S_score tv)), (cS cyI k0 w0), (cS cyI k1 w1), (cS cyI b0 v0), (cS cyI b1 v1), (cS cyI b2 v2), (cS cyI b3 v3), (cS cyI b4 v4), (cS cyI b5 v5)] : List va_W).flatten) H := hP.perm hq
  have hD : va_D A (([[cLo cyL qo 1 o1.2.1], (cM cyI mm o3.2), (cXo x an tr o1.2.2.1), (cH cyO (x 1) (x 2) 2 fl), (cXk cyI x o1.2.2.1), (cH cyO (x 4) (x 5) 6 fs), (cT cyI x (X_text o1.2.2.1)), (cSo an o1.2.2.2), (cG cyI an (S_green o1.2.2.2)), (cV cyI an (S_score o1.2.2.2)), (cSo tr tv), (cG cyI tr (S_green tv)), (cV cyI tr (S_score tv)), (cS cyI k0 w0), (cS cyI k1 w1), (cS cyI b0 v0), (cS cyI b1 v1), (cS cyI b2 v2), (cS cyI b3 v3), (cS cyI b4 v4), (cS cyI b5 v5)] : List va_W).flatten) := hD.perm hq
  clear hq
  refine lv_istore (lv' := [(6, .int o3.1), (5, .int o1.1), (0, .ref b), (1, .ref (x 0)), (2, .ref (mm 0)), (3, .ref qo), (4, .int i)]) hx hb dL_law_1865 hl (by decide) rfl (fun ls hl => ?_)
  refine lv_aload_n hx hb dL_law_1867 rfl (lv_at hl 4 rfl) ?_
  obtain ⟨o5, h6, hF⟩ := obd hF
  refine wcRVi (As := []) (rest := []) (b := (mm 0)) ⟨hx, hb, hml, hown, hts⟩ (met_X6_thrown l dC dI cyI cyO cyL mm N o3.2  o5 h6) (cwV 0 hts (gV w_methodLink_L_143 w_instanceMethod_X6_thrown w_selects_X6_thrown w_initialized_X6 w_code_X6_thrown) rfl rfl rfl (by decide +kernel) ⟨Nat.le_trans (Nat.le_of_ble_eq_true rfl) hRf, Nat.le_trans (Nat.le_of_ble_eq_true rfl) hRl⟩) (va_recv hK.1 hP (ci := 6) (q0 := 1) rfl rfl) hP hK [1, 2, 3, 4, 5, 6, 7, 8] rfl rfl hl.1 (Nat.le_of_ble_eq_true rfl) dL_law_1868 ⟨by omega, by omega⟩ hS (fun r H locs hw hP hS => ?_)
  have hw := hw.symm
  subst hw
  refine lv_iload hx hb dL_law_1871 (lv_at hl 1 rfl) ?_
  refine lv_icmp_eq (tgt := 1878) hx hb dL_law_1873 (by decide) (fun c7 => ?_) (fun c7 => ?_)
  · have hF := itp c7 hF
    refine lv_iload hx hb dL_law_1878 (lv_at hl 1 rfl) ?_
    obtain ⟨j1895, hj1895, hF⟩ := jn_use hF
    have hJ1895 : ∀ (s1895 : Unit) (H : Heap) (locs : List Loc) (ls : Array Slot), va_P (dC, dI) vwCl (([[cLo cyL qo 1 o1.2.1], (cM cyI mm o3.2), (cXo x an tr o1.2.2.1), (cH cyO (x 1) (x 2) 2 fl), (cXk cyI x o1.2.2.1), (cH cyO (x 4) (x 5) 6 fs), (cT cyI x (X_text o1.2.2.1)), (cSo an o1.2.2.2), (cG cyI an (S_green o1.2.2.2)), (cV cyI an (S_score o1.2.2.2)), (cSo tr tv), (cG cyI tr (S_green tv)), (cV cyI tr (S_score tv)), (cS cyI k0 w0), (cS cyI k1 w1), (cS cyI b0 v0), (cS cyI b1 v1), (cS cyI b2 v2), (cS cyI b3 v3), (cS cyI b4 v4), (cS cyI b5 v5)] : List va_W).flatten) H → va_D A (([[cLo cyL qo 1 o1.2.1], (cM cyI mm o3.2), (cXo x an tr o1.2.2.1), (cH cyO (x 1) (x 2) 2 fl), (cXk cyI x o1.2.2.1), (cH cyO (x 4) (x 5) 6 fs), (cT cyI x (X_text o1.2.2.1)), (cSo an o1.2.2.2), (cG cyI an (S_green o1.2.2.2)), (cV cyI an (S_score o1.2.2.2)), (cSo tr tv), (cG cyI tr (S_green tv)), (cV cyI tr (S_score tv)), (cS cyI k0 w0), (cS cyI k1 w1), (cS cyI b0 v0), (cS cyI b1 v1), (cS cyI b2 v2), (cS cyI b3 v3), (cS cyI b4 v4), (cS cyI b5 v5)] : List va_W).flatten) → va_S A s.heap H locs → lv_has ls 9 [(0, .ref b), (1, .ref (x 0)), (2, .ref (mm 0)), (3, .ref qo), (4, .int i)] → j1895 s1895 = some out → W p l e R s m args below meth c H locs (cells + 1) (slots + 6) Q (F0 m 1895 ls []) := by
      intro s1895 H locs ls hP hD hS hl hF
      have hF := (congrFun hj1895 s1895).symm.trans hF
      refine lv_goto (tgt := 2733) hx hb dL_law_1895 (by decide) ?_
      obtain rfl := Option.some.inj hF
      refine W.widen (k := cells + 4) (n := slots + 24) (by omega) (by omega) ?_
      exact kk _ _ _ hP hD hS (lv_sub hl [0, 1, 2, 3, 4] rfl)
    refine lv_if_ne (tgt := 1895) hx hb dL_law_1880 (by decide) (fun c8 => ?_) (fun c8 => ?_)
    · have hF := itn c8 hF
      exact hJ1895 () _ _ _ hP hD hS (lv_sub hl [2, 3, 4, 5, 6] rfl) hF
    · have hF := itp c8 hF
      refine lv_aload_n hx hb dL_law_1883 rfl (lv_at hl 5 rfl) ?_
      refine lv_iconst (v := 0) hx hb dL_law_1884 (by decide) ?_
      refine va_lald hx hb hK.1 hP 0 2 rfl rfl (i := (0 : Int32)) (show ixok (0 : Int32) 1 by decide) dL_law_1885 ?_
      refine lv_iload hx hb dL_law_1886 (lv_at hl 0 rfl) ?_
      refine lv_i2l (v := (o3.1).toInt64) hx hb dL_law_1888 rfl ?_
      refine W.lcmp hx hb dL_law_1889 ?_
      refine lv_if_eq (tgt := 1895) hx hb dL_law_1890 (by decide) (fun c9 => ?_) (fun c9 => ?_)
      · have hF := itp c9 hF
        exact hJ1895 () _ _ _ hP hD hS (lv_sub hl [2, 3, 4, 5, 6] rfl) hF
      · have hF := itn c9 hF
        refine lv_iconst (v := 0) hx hb dL_law_1893 (by decide) ?_
        cases hF
  · have hF := itn c7 hF
    refine lv_iconst (v := 0) hx hb dL_law_1876 (by decide) ?_
    cases hF
theorem dL_law_1898 : decode cL_law 1898 = .ok (.aload_n 1, 1) := by decide +kernel
theorem dL_law_1899 : decode cL_law 1899 = .ok (.invokevirtual 277, 3) := by decide +kernel
theorem dL_law_1902 : decode cL_law 1902 = .ok (.aload_n 2, 1) := by decide +kernel
theorem dL_law_1903 : decode cL_law 1903 = .ok (.invokevirtual 280, 3) := by decide +kernel
theorem dL_law_1906 : decode cL_law 1906 = .ok (.if_icmp .eq 827, 3) := by decide +kernel
theorem dL_law_1909 : decode cL_law 1909 = .ok (.iconst 0, 1) := by decide +kernel
def f_law39 (N L : Nat) (xs : Nat → Int32) (i : Int32) (fo : (Nat → Int64)) (mv : MV) (xv : XV) (nv : SV) (tv : SV) (w0 : SV) (w1 : SV) (v0 : SV) (v1 : SV) (v2 : SV) (v3 : SV) (v4 : SV) (v5 : SV) : Option ((Nat → Int64) × MV × XV × SV × SV × SV × SV × SV × SV × SV × SV × SV × SV) :=
  (f_X5_spread N xv nv).bind (fun o1 => (f_X6_spread N mv).bind (fun o3 => (if o1 = o3.1 then some (fo, o3.2, xv, nv, tv, w0, w1, v0, v1, v2, v3, v4, v5) else none)))
set_option maxHeartbeats 4000000 in
set_option maxRecDepth 100000 in
theorem law39 (hst : l.stackTraces = false) (hx : p.tables.exec = Jvm.exec) (hb : c.code = code) (hml : c.maxLocals = 9) (hown : s.vm.findClass RL = some m.cls) (hts : ∀ w ∈ wT, w.before args s = true) (hK : wK dC dI cyI cyO cyL s) (hZ : wZ z0 s) (hAz : ∀ q, A q → z0 ≤ q) (hz0 : z0 ≤ s.heap.size) (hA : ∀ q : Nat, s.heap.size ≤ q → A q) (hX : va_X b L xs s s.heap) (hbl : b < s.heap.size) (hbA : ¬ A b) (hRf : 11 ≤ R.frames) (hRl : 398 ≤ R.locals) (qo : Nat) (mm x an tr k0 k1 b0 b1 b2 b3 b4 b5 : Nat → Nat) (fl fs : Nat → Option Nat) (N : Nat) (fo : (Nat → Int64)) (mv : MV) (xv : XV) (nv : SV) (tv : SV) (w0 : SV) (w1 : SV) (v0 : SV) (v1 : SV) (v2 : SV) (v3 : SV) (v4 : SV) (v5 : SV) (i : Int32) (hl0 : fl 0 = some (k0 0)) (hl1 : fl 1 = some (k1 0)) (hs0 : fs 0 = some (b0 0)) (hs1 : fs 1 = some (b1 0)) (hs2 : fs 2 = some (b2 0)) (hs3 : fs 3 = some (b3 0)) (hs4 : fs 4 = some (b4 0)) (hs5 : fs 5 = some (b5 0)) (out : (Nat → Int64) × MV × XV × SV × SV × SV × SV × SV × SV × SV × SV × SV × SV) (hF : f_law39 N L xs i fo mv xv nv tv w0 w1 v0 v1 v2 v3 v4 v5 = some out) (hP : va_P (dC, dI) vwCl (([[cLo cyL qo 1 fo], (cM cyI mm mv), (cXo x an tr xv), (cH cyO (x 1) (x 2) 2 fl), (cXk cyI x xv), (cH cyO (x 4) (x 5) 6 fs), (cT cyI x (X_text xv)), (cSo an nv), (cG cyI an (S_green nv)), (cV cyI an (S_score nv)), (cSo tr tv), (cG cyI tr (S_green tv)), (cV cyI tr (S_score tv)), (cS cyI k0 w0), (cS cyI k1 w1), (cS cyI b0 v0), (cS cyI b1 v1), (cS cyI b2 v2), (cS cyI b3 v3), (cS cyI b4 v4), (cS cyI b5 v5)] : List va_W).flatten) H) (hD : va_D A (([[cLo cyL qo 1 fo], (cM cyI mm mv), (cXo x an tr xv), (cH cyO (x 1) (x 2) 2 fl), (cXk cyI x xv), (cH cyO (x 4) (x 5) 6 fs), (cT cyI x (X_text xv)), (cSo an nv), (cG cyI an (S_green nv)), (cV cyI an (S_score nv)), (cSo tr tv), (cG cyI tr (S_green tv)), (cV cyI tr (S_score tv)), (cS cyI k0 w0), (cS cyI k1 w1), (cS cyI b0 v0), (cS cyI b1 v1), (cS cyI b2 v2), (cS cyI b3 v3), (cS cyI b4 v4), (cS cyI b5 v5)] : List va_W).flatten)) (hS : va_S A s.heap H locs) (hl : lv_has ls 9 [(0, .ref b), (1, .ref (x 0)), (2, .ref (mm 0)), (3, .ref qo), (4, .int i)]) (hRc : cells + 4 ≤ R.cells) (hRs : slots + 24 ≤ R.slots) (kk : ∀ (H : Heap) (locs : List Loc) (ls : Array Slot), va_P (dC, dI) vwCl (([[cLo cyL qo 1 out.1], (cM cyI mm out.2.1), (cXo x an tr out.2.2.1), (cH cyO (x 1) (x 2) 2 fl), (cXk cyI x out.2.2.1), (cH cyO (x 4) (x 5) 6 fs), (cT cyI x (X_text out.2.2.1)), (cSo an out.2.2.2.1), (cG cyI an (S_green out.2.2.2.1)), (cV cyI an (S_score out.2.2.2.1)), (cSo tr out.2.2.2.2.1), (cG cyI tr (S_green out.2.2.2.2.1)), (cV cyI tr (S_score out.2.2.2.2.1)), (cS cyI k0 out.2.2.2.2.2.1), (cS cyI k1 out.2.2.2.2.2.2.1), (cS cyI b0 out.2.2.2.2.2.2.2.1), (cS cyI b1 out.2.2.2.2.2.2.2.2.1), (cS cyI b2 out.2.2.2.2.2.2.2.2.2.1), (cS cyI b3 out.2.2.2.2.2.2.2.2.2.2.1), (cS cyI b4 out.2.2.2.2.2.2.2.2.2.2.2.1), (cS cyI b5 out.2.2.2.2.2.2.2.2.2.2.2.2)] : List va_W).flatten) H → va_D A (([[cLo cyL qo 1 out.1], (cM cyI mm out.2.1), (cXo x an tr out.2.2.1), (cH cyO (x 1) (x 2) 2 fl), (cXk cyI x out.2.2.1), (cH cyO (x 4) (x 5) 6 fs), (cT cyI x (X_text out.2.2.1)), (cSo an out.2.2.2.1), (cG cyI an (S_green out.2.2.2.1)), (cV cyI an (S_score out.2.2.2.1)), (cSo tr out.2.2.2.2.1), (cG cyI tr (S_green out.2.2.2.2.1)), (cV cyI tr (S_score out.2.2.2.2.1)), (cS cyI k0 out.2.2.2.2.2.1), (cS cyI k1 out.2.2.2.2.2.2.1), (cS cyI b0 out.2.2.2.2.2.2.2.1), (cS cyI b1 out.2.2.2.2.2.2.2.2.1), (cS cyI b2 out.2.2.2.2.2.2.2.2.2.1), (cS cyI b3 out.2.2.2.2.2.2.2.2.2.2.1), (cS cyI b4 out.2.2.2.2.2.2.2.2.2.2.2.1), (cS cyI b5 out.2.2.2.2.2.2.2.2.2.2.2.2)] : List va_W).flatten) → va_S A s.heap H locs → lv_has ls 9 [(0, .ref b), (1, .ref (x 0)), (2, .ref (mm 0)), (3, .ref qo), (4, .int i)] → W p l e R s m args below meth c H locs (cells + 4) (slots + 24) Q (F0 m 2733 ls [])) : W p l e R s m args below meth c H locs cells slots Q (F0 m 1898 ls []) := by
  unfold f_law39 at hF
  refine lv_aload_n hx hb dL_law_1898 rfl (lv_at hl 1 rfl) ?_
  obtain ⟨o1, h2, hF⟩ := obd hF
  refine wcRVi (As := []) (rest := []) (b := (x 0)) ⟨hx, hb, hml, hown, hts⟩ (met_X5_spread l dC dI cyI cyO cyL x tr an fl fs N xv nv  o1 h2) (cwV 0 hts (gV w_methodLink_L_277 w_instanceMethod_X5_spread w_selects_X5_spread w_initialized_X5 w_code_X5_spread) rfl rfl rfl (by decide +kernel) ⟨Nat.le_trans (Nat.le_of_ble_eq_true rfl) hRf, Nat.le_trans (Nat.le_of_ble_eq_true rfl) hRl⟩) (va_recv hK.1 hP (ci := 5) (q0 := 9) rfl rfl) hP hK [9, 10, 11, 12, 13, 14, 15, 16, 17, 18, 19, 20, 21, 22, 23, 24, 25, 26, 27, 28, 29] rfl rfl hl.1 (Nat.le_of_ble_eq_true rfl) dL_law_1899 ⟨by omega, by omega⟩ hS (fun r H locs hw hP hS => ?_)
  have hw := hw.symm
  subst hw
  refine lv_aload_n hx hb dL_law_1902 rfl (lv_at hl 2 rfl) ?_
  obtain ⟨o3, h4, hF⟩ := obd hF
  refine wcPVi (As := []) (rest := [.int o1]) (wr := ([[cLo cyL qo 1 fo], (cXo x an tr xv), (cH cyO (x 1) (x 2) 2 fl), (cXk cyI x xv), (cH cyO (x 4) (x 5) 6 fs), (cT cyI x (X_text xv)), (cSo an nv), (cG cyI an (S_green nv)), (cV cyI an (S_score nv)), (cSo tr tv), (cG cyI tr (S_green tv)), (cV cyI tr (S_score tv)), (cS cyI k0 w0), (cS cyI k1 w1), (cS cyI b0 v0), (cS cyI b1 v1), (cS cyI b2 v2), (cS cyI b3 v3), (cS cyI b4 v4), (cS cyI b5 v5)] : List va_W).flatten) (b := (mm 0)) ⟨hx, hb, hml, hown, hts⟩ (met_X6_spread l dC dI cyI cyO cyL mm _ N mv  o3 h4) (cwV 0 hts (gV w_methodLink_L_280 w_instanceMethod_X6_spread w_selects_X6_spread w_initialized_X6 w_code_X6_spread) rfl rfl rfl (by decide +kernel) ⟨Nat.le_trans (Nat.le_of_ble_eq_true rfl) hRf, Nat.le_trans (Nat.le_of_ble_eq_true rfl) hRl⟩) (va_recv hK.1 hP (ci := 6) (q0 := 1) rfl rfl) hP hD hK (seg_perm (n := 21) (R := [[cLo cyL qo 1 fo], (cXo x an tr xv), (cH cyO (x 1) (x 2) 2 fl), (cXk cyI x xv), (cH cyO (x 4) (x 5) 6 fs), (cT cyI x (X_text xv)), (cSo an nv), (cG cyI an (S_green nv)), (cV cyI an (S_score nv)), (cSo tr tv), (cG cyI tr (S_green tv)), (cV cyI tr (S_score tv)), (cS cyI k0 w0), (cS cyI k1 w1), (cS cyI b0 v0), (cS cyI b1 v1), (cS cyI b2 v2), (cS cyI b3 v3), (cS cyI b4 v4), (cS cyI b5 v5)]) (C := [(cM cyI mm mv)]) [0, 2, 3, 4, 5, 6, 7, 8, 9, 10, 11, 12, 13, 14, 15, 16, 17, 18, 19, 20] [1] rfl rfl rfl (by decide) rfl) rfl hl.1 (Nat.le_of_ble_eq_true rfl) dL_law_1903 ⟨by omega, by omega⟩ hS hA (fun r u H locs hw hP hD hS => ?_)
  obtain rfl : r = o3.1 := congrArg Prod.fst hw
  obtain rfl : u = o3.2 := congrArg Prod.snd hw
  clear hw
  have hq := seg_permS (segs := [[cLo cyL qo 1 fo], (cM cyI mm o3.2), (cXo x an tr xv), (cH cyO (x 1) (x 2) 2 fl), (cXk cyI x xv), (cH cyO (x 4) (x 5) 6 fs), (cT cyI x (X_text xv)), (cSo an nv), (cG cyI an (S_green nv)), (cV cyI an (S_score nv)), (cSo tr tv), (cG cyI tr (S_green tv)), (cV cyI tr (S_score tv)), (cS cyI k0 w0), (cS cyI k1 w1), (cS cyI b0 v0), (cS cyI b1 v1), (cS cyI b2 v2), (cS cyI b3 v3), (cS cyI b4 v4), (cS cyI b5 v5)]) (R := [[cLo cyL qo 1 fo], (cXo x an tr xv), (cH cyO (x 1) (x 2) 2 fl), (cXk cyI x xv), (cH cyO (x 4) (x 5) 6 fs), (cT cyI x (X_text xv)), (cSo an nv), (cG cyI an (S_green nv)), (cV cyI an (S_score nv)), (cSo tr tv), (cG cyI tr (S_green tv)), (cV cyI tr (S_score tv)), (cS cyI k0 w0), (cS cyI k1 w1), (cS cyI b0 v0), (cS cyI b1 v1), (cS cyI b2 v2), (cS cyI b3 v3), (cS cyI b4 v4), (cS cyI b5 v5)]) (C := [(cM cyI mm o3.2)]) (n := 21) [0, 2, 3, 4, 5, 6, 7, 8, 9, 10, 11, 12, 13, 14, 15, 16, 17, 18, 19, 20] [1] rfl rfl rfl (by decide)
  have hP : va_P (dC, dI) vwCl (([[cLo cyL qo 1 fo], (cM cyI mm o3.2), (cXo x an tr xv), (cH cyO (x 1) (x 2) 2 fl), (cXk cyI x xv), (cH cyO (x 4) (x 5) 6 fs), (cT cyI x (X_text xv)), (cSo an nv), (cG cyI an (S_green nv)), (cV cyI an (S_score nv)), (cSo tr tv), (cG cyI tr (S_green tv)), (cV cyI tr (S_score tv)), (cS cyI k0 w0), (cS cyI k1 w1), (cS cyI b0 v0), (cS cyI b1 v1), (cS cyI b2 v2), (cS cyI b3 v3), (cS cyI b4 v4), (cS cyI b5 v5)] : List va_W).flatten) H := hP.perm hq
  have hD : va_D A (([[cLo cyL qo 1 fo], (cM cyI mm o3.2), (cXo x an tr xv), (cH cyO (x 1) (x 2) 2 fl), (cXk cyI x xv), (cH cyO (x 4) (x 5) 6 fs), (cT cyI x (X_text xv)), (cSo an nv), (cG cyI an (S_green nv)), (cV cyI an (S_score nv)), (cSo tr tv), (cG cyI tr (S_green tv)), (cV cyI tr (S_score tv)), (cS cyI k0 w0), (cS cyI k1 w1), (cS cyI b0 v0), (cS cyI b1 v1), (cS cyI b2 v2), (cS cyI b3 v3), (cS cyI b4 v4), (cS cyI b5 v5)] : List va_W).flatten) := hD.perm hq
  clear hq
  refine lv_icmp_eq (tgt := 2733) hx hb dL_law_1906 (by decide) (fun c5 => ?_) (fun c5 => ?_)
  · have hF := itp c5 hF
    obtain rfl := Option.some.inj hF
    refine W.widen (k := cells + 4) (n := slots + 24) (by omega) (by omega) ?_
    exact kk _ _ _ hP hD hS (lv_sub hl [0, 1, 2, 3, 4] rfl)
  · have hF := itn c5 hF
    refine lv_iconst (v := 0) hx hb dL_law_1909 (by decide) ?_
    cases hF
theorem dL_law_1911 : decode cL_law 1911 = .ok (.aload_n 1, 1) := by decide +kernel
theorem dL_law_1912 : decode cL_law 1912 = .ok (.aload_n 0, 1) := by decide +kernel
theorem dL_law_1913 : decode cL_law 1913 = .ok (.iload 4, 2) := by decide +kernel
theorem dL_law_1915 : decode cL_law 1915 = .ok (.iconst 1, 1) := by decide +kernel
theorem dL_law_1916 : decode cL_law 1916 = .ok (.iadd, 1) := by decide +kernel
theorem dL_law_1917 : decode cL_law 1917 = .ok (.iaload, 1) := by decide +kernel
theorem dL_law_1918 : decode cL_law 1918 = .ok (.aload_n 0, 1) := by decide +kernel
theorem dL_law_1919 : decode cL_law 1919 = .ok (.iload 4, 2) := by decide +kernel
theorem dL_law_1921 : decode cL_law 1921 = .ok (.iconst 2, 1) := by decide +kernel
theorem dL_law_1922 : decode cL_law 1922 = .ok (.iadd, 1) := by decide +kernel
theorem dL_law_1923 : decode cL_law 1923 = .ok (.iaload, 1) := by decide +kernel
theorem dL_law_1924 : decode cL_law 1924 = .ok (.aload_n 0, 1) := by decide +kernel
theorem dL_law_1925 : decode cL_law 1925 = .ok (.iload 4, 2) := by decide +kernel
theorem dL_law_1927 : decode cL_law 1927 = .ok (.iconst 3, 1) := by decide +kernel
theorem dL_law_1928 : decode cL_law 1928 = .ok (.iadd, 1) := by decide +kernel
theorem dL_law_1929 : decode cL_law 1929 = .ok (.iaload, 1) := by decide +kernel
theorem dL_law_1930 : decode cL_law 1930 = .ok (.aload_n 0, 1) := by decide +kernel
theorem dL_law_1931 : decode cL_law 1931 = .ok (.iload 4, 2) := by decide +kernel
theorem dL_law_1933 : decode cL_law 1933 = .ok (.iconst 4, 1) := by decide +kernel
theorem dL_law_1934 : decode cL_law 1934 = .ok (.iadd, 1) := by decide +kernel
theorem dL_law_1935 : decode cL_law 1935 = .ok (.iaload, 1) := by decide +kernel
theorem dL_law_1936 : decode cL_law 1936 = .ok (.aload_n 3, 1) := by decide +kernel
theorem dL_law_1937 : decode cL_law 1937 = .ok (.invokestatic 281, 3) := by decide +kernel
theorem dL_law_1940 : decode cL_law 1940 = .ok (.istore 5, 2) := by decide +kernel
theorem dL_law_1942 : decode cL_law 1942 = .ok (.aload_n 2, 1) := by decide +kernel
theorem dL_law_1943 : decode cL_law 1943 = .ok (.aload_n 0, 1) := by decide +kernel
theorem dL_law_1944 : decode cL_law 1944 = .ok (.iload 4, 2) := by decide +kernel
theorem dL_law_1946 : decode cL_law 1946 = .ok (.iconst 1, 1) := by decide +kernel
theorem dL_law_1947 : decode cL_law 1947 = .ok (.iadd, 1) := by decide +kernel
theorem dL_law_1948 : decode cL_law 1948 = .ok (.iaload, 1) := by decide +kernel
theorem dL_law_1949 : decode cL_law 1949 = .ok (.aload_n 0, 1) := by decide +kernel
theorem dL_law_1950 : decode cL_law 1950 = .ok (.iload 4, 2) := by decide +kernel
theorem dL_law_1952 : decode cL_law 1952 = .ok (.iconst 2, 1) := by decide +kernel
theorem dL_law_1953 : decode cL_law 1953 = .ok (.iadd, 1) := by decide +kernel
theorem dL_law_1954 : decode cL_law 1954 = .ok (.iaload, 1) := by decide +kernel
theorem dL_law_1955 : decode cL_law 1955 = .ok (.aload_n 0, 1) := by decide +kernel
theorem dL_law_1956 : decode cL_law 1956 = .ok (.iload 4, 2) := by decide +kernel
theorem dL_law_1958 : decode cL_law 1958 = .ok (.iconst 3, 1) := by decide +kernel
theorem dL_law_1959 : decode cL_law 1959 = .ok (.iadd, 1) := by decide +kernel
theorem dL_law_1960 : decode cL_law 1960 = .ok (.iaload, 1) := by decide +kernel
theorem dL_law_1961 : decode cL_law 1961 = .ok (.aload_n 0, 1) := by decide +kernel
theorem dL_law_1962 : decode cL_law 1962 = .ok (.iload 4, 2) := by decide +kernel
theorem dL_law_1964 : decode cL_law 1964 = .ok (.iconst 4, 1) := by decide +kernel
theorem dL_law_1965 : decode cL_law 1965 = .ok (.iadd, 1) := by decide +kernel
theorem dL_law_1966 : decode cL_law 1966 = .ok (.iaload, 1) := by decide +kernel
theorem dL_law_1967 : decode cL_law 1967 = .ok (.invokevirtual 284, 3) := by decide +kernel
theorem dL_law_1970 : decode cL_law 1970 = .ok (.istore 6, 2) := by decide +kernel
theorem dL_law_1972 : decode cL_law 1972 = .ok (.aload_n 2, 1) := by decide +kernel
theorem dL_law_1973 : decode cL_law 1973 = .ok (.invokevirtual 143, 3) := by decide +kernel
theorem dL_law_1976 : decode cL_law 1976 = .ok (.iload 5, 2) := by decide +kernel
theorem dL_law_1978 : decode cL_law 1978 = .ok (.if_icmp .eq 5, 3) := by decide +kernel
theorem dL_law_1981 : decode cL_law 1981 = .ok (.iconst 0, 1) := by decide +kernel
theorem dL_law_1983 : decode cL_law 1983 = .ok (.iload 5, 2) := by decide +kernel
theorem dL_law_1985 : decode cL_law 1985 = .ok (.ifCond .ne 15, 3) := by decide +kernel
theorem dL_law_1988 : decode cL_law 1988 = .ok (.aload_n 3, 1) := by decide +kernel
theorem dL_law_1989 : decode cL_law 1989 = .ok (.iconst 0, 1) := by decide +kernel
theorem dL_law_1990 : decode cL_law 1990 = .ok (.laload, 1) := by decide +kernel
theorem dL_law_1991 : decode cL_law 1991 = .ok (.iload 6, 2) := by decide +kernel
theorem dL_law_1993 : decode cL_law 1993 = .ok (.i2l, 1) := by decide +kernel
theorem dL_law_1994 : decode cL_law 1994 = .ok (.lcmp, 1) := by decide +kernel
theorem dL_law_1995 : decode cL_law 1995 = .ok (.ifCond .eq 5, 3) := by decide +kernel
theorem dL_law_1998 : decode cL_law 1998 = .ok (.iconst 0, 1) := by decide +kernel
theorem dL_law_2000 : decode cL_law 2000 = .ok (.goto 733, 3) := by decide +kernel
def f_law40 (N L : Nat) (xs : Nat → Int32) (i : Int32) (fo : (Nat → Int64)) (mv : MV) (xv : XV) (nv : SV) (tv : SV) (w0 : SV) (w1 : SV) (v0 : SV) (v1 : SV) (v2 : SV) (v3 : SV) (v4 : SV) (v5 : SV) : Option ((Nat → Int64) × MV × XV × SV × SV × SV × SV × SV × SV × SV × SV × SV × SV) :=
  gd (ixok (i + (1 : Int32)) L) (gd (ixok (i + (2 : Int32)) L) (gd (ixok (i + (3 : Int32)) L) (gd (ixok (i + (4 : Int32)) L) ((f_L_curveBySteps N fo xv nv (xs (i + (1 : Int32)).toNatClampNeg) (xs (i + (2 : Int32)).toNatClampNeg) (xs (i + (3 : Int32)).toNatClampNeg) (xs (i + (4 : Int32)).toNatClampNeg)).bind (fun o5 => gd (ixok (i + (1 : Int32)) L) (gd (ixok (i + (2 : Int32)) L) (gd (ixok (i + (3 : Int32)) L) (gd (ixok (i + (4 : Int32)) L) ((f_X6_curveBySteps N mv (xs (i + (1 : Int32)).toNatClampNeg) (xs (i + (2 : Int32)).toNatClampNeg) (xs (i + (3 : Int32)).toNatClampNeg) (xs (i + (4 : Int32)).toNatClampNeg)).bind (fun o11 => (f_X6_thrown N o11.2).bind (fun o13 => (if o13 = o5.1 then jn (fun (s2000 : Unit) => some (o5.2.1, o11.2, o5.2.2.1, o5.2.2.2, tv, w0, w1, v0, v1, v2, v3, v4, v5)) (fun (j2000 : (Unit) → Option ((Nat → Int64) × MV × XV × SV × SV × SV × SV × SV × SV × SV × SV × SV × SV)) => (if o5.1 = 0 then (if (lg_cmp (o5.2.1 (0 : Int32).toNatClampNeg) ((o11.1).toInt64)) = 0 then j2000 () else none) else j2000 ())) else none))))))))))))
set_option maxHeartbeats 4000000 in
set_option maxRecDepth 100000 in
theorem law40 (hst : l.stackTraces = false) (hx : p.tables.exec = Jvm.exec) (hb : c.code = code) (hml : c.maxLocals = 9) (hown : s.vm.findClass RL = some m.cls) (hts : ∀ w ∈ wT, w.before args s = true) (hK : wK dC dI cyI cyO cyL s) (hZ : wZ z0 s) (hAz : ∀ q, A q → z0 ≤ q) (hz0 : z0 ≤ s.heap.size) (hA : ∀ q : Nat, s.heap.size ≤ q → A q) (hX : va_X b L xs s s.heap) (hbl : b < s.heap.size) (hbA : ¬ A b) (hRf : 11 ≤ R.frames) (hRl : 398 ≤ R.locals) (qo : Nat) (mm x an tr k0 k1 b0 b1 b2 b3 b4 b5 : Nat → Nat) (fl fs : Nat → Option Nat) (N : Nat) (fo : (Nat → Int64)) (mv : MV) (xv : XV) (nv : SV) (tv : SV) (w0 : SV) (w1 : SV) (v0 : SV) (v1 : SV) (v2 : SV) (v3 : SV) (v4 : SV) (v5 : SV) (i : Int32) (hl0 : fl 0 = some (k0 0)) (hl1 : fl 1 = some (k1 0)) (hs0 : fs 0 = some (b0 0)) (hs1 : fs 1 = some (b1 0)) (hs2 : fs 2 = some (b2 0)) (hs3 : fs 3 = some (b3 0)) (hs4 : fs 4 = some (b4 0)) (hs5 : fs 5 = some (b5 0)) (out : (Nat → Int64) × MV × XV × SV × SV × SV × SV × SV × SV × SV × SV × SV × SV) (hF : f_law40 N L xs i fo mv xv nv tv w0 w1 v0 v1 v2 v3 v4 v5 = some out) (hP : va_P (dC, dI) vwCl (([[cLo cyL qo 1 fo], (cM cyI mm mv), (cXo x an tr xv), (cH cyO (x 1) (x 2) 2 fl), (cXk cyI x xv), (cH cyO (x 4) (x 5) 6 fs), (cT cyI x (X_text xv)), (cSo an nv), (cG cyI an (S_green nv)), (cV cyI an (S_score nv)), (cSo tr tv), (cG cyI tr (S_green tv)), (cV cyI tr (S_score tv)), (cS cyI k0 w0), (cS cyI k1 w1), (cS cyI b0 v0), (cS cyI b1 v1), (cS cyI b2 v2), (cS cyI b3 v3), (cS cyI b4 v4), (cS cyI b5 v5)] : List va_W).flatten) H) (hD : va_D A (([[cLo cyL qo 1 fo], (cM cyI mm mv), (cXo x an tr xv), (cH cyO (x 1) (x 2) 2 fl), (cXk cyI x xv), (cH cyO (x 4) (x 5) 6 fs), (cT cyI x (X_text xv)), (cSo an nv), (cG cyI an (S_green nv)), (cV cyI an (S_score nv)), (cSo tr tv), (cG cyI tr (S_green tv)), (cV cyI tr (S_score tv)), (cS cyI k0 w0), (cS cyI k1 w1), (cS cyI b0 v0), (cS cyI b1 v1), (cS cyI b2 v2), (cS cyI b3 v3), (cS cyI b4 v4), (cS cyI b5 v5)] : List va_W).flatten)) (hS : va_S A s.heap H locs) (hl : lv_has ls 9 [(0, .ref b), (1, .ref (x 0)), (2, .ref (mm 0)), (3, .ref qo), (4, .int i)]) (hRc : cells + 4 ≤ R.cells) (hRs : slots + 24 ≤ R.slots) (kk : ∀ (H : Heap) (locs : List Loc) (ls : Array Slot), va_P (dC, dI) vwCl (([[cLo cyL qo 1 out.1], (cM cyI mm out.2.1), (cXo x an tr out.2.2.1), (cH cyO (x 1) (x 2) 2 fl), (cXk cyI x out.2.2.1), (cH cyO (x 4) (x 5) 6 fs), (cT cyI x (X_text out.2.2.1)), (cSo an out.2.2.2.1), (cG cyI an (S_green out.2.2.2.1)), (cV cyI an (S_score out.2.2.2.1)), (cSo tr out.2.2.2.2.1), (cG cyI tr (S_green out.2.2.2.2.1)), (cV cyI tr (S_score out.2.2.2.2.1)), (cS cyI k0 out.2.2.2.2.2.1), (cS cyI k1 out.2.2.2.2.2.2.1), (cS cyI b0 out.2.2.2.2.2.2.2.1), (cS cyI b1 out.2.2.2.2.2.2.2.2.1), (cS cyI b2 out.2.2.2.2.2.2.2.2.2.1), (cS cyI b3 out.2.2.2.2.2.2.2.2.2.2.1), (cS cyI b4 out.2.2.2.2.2.2.2.2.2.2.2.1), (cS cyI b5 out.2.2.2.2.2.2.2.2.2.2.2.2)] : List va_W).flatten) H → va_D A (([[cLo cyL qo 1 out.1], (cM cyI mm out.2.1), (cXo x an tr out.2.2.1), (cH cyO (x 1) (x 2) 2 fl), (cXk cyI x out.2.2.1), (cH cyO (x 4) (x 5) 6 fs), (cT cyI x (X_text out.2.2.1)), (cSo an out.2.2.2.1), (cG cyI an (S_green out.2.2.2.1)), (cV cyI an (S_score out.2.2.2.1)), (cSo tr out.2.2.2.2.1), (cG cyI tr (S_green out.2.2.2.2.1)), (cV cyI tr (S_score out.2.2.2.2.1)), (cS cyI k0 out.2.2.2.2.2.1), (cS cyI k1 out.2.2.2.2.2.2.1), (cS cyI b0 out.2.2.2.2.2.2.2.1), (cS cyI b1 out.2.2.2.2.2.2.2.2.1), (cS cyI b2 out.2.2.2.2.2.2.2.2.2.1), (cS cyI b3 out.2.2.2.2.2.2.2.2.2.2.1), (cS cyI b4 out.2.2.2.2.2.2.2.2.2.2.2.1), (cS cyI b5 out.2.2.2.2.2.2.2.2.2.2.2.2)] : List va_W).flatten) → va_S A s.heap H locs → lv_has ls 9 [(0, .ref b), (1, .ref (x 0)), (2, .ref (mm 0)), (3, .ref qo), (4, .int i)] → W p l e R s m args below meth c H locs (cells + 4) (slots + 24) Q (F0 m 2733 ls [])) : W p l e R s m args below meth c H locs cells slots Q (F0 m 1911 ls []) := by
  unfold f_law40 at hF
  refine lv_aload_n hx hb dL_law_1911 rfl (lv_at hl 1 rfl) ?_
  refine lv_aload_n hx hb dL_law_1912 rfl (lv_at hl 0 rfl) ?_
  refine lv_iload hx hb dL_law_1913 (lv_at hl 4 rfl) ?_
  refine lv_iconst (v := 1) hx hb dL_law_1915 (by decide) ?_
  refine lv_iadd hx hb dL_law_1916 ?_
  obtain ⟨hg1, hF⟩ := gd_use hF
  refine va_sld hx hb hX hbl hbA hS hg1 dL_law_1917 ?_
  refine lv_aload_n hx hb dL_law_1918 rfl (lv_at hl 0 rfl) ?_
  refine lv_iload hx hb dL_law_1919 (lv_at hl 4 rfl) ?_
  refine lv_iconst (v := 2) hx hb dL_law_1921 (by decide) ?_
  refine lv_iadd hx hb dL_law_1922 ?_
  obtain ⟨hg2, hF⟩ := gd_use hF
  refine va_sld hx hb hX hbl hbA hS hg2 dL_law_1923 ?_
  refine lv_aload_n hx hb dL_law_1924 rfl (lv_at hl 0 rfl) ?_
  refine lv_iload hx hb dL_law_1925 (lv_at hl 4 rfl) ?_
  refine lv_iconst (v := 3) hx hb dL_law_1927 (by decide) ?_
  refine lv_iadd hx hb dL_law_1928 ?_
  obtain ⟨hg3, hF⟩ := gd_use hF
  refine va_sld hx hb hX hbl hbA hS hg3 dL_law_1929 ?_
  refine lv_aload_n hx hb dL_law_1930 rfl (lv_at hl 0 rfl) ?_
  refine lv_iload hx hb dL_law_1931 (lv_at hl 4 rfl) ?_
  refine lv_iconst (v := 4) hx hb dL_law_1933 (by decide) ?_
  refine lv_iadd hx hb dL_law_1934 ?_
  obtain ⟨hg4, hF⟩ := gd_use hF
  refine va_sld hx hb hX hbl hbA hS hg4 dL_law_1935 ?_
  refine lv_aload_n hx hb dL_law_1936 rfl (lv_at hl 3 rfl) ?_
  obtain ⟨o5, h6, hF⟩ := obd hF
  refine wcLi (As := [.ref (x 0), .int (xs (i + (1 : Int32)).toNatClampNeg), .int (xs (i + (2 : Int32)).toNatClampNeg), .int (xs (i + (3 : Int32)).toNatClampNeg), .int (xs (i + (4 : Int32)).toNatClampNeg), .ref qo]) (rest := []) (wr := ([(cM cyI mm mv), (cSo tr tv), (cG cyI tr (S_green tv)), (cV cyI tr (S_score tv)), (cS cyI k0 w0), (cS cyI k1 w1), (cS cyI b0 v0), (cS cyI b1 v1), (cS cyI b2 v2), (cS cyI b3 v3), (cS cyI b4 v4), (cS cyI b5 v5)] : List va_W).flatten) ⟨hx, hb, hml, hown, hts⟩ (met_L_curveBySteps l z0 hst dC dI cyI cyO cyL qo x tr an fl fs _ N fo xv nv (xs (i + (1 : Int32)).toNatClampNeg) (xs (i + (2 : Int32)).toNatClampNeg) (xs (i + (3 : Int32)).toNatClampNeg) (xs (i + (4 : Int32)).toNatClampNeg) o5 h6) (vx_cwSW 6 hts (gS w_methodLink_L_281 w_static_L_curveBySteps w_initialized_L w_codeW_L_curveBySteps) rfl rfl rfl (by decide +kernel) ⟨Nat.le_trans (Nat.le_of_ble_eq_true rfl) hRf, Nat.le_trans (Nat.le_of_ble_eq_true rfl) hRl⟩) hP hD hK hZ hAz hz0 (seg_perm (n := 21) (R := [(cM cyI mm mv), (cSo tr tv), (cG cyI tr (S_green tv)), (cV cyI tr (S_score tv)), (cS cyI k0 w0), (cS cyI k1 w1), (cS cyI b0 v0), (cS cyI b1 v1), (cS cyI b2 v2), (cS cyI b3 v3), (cS cyI b4 v4), (cS cyI b5 v5)]) (C := [[cLo cyL qo 1 fo], (cXo x an tr xv), (cH cyO (x 1) (x 2) 2 fl), (cXk cyI x xv), (cH cyO (x 4) (x 5) 6 fs), (cT cyI x (X_text xv)), (cSo an nv), (cG cyI an (S_green nv)), (cV cyI an (S_score nv))]) [1, 10, 11, 12, 13, 14, 15, 16, 17, 18, 19, 20] [0, 2, 3, 4, 5, 6, 7, 8, 9] rfl rfl rfl (by decide) rfl) rfl hl.1 (Nat.le_of_ble_eq_true rfl) dL_law_1937 ⟨by omega, by omega⟩ hS hA (fun r u H locs hw hP hD hS => ?_)
  obtain rfl : r = o5.1 := congrArg Prod.fst hw
  obtain rfl : u = o5.2 := congrArg Prod.snd hw
  clear hw
  have hq := seg_permS (segs := [[cLo cyL qo 1 o5.2.1], (cM cyI mm mv), (cXo x an tr o5.2.2.1), (cH cyO (x 1) (x 2) 2 fl), (cXk cyI x o5.2.2.1), (cH cyO (x 4) (x 5) 6 fs), (cT cyI x (X_text o5.2.2.1)), (cSo an o5.2.2.2), (cG cyI an (S_green o5.2.2.2)), (cV cyI an (S_score o5.2.2.2)), (cSo tr tv), (cG cyI tr (S_green tv)), (cV cyI tr (S_score tv)), (cS cyI k0 w0), (cS cyI k1 w1), (cS cyI b0 v0), (cS cyI b1 v1), (cS cyI b2 v2), (cS cyI b3 v3), (cS cyI b4 v4), (cS cyI b5 v5)]) (R := [(cM cyI mm mv), (cSo tr tv), (cG cyI tr (S_green tv)), (cV cyI tr (S_score tv)), (cS cyI k0 w0), (cS cyI k1 w1), (cS cyI b0 v0), (cS cyI b1 v1), (cS cyI b2 v2), (cS cyI b3 v3), (cS cyI b4 v4), (cS cyI b5 v5)]) (C := [[cLo cyL qo 1 o5.2.1], (cXo x an tr o5.2.2.1), (cH cyO (x 1) (x 2) 2 fl), (cXk cyI x o5.2.2.1), (cH cyO (x 4) (x 5) 6 fs), (cT cyI x (X_text o5.2.2.1)), (cSo an o5.2.2.2), (cG cyI an (S_green o5.2.2.2)), (cV cyI an (S_score o5.2.2.2))]) (n := 21) [1, 10, 11, 12, 13, 14, 15, 16, 17, 18, 19, 20] [0, 2, 3, 4, 5, 6, 7, 8, 9] rfl rfl rfl (by decide)
  have hP : va_P (dC, dI) vwCl (([[cLo cyL qo 1 o5.2.1], (cM cyI mm mv), (cXo x an tr o5.2.2.1), (cH cyO (x 1) (x 2) 2 fl), (cXk cyI x o5.2.2.1), (cH cyO (x 4) (x 5) 6 fs), (cT cyI x (X_text o5.2.2.1)), (cSo an o5.2.2.2), (cG cyI an (S_green o5.2.2.2)), (cV cyI an (S_score o5.2.2.2)), (cSo tr tv), (cG cyI tr (S_green tv)), (cV cyI tr (S_score tv)), (cS cyI k0 w0), (cS cyI k1 w1), (cS cyI b0 v0), (cS cyI b1 v1), (cS cyI b2 v2), (cS cyI b3 v3), (cS cyI b4 v4), (cS cyI b5 v5)] : List va_W).flatten) H := hP.perm hq
  have hD : va_D A (([[cLo cyL qo 1 o5.2.1], (cM cyI mm mv), (cXo x an tr o5.2.2.1), (cH cyO (x 1) (x 2) 2 fl), (cXk cyI x o5.2.2.1), (cH cyO (x 4) (x 5) 6 fs), (cT cyI x (X_text o5.2.2.1)), (cSo an o5.2.2.2), (cG cyI an (S_green o5.2.2.2)), (cV cyI an (S_score o5.2.2.2)), (cSo tr tv), (cG cyI tr (S_green tv)), (cV cyI tr (S_score tv)), (cS cyI k0 w0), (cS cyI k1 w1), (cS cyI b0 v0), (cS cyI b1 v1), (cS cyI b2 v2), (cS cyI b3 v3), (cS cyI b4 v4), (cS cyI b5 v5)] : List va_W).flatten) := hD.perm hq
  clear hq
  refine lv_istore (lv' := [(5, .int o5.1), (0, .ref b), (1, .ref (x 0)), (2, .ref (mm 0)), (3, .ref qo), (4, .int i)]) hx hb dL_law_1940 hl (by decide) rfl (fun ls hl => ?_)
  refine lv_aload_n hx hb dL_law_1942 rfl (lv_at hl 3 rfl) ?_
  refine lv_aload_n hx hb dL_law_1943 rfl (lv_at hl 1 rfl) ?_
  refine lv_iload hx hb dL_law_1944 (lv_at hl 5 rfl) ?_
  refine lv_iconst (v := 1) hx hb dL_law_1946 (by decide) ?_
  refine lv_iadd hx hb dL_law_1947 ?_
  obtain ⟨hg7, hF⟩ := gd_use hF
  refine va_sld hx hb hX hbl hbA hS hg7 dL_law_1948 ?_
  refine lv_aload_n hx hb dL_law_1949 rfl (lv_at hl 1 rfl) ?_
  refine lv_iload hx hb dL_law_1950 (lv_at hl 5 rfl) ?_
  refine lv_iconst (v := 2) hx hb dL_law_1952 (by decide) ?_
  refine lv_iadd hx hb dL_law_1953 ?_
  obtain ⟨hg8, hF⟩ := gd_use hF
  refine va_sld hx hb hX hbl hbA hS hg8 dL_law_1954 ?_
  refine lv_aload_n hx hb dL_law_1955 rfl (lv_at hl 1 rfl) ?_
  refine lv_iload hx hb dL_law_1956 (lv_at hl 5 rfl) ?_
  refine lv_iconst (v := 3) hx hb dL_law_1958 (by decide) ?_
  refine lv_iadd hx hb dL_law_1959 ?_
  obtain ⟨hg9, hF⟩ := gd_use hF
  refine va_sld hx hb hX hbl hbA hS hg9 dL_law_1960 ?_
  refine lv_aload_n hx hb dL_law_1961 rfl (lv_at hl 1 rfl) ?_
  refine lv_iload hx hb dL_law_1962 (lv_at hl 5 rfl) ?_
  refine lv_iconst (v := 4) hx hb dL_law_1964 (by decide) ?_
  refine lv_iadd hx hb dL_law_1965 ?_
  obtain ⟨hg10, hF⟩ := gd_use hF
  refine va_sld hx hb hX hbl hbA hS hg10 dL_law_1966 ?_
  obtain ⟨o11, h12, hF⟩ := obd hF
  refine wcPVi (As := [.int (xs (i + (1 : Int32)).toNatClampNeg), .int (xs (i + (2 : Int32)).toNatClampNeg), .int (xs (i + (3 : Int32)).toNatClampNeg), .int (xs (i + (4 : Int32)).toNatClampNeg)]) (rest := []) (wr := ([[cLo cyL qo 1 o5.2.1], (cXo x an tr o5.2.2.1), (cH cyO (x 1) (x 2) 2 fl), (cXk cyI x o5.2.2.1), (cH cyO (x 4) (x 5) 6 fs), (cT cyI x (X_text o5.2.2.1)), (cSo an o5.2.2.2), (cG cyI an (S_green o5.2.2.2)), (cV cyI an (S_score o5.2.2.2)), (cSo tr tv), (cG cyI tr (S_green tv)), (cV cyI tr (S_score tv)), (cS cyI k0 w0), (cS cyI k1 w1), (cS cyI b0 v0), (cS cyI b1 v1), (cS cyI b2 v2), (cS cyI b3 v3), (cS cyI b4 v4), (cS cyI b5 v5)] : List va_W).flatten) (b := (mm 0)) ⟨hx, hb, hml, hown, hts⟩ (met_X6_curveBySteps l dC dI cyI cyO cyL mm _ N mv (xs (i + (1 : Int32)).toNatClampNeg) (xs (i + (2 : Int32)).toNatClampNeg) (xs (i + (3 : Int32)).toNatClampNeg) (xs (i + (4 : Int32)).toNatClampNeg) o11 h12) (cwV 4 hts (gV w_methodLink_L_284 w_instanceMethod_X6_curveBySteps w_selects_X6_curveBySteps w_initialized_X6 w_code_X6_curveBySteps) rfl rfl rfl (by decide +kernel) ⟨Nat.le_trans (Nat.le_of_ble_eq_true rfl) hRf, Nat.le_trans (Nat.le_of_ble_eq_true rfl) hRl⟩) (va_recv hK.1 hP (ci := 6) (q0 := 1) rfl rfl) hP hD hK (seg_perm (n := 21) (R := [[cLo cyL qo 1 o5.2.1], (cXo x an tr o5.2.2.1), (cH cyO (x 1) (x 2) 2 fl), (cXk cyI x o5.2.2.1), (cH cyO (x 4) (x 5) 6 fs), (cT cyI x (X_text o5.2.2.1)), (cSo an o5.2.2.2), (cG cyI an (S_green o5.2.2.2)), (cV cyI an (S_score o5.2.2.2)), (cSo tr tv), (cG cyI tr (S_green tv)), (cV cyI tr (S_score tv)), (cS cyI k0 w0), (cS cyI k1 w1), (cS cyI b0 v0), (cS cyI b1 v1), (cS cyI b2 v2), (cS cyI b3 v3), (cS cyI b4 v4), (cS cyI b5 v5)]) (C := [(cM cyI mm mv)]) [0, 2, 3, 4, 5, 6, 7, 8, 9, 10, 11, 12, 13, 14, 15, 16, 17, 18, 19, 20] [1] rfl rfl rfl (by decide) rfl) rfl hl.1 (Nat.le_of_ble_eq_true rfl) dL_law_1967 ⟨by omega, by omega⟩ hS hA (fun r u H locs hw hP hD hS => ?_)
  obtain rfl : r = o11.1 := congrArg Prod.fst hw
  obtain rfl : u = o11.2 := congrArg Prod.snd hw
  clear hw
  have hq := seg_permS (segs := [[cLo cyL qo 1 o5.2.1], (cM cyI mm o11.2), (cXo x an tr o5.2.2.1), (cH cyO (x 1) (x 2) 2 fl), (cXk cyI x o5.2.2.1), (cH cyO (x 4) (x 5) 6 fs), (cT cyI x (X_text o5.2.2.1)), (cSo an o5.2.2.2), (cG cyI an (S_green o5.2.2.2)), (cV cyI an (S_score o5.2.2.2)), (cSo tr tv), (cG cyI tr (S_green tv)), (cV cyI tr (S_score tv)), (cS cyI k0 w0), (cS cyI k1 w1), (cS cyI b0 v0), (cS cyI b1 v1), (cS cyI b2 v2), (cS cyI b3 v3), (cS cyI b4 v4), (cS cyI b5 v5)]) (R := [[cLo cyL qo 1 o5.2.1], (cXo x an tr o5.2.2.1), (cH cyO (x 1) (x 2) 2 fl), (cXk cyI x o5.2.2.1), (cH cyO (x 4) (x 5) 6 fs), (cT cyI x (X_text o5.2.2.1)), (cSo an o5.2.2.2), (cG cyI an (S_green o5.2.2.2)), (cV cyI an (S_score o5.2.2.2)), (cSo tr tv), (cG cyI tr (S_green tv)), (cV cyI tr (S_score tv)), (cS cyI k0 w0), (cS cyI k1 w1), (cS cyI b0 v0), (cS cyI b1 v1), (cS cyI b2 v2), (cS cyI b3 v3), (cS cyI b4 v4), (cS cyI b5 v5)]) (C := [(cM cyI mm o11.2)]) (n := 21) [0, 2, 3, 4, 5, 6, 7, 8, 9, 10, 11, 12, 13, 14, 15, 16, 17, 18, 19, 20] [1] rfl rfl rfl (by decide)
  have hP : va_P (dC, dI) vwCl (([[cLo cyL qo 1 o5.2.1], (cM cyI mm o11.2), (cXo x an tr o5.2.2.1), (cH cyO (x 1) (x 2) 2 fl), (cXk cyI x o5.2.2.1), (cH cyO (x 4) (x 5) 6 fs), (cT cyI x (X_text o5.2.2.1)), (cSo an o5.2.2.2), (cG cyI an (S_green o5.2.2.2)), (cV cyI an (S_score o5.2.2.2)), (cSo tr tv), (cG cyI tr (S_green tv)), (cV cyI tr (S_score tv)), (cS cyI k0 w0), (cS cyI k1 w1), (cS cyI b0 v0), (cS cyI b1 v1), (cS cyI b2 v2), (cS cyI b3 v3), (cS cyI b4 v4), (cS cyI b5 v5)] : List va_W).flatten) H := hP.perm hq
  have hD : va_D A (([[cLo cyL qo 1 o5.2.1], (cM cyI mm o11.2), (cXo x an tr o5.2.2.1), (cH cyO (x 1) (x 2) 2 fl), (cXk cyI x o5.2.2.1), (cH cyO (x 4) (x 5) 6 fs), (cT cyI x (X_text o5.2.2.1)), (cSo an o5.2.2.2), (cG cyI an (S_green o5.2.2.2)), (cV cyI an (S_score o5.2.2.2)), (cSo tr tv), (cG cyI tr (S_green tv)), (cV cyI tr (S_score tv)), (cS cyI k0 w0), (cS cyI k1 w1), (cS cyI b0 v0), (cS cyI b1 v1), (cS cyI b2 v2), (cS cyI b3 v3), (cS cyI b4 v4), (cS cyI b5 v5)] : List va_W).flatten) := hD.perm hq
  clear hq
  refine lv_istore (lv' := [(6, .int o11.1), (5, .int o5.1), (0, .ref b), (1, .ref (x 0)), (2, .ref (mm 0)), (3, .ref qo), (4, .int i)]) hx hb dL_law_1970 hl (by decide) rfl (fun ls hl => ?_)
  refine lv_aload_n hx hb dL_law_1972 rfl (lv_at hl 4 rfl) ?_
  obtain ⟨o13, h14, hF⟩ := obd hF
  refine wcRVi (As := []) (rest := []) (b := (mm 0)) ⟨hx, hb, hml, hown, hts⟩ (met_X6_thrown l dC dI cyI cyO cyL mm N o11.2  o13 h14) (cwV 0 hts (gV w_methodLink_L_143 w_instanceMethod_X6_thrown w_selects_X6_thrown w_initialized_X6 w_code_X6_thrown) rfl rfl rfl (by decide +kernel) ⟨Nat.le_trans (Nat.le_of_ble_eq_true rfl) hRf, Nat.le_trans (Nat.le_of_ble_eq_true rfl) hRl⟩) (va_recv hK.1 hP (ci := 6) (q0 := 1) rfl rfl) hP hK [1, 2, 3, 4, 5, 6, 7, 8] rfl rfl hl.1 (Nat.le_of_ble_eq_true rfl) dL_law_1973 ⟨by omega, by omega⟩ hS (fun r H locs hw hP hS => ?_)
  have hw := hw.symm
  subst hw
  refine lv_iload hx hb dL_law_1976 (lv_at hl 1 rfl) ?_
  refine lv_icmp_eq (tgt := 1983) hx hb dL_law_1978 (by decide) (fun c15 => ?_) (fun c15 => ?_)
  · have hF := itp c15 hF
    refine lv_iload hx hb dL_law_1983 (lv_at hl 1 rfl) ?_
    obtain ⟨j2000, hj2000, hF⟩ := jn_use hF
    have hJ2000 : ∀ (s2000 : Unit) (H : Heap) (locs : List Loc) (ls : Array Slot), va_P (dC, dI) vwCl (([[cLo cyL qo 1 o5.2.1], (cM cyI mm o11.2), (cXo x an tr o5.2.2.1), (cH cyO (x 1) (x 2) 2 fl), (cXk cyI x o5.2.2.1), (cH cyO (x 4) (x 5) 6 fs), (cT cyI x (X_text o5.2.2.1)), (cSo an o5.2.2.2), (cG cyI an (S_green o5.2.2.2)), (cV cyI an (S_score o5.2.2.2)), (cSo tr tv), (cG cyI tr (S_green tv)), (cV cyI tr (S_score tv)), (cS cyI k0 w0), (cS cyI k1 w1), (cS cyI b0 v0), (cS cyI b1 v1), (cS cyI b2 v2), (cS cyI b3 v3), (cS cyI b4 v4), (cS cyI b5 v5)] : List va_W).flatten) H → va_D A (([[cLo cyL qo 1 o5.2.1], (cM cyI mm o11.2), (cXo x an tr o5.2.2.1), (cH cyO (x 1) (x 2) 2 fl), (cXk cyI x o5.2.2.1), (cH cyO (x 4) (x 5) 6 fs), (cT cyI x (X_text o5.2.2.1)), (cSo an o5.2.2.2), (cG cyI an (S_green o5.2.2.2)), (cV cyI an (S_score o5.2.2.2)), (cSo tr tv), (cG cyI tr (S_green tv)), (cV cyI tr (S_score tv)), (cS cyI k0 w0), (cS cyI k1 w1), (cS cyI b0 v0), (cS cyI b1 v1), (cS cyI b2 v2), (cS cyI b3 v3), (cS cyI b4 v4), (cS cyI b5 v5)] : List va_W).flatten) → va_S A s.heap H locs → lv_has ls 9 [(0, .ref b), (1, .ref (x 0)), (2, .ref (mm 0)), (3, .ref qo), (4, .int i)] → j2000 s2000 = some out → W p l e R s m args below meth c H locs (cells + 1) (slots + 6) Q (F0 m 2000 ls []) := by
      intro s2000 H locs ls hP hD hS hl hF
      have hF := (congrFun hj2000 s2000).symm.trans hF
      refine lv_goto (tgt := 2733) hx hb dL_law_2000 (by decide) ?_
      obtain rfl := Option.some.inj hF
      refine W.widen (k := cells + 4) (n := slots + 24) (by omega) (by omega) ?_
      exact kk _ _ _ hP hD hS (lv_sub hl [0, 1, 2, 3, 4] rfl)
    refine lv_if_ne (tgt := 2000) hx hb dL_law_1985 (by decide) (fun c16 => ?_) (fun c16 => ?_)
    · have hF := itn c16 hF
      exact hJ2000 () _ _ _ hP hD hS (lv_sub hl [2, 3, 4, 5, 6] rfl) hF
    · have hF := itp c16 hF
      refine lv_aload_n hx hb dL_law_1988 rfl (lv_at hl 5 rfl) ?_
      refine lv_iconst (v := 0) hx hb dL_law_1989 (by decide) ?_
      refine va_lald hx hb hK.1 hP 0 2 rfl rfl (i := (0 : Int32)) (show ixok (0 : Int32) 1 by decide) dL_law_1990 ?_
      refine lv_iload hx hb dL_law_1991 (lv_at hl 0 rfl) ?_
      refine lv_i2l (v := (o11.1).toInt64) hx hb dL_law_1993 rfl ?_
      refine W.lcmp hx hb dL_law_1994 ?_
      refine lv_if_eq (tgt := 2000) hx hb dL_law_1995 (by decide) (fun c17 => ?_) (fun c17 => ?_)
      · have hF := itp c17 hF
        exact hJ2000 () _ _ _ hP hD hS (lv_sub hl [2, 3, 4, 5, 6] rfl) hF
      · have hF := itn c17 hF
        refine lv_iconst (v := 0) hx hb dL_law_1998 (by decide) ?_
        cases hF
  · have hF := itn c15 hF
    refine lv_iconst (v := 0) hx hb dL_law_1981 (by decide) ?_
    cases hF
theorem dL_law_2003 : decode cL_law 2003 = .ok (.aload_n 1, 1) := by decide +kernel
theorem dL_law_2004 : decode cL_law 2004 = .ok (.aload_n 0, 1) := by decide +kernel
theorem dL_law_2005 : decode cL_law 2005 = .ok (.iload 4, 2) := by decide +kernel
theorem dL_law_2007 : decode cL_law 2007 = .ok (.iconst 1, 1) := by decide +kernel
theorem dL_law_2008 : decode cL_law 2008 = .ok (.iadd, 1) := by decide +kernel
theorem dL_law_2009 : decode cL_law 2009 = .ok (.iaload, 1) := by decide +kernel
theorem dL_law_2010 : decode cL_law 2010 = .ok (.aload_n 0, 1) := by decide +kernel
theorem dL_law_2011 : decode cL_law 2011 = .ok (.iload 4, 2) := by decide +kernel
theorem dL_law_2013 : decode cL_law 2013 = .ok (.iconst 2, 1) := by decide +kernel
theorem dL_law_2014 : decode cL_law 2014 = .ok (.iadd, 1) := by decide +kernel
theorem dL_law_2015 : decode cL_law 2015 = .ok (.iaload, 1) := by decide +kernel
theorem dL_law_2016 : decode cL_law 2016 = .ok (.aload_n 0, 1) := by decide +kernel
theorem dL_law_2017 : decode cL_law 2017 = .ok (.iload 4, 2) := by decide +kernel
theorem dL_law_2019 : decode cL_law 2019 = .ok (.iconst 3, 1) := by decide +kernel
theorem dL_law_2020 : decode cL_law 2020 = .ok (.iadd, 1) := by decide +kernel
theorem dL_law_2021 : decode cL_law 2021 = .ok (.iaload, 1) := by decide +kernel
theorem dL_law_2022 : decode cL_law 2022 = .ok (.aload_n 0, 1) := by decide +kernel
theorem dL_law_2023 : decode cL_law 2023 = .ok (.iload 4, 2) := by decide +kernel
theorem dL_law_2025 : decode cL_law 2025 = .ok (.iconst 4, 1) := by decide +kernel
theorem dL_law_2026 : decode cL_law 2026 = .ok (.iadd, 1) := by decide +kernel
theorem dL_law_2027 : decode cL_law 2027 = .ok (.iaload, 1) := by decide +kernel
theorem dL_law_2028 : decode cL_law 2028 = .ok (.aload_n 3, 1) := by decide +kernel
theorem dL_law_2029 : decode cL_law 2029 = .ok (.invokestatic 285, 3) := by decide +kernel
theorem dL_law_2032 : decode cL_law 2032 = .ok (.istore 5, 2) := by decide +kernel
theorem dL_law_2034 : decode cL_law 2034 = .ok (.aload_n 2, 1) := by decide +kernel
theorem dL_law_2035 : decode cL_law 2035 = .ok (.aload_n 0, 1) := by decide +kernel
theorem dL_law_2036 : decode cL_law 2036 = .ok (.iload 4, 2) := by decide +kernel
theorem dL_law_2038 : decode cL_law 2038 = .ok (.iconst 1, 1) := by decide +kernel
theorem dL_law_2039 : decode cL_law 2039 = .ok (.iadd, 1) := by decide +kernel
theorem dL_law_2040 : decode cL_law 2040 = .ok (.iaload, 1) := by decide +kernel
theorem dL_law_2041 : decode cL_law 2041 = .ok (.aload_n 0, 1) := by decide +kernel
theorem dL_law_2042 : decode cL_law 2042 = .ok (.iload 4, 2) := by decide +kernel
theorem dL_law_2044 : decode cL_law 2044 = .ok (.iconst 2, 1) := by decide +kernel
theorem dL_law_2045 : decode cL_law 2045 = .ok (.iadd, 1) := by decide +kernel
theorem dL_law_2046 : decode cL_law 2046 = .ok (.iaload, 1) := by decide +kernel
theorem dL_law_2047 : decode cL_law 2047 = .ok (.aload_n 0, 1) := by decide +kernel
theorem dL_law_2048 : decode cL_law 2048 = .ok (.iload 4, 2) := by decide +kernel
theorem dL_law_2050 : decode cL_law 2050 = .ok (.iconst 3, 1) := by decide +kernel
theorem dL_law_2051 : decode cL_law 2051 = .ok (.iadd, 1) := by decide +kernel
theorem dL_law_2052 : decode cL_law 2052 = .ok (.iaload, 1) := by decide +kernel
theorem dL_law_2053 : decode cL_law 2053 = .ok (.aload_n 0, 1) := by decide +kernel
theorem dL_law_2054 : decode cL_law 2054 = .ok (.iload 4, 2) := by decide +kernel
theorem dL_law_2056 : decode cL_law 2056 = .ok (.iconst 4, 1) := by decide +kernel
theorem dL_law_2057 : decode cL_law 2057 = .ok (.iadd, 1) := by decide +kernel
theorem dL_law_2058 : decode cL_law 2058 = .ok (.iaload, 1) := by decide +kernel
theorem dL_law_2059 : decode cL_law 2059 = .ok (.invokevirtual 287, 3) := by decide +kernel
theorem dL_law_2062 : decode cL_law 2062 = .ok (.istore 6, 2) := by decide +kernel
theorem dL_law_2064 : decode cL_law 2064 = .ok (.aload_n 2, 1) := by decide +kernel
theorem dL_law_2065 : decode cL_law 2065 = .ok (.invokevirtual 143, 3) := by decide +kernel
theorem dL_law_2068 : decode cL_law 2068 = .ok (.iload 5, 2) := by decide +kernel
theorem dL_law_2070 : decode cL_law 2070 = .ok (.if_icmp .eq 5, 3) := by decide +kernel
theorem dL_law_2073 : decode cL_law 2073 = .ok (.iconst 0, 1) := by decide +kernel
theorem dL_law_2075 : decode cL_law 2075 = .ok (.iload 5, 2) := by decide +kernel
theorem dL_law_2077 : decode cL_law 2077 = .ok (.ifCond .ne 15, 3) := by decide +kernel
theorem dL_law_2080 : decode cL_law 2080 = .ok (.aload_n 3, 1) := by decide +kernel
theorem dL_law_2081 : decode cL_law 2081 = .ok (.iconst 0, 1) := by decide +kernel
theorem dL_law_2082 : decode cL_law 2082 = .ok (.laload, 1) := by decide +kernel
theorem dL_law_2083 : decode cL_law 2083 = .ok (.iload 6, 2) := by decide +kernel
theorem dL_law_2085 : decode cL_law 2085 = .ok (.i2l, 1) := by decide +kernel
theorem dL_law_2086 : decode cL_law 2086 = .ok (.lcmp, 1) := by decide +kernel
theorem dL_law_2087 : decode cL_law 2087 = .ok (.ifCond .eq 5, 3) := by decide +kernel
theorem dL_law_2090 : decode cL_law 2090 = .ok (.iconst 0, 1) := by decide +kernel
theorem dL_law_2092 : decode cL_law 2092 = .ok (.goto 641, 3) := by decide +kernel
def f_law41 (N L : Nat) (xs : Nat → Int32) (i : Int32) (fo : (Nat → Int64)) (mv : MV) (xv : XV) (nv : SV) (tv : SV) (w0 : SV) (w1 : SV) (v0 : SV) (v1 : SV) (v2 : SV) (v3 : SV) (v4 : SV) (v5 : SV) : Option ((Nat → Int64) × MV × XV × SV × SV × SV × SV × SV × SV × SV × SV × SV × SV) :=
  gd (ixok (i + (1 : Int32)) L) (gd (ixok (i + (2 : Int32)) L) (gd (ixok (i + (3 : Int32)) L) (gd (ixok (i + (4 : Int32)) L) ((f_L_curveByFormula N fo xv nv (xs (i + (1 : Int32)).toNatClampNeg) (xs (i + (2 : Int32)).toNatClampNeg) (xs (i + (3 : Int32)).toNatClampNeg) (xs (i + (4 : Int32)).toNatClampNeg)).bind (fun o5 => gd (ixok (i + (1 : Int32)) L) (gd (ixok (i + (2 : Int32)) L) (gd (ixok (i + (3 : Int32)) L) (gd (ixok (i + (4 : Int32)) L) ((f_X6_curveByFormula N mv (xs (i + (1 : Int32)).toNatClampNeg) (xs (i + (2 : Int32)).toNatClampNeg) (xs (i + (3 : Int32)).toNatClampNeg) (xs (i + (4 : Int32)).toNatClampNeg)).bind (fun o11 => (f_X6_thrown N o11.2).bind (fun o13 => (if o13 = o5.1 then jn (fun (s2092 : Unit) => some (o5.2.1, o11.2, o5.2.2.1, o5.2.2.2, tv, w0, w1, v0, v1, v2, v3, v4, v5)) (fun (j2092 : (Unit) → Option ((Nat → Int64) × MV × XV × SV × SV × SV × SV × SV × SV × SV × SV × SV × SV)) => (if o5.1 = 0 then (if (lg_cmp (o5.2.1 (0 : Int32).toNatClampNeg) ((o11.1).toInt64)) = 0 then j2092 () else none) else j2092 ())) else none))))))))))))
set_option maxHeartbeats 4000000 in
set_option maxRecDepth 100000 in
theorem law41 (hst : l.stackTraces = false) (hx : p.tables.exec = Jvm.exec) (hb : c.code = code) (hml : c.maxLocals = 9) (hown : s.vm.findClass RL = some m.cls) (hts : ∀ w ∈ wT, w.before args s = true) (hK : wK dC dI cyI cyO cyL s) (hZ : wZ z0 s) (hAz : ∀ q, A q → z0 ≤ q) (hz0 : z0 ≤ s.heap.size) (hA : ∀ q : Nat, s.heap.size ≤ q → A q) (hX : va_X b L xs s s.heap) (hbl : b < s.heap.size) (hbA : ¬ A b) (hRf : 11 ≤ R.frames) (hRl : 398 ≤ R.locals) (qo : Nat) (mm x an tr k0 k1 b0 b1 b2 b3 b4 b5 : Nat → Nat) (fl fs : Nat → Option Nat) (N : Nat) (fo : (Nat → Int64)) (mv : MV) (xv : XV) (nv : SV) (tv : SV) (w0 : SV) (w1 : SV) (v0 : SV) (v1 : SV) (v2 : SV) (v3 : SV) (v4 : SV) (v5 : SV) (i : Int32) (hl0 : fl 0 = some (k0 0)) (hl1 : fl 1 = some (k1 0)) (hs0 : fs 0 = some (b0 0)) (hs1 : fs 1 = some (b1 0)) (hs2 : fs 2 = some (b2 0)) (hs3 : fs 3 = some (b3 0)) (hs4 : fs 4 = some (b4 0)) (hs5 : fs 5 = some (b5 0)) (out : (Nat → Int64) × MV × XV × SV × SV × SV × SV × SV × SV × SV × SV × SV × SV) (hF : f_law41 N L xs i fo mv xv nv tv w0 w1 v0 v1 v2 v3 v4 v5 = some out) (hP : va_P (dC, dI) vwCl (([[cLo cyL qo 1 fo], (cM cyI mm mv), (cXo x an tr xv), (cH cyO (x 1) (x 2) 2 fl), (cXk cyI x xv), (cH cyO (x 4) (x 5) 6 fs), (cT cyI x (X_text xv)), (cSo an nv), (cG cyI an (S_green nv)), (cV cyI an (S_score nv)), (cSo tr tv), (cG cyI tr (S_green tv)), (cV cyI tr (S_score tv)), (cS cyI k0 w0), (cS cyI k1 w1), (cS cyI b0 v0), (cS cyI b1 v1), (cS cyI b2 v2), (cS cyI b3 v3), (cS cyI b4 v4), (cS cyI b5 v5)] : List va_W).flatten) H) (hD : va_D A (([[cLo cyL qo 1 fo], (cM cyI mm mv), (cXo x an tr xv), (cH cyO (x 1) (x 2) 2 fl), (cXk cyI x xv), (cH cyO (x 4) (x 5) 6 fs), (cT cyI x (X_text xv)), (cSo an nv), (cG cyI an (S_green nv)), (cV cyI an (S_score nv)), (cSo tr tv), (cG cyI tr (S_green tv)), (cV cyI tr (S_score tv)), (cS cyI k0 w0), (cS cyI k1 w1), (cS cyI b0 v0), (cS cyI b1 v1), (cS cyI b2 v2), (cS cyI b3 v3), (cS cyI b4 v4), (cS cyI b5 v5)] : List va_W).flatten)) (hS : va_S A s.heap H locs) (hl : lv_has ls 9 [(0, .ref b), (1, .ref (x 0)), (2, .ref (mm 0)), (3, .ref qo), (4, .int i)]) (hRc : cells + 4 ≤ R.cells) (hRs : slots + 24 ≤ R.slots) (kk : ∀ (H : Heap) (locs : List Loc) (ls : Array Slot), va_P (dC, dI) vwCl (([[cLo cyL qo 1 out.1], (cM cyI mm out.2.1), (cXo x an tr out.2.2.1), (cH cyO (x 1) (x 2) 2 fl), (cXk cyI x out.2.2.1), (cH cyO (x 4) (x 5) 6 fs), (cT cyI x (X_text out.2.2.1)), (cSo an out.2.2.2.1), (cG cyI an (S_green out.2.2.2.1)), (cV cyI an (S_score out.2.2.2.1)), (cSo tr out.2.2.2.2.1), (cG cyI tr (S_green out.2.2.2.2.1)), (cV cyI tr (S_score out.2.2.2.2.1)), (cS cyI k0 out.2.2.2.2.2.1), (cS cyI k1 out.2.2.2.2.2.2.1), (cS cyI b0 out.2.2.2.2.2.2.2.1), (cS cyI b1 out.2.2.2.2.2.2.2.2.1), (cS cyI b2 out.2.2.2.2.2.2.2.2.2.1), (cS cyI b3 out.2.2.2.2.2.2.2.2.2.2.1), (cS cyI b4 out.2.2.2.2.2.2.2.2.2.2.2.1), (cS cyI b5 out.2.2.2.2.2.2.2.2.2.2.2.2)] : List va_W).flatten) H → va_D A (([[cLo cyL qo 1 out.1], (cM cyI mm out.2.1), (cXo x an tr out.2.2.1), (cH cyO (x 1) (x 2) 2 fl), (cXk cyI x out.2.2.1), (cH cyO (x 4) (x 5) 6 fs), (cT cyI x (X_text out.2.2.1)), (cSo an out.2.2.2.1), (cG cyI an (S_green out.2.2.2.1)), (cV cyI an (S_score out.2.2.2.1)), (cSo tr out.2.2.2.2.1), (cG cyI tr (S_green out.2.2.2.2.1)), (cV cyI tr (S_score out.2.2.2.2.1)), (cS cyI k0 out.2.2.2.2.2.1), (cS cyI k1 out.2.2.2.2.2.2.1), (cS cyI b0 out.2.2.2.2.2.2.2.1), (cS cyI b1 out.2.2.2.2.2.2.2.2.1), (cS cyI b2 out.2.2.2.2.2.2.2.2.2.1), (cS cyI b3 out.2.2.2.2.2.2.2.2.2.2.1), (cS cyI b4 out.2.2.2.2.2.2.2.2.2.2.2.1), (cS cyI b5 out.2.2.2.2.2.2.2.2.2.2.2.2)] : List va_W).flatten) → va_S A s.heap H locs → lv_has ls 9 [(0, .ref b), (1, .ref (x 0)), (2, .ref (mm 0)), (3, .ref qo), (4, .int i)] → W p l e R s m args below meth c H locs (cells + 4) (slots + 24) Q (F0 m 2733 ls [])) : W p l e R s m args below meth c H locs cells slots Q (F0 m 2003 ls []) := by
  unfold f_law41 at hF
  refine lv_aload_n hx hb dL_law_2003 rfl (lv_at hl 1 rfl) ?_
  refine lv_aload_n hx hb dL_law_2004 rfl (lv_at hl 0 rfl) ?_
  refine lv_iload hx hb dL_law_2005 (lv_at hl 4 rfl) ?_
  refine lv_iconst (v := 1) hx hb dL_law_2007 (by decide) ?_
  refine lv_iadd hx hb dL_law_2008 ?_
  obtain ⟨hg1, hF⟩ := gd_use hF
  refine va_sld hx hb hX hbl hbA hS hg1 dL_law_2009 ?_
  refine lv_aload_n hx hb dL_law_2010 rfl (lv_at hl 0 rfl) ?_
  refine lv_iload hx hb dL_law_2011 (lv_at hl 4 rfl) ?_
  refine lv_iconst (v := 2) hx hb dL_law_2013 (by decide) ?_
  refine lv_iadd hx hb dL_law_2014 ?_
  obtain ⟨hg2, hF⟩ := gd_use hF
  refine va_sld hx hb hX hbl hbA hS hg2 dL_law_2015 ?_
  refine lv_aload_n hx hb dL_law_2016 rfl (lv_at hl 0 rfl) ?_
  refine lv_iload hx hb dL_law_2017 (lv_at hl 4 rfl) ?_
  refine lv_iconst (v := 3) hx hb dL_law_2019 (by decide) ?_
  refine lv_iadd hx hb dL_law_2020 ?_
  obtain ⟨hg3, hF⟩ := gd_use hF
  refine va_sld hx hb hX hbl hbA hS hg3 dL_law_2021 ?_
  refine lv_aload_n hx hb dL_law_2022 rfl (lv_at hl 0 rfl) ?_
  refine lv_iload hx hb dL_law_2023 (lv_at hl 4 rfl) ?_
  refine lv_iconst (v := 4) hx hb dL_law_2025 (by decide) ?_
  refine lv_iadd hx hb dL_law_2026 ?_
  obtain ⟨hg4, hF⟩ := gd_use hF
  refine va_sld hx hb hX hbl hbA hS hg4 dL_law_2027 ?_
  refine lv_aload_n hx hb dL_law_2028 rfl (lv_at hl 3 rfl) ?_
  obtain ⟨o5, h6, hF⟩ := obd hF
  refine wcLi (As := [.ref (x 0), .int (xs (i + (1 : Int32)).toNatClampNeg), .int (xs (i + (2 : Int32)).toNatClampNeg), .int (xs (i + (3 : Int32)).toNatClampNeg), .int (xs (i + (4 : Int32)).toNatClampNeg), .ref qo]) (rest := []) (wr := ([(cM cyI mm mv), (cSo tr tv), (cG cyI tr (S_green tv)), (cV cyI tr (S_score tv)), (cS cyI k0 w0), (cS cyI k1 w1), (cS cyI b0 v0), (cS cyI b1 v1), (cS cyI b2 v2), (cS cyI b3 v3), (cS cyI b4 v4), (cS cyI b5 v5)] : List va_W).flatten) ⟨hx, hb, hml, hown, hts⟩ (met_L_curveByFormula l z0 hst dC dI cyI cyO cyL qo x tr an fl fs _ N fo xv nv (xs (i + (1 : Int32)).toNatClampNeg) (xs (i + (2 : Int32)).toNatClampNeg) (xs (i + (3 : Int32)).toNatClampNeg) (xs (i + (4 : Int32)).toNatClampNeg) o5 h6) (vx_cwSW 6 hts (gS w_methodLink_L_285 w_static_L_curveByFormula w_initialized_L w_codeW_L_curveByFormula) rfl rfl rfl (by decide +kernel) ⟨Nat.le_trans (Nat.le_of_ble_eq_true rfl) hRf, Nat.le_trans (Nat.le_of_ble_eq_true rfl) hRl⟩) hP hD hK hZ hAz hz0 (seg_perm (n := 21) (R := [(cM cyI mm mv), (cSo tr tv), (cG cyI tr (S_green tv)), (cV cyI tr (S_score tv)), (cS cyI k0 w0), (cS cyI k1 w1), (cS cyI b0 v0), (cS cyI b1 v1), (cS cyI b2 v2), (cS cyI b3 v3), (cS cyI b4 v4), (cS cyI b5 v5)]) (C := [[cLo cyL qo 1 fo], (cXo x an tr xv), (cH cyO (x 1) (x 2) 2 fl), (cXk cyI x xv), (cH cyO (x 4) (x 5) 6 fs), (cT cyI x (X_text xv)), (cSo an nv), (cG cyI an (S_green nv)), (cV cyI an (S_score nv))]) [1, 10, 11, 12, 13, 14, 15, 16, 17, 18, 19, 20] [0, 2, 3, 4, 5, 6, 7, 8, 9] rfl rfl rfl (by decide) rfl) rfl hl.1 (Nat.le_of_ble_eq_true rfl) dL_law_2029 ⟨by omega, by omega⟩ hS hA (fun r u H locs hw hP hD hS => ?_)
  obtain rfl : r = o5.1 := congrArg Prod.fst hw
  obtain rfl : u = o5.2 := congrArg Prod.snd hw
  clear hw
  have hq := seg_permS (segs := [[cLo cyL qo 1 o5.2.1], (cM cyI mm mv), (cXo x an tr o5.2.2.1), (cH cyO (x 1) (x 2) 2 fl), (cXk cyI x o5.2.2.1), (cH cyO (x 4) (x 5) 6 fs), (cT cyI x (X_text o5.2.2.1)), (cSo an o5.2.2.2), (cG cyI an (S_green o5.2.2.2)), (cV cyI an (S_score o5.2.2.2)), (cSo tr tv), (cG cyI tr (S_green tv)), (cV cyI tr (S_score tv)), (cS cyI k0 w0), (cS cyI k1 w1), (cS cyI b0 v0), (cS cyI b1 v1), (cS cyI b2 v2), (cS cyI b3 v3), (cS cyI b4 v4), (cS cyI b5 v5)]) (R := [(cM cyI mm mv), (cSo tr tv), (cG cyI tr (S_green tv)), (cV cyI tr (S_score tv)), (cS cyI k0 w0), (cS cyI k1 w1), (cS cyI b0 v0), (cS cyI b1 v1), (cS cyI b2 v2), (cS cyI b3 v3), (cS cyI b4 v4), (cS cyI b5 v5)]) (C := [[cLo cyL qo 1 o5.2.1], (cXo x an tr o5.2.2.1), (cH cyO (x 1) (x 2) 2 fl), (cXk cyI x o5.2.2.1), (cH cyO (x 4) (x 5) 6 fs), (cT cyI x (X_text o5.2.2.1)), (cSo an o5.2.2.2), (cG cyI an (S_green o5.2.2.2)), (cV cyI an (S_score o5.2.2.2))]) (n := 21) [1, 10, 11, 12, 13, 14, 15, 16, 17, 18, 19, 20] [0, 2, 3, 4, 5, 6, 7, 8, 9] rfl rfl rfl (by decide)
  have hP : va_P (dC, dI) vwCl (([[cLo cyL qo 1 o5.2.1], (cM cyI mm mv), (cXo x an tr o5.2.2.1), (cH cyO (x 1) (x 2) 2 fl), (cXk cyI x o5.2.2.1), (cH cyO (x 4) (x 5) 6 fs), (cT cyI x (X_text o5.2.2.1)), (cSo an o5.2.2.2), (cG cyI an (S_green o5.2.2.2)), (cV cyI an (S_score o5.2.2.2)), (cSo tr tv), (cG cyI tr (S_green tv)), (cV cyI tr (S_score tv)), (cS cyI k0 w0), (cS cyI k1 w1), (cS cyI b0 v0), (cS cyI b1 v1), (cS cyI b2 v2), (cS cyI b3 v3), (cS cyI b4 v4), (cS cyI b5 v5)] : List va_W).flatten) H := hP.perm hq
  have hD : va_D A (([[cLo cyL qo 1 o5.2.1], (cM cyI mm mv), (cXo x an tr o5.2.2.1), (cH cyO (x 1) (x 2) 2 fl), (cXk cyI x o5.2.2.1), (cH cyO (x 4) (x 5) 6 fs), (cT cyI x (X_text o5.2.2.1)), (cSo an o5.2.2.2), (cG cyI an (S_green o5.2.2.2)), (cV cyI an (S_score o5.2.2.2)), (cSo tr tv), (cG cyI tr (S_green tv)), (cV cyI tr (S_score tv)), (cS cyI k0 w0), (cS cyI k1 w1), (cS cyI b0 v0), (cS cyI b1 v1), (cS cyI b2 v2), (cS cyI b3 v3), (cS cyI b4 v4), (cS cyI b5 v5)] : List va_W).flatten) := hD.perm hq
  clear hq
  refine lv_istore (lv' := [(5, .int o5.1), (0, .ref b), (1, .ref (x 0)), (2, .ref (mm 0)), (3, .ref qo), (4, .int i)]) hx hb dL_law_2032 hl (by decide) rfl (fun ls hl => ?_)
  refine lv_aload_n hx hb dL_law_2034 rfl (lv_at hl 3 rfl) ?_
  refine lv_aload_n hx hb dL_law_2035 rfl (lv_at hl 1 rfl) ?_
  refine lv_iload hx hb dL_law_2036 (lv_at hl 5 rfl) ?_
  refine lv_iconst (v := 1) hx hb dL_law_2038 (by decide) ?_
  refine lv_iadd hx hb dL_law_2039 ?_
  obtain ⟨hg7, hF⟩ := gd_use hF
  refine va_sld hx hb hX hbl hbA hS hg7 dL_law_2040 ?_
  refine lv_aload_n hx hb dL_law_2041 rfl (lv_at hl 1 rfl) ?_
  refine lv_iload hx hb dL_law_2042 (lv_at hl 5 rfl) ?_
  refine lv_iconst (v := 2) hx hb dL_law_2044 (by decide) ?_
  refine lv_iadd hx hb dL_law_2045 ?_
  obtain ⟨hg8, hF⟩ := gd_use hF
  refine va_sld hx hb hX hbl hbA hS hg8 dL_law_2046 ?_
  refine lv_aload_n hx hb dL_law_2047 rfl (lv_at hl 1 rfl) ?_
  refine lv_iload hx hb dL_law_2048 (lv_at hl 5 rfl) ?_
  refine lv_iconst (v := 3) hx hb dL_law_2050 (by decide) ?_
  refine lv_iadd hx hb dL_law_2051 ?_
  obtain ⟨hg9, hF⟩ := gd_use hF
  refine va_sld hx hb hX hbl hbA hS hg9 dL_law_2052 ?_
  refine lv_aload_n hx hb dL_law_2053 rfl (lv_at hl 1 rfl) ?_
  refine lv_iload hx hb dL_law_2054 (lv_at hl 5 rfl) ?_
  refine lv_iconst (v := 4) hx hb dL_law_2056 (by decide) ?_
  refine lv_iadd hx hb dL_law_2057 ?_
  obtain ⟨hg10, hF⟩ := gd_use hF
  refine va_sld hx hb hX hbl hbA hS hg10 dL_law_2058 ?_
  obtain ⟨o11, h12, hF⟩ := obd hF
  refine wcPVi (As := [.int (xs (i + (1 : Int32)).toNatClampNeg), .int (xs (i + (2 : Int32)).toNatClampNeg), .int (xs (i + (3 : Int32)).toNatClampNeg), .int (xs (i + (4 : Int32)).toNatClampNeg)]) (rest := []) (wr := ([[cLo cyL qo 1 o5.2.1], (cXo x an tr o5.2.2.1), (cH cyO (x 1) (x 2) 2 fl), (cXk cyI x o5.2.2.1), (cH cyO (x 4) (x 5) 6 fs), (cT cyI x (X_text o5.2.2.1)), (cSo an o5.2.2.2), (cG cyI an (S_green o5.2.2.2)), (cV cyI an (S_score o5.2.2.2)), (cSo tr tv), (cG cyI tr (S_green tv)), (cV cyI tr (S_score tv)), (cS cyI k0 w0), (cS cyI k1 w1), (cS cyI b0 v0), (cS cyI b1 v1), (cS cyI b2 v2), (cS cyI b3 v3), (cS cyI b4 v4), (cS cyI b5 v5)] : List va_W).flatten) (b := (mm 0)) ⟨hx, hb, hml, hown, hts⟩ (met_X6_curveByFormula l dC dI cyI cyO cyL mm _ N mv (xs (i + (1 : Int32)).toNatClampNeg) (xs (i + (2 : Int32)).toNatClampNeg) (xs (i + (3 : Int32)).toNatClampNeg) (xs (i + (4 : Int32)).toNatClampNeg) o11 h12) (cwV 4 hts (gV w_methodLink_L_287 w_instanceMethod_X6_curveByFormula w_selects_X6_curveByFormula w_initialized_X6 w_code_X6_curveByFormula) rfl rfl rfl (by decide +kernel) ⟨Nat.le_trans (Nat.le_of_ble_eq_true rfl) hRf, Nat.le_trans (Nat.le_of_ble_eq_true rfl) hRl⟩) (va_recv hK.1 hP (ci := 6) (q0 := 1) rfl rfl) hP hD hK (seg_perm (n := 21) (R := [[cLo cyL qo 1 o5.2.1], (cXo x an tr o5.2.2.1), (cH cyO (x 1) (x 2) 2 fl), (cXk cyI x o5.2.2.1), (cH cyO (x 4) (x 5) 6 fs), (cT cyI x (X_text o5.2.2.1)), (cSo an o5.2.2.2), (cG cyI an (S_green o5.2.2.2)), (cV cyI an (S_score o5.2.2.2)), (cSo tr tv), (cG cyI tr (S_green tv)), (cV cyI tr (S_score tv)), (cS cyI k0 w0), (cS cyI k1 w1), (cS cyI b0 v0), (cS cyI b1 v1), (cS cyI b2 v2), (cS cyI b3 v3), (cS cyI b4 v4), (cS cyI b5 v5)]) (C := [(cM cyI mm mv)]) [0, 2, 3, 4, 5, 6, 7, 8, 9, 10, 11, 12, 13, 14, 15, 16, 17, 18, 19, 20] [1] rfl rfl rfl (by decide) rfl) rfl hl.1 (Nat.le_of_ble_eq_true rfl) dL_law_2059 ⟨by omega, by omega⟩ hS hA (fun r u H locs hw hP hD hS => ?_)
  obtain rfl : r = o11.1 := congrArg Prod.fst hw
  obtain rfl : u = o11.2 := congrArg Prod.snd hw
  clear hw
  have hq := seg_permS (segs := [[cLo cyL qo 1 o5.2.1], (cM cyI mm o11.2), (cXo x an tr o5.2.2.1), (cH cyO (x 1) (x 2) 2 fl), (cXk cyI x o5.2.2.1), (cH cyO (x 4) (x 5) 6 fs), (cT cyI x (X_text o5.2.2.1)), (cSo an o5.2.2.2), (cG cyI an (S_green o5.2.2.2)), (cV cyI an (S_score o5.2.2.2)), (cSo tr tv), (cG cyI tr (S_green tv)), (cV cyI tr (S_score tv)), (cS cyI k0 w0), (cS cyI k1 w1), (cS cyI b0 v0), (cS cyI b1 v1), (cS cyI b2 v2), (cS cyI b3 v3), (cS cyI b4 v4), (cS cyI b5 v5)]) (R := [[cLo cyL qo 1 o5.2.1], (cXo x an tr o5.2.2.1), (cH cyO (x 1) (x 2) 2 fl), (cXk cyI x o5.2.2.1), (cH cyO (x 4) (x 5) 6 fs), (cT cyI x (X_text o5.2.2.1)), (cSo an o5.2.2.2), (cG cyI an (S_green o5.2.2.2)), (cV cyI an (S_score o5.2.2.2)), (cSo tr tv), (cG cyI tr (S_green tv)), (cV cyI tr (S_score tv)), (cS cyI k0 w0), (cS cyI k1 w1), (cS cyI b0 v0), (cS cyI b1 v1), (cS cyI b2 v2), (cS cyI b3 v3), (cS cyI b4 v4), (cS cyI b5 v5)]) (C := [(cM cyI mm o11.2)]) (n := 21) [0, 2, 3, 4, 5, 6, 7, 8, 9, 10, 11, 12, 13, 14, 15, 16, 17, 18, 19, 20] [1] rfl rfl rfl (by decide)
  have hP : va_P (dC, dI) vwCl (([[cLo cyL qo 1 o5.2.1], (cM cyI mm o11.2), (cXo x an tr o5.2.2.1), (cH cyO (x 1) (x 2) 2 fl), (cXk cyI x o5.2.2.1), (cH cyO (x 4) (x 5) 6 fs), (cT cyI x (X_text o5.2.2.1)), (cSo an o5.2.2.2), (cG cyI an (S_green o5.2.2.2)), (cV cyI an (S_score o5.2.2.2)), (cSo tr tv), (cG cyI tr (S_green tv)), (cV cyI tr (S_score tv)), (cS cyI k0 w0), (cS cyI k1 w1), (cS cyI b0 v0), (cS cyI b1 v1), (cS cyI b2 v2), (cS cyI b3 v3), (cS cyI b4 v4), (cS cyI b5 v5)] : List va_W).flatten) H := hP.perm hq
  have hD : va_D A (([[cLo cyL qo 1 o5.2.1], (cM cyI mm o11.2), (cXo x an tr o5.2.2.1), (cH cyO (x 1) (x 2) 2 fl), (cXk cyI x o5.2.2.1), (cH cyO (x 4) (x 5) 6 fs), (cT cyI x (X_text o5.2.2.1)), (cSo an o5.2.2.2), (cG cyI an (S_green o5.2.2.2)), (cV cyI an (S_score o5.2.2.2)), (cSo tr tv), (cG cyI tr (S_green tv)), (cV cyI tr (S_score tv)), (cS cyI k0 w0), (cS cyI k1 w1), (cS cyI b0 v0), (cS cyI b1 v1), (cS cyI b2 v2), (cS cyI b3 v3), (cS cyI b4 v4), (cS cyI b5 v5)] : List va_W).flatten) := hD.perm hq
  clear hq
  refine lv_istore (lv' := [(6, .int o11.1), (5, .int o5.1), (0, .ref b), (1, .ref (x 0)), (2, .ref (mm 0)), (3, .ref qo), (4, .int i)]) hx hb dL_law_2062 hl (by decide) rfl (fun ls hl => ?_)
  refine lv_aload_n hx hb dL_law_2064 rfl (lv_at hl 4 rfl) ?_
  obtain ⟨o13, h14, hF⟩ := obd hF
  refine wcRVi (As := []) (rest := []) (b := (mm 0)) ⟨hx, hb, hml, hown, hts⟩ (met_X6_thrown l dC dI cyI cyO cyL mm N o11.2  o13 h14) (cwV 0 hts (gV w_methodLink_L_143 w_instanceMethod_X6_thrown w_selects_X6_thrown w_initialized_X6 w_code_X6_thrown) rfl rfl rfl (by decide +kernel) ⟨Nat.le_trans (Nat.le_of_ble_eq_true rfl) hRf, Nat.le_trans (Nat.le_of_ble_eq_true rfl) hRl⟩) (va_recv hK.1 hP (ci := 6) (q0 := 1) rfl rfl) hP hK [1, 2, 3, 4, 5, 6, 7, 8] rfl rfl hl.1 (Nat.le_of_ble_eq_true rfl) dL_law_2065 ⟨by omega, by omega⟩ hS (fun r H locs hw hP hS => ?_)
  have hw := hw.symm
  subst hw
  refine lv_iload hx hb dL_law_2068 (lv_at hl 1 rfl) ?_
  refine lv_icmp_eq (tgt := 2075) hx hb dL_law_2070 (by decide) (fun c15 => ?_) (fun c15 => ?_)
  · have hF := itp c15 hF
    refine lv_iload hx hb dL_law_2075 (lv_at hl 1 rfl) ?_
    obtain ⟨j2092, hj2092, hF⟩ := jn_use hF
    have hJ2092 : ∀ (s2092 : Unit) (H : Heap) (locs : List Loc) (ls : Array Slot), va_P (dC, dI) vwCl (([[cLo cyL qo 1 o5.2.1], (cM cyI mm o11.2), (cXo x an tr o5.2.2.1), (cH cyO (x 1) (x 2) 2 fl), (cXk cyI x o5.2.2.1), (cH cyO (x 4) (x 5) 6 fs), (cT cyI x (X_text o5.2.2.1)), (cSo an o5.2.2.2), (cG cyI an (S_green o5.2.2.2)), (cV cyI an (S_score o5.2.2.2)), (cSo tr tv), (cG cyI tr (S_green tv)), (cV cyI tr (S_score tv)), (cS cyI k0 w0), (cS cyI k1 w1), (cS cyI b0 v0), (cS cyI b1 v1), (cS cyI b2 v2), (cS cyI b3 v3), (cS cyI b4 v4), (cS cyI b5 v5)] : List va_W).flatten) H → va_D A (([[cLo cyL qo 1 o5.2.1], (cM cyI mm o11.2), (cXo x an tr o5.2.2.1), (cH cyO (x 1) (x 2) 2 fl), (cXk cyI x o5.2.2.1), (cH cyO (x 4) (x 5) 6 fs), (cT cyI x (X_text o5.2.2.1)), (cSo an o5.2.2.2), (cG cyI an (S_green o5.2.2.2)), (cV cyI an (S_score o5.2.2.2)), (cSo tr tv), (cG cyI tr (S_green tv)), (cV cyI tr (S_score tv)), (cS cyI k0 w0), (cS cyI k1 w1), (cS cyI b0 v0), (cS cyI b1 v1), (cS cyI b2 v2), (cS cyI b3 v3), (cS cyI b4 v4), (cS cyI b5 v5)] : List va_W).flatten) → va_S A s.heap H locs → lv_has ls 9 [(0, .ref b), (1, .ref (x 0)), (2, .ref (mm 0)), (3, .ref qo), (4, .int i)] → j2092 s2092 = some out → W p l e R s m args below meth c H locs (cells + 1) (slots + 6) Q (F0 m 2092 ls []) := by
      intro s2092 H locs ls hP hD hS hl hF
      have hF := (congrFun hj2092 s2092).symm.trans hF
      refine lv_goto (tgt := 2733) hx hb dL_law_2092 (by decide) ?_
      obtain rfl := Option.some.inj hF
      refine W.widen (k := cells + 4) (n := slots + 24) (by omega) (by omega) ?_
      exact kk _ _ _ hP hD hS (lv_sub hl [0, 1, 2, 3, 4] rfl)
    refine lv_if_ne (tgt := 2092) hx hb dL_law_2077 (by decide) (fun c16 => ?_) (fun c16 => ?_)
    · have hF := itn c16 hF
      exact hJ2092 () _ _ _ hP hD hS (lv_sub hl [2, 3, 4, 5, 6] rfl) hF
    · have hF := itp c16 hF
      refine lv_aload_n hx hb dL_law_2080 rfl (lv_at hl 5 rfl) ?_
      refine lv_iconst (v := 0) hx hb dL_law_2081 (by decide) ?_
      refine va_lald hx hb hK.1 hP 0 2 rfl rfl (i := (0 : Int32)) (show ixok (0 : Int32) 1 by decide) dL_law_2082 ?_
      refine lv_iload hx hb dL_law_2083 (lv_at hl 0 rfl) ?_
      refine lv_i2l (v := (o11.1).toInt64) hx hb dL_law_2085 rfl ?_
      refine W.lcmp hx hb dL_law_2086 ?_
      refine lv_if_eq (tgt := 2092) hx hb dL_law_2087 (by decide) (fun c17 => ?_) (fun c17 => ?_)
      · have hF := itp c17 hF
        exact hJ2092 () _ _ _ hP hD hS (lv_sub hl [2, 3, 4, 5, 6] rfl) hF
      · have hF := itn c17 hF
        refine lv_iconst (v := 0) hx hb dL_law_2090 (by decide) ?_
        cases hF
  · have hF := itn c15 hF
    refine lv_iconst (v := 0) hx hb dL_law_2073 (by decide) ?_
    cases hF
theorem dL_law_2095 : decode cL_law 2095 = .ok (.aload_n 1, 1) := by decide +kernel
theorem dL_law_2096 : decode cL_law 2096 = .ok (.aload_n 0, 1) := by decide +kernel
theorem dL_law_2097 : decode cL_law 2097 = .ok (.iload 4, 2) := by decide +kernel
theorem dL_law_2099 : decode cL_law 2099 = .ok (.iconst 1, 1) := by decide +kernel
theorem dL_law_2100 : decode cL_law 2100 = .ok (.iadd, 1) := by decide +kernel
theorem dL_law_2101 : decode cL_law 2101 = .ok (.iaload, 1) := by decide +kernel
theorem dL_law_2102 : decode cL_law 2102 = .ok (.aload_n 0, 1) := by decide +kernel
theorem dL_law_2103 : decode cL_law 2103 = .ok (.iload 4, 2) := by decide +kernel
theorem dL_law_2105 : decode cL_law 2105 = .ok (.iconst 2, 1) := by decide +kernel
theorem dL_law_2106 : decode cL_law 2106 = .ok (.iadd, 1) := by decide +kernel
theorem dL_law_2107 : decode cL_law 2107 = .ok (.iaload, 1) := by decide +kernel
theorem dL_law_2108 : decode cL_law 2108 = .ok (.aload_n 0, 1) := by decide +kernel
theorem dL_law_2109 : decode cL_law 2109 = .ok (.iload 4, 2) := by decide +kernel
theorem dL_law_2111 : decode cL_law 2111 = .ok (.iconst 3, 1) := by decide +kernel
theorem dL_law_2112 : decode cL_law 2112 = .ok (.iadd, 1) := by decide +kernel
theorem dL_law_2113 : decode cL_law 2113 = .ok (.iaload, 1) := by decide +kernel
theorem dL_law_2114 : decode cL_law 2114 = .ok (.aload_n 3, 1) := by decide +kernel
theorem dL_law_2115 : decode cL_law 2115 = .ok (.invokestatic 288, 3) := by decide +kernel
theorem dL_law_2118 : decode cL_law 2118 = .ok (.istore 5, 2) := by decide +kernel
theorem dL_law_2120 : decode cL_law 2120 = .ok (.aload_n 2, 1) := by decide +kernel
theorem dL_law_2121 : decode cL_law 2121 = .ok (.aload_n 0, 1) := by decide +kernel
theorem dL_law_2122 : decode cL_law 2122 = .ok (.iload 4, 2) := by decide +kernel
theorem dL_law_2124 : decode cL_law 2124 = .ok (.iconst 1, 1) := by decide +kernel
theorem dL_law_2125 : decode cL_law 2125 = .ok (.iadd, 1) := by decide +kernel
theorem dL_law_2126 : decode cL_law 2126 = .ok (.iaload, 1) := by decide +kernel
theorem dL_law_2127 : decode cL_law 2127 = .ok (.aload_n 0, 1) := by decide +kernel
theorem dL_law_2128 : decode cL_law 2128 = .ok (.iload 4, 2) := by decide +kernel
theorem dL_law_2130 : decode cL_law 2130 = .ok (.iconst 2, 1) := by decide +kernel
theorem dL_law_2131 : decode cL_law 2131 = .ok (.iadd, 1) := by decide +kernel
theorem dL_law_2132 : decode cL_law 2132 = .ok (.iaload, 1) := by decide +kernel
theorem dL_law_2133 : decode cL_law 2133 = .ok (.aload_n 0, 1) := by decide +kernel
theorem dL_law_2134 : decode cL_law 2134 = .ok (.iload 4, 2) := by decide +kernel
theorem dL_law_2136 : decode cL_law 2136 = .ok (.iconst 3, 1) := by decide +kernel
theorem dL_law_2137 : decode cL_law 2137 = .ok (.iadd, 1) := by decide +kernel
theorem dL_law_2138 : decode cL_law 2138 = .ok (.iaload, 1) := by decide +kernel
theorem dL_law_2139 : decode cL_law 2139 = .ok (.invokevirtual 290, 3) := by decide +kernel
theorem dL_law_2142 : decode cL_law 2142 = .ok (.istore 6, 2) := by decide +kernel
theorem dL_law_2144 : decode cL_law 2144 = .ok (.aload_n 2, 1) := by decide +kernel
theorem dL_law_2145 : decode cL_law 2145 = .ok (.invokevirtual 143, 3) := by decide +kernel
theorem dL_law_2148 : decode cL_law 2148 = .ok (.iload 5, 2) := by decide +kernel
theorem dL_law_2150 : decode cL_law 2150 = .ok (.if_icmp .eq 5, 3) := by decide +kernel
theorem dL_law_2153 : decode cL_law 2153 = .ok (.iconst 0, 1) := by decide +kernel
theorem dL_law_2155 : decode cL_law 2155 = .ok (.iload 5, 2) := by decide +kernel
theorem dL_law_2157 : decode cL_law 2157 = .ok (.ifCond .ne 15, 3) := by decide +kernel
theorem dL_law_2160 : decode cL_law 2160 = .ok (.aload_n 3, 1) := by decide +kernel
theorem dL_law_2161 : decode cL_law 2161 = .ok (.iconst 0, 1) := by decide +kernel
theorem dL_law_2162 : decode cL_law 2162 = .ok (.laload, 1) := by decide +kernel
theorem dL_law_2163 : decode cL_law 2163 = .ok (.iload 6, 2) := by decide +kernel
theorem dL_law_2165 : decode cL_law 2165 = .ok (.i2l, 1) := by decide +kernel
theorem dL_law_2166 : decode cL_law 2166 = .ok (.lcmp, 1) := by decide +kernel
theorem dL_law_2167 : decode cL_law 2167 = .ok (.ifCond .eq 5, 3) := by decide +kernel
theorem dL_law_2170 : decode cL_law 2170 = .ok (.iconst 0, 1) := by decide +kernel
theorem dL_law_2172 : decode cL_law 2172 = .ok (.goto 561, 3) := by decide +kernel
def f_law42 (N L : Nat) (xs : Nat → Int32) (i : Int32) (fo : (Nat → Int64)) (mv : MV) (xv : XV) (nv : SV) (tv : SV) (w0 : SV) (w1 : SV) (v0 : SV) (v1 : SV) (v2 : SV) (v3 : SV) (v4 : SV) (v5 : SV) : Option ((Nat → Int64) × MV × XV × SV × SV × SV × SV × SV × SV × SV × SV × SV × SV) :=
  gd (ixok (i + (1 : Int32)) L) (gd (ixok (i + (2 : Int32)) L) (gd (ixok (i + (3 : Int32)) L) ((f_L_wouldCount N fo xv nv tv (xs (i + (1 : Int32)).toNatClampNeg) (xs (i + (2 : Int32)).toNatClampNeg) (xs (i + (3 : Int32)).toNatClampNeg)).bind (fun o4 => gd (ixok (i + (1 : Int32)) L) (gd (ixok (i + (2 : Int32)) L) (gd (ixok (i + (3 : Int32)) L) ((f_X6_wouldCount N mv (xs (i + (1 : Int32)).toNatClampNeg) (xs (i + (2 : Int32)).toNatClampNeg) (xs (i + (3 : Int32)).toNatClampNeg)).bind (fun o9 => (f_X6_thrown N o9.2).bind (fun o11 => (if o11 = o4.1 then jn (fun (s2172 : Unit) => some (o4.2.1, o9.2, o4.2.2.1, o4.2.2.2.1, o4.2.2.2.2, w0, w1, v0, v1, v2, v3, v4, v5)) (fun (j2172 : (Unit) → Option ((Nat → Int64) × MV × XV × SV × SV × SV × SV × SV × SV × SV × SV × SV × SV)) => (if o4.1 = 0 then (if (lg_cmp (o4.2.1 (0 : Int32).toNatClampNeg) ((o9.1).toInt64)) = 0 then j2172 () else none) else j2172 ())) else none))))))))))
set_option maxHeartbeats 4000000 in
set_option maxRecDepth 100000 in
theorem law42 (hst : l.stackTraces = false) (hx : p.tables.exec = Jvm.exec) (hb : c.code = code) (hml : c.maxLocals = 9) (hown : s.vm.findClass RL = some m.cls) (hts : ∀ w ∈ wT, w.before args s = true) (hK : wK dC dI cyI cyO cyL s) (hZ : wZ z0 s) (hAz : ∀ q, A q → z0 ≤ q) (hz0 : z0 ≤ s.heap.size) (hA : ∀ q : Nat, s.heap.size ≤ q → A q) (hX : va_X b L xs s s.heap) (hbl : b < s.heap.size) (hbA : ¬ A b) (hRf : 11 ≤ R.frames) (hRl : 398 ≤ R.locals) (qo : Nat) (mm x an tr k0 k1 b0 b1 b2 b3 b4 b5 : Nat → Nat) (fl fs : Nat → Option Nat) (N : Nat) (fo : (Nat → Int64)) (mv : MV) (xv : XV) (nv : SV) (tv : SV) (w0 : SV) (w1 : SV) (v0 : SV) (v1 : SV) (v2 : SV) (v3 : SV) (v4 : SV) (v5 : SV) (i : Int32) (hl0 : fl 0 = some (k0 0)) (hl1 : fl 1 = some (k1 0)) (hs0 : fs 0 = some (b0 0)) (hs1 : fs 1 = some (b1 0)) (hs2 : fs 2 = some (b2 0)) (hs3 : fs 3 = some (b3 0)) (hs4 : fs 4 = some (b4 0)) (hs5 : fs 5 = some (b5 0)) (out : (Nat → Int64) × MV × XV × SV × SV × SV × SV × SV × SV × SV × SV × SV × SV) (hF : f_law42 N L xs i fo mv xv nv tv w0 w1 v0 v1 v2 v3 v4 v5 = some out) (hP : va_P (dC, dI) vwCl (([[cLo cyL qo 1 fo], (cM cyI mm mv), (cXo x an tr xv), (cH cyO (x 1) (x 2) 2 fl), (cXk cyI x xv), (cH cyO (x 4) (x 5) 6 fs), (cT cyI x (X_text xv)), (cSo an nv), (cG cyI an (S_green nv)), (cV cyI an (S_score nv)), (cSo tr tv), (cG cyI tr (S_green tv)), (cV cyI tr (S_score tv)), (cS cyI k0 w0), (cS cyI k1 w1), (cS cyI b0 v0), (cS cyI b1 v1), (cS cyI b2 v2), (cS cyI b3 v3), (cS cyI b4 v4), (cS cyI b5 v5)] : List va_W).flatten) H) (hD : va_D A (([[cLo cyL qo 1 fo], (cM cyI mm mv), (cXo x an tr xv), (cH cyO (x 1) (x 2) 2 fl), (cXk cyI x xv), (cH cyO (x 4) (x 5) 6 fs), (cT cyI x (X_text xv)), (cSo an nv), (cG cyI an (S_green nv)), (cV cyI an (S_score nv)), (cSo tr tv), (cG cyI tr (S_green tv)), (cV cyI tr (S_score tv)), (cS cyI k0 w0), (cS cyI k1 w1), (cS cyI b0 v0), (cS cyI b1 v1), (cS cyI b2 v2), (cS cyI b3 v3), (cS cyI b4 v4), (cS cyI b5 v5)] : List va_W).flatten)) (hS : va_S A s.heap H locs) (hl : lv_has ls 9 [(0, .ref b), (1, .ref (x 0)), (2, .ref (mm 0)), (3, .ref qo), (4, .int i)]) (hRc : cells + 4 ≤ R.cells) (hRs : slots + 24 ≤ R.slots) (kk : ∀ (H : Heap) (locs : List Loc) (ls : Array Slot), va_P (dC, dI) vwCl (([[cLo cyL qo 1 out.1], (cM cyI mm out.2.1), (cXo x an tr out.2.2.1), (cH cyO (x 1) (x 2) 2 fl), (cXk cyI x out.2.2.1), (cH cyO (x 4) (x 5) 6 fs), (cT cyI x (X_text out.2.2.1)), (cSo an out.2.2.2.1), (cG cyI an (S_green out.2.2.2.1)), (cV cyI an (S_score out.2.2.2.1)), (cSo tr out.2.2.2.2.1), (cG cyI tr (S_green out.2.2.2.2.1)), (cV cyI tr (S_score out.2.2.2.2.1)), (cS cyI k0 out.2.2.2.2.2.1), (cS cyI k1 out.2.2.2.2.2.2.1), (cS cyI b0 out.2.2.2.2.2.2.2.1), (cS cyI b1 out.2.2.2.2.2.2.2.2.1), (cS cyI b2 out.2.2.2.2.2.2.2.2.2.1), (cS cyI b3 out.2.2.2.2.2.2.2.2.2.2.1), (cS cyI b4 out.2.2.2.2.2.2.2.2.2.2.2.1), (cS cyI b5 out.2.2.2.2.2.2.2.2.2.2.2.2)] : List va_W).flatten) H → va_D A (([[cLo cyL qo 1 out.1], (cM cyI mm out.2.1), (cXo x an tr out.2.2.1), (cH cyO (x 1) (x 2) 2 fl), (cXk cyI x out.2.2.1), (cH cyO (x 4) (x 5) 6 fs), (cT cyI x (X_text out.2.2.1)), (cSo an out.2.2.2.1), (cG cyI an (S_green out.2.2.2.1)), (cV cyI an (S_score out.2.2.2.1)), (cSo tr out.2.2.2.2.1), (cG cyI tr (S_green out.2.2.2.2.1)), (cV cyI tr (S_score out.2.2.2.2.1)), (cS cyI k0 out.2.2.2.2.2.1), (cS cyI k1 out.2.2.2.2.2.2.1), (cS cyI b0 out.2.2.2.2.2.2.2.1), (cS cyI b1 out.2.2.2.2.2.2.2.2.1), (cS cyI b2 out.2.2.2.2.2.2.2.2.2.1), (cS cyI b3 out.2.2.2.2.2.2.2.2.2.2.1), (cS cyI b4 out.2.2.2.2.2.2.2.2.2.2.2.1), (cS cyI b5 out.2.2.2.2.2.2.2.2.2.2.2.2)] : List va_W).flatten) → va_S A s.heap H locs → lv_has ls 9 [(0, .ref b), (1, .ref (x 0)), (2, .ref (mm 0)), (3, .ref qo), (4, .int i)] → W p l e R s m args below meth c H locs (cells + 4) (slots + 24) Q (F0 m 2733 ls [])) : W p l e R s m args below meth c H locs cells slots Q (F0 m 2095 ls []) := by
  unfold f_law42 at hF
  refine lv_aload_n hx hb dL_law_2095 rfl (lv_at hl 1 rfl) ?_
  refine lv_aload_n hx hb dL_law_2096 rfl (lv_at hl 0 rfl) ?_
  refine lv_iload hx hb dL_law_2097 (lv_at hl 4 rfl) ?_
  refine lv_iconst (v := 1) hx hb dL_law_2099 (by decide) ?_
  refine lv_iadd hx hb dL_law_2100 ?_
  obtain ⟨hg1, hF⟩ := gd_use hF
  refine va_sld hx hb hX hbl hbA hS hg1 dL_law_2101 ?_
  refine lv_aload_n hx hb dL_law_2102 rfl (lv_at hl 0 rfl) ?_
  refine lv_iload hx hb dL_law_2103 (lv_at hl 4 rfl) ?_
  refine lv_iconst (v := 2) hx hb dL_law_2105 (by decide) ?_
  refine lv_iadd hx hb dL_law_2106 ?_
  obtain ⟨hg2, hF⟩ := gd_use hF
  refine va_sld hx hb hX hbl hbA hS hg2 dL_law_2107 ?_
  refine lv_aload_n hx hb dL_law_2108 rfl (lv_at hl 0 rfl) ?_
  refine lv_iload hx hb dL_law_2109 (lv_at hl 4 rfl) ?_
  refine lv_iconst (v := 3) hx hb dL_law_2111 (by decide) ?_
  refine lv_iadd hx hb dL_law_2112 ?_
  obtain ⟨hg3, hF⟩ := gd_use hF
  refine va_sld hx hb hX hbl hbA hS hg3 dL_law_2113 ?_
  refine lv_aload_n hx hb dL_law_2114 rfl (lv_at hl 3 rfl) ?_
  obtain ⟨o4, h5, hF⟩ := obd hF
  refine wcLi (As := [.ref (x 0), .int (xs (i + (1 : Int32)).toNatClampNeg), .int (xs (i + (2 : Int32)).toNatClampNeg), .int (xs (i + (3 : Int32)).toNatClampNeg), .ref qo]) (rest := []) (wr := ([(cM cyI mm mv), (cS cyI k0 w0), (cS cyI k1 w1), (cS cyI b0 v0), (cS cyI b1 v1), (cS cyI b2 v2), (cS cyI b3 v3), (cS cyI b4 v4), (cS cyI b5 v5)] : List va_W).flatten) ⟨hx, hb, hml, hown, hts⟩ (met_L_wouldCount l z0 hst dC dI cyI cyO cyL qo x an tr fl fs _ N fo xv nv tv (xs (i + (1 : Int32)).toNatClampNeg) (xs (i + (2 : Int32)).toNatClampNeg) (xs (i + (3 : Int32)).toNatClampNeg) o4 h5) (vx_cwSW 5 hts (gS w_methodLink_L_288 w_static_L_wouldCount w_initialized_L w_codeW_L_wouldCount) rfl rfl rfl (by decide +kernel) ⟨Nat.le_trans (Nat.le_of_ble_eq_true rfl) hRf, Nat.le_trans (Nat.le_of_ble_eq_true rfl) hRl⟩) hP hD hK hZ hAz hz0 (seg_perm (n := 21) (R := [(cM cyI mm mv), (cS cyI k0 w0), (cS cyI k1 w1), (cS cyI b0 v0), (cS cyI b1 v1), (cS cyI b2 v2), (cS cyI b3 v3), (cS cyI b4 v4), (cS cyI b5 v5)]) (C := [[cLo cyL qo 1 fo], (cXo x an tr xv), (cH cyO (x 1) (x 2) 2 fl), (cXk cyI x xv), (cH cyO (x 4) (x 5) 6 fs), (cT cyI x (X_text xv)), (cSo an nv), (cG cyI an (S_green nv)), (cV cyI an (S_score nv)), (cSo tr tv), (cG cyI tr (S_green tv)), (cV cyI tr (S_score tv))]) [1, 13, 14, 15, 16, 17, 18, 19, 20] [0, 2, 3, 4, 5, 6, 7, 8, 9, 10, 11, 12] rfl rfl rfl (by decide) rfl) rfl hl.1 (Nat.le_of_ble_eq_true rfl) dL_law_2115 ⟨by omega, by omega⟩ hS hA (fun r u H locs hw hP hD hS => ?_)
  obtain rfl : r = o4.1 := congrArg Prod.fst hw
  obtain rfl : u = o4.2 := congrArg Prod.snd hw
  clear hw
  have hq := seg_permS (segs := [[cLo cyL qo 1 o4.2.1], (cM cyI mm mv), (cXo x an tr o4.2.2.1), (cH cyO (x 1) (x 2) 2 fl), (cXk cyI x o4.2.2.1), (cH cyO (x 4) (x 5) 6 fs), (cT cyI x (X_text o4.2.2.1)), (cSo an o4.2.2.2.1), (cG cyI an (S_green o4.2.2.2.1)), (cV cyI an (S_score o4.2.2.2.1)), (cSo tr o4.2.2.2.2), (cG cyI tr (S_green o4.2.2.2.2)), (cV cyI tr (S_score o4.2.2.2.2)), (cS cyI k0 w0), (cS cyI k1 w1), (cS cyI b0 v0), (cS cyI b1 v1), (cS cyI b2 v2), (cS cyI b3 v3), (cS cyI b4 v4), (cS cyI b5 v5)]) (R := [(cM cyI mm mv), (cS cyI k0 w0), (cS cyI k1 w1), (cS cyI b0 v0), (cS cyI b1 v1), (cS cyI b2 v2), (cS cyI b3 v3), (cS cyI b4 v4), (cS cyI b5 v5)]) (C := [[cLo cyL qo 1 o4.2.1], (cXo x an tr o4.2.2.1), (cH cyO (x 1) (x 2) 2 fl), (cXk cyI x o4.2.2.1), (cH cyO (x 4) (x 5) 6 fs), (cT cyI x (X_text o4.2.2.1)), (cSo an o4.2.2.2.1), (cG cyI an (S_green o4.2.2.2.1)), (cV cyI an (S_score o4.2.2.2.1)), (cSo tr o4.2.2.2.2), (cG cyI tr (S_green o4.2.2.2.2)), (cV cyI tr (S_score o4.2.2.2.2))]) (n := 21) [1, 13, 14, 15, 16, 17, 18, 19, 20] [0, 2, 3, 4, 5, 6, 7, 8, 9, 10, 11, 12] rfl rfl rfl (by decide)
  have hP : va_P (dC, dI) vwCl (([[cLo cyL qo 1 o4.2.1], (cM cyI mm mv), (cXo x an tr o4.2.2.1), (cH cyO (x 1) (x 2) 2 fl), (cXk cyI x o4.2.2.1), (cH cyO (x 4) (x 5) 6 fs), (cT cyI x (X_text o4.2.2.1)), (cSo an o4.2.2.2.1), (cG cyI an (S_green o4.2.2.2.1)), (cV cyI an (S_score o4.2.2.2.1)), (cSo tr o4.2.2.2.2), (cG cyI tr (S_green o4.2.2.2.2)), (cV cyI tr (S_score o4.2.2.2.2)), (cS cyI k0 w0), (cS cyI k1 w1), (cS cyI b0 v0), (cS cyI b1 v1), (cS cyI b2 v2), (cS cyI b3 v3), (cS cyI b4 v4), (cS cyI b5 v5)] : List va_W).flatten) H := hP.perm hq
  have hD : va_D A (([[cLo cyL qo 1 o4.2.1], (cM cyI mm mv), (cXo x an tr o4.2.2.1), (cH cyO (x 1) (x 2) 2 fl), (cXk cyI x o4.2.2.1), (cH cyO (x 4) (x 5) 6 fs), (cT cyI x (X_text o4.2.2.1)), (cSo an o4.2.2.2.1), (cG cyI an (S_green o4.2.2.2.1)), (cV cyI an (S_score o4.2.2.2.1)), (cSo tr o4.2.2.2.2), (cG cyI tr (S_green o4.2.2.2.2)), (cV cyI tr (S_score o4.2.2.2.2)), (cS cyI k0 w0), (cS cyI k1 w1), (cS cyI b0 v0), (cS cyI b1 v1), (cS cyI b2 v2), (cS cyI b3 v3), (cS cyI b4 v4), (cS cyI b5 v5)] : List va_W).flatten) := hD.perm hq
  clear hq
  refine lv_istore (lv' := [(5, .int o4.1), (0, .ref b), (1, .ref (x 0)), (2, .ref (mm 0)), (3, .ref qo), (4, .int i)]) hx hb dL_law_2118 hl (by decide) rfl (fun ls hl => ?_)
  refine lv_aload_n hx hb dL_law_2120 rfl (lv_at hl 3 rfl) ?_
  refine lv_aload_n hx hb dL_law_2121 rfl (lv_at hl 1 rfl) ?_
  refine lv_iload hx hb dL_law_2122 (lv_at hl 5 rfl) ?_
  refine lv_iconst (v := 1) hx hb dL_law_2124 (by decide) ?_
  refine lv_iadd hx hb dL_law_2125 ?_
  obtain ⟨hg6, hF⟩ := gd_use hF
  refine va_sld hx hb hX hbl hbA hS hg6 dL_law_2126 ?_
  refine lv_aload_n hx hb dL_law_2127 rfl (lv_at hl 1 rfl) ?_
  refine lv_iload hx hb dL_law_2128 (lv_at hl 5 rfl) ?_
  refine lv_iconst (v := 2) hx hb dL_law_2130 (by decide) ?_
  refine lv_iadd hx hb dL_law_2131 ?_
  obtain ⟨hg7, hF⟩ := gd_use hF
  refine va_sld hx hb hX hbl hbA hS hg7 dL_law_2132 ?_
  refine lv_aload_n hx hb dL_law_2133 rfl (lv_at hl 1 rfl) ?_
  refine lv_iload hx hb dL_law_2134 (lv_at hl 5 rfl) ?_
  refine lv_iconst (v := 3) hx hb dL_law_2136 (by decide) ?_
  refine lv_iadd hx hb dL_law_2137 ?_
  obtain ⟨hg8, hF⟩ := gd_use hF
  refine va_sld hx hb hX hbl hbA hS hg8 dL_law_2138 ?_
  obtain ⟨o9, h10, hF⟩ := obd hF
  refine wcPVi (As := [.int (xs (i + (1 : Int32)).toNatClampNeg), .int (xs (i + (2 : Int32)).toNatClampNeg), .int (xs (i + (3 : Int32)).toNatClampNeg)]) (rest := []) (wr := ([[cLo cyL qo 1 o4.2.1], (cXo x an tr o4.2.2.1), (cH cyO (x 1) (x 2) 2 fl), (cXk cyI x o4.2.2.1), (cH cyO (x 4) (x 5) 6 fs), (cT cyI x (X_text o4.2.2.1)), (cSo an o4.2.2.2.1), (cG cyI an (S_green o4.2.2.2.1)), (cV cyI an (S_score o4.2.2.2.1)), (cSo tr o4.2.2.2.2), (cG cyI tr (S_green o4.2.2.2.2)), (cV cyI tr (S_score o4.2.2.2.2)), (cS cyI k0 w0), (cS cyI k1 w1), (cS cyI b0 v0), (cS cyI b1 v1), (cS cyI b2 v2), (cS cyI b3 v3), (cS cyI b4 v4), (cS cyI b5 v5)] : List va_W).flatten) (b := (mm 0)) ⟨hx, hb, hml, hown, hts⟩ (met_X6_wouldCount l dC dI cyI cyO cyL mm _ N mv (xs (i + (1 : Int32)).toNatClampNeg) (xs (i + (2 : Int32)).toNatClampNeg) (xs (i + (3 : Int32)).toNatClampNeg) o9 h10) (cwV 3 hts (gV w_methodLink_L_290 w_instanceMethod_X6_wouldCount w_selects_X6_wouldCount w_initialized_X6 w_code_X6_wouldCount) rfl rfl rfl (by decide +kernel) ⟨Nat.le_trans (Nat.le_of_ble_eq_true rfl) hRf, Nat.le_trans (Nat.le_of_ble_eq_true rfl) hRl⟩) (va_recv hK.1 hP (ci := 6) (q0 := 1) rfl rfl) hP hD hK (seg_perm (n := 21) (R := [[cLo cyL qo 1 o4.2.1], (cXo x an tr o4.2.2.1), (cH cyO (x 1) (x 2) 2 fl), (cXk cyI x o4.2.2.1), (cH cyO (x 4) (x 5) 6 fs), (cT cyI x (X_text o4.2.2.1)), (cSo an o4.2.2.2.1), (cG cyI an (S_green o4.2.2.2.1)), (cV cyI an (S_score o4.2.2.2.1)), (cSo tr o4.2.2.2.2), (cG cyI tr (S_green o4.2.2.2.2)), (cV cyI tr (S_score o4.2.2.2.2)), (cS cyI k0 w0), (cS cyI k1 w1), (cS cyI b0 v0), (cS cyI b1 v1), (cS cyI b2 v2), (cS cyI b3 v3), (cS cyI b4 v4), (cS cyI b5 v5)]) (C := [(cM cyI mm mv)]) [0, 2, 3, 4, 5, 6, 7, 8, 9, 10, 11, 12, 13, 14, 15, 16, 17, 18, 19, 20] [1] rfl rfl rfl (by decide) rfl) rfl hl.1 (Nat.le_of_ble_eq_true rfl) dL_law_2139 ⟨by omega, by omega⟩ hS hA (fun r u H locs hw hP hD hS => ?_)
  obtain rfl : r = o9.1 := congrArg Prod.fst hw
  obtain rfl : u = o9.2 := congrArg Prod.snd hw
  clear hw
  have hq := seg_permS (segs := [[cLo cyL qo 1 o4.2.1], (cM cyI mm o9.2), (cXo x an tr o4.2.2.1), (cH cyO (x 1) (x 2) 2 fl), (cXk cyI x o4.2.2.1), (cH cyO (x 4) (x 5) 6 fs), (cT cyI x (X_text o4.2.2.1)), (cSo an o4.2.2.2.1), (cG cyI an (S_green o4.2.2.2.1)), (cV cyI an (S_score o4.2.2.2.1)), (cSo tr o4.2.2.2.2), (cG cyI tr (S_green o4.2.2.2.2)), (cV cyI tr (S_score o4.2.2.2.2)), (cS cyI k0 w0), (cS cyI k1 w1), (cS cyI b0 v0), (cS cyI b1 v1), (cS cyI b2 v2), (cS cyI b3 v3), (cS cyI b4 v4), (cS cyI b5 v5)]) (R := [[cLo cyL qo 1 o4.2.1], (cXo x an tr o4.2.2.1), (cH cyO (x 1) (x 2) 2 fl), (cXk cyI x o4.2.2.1), (cH cyO (x 4) (x 5) 6 fs), (cT cyI x (X_text o4.2.2.1)), (cSo an o4.2.2.2.1), (cG cyI an (S_green o4.2.2.2.1)), (cV cyI an (S_score o4.2.2.2.1)), (cSo tr o4.2.2.2.2), (cG cyI tr (S_green o4.2.2.2.2)), (cV cyI tr (S_score o4.2.2.2.2)), (cS cyI k0 w0), (cS cyI k1 w1), (cS cyI b0 v0), (cS cyI b1 v1), (cS cyI b2 v2), (cS cyI b3 v3), (cS cyI b4 v4), (cS cyI b5 v5)]) (C := [(cM cyI mm o9.2)]) (n := 21) [0, 2, 3, 4, 5, 6, 7, 8, 9, 10, 11, 12, 13, 14, 15, 16, 17, 18, 19, 20] [1] rfl rfl rfl (by decide)
  have hP : va_P (dC, dI) vwCl (([[cLo cyL qo 1 o4.2.1], (cM cyI mm o9.2), (cXo x an tr o4.2.2.1), (cH cyO (x 1) (x 2) 2 fl), (cXk cyI x o4.2.2.1), (cH cyO (x 4) (x 5) 6 fs), (cT cyI x (X_text o4.2.2.1)), (cSo an o4.2.2.2.1), (cG cyI an (S_green o4.2.2.2.1)), (cV cyI an (S_score o4.2.2.2.1)), (cSo tr o4.2.2.2.2), (cG cyI tr (S_green o4.2.2.2.2)), (cV cyI tr (S_score o4.2.2.2.2)), (cS cyI k0 w0), (cS cyI k1 w1), (cS cyI b0 v0), (cS cyI b1 v1), (cS cyI b2 v2), (cS cyI b3 v3), (cS cyI b4 v4), (cS cyI b5 v5)] : List va_W).flatten) H := hP.perm hq
  have hD : va_D A (([[cLo cyL qo 1 o4.2.1], (cM cyI mm o9.2), (cXo x an tr o4.2.2.1), (cH cyO (x 1) (x 2) 2 fl), (cXk cyI x o4.2.2.1), (cH cyO (x 4) (x 5) 6 fs), (cT cyI x (X_text o4.2.2.1)), (cSo an o4.2.2.2.1), (cG cyI an (S_green o4.2.2.2.1)), (cV cyI an (S_score o4.2.2.2.1)), (cSo tr o4.2.2.2.2), (cG cyI tr (S_green o4.2.2.2.2)), (cV cyI tr (S_score o4.2.2.2.2)), (cS cyI k0 w0), (cS cyI k1 w1), (cS cyI b0 v0), (cS cyI b1 v1), (cS cyI b2 v2), (cS cyI b3 v3), (cS cyI b4 v4), (cS cyI b5 v5)] : List va_W).flatten) := hD.perm hq
  clear hq
  refine lv_istore (lv' := [(6, .int o9.1), (5, .int o4.1), (0, .ref b), (1, .ref (x 0)), (2, .ref (mm 0)), (3, .ref qo), (4, .int i)]) hx hb dL_law_2142 hl (by decide) rfl (fun ls hl => ?_)
  refine lv_aload_n hx hb dL_law_2144 rfl (lv_at hl 4 rfl) ?_
  obtain ⟨o11, h12, hF⟩ := obd hF
  refine wcRVi (As := []) (rest := []) (b := (mm 0)) ⟨hx, hb, hml, hown, hts⟩ (met_X6_thrown l dC dI cyI cyO cyL mm N o9.2  o11 h12) (cwV 0 hts (gV w_methodLink_L_143 w_instanceMethod_X6_thrown w_selects_X6_thrown w_initialized_X6 w_code_X6_thrown) rfl rfl rfl (by decide +kernel) ⟨Nat.le_trans (Nat.le_of_ble_eq_true rfl) hRf, Nat.le_trans (Nat.le_of_ble_eq_true rfl) hRl⟩) (va_recv hK.1 hP (ci := 6) (q0 := 1) rfl rfl) hP hK [1, 2, 3, 4, 5, 6, 7, 8] rfl rfl hl.1 (Nat.le_of_ble_eq_true rfl) dL_law_2145 ⟨by omega, by omega⟩ hS (fun r H locs hw hP hS => ?_)
  have hw := hw.symm
  subst hw
  refine lv_iload hx hb dL_law_2148 (lv_at hl 1 rfl) ?_
  refine lv_icmp_eq (tgt := 2155) hx hb dL_law_2150 (by decide) (fun c13 => ?_) (fun c13 => ?_)
  · have hF := itp c13 hF
    refine lv_iload hx hb dL_law_2155 (lv_at hl 1 rfl) ?_
    obtain ⟨j2172, hj2172, hF⟩ := jn_use hF
    have hJ2172 : ∀ (s2172 : Unit) (H : Heap) (locs : List Loc) (ls : Array Slot), va_P (dC, dI) vwCl (([[cLo cyL qo 1 o4.2.1], (cM cyI mm o9.2), (cXo x an tr o4.2.2.1), (cH cyO (x 1) (x 2) 2 fl), (cXk cyI x o4.2.2.1), (cH cyO (x 4) (x 5) 6 fs), (cT cyI x (X_text o4.2.2.1)), (cSo an o4.2.2.2.1), (cG cyI an (S_green o4.2.2.2.1)), (cV cyI an (S_score o4.2.2.2.1)), (cSo tr o4.2.2.2.2), (cG cyI tr (S_green o4.2.2.2.2)), (cV cyI tr (S_score o4.2.2.2.2)), (cS cyI k0 w0), (cS cyI k1 w1), (cS cyI b0 v0), (cS cyI b1 v1), (cS cyI b2 v2), (cS cyI b3 v3), (cS cyI b4 v4), (cS cyI b5 v5)] : List va_W).flatten) H → va_D A (([[cLo cyL qo 1 o4.2.1], (cM cyI mm o9.2), (cXo x an tr o4.2.2.1), (cH cyO (x 1) (x 2) 2 fl), (cXk cyI x o4.2.2.1), (cH cyO (x 4) (x 5) 6 fs), (cT cyI x (X_text o4.2.2.1)), (cSo an o4.2.2.2.1), (cG cyI an (S_green o4.2.2.2.1)), (cV cyI an (S_score o4.2.2.2.1)), (cSo tr o4.2.2.2.2), (cG cyI tr (S_green o4.2.2.2.2)), (cV cyI tr (S_score o4.2.2.2.2)), (cS cyI k0 w0), (cS cyI k1 w1), (cS cyI b0 v0), (cS cyI b1 v1), (cS cyI b2 v2), (cS cyI b3 v3), (cS cyI b4 v4), (cS cyI b5 v5)] : List va_W).flatten) → va_S A s.heap H locs → lv_has ls 9 [(0, .ref b), (1, .ref (x 0)), (2, .ref (mm 0)), (3, .ref qo), (4, .int i)] → j2172 s2172 = some out → W p l e R s m args below meth c H locs (cells + 1) (slots + 6) Q (F0 m 2172 ls []) := by
      intro s2172 H locs ls hP hD hS hl hF
      have hF := (congrFun hj2172 s2172).symm.trans hF
      refine lv_goto (tgt := 2733) hx hb dL_law_2172 (by decide) ?_
      obtain rfl := Option.some.inj hF
      refine W.widen (k := cells + 4) (n := slots + 24) (by omega) (by omega) ?_
      exact kk _ _ _ hP hD hS (lv_sub hl [0, 1, 2, 3, 4] rfl)
    refine lv_if_ne (tgt := 2172) hx hb dL_law_2157 (by decide) (fun c14 => ?_) (fun c14 => ?_)
    · have hF := itn c14 hF
      exact hJ2172 () _ _ _ hP hD hS (lv_sub hl [2, 3, 4, 5, 6] rfl) hF
    · have hF := itp c14 hF
      refine lv_aload_n hx hb dL_law_2160 rfl (lv_at hl 5 rfl) ?_
      refine lv_iconst (v := 0) hx hb dL_law_2161 (by decide) ?_
      refine va_lald hx hb hK.1 hP 0 2 rfl rfl (i := (0 : Int32)) (show ixok (0 : Int32) 1 by decide) dL_law_2162 ?_
      refine lv_iload hx hb dL_law_2163 (lv_at hl 0 rfl) ?_
      refine lv_i2l (v := (o9.1).toInt64) hx hb dL_law_2165 rfl ?_
      refine W.lcmp hx hb dL_law_2166 ?_
      refine lv_if_eq (tgt := 2172) hx hb dL_law_2167 (by decide) (fun c15 => ?_) (fun c15 => ?_)
      · have hF := itp c15 hF
        exact hJ2172 () _ _ _ hP hD hS (lv_sub hl [2, 3, 4, 5, 6] rfl) hF
      · have hF := itn c15 hF
        refine lv_iconst (v := 0) hx hb dL_law_2170 (by decide) ?_
        cases hF
  · have hF := itn c13 hF
    refine lv_iconst (v := 0) hx hb dL_law_2153 (by decide) ?_
    cases hF
theorem dL_law_2175 : decode cL_law 2175 = .ok (.aload_n 1, 1) := by decide +kernel
theorem dL_law_2176 : decode cL_law 2176 = .ok (.aload_n 0, 1) := by decide +kernel
theorem dL_law_2177 : decode cL_law 2177 = .ok (.iload 4, 2) := by decide +kernel
theorem dL_law_2179 : decode cL_law 2179 = .ok (.iconst 1, 1) := by decide +kernel
theorem dL_law_2180 : decode cL_law 2180 = .ok (.iadd, 1) := by decide +kernel
theorem dL_law_2181 : decode cL_law 2181 = .ok (.iaload, 1) := by decide +kernel
theorem dL_law_2182 : decode cL_law 2182 = .ok (.aload_n 0, 1) := by decide +kernel
theorem dL_law_2183 : decode cL_law 2183 = .ok (.iload 4, 2) := by decide +kernel
theorem dL_law_2185 : decode cL_law 2185 = .ok (.iconst 2, 1) := by decide +kernel
theorem dL_law_2186 : decode cL_law 2186 = .ok (.iadd, 1) := by decide +kernel
theorem dL_law_2187 : decode cL_law 2187 = .ok (.iaload, 1) := by decide +kernel
theorem dL_law_2188 : decode cL_law 2188 = .ok (.aload_n 3, 1) := by decide +kernel
theorem dL_law_2189 : decode cL_law 2189 = .ok (.invokestatic 291, 3) := by decide +kernel
theorem dL_law_2192 : decode cL_law 2192 = .ok (.istore 5, 2) := by decide +kernel
theorem dL_law_2194 : decode cL_law 2194 = .ok (.aload_n 2, 1) := by decide +kernel
theorem dL_law_2195 : decode cL_law 2195 = .ok (.aload_n 0, 1) := by decide +kernel
theorem dL_law_2196 : decode cL_law 2196 = .ok (.iload 4, 2) := by decide +kernel
theorem dL_law_2198 : decode cL_law 2198 = .ok (.iconst 1, 1) := by decide +kernel
theorem dL_law_2199 : decode cL_law 2199 = .ok (.iadd, 1) := by decide +kernel
theorem dL_law_2200 : decode cL_law 2200 = .ok (.iaload, 1) := by decide +kernel
theorem dL_law_2201 : decode cL_law 2201 = .ok (.aload_n 0, 1) := by decide +kernel
theorem dL_law_2202 : decode cL_law 2202 = .ok (.iload 4, 2) := by decide +kernel
theorem dL_law_2204 : decode cL_law 2204 = .ok (.iconst 2, 1) := by decide +kernel
theorem dL_law_2205 : decode cL_law 2205 = .ok (.iadd, 1) := by decide +kernel
theorem dL_law_2206 : decode cL_law 2206 = .ok (.iaload, 1) := by decide +kernel
theorem dL_law_2207 : decode cL_law 2207 = .ok (.invokevirtual 293, 3) := by decide +kernel
theorem dL_law_2210 : decode cL_law 2210 = .ok (.istore 6, 2) := by decide +kernel
theorem dL_law_2212 : decode cL_law 2212 = .ok (.aload_n 2, 1) := by decide +kernel
theorem dL_law_2213 : decode cL_law 2213 = .ok (.invokevirtual 143, 3) := by decide +kernel
theorem dL_law_2216 : decode cL_law 2216 = .ok (.iload 5, 2) := by decide +kernel
theorem dL_law_2218 : decode cL_law 2218 = .ok (.if_icmp .eq 5, 3) := by decide +kernel
theorem dL_law_2221 : decode cL_law 2221 = .ok (.iconst 0, 1) := by decide +kernel
theorem dL_law_2223 : decode cL_law 2223 = .ok (.iload 5, 2) := by decide +kernel
theorem dL_law_2225 : decode cL_law 2225 = .ok (.ifCond .ne 15, 3) := by decide +kernel
theorem dL_law_2228 : decode cL_law 2228 = .ok (.aload_n 3, 1) := by decide +kernel
theorem dL_law_2229 : decode cL_law 2229 = .ok (.iconst 0, 1) := by decide +kernel
theorem dL_law_2230 : decode cL_law 2230 = .ok (.laload, 1) := by decide +kernel
theorem dL_law_2231 : decode cL_law 2231 = .ok (.iload 6, 2) := by decide +kernel
theorem dL_law_2233 : decode cL_law 2233 = .ok (.i2l, 1) := by decide +kernel
theorem dL_law_2234 : decode cL_law 2234 = .ok (.lcmp, 1) := by decide +kernel
theorem dL_law_2235 : decode cL_law 2235 = .ok (.ifCond .eq 5, 3) := by decide +kernel
theorem dL_law_2238 : decode cL_law 2238 = .ok (.iconst 0, 1) := by decide +kernel
theorem dL_law_2240 : decode cL_law 2240 = .ok (.goto 493, 3) := by decide +kernel
def f_law43 (N L : Nat) (xs : Nat → Int32) (i : Int32) (fo : (Nat → Int64)) (mv : MV) (xv : XV) (nv : SV) (tv : SV) (w0 : SV) (w1 : SV) (v0 : SV) (v1 : SV) (v2 : SV) (v3 : SV) (v4 : SV) (v5 : SV) : Option ((Nat → Int64) × MV × XV × SV × SV × SV × SV × SV × SV × SV × SV × SV × SV) :=
  gd (ixok (i + (1 : Int32)) L) (gd (ixok (i + (2 : Int32)) L) ((f_L_bestWeight N fo xv nv tv (xs (i + (1 : Int32)).toNatClampNeg) (xs (i + (2 : Int32)).toNatClampNeg)).bind (fun o3 => gd (ixok (i + (1 : Int32)) L) (gd (ixok (i + (2 : Int32)) L) ((f_X6_bestWeight N mv (xs (i + (1 : Int32)).toNatClampNeg) (xs (i + (2 : Int32)).toNatClampNeg)).bind (fun o7 => (f_X6_thrown N o7.2).bind (fun o9 => (if o9 = o3.1 then jn (fun (s2240 : Unit) => some (o3.2.1, o7.2, o3.2.2.1, o3.2.2.2.1, o3.2.2.2.2, w0, w1, v0, v1, v2, v3, v4, v5)) (fun (j2240 : (Unit) → Option ((Nat → Int64) × MV × XV × SV × SV × SV × SV × SV × SV × SV × SV × SV × SV)) => (if o3.1 = 0 then (if (lg_cmp (o3.2.1 (0 : Int32).toNatClampNeg) ((o7.1).toInt64)) = 0 then j2240 () else none) else j2240 ())) else none))))))))
set_option maxHeartbeats 4000000 in
set_option maxRecDepth 100000 in
theorem law43 (hst : l.stackTraces = false) (hx : p.tables.exec = Jvm.exec) (hb : c.code = code) (hml : c.maxLocals = 9) (hown : s.vm.findClass RL = some m.cls) (hts : ∀ w ∈ wT, w.before args s = true) (hK : wK dC dI cyI cyO cyL s) (hZ : wZ z0 s) (hAz : ∀ q, A q → z0 ≤ q) (hz0 : z0 ≤ s.heap.size) (hA : ∀ q : Nat, s.heap.size ≤ q → A q) (hX : va_X b L xs s s.heap) (hbl : b < s.heap.size) (hbA : ¬ A b) (hRf : 11 ≤ R.frames) (hRl : 398 ≤ R.locals) (qo : Nat) (mm x an tr k0 k1 b0 b1 b2 b3 b4 b5 : Nat → Nat) (fl fs : Nat → Option Nat) (N : Nat) (fo : (Nat → Int64)) (mv : MV) (xv : XV) (nv : SV) (tv : SV) (w0 : SV) (w1 : SV) (v0 : SV) (v1 : SV) (v2 : SV) (v3 : SV) (v4 : SV) (v5 : SV) (i : Int32) (hl0 : fl 0 = some (k0 0)) (hl1 : fl 1 = some (k1 0)) (hs0 : fs 0 = some (b0 0)) (hs1 : fs 1 = some (b1 0)) (hs2 : fs 2 = some (b2 0)) (hs3 : fs 3 = some (b3 0)) (hs4 : fs 4 = some (b4 0)) (hs5 : fs 5 = some (b5 0)) (out : (Nat → Int64) × MV × XV × SV × SV × SV × SV × SV × SV × SV × SV × SV × SV) (hF : f_law43 N L xs i fo mv xv nv tv w0 w1 v0 v1 v2 v3 v4 v5 = some out) (hP : va_P (dC, dI) vwCl (([[cLo cyL qo 1 fo], (cM cyI mm mv), (cXo x an tr xv), (cH cyO (x 1) (x 2) 2 fl), (cXk cyI x xv), (cH cyO (x 4) (x 5) 6 fs), (cT cyI x (X_text xv)), (cSo an nv), (cG cyI an (S_green nv)), (cV cyI an (S_score nv)), (cSo tr tv), (cG cyI tr (S_green tv)), (cV cyI tr (S_score tv)), (cS cyI k0 w0), (cS cyI k1 w1), (cS cyI b0 v0), (cS cyI b1 v1), (cS cyI b2 v2), (cS cyI b3 v3), (cS cyI b4 v4), (cS cyI b5 v5)] : List va_W).flatten) H) (hD : va_D A (([[cLo cyL qo 1 fo], (cM cyI mm mv), (cXo x an tr xv), (cH cyO (x 1) (x 2) 2 fl), (cXk cyI x xv), (cH cyO (x 4) (x 5) 6 fs), (cT cyI x (X_text xv)), (cSo an nv), (cG cyI an (S_green nv)), (cV cyI an (S_score nv)), (cSo tr tv), (cG cyI tr (S_green tv)), (cV cyI tr (S_score tv)), (cS cyI k0 w0), (cS cyI k1 w1), (cS cyI b0 v0), (cS cyI b1 v1), (cS cyI b2 v2), (cS cyI b3 v3), (cS cyI b4 v4), (cS cyI b5 v5)] : List va_W).flatten)) (hS : va_S A s.heap H locs) (hl : lv_has ls 9 [(0, .ref b), (1, .ref (x 0)), (2, .ref (mm 0)), (3, .ref qo), (4, .int i)]) (hRc : cells + 4 ≤ R.cells) (hRs : slots + 24 ≤ R.slots) (kk : ∀ (H : Heap) (locs : List Loc) (ls : Array Slot), va_P (dC, dI) vwCl (([[cLo cyL qo 1 out.1], (cM cyI mm out.2.1), (cXo x an tr out.2.2.1), (cH cyO (x 1) (x 2) 2 fl), (cXk cyI x out.2.2.1), (cH cyO (x 4) (x 5) 6 fs), (cT cyI x (X_text out.2.2.1)), (cSo an out.2.2.2.1), (cG cyI an (S_green out.2.2.2.1)), (cV cyI an (S_score out.2.2.2.1)), (cSo tr out.2.2.2.2.1), (cG cyI tr (S_green out.2.2.2.2.1)), (cV cyI tr (S_score out.2.2.2.2.1)), (cS cyI k0 out.2.2.2.2.2.1), (cS cyI k1 out.2.2.2.2.2.2.1), (cS cyI b0 out.2.2.2.2.2.2.2.1), (cS cyI b1 out.2.2.2.2.2.2.2.2.1), (cS cyI b2 out.2.2.2.2.2.2.2.2.2.1), (cS cyI b3 out.2.2.2.2.2.2.2.2.2.2.1), (cS cyI b4 out.2.2.2.2.2.2.2.2.2.2.2.1), (cS cyI b5 out.2.2.2.2.2.2.2.2.2.2.2.2)] : List va_W).flatten) H → va_D A (([[cLo cyL qo 1 out.1], (cM cyI mm out.2.1), (cXo x an tr out.2.2.1), (cH cyO (x 1) (x 2) 2 fl), (cXk cyI x out.2.2.1), (cH cyO (x 4) (x 5) 6 fs), (cT cyI x (X_text out.2.2.1)), (cSo an out.2.2.2.1), (cG cyI an (S_green out.2.2.2.1)), (cV cyI an (S_score out.2.2.2.1)), (cSo tr out.2.2.2.2.1), (cG cyI tr (S_green out.2.2.2.2.1)), (cV cyI tr (S_score out.2.2.2.2.1)), (cS cyI k0 out.2.2.2.2.2.1), (cS cyI k1 out.2.2.2.2.2.2.1), (cS cyI b0 out.2.2.2.2.2.2.2.1), (cS cyI b1 out.2.2.2.2.2.2.2.2.1), (cS cyI b2 out.2.2.2.2.2.2.2.2.2.1), (cS cyI b3 out.2.2.2.2.2.2.2.2.2.2.1), (cS cyI b4 out.2.2.2.2.2.2.2.2.2.2.2.1), (cS cyI b5 out.2.2.2.2.2.2.2.2.2.2.2.2)] : List va_W).flatten) → va_S A s.heap H locs → lv_has ls 9 [(0, .ref b), (1, .ref (x 0)), (2, .ref (mm 0)), (3, .ref qo), (4, .int i)] → W p l e R s m args below meth c H locs (cells + 4) (slots + 24) Q (F0 m 2733 ls [])) : W p l e R s m args below meth c H locs cells slots Q (F0 m 2175 ls []) := by
  unfold f_law43 at hF
  refine lv_aload_n hx hb dL_law_2175 rfl (lv_at hl 1 rfl) ?_
  refine lv_aload_n hx hb dL_law_2176 rfl (lv_at hl 0 rfl) ?_
  refine lv_iload hx hb dL_law_2177 (lv_at hl 4 rfl) ?_
  refine lv_iconst (v := 1) hx hb dL_law_2179 (by decide) ?_
  refine lv_iadd hx hb dL_law_2180 ?_
  obtain ⟨hg1, hF⟩ := gd_use hF
  refine va_sld hx hb hX hbl hbA hS hg1 dL_law_2181 ?_
  refine lv_aload_n hx hb dL_law_2182 rfl (lv_at hl 0 rfl) ?_
  refine lv_iload hx hb dL_law_2183 (lv_at hl 4 rfl) ?_
  refine lv_iconst (v := 2) hx hb dL_law_2185 (by decide) ?_
  refine lv_iadd hx hb dL_law_2186 ?_
  obtain ⟨hg2, hF⟩ := gd_use hF
  refine va_sld hx hb hX hbl hbA hS hg2 dL_law_2187 ?_
  refine lv_aload_n hx hb dL_law_2188 rfl (lv_at hl 3 rfl) ?_
  obtain ⟨o3, h4, hF⟩ := obd hF
  refine wcLi (As := [.ref (x 0), .int (xs (i + (1 : Int32)).toNatClampNeg), .int (xs (i + (2 : Int32)).toNatClampNeg), .ref qo]) (rest := []) (wr := ([(cM cyI mm mv), (cS cyI k0 w0), (cS cyI k1 w1), (cS cyI b0 v0), (cS cyI b1 v1), (cS cyI b2 v2), (cS cyI b3 v3), (cS cyI b4 v4), (cS cyI b5 v5)] : List va_W).flatten) ⟨hx, hb, hml, hown, hts⟩ (met_L_bestWeight l z0 hst dC dI cyI cyO cyL qo x an tr fl fs _ N fo xv nv tv (xs (i + (1 : Int32)).toNatClampNeg) (xs (i + (2 : Int32)).toNatClampNeg) o3 h4) (vx_cwSW 4 hts (gS w_methodLink_L_291 w_static_L_bestWeight w_initialized_L w_codeW_L_bestWeight) rfl rfl rfl (by decide +kernel) ⟨Nat.le_trans (Nat.le_of_ble_eq_true rfl) hRf, Nat.le_trans (Nat.le_of_ble_eq_true rfl) hRl⟩) hP hD hK hZ hAz hz0 (seg_perm (n := 21) (R := [(cM cyI mm mv), (cS cyI k0 w0), (cS cyI k1 w1), (cS cyI b0 v0), (cS cyI b1 v1), (cS cyI b2 v2), (cS cyI b3 v3), (cS cyI b4 v4), (cS cyI b5 v5)]) (C := [[cLo cyL qo 1 fo], (cXo x an tr xv), (cH cyO (x 1) (x 2) 2 fl), (cXk cyI x xv), (cH cyO (x 4) (x 5) 6 fs), (cT cyI x (X_text xv)), (cSo an nv), (cG cyI an (S_green nv)), (cV cyI an (S_score nv)), (cSo tr tv), (cG cyI tr (S_green tv)), (cV cyI tr (S_score tv))]) [1, 13, 14, 15, 16, 17, 18, 19, 20] [0, 2, 3, 4, 5, 6, 7, 8, 9, 10, 11, 12] rfl rfl rfl (by decide) rfl) rfl hl.1 (Nat.le_of_ble_eq_true rfl) dL_law_2189 ⟨by omega, by omega⟩ hS hA (fun r u H locs hw hP hD hS => ?_)
  obtain rfl : r = o3.1 := congrArg Prod.fst hw
  obtain rfl : u = o3.2 := congrArg Prod.snd hw
  clear hw
  have hq := seg_permS (segs := [[cLo cyL qo 1 o3.2.1], (cM cyI mm mv), (cXo x an tr o3.2.2.1), (cH cyO (x 1) (x 2) 2 fl), (cXk cyI x o3.2.2.1), (cH cyO (x 4) (x 5) 6 fs), (cT cyI x (X_text o3.2.2.1)), (cSo an o3.2.2.2.1), (cG cyI an (S_green o3.2.2.2.1)), (cV cyI an (S_score o3.2.2.2.1)), (cSo tr o3.2.2.2.2), (cG cyI tr (S_green o3.2.2.2.2)), (cV cyI tr (S_score o3.2.2.2.2)), (cS cyI k0 w0), (cS cyI k1 w1), (cS cyI b0 v0), (cS cyI b1 v1), (cS cyI b2 v2), (cS cyI b3 v3), (cS cyI b4 v4), (cS cyI b5 v5)]) (R := [(cM cyI mm mv), (cS cyI k0 w0), (cS cyI k1 w1), (cS cyI b0 v0), (cS cyI b1 v1), (cS cyI b2 v2), (cS cyI b3 v3), (cS cyI b4 v4), (cS cyI b5 v5)]) (C := [[cLo cyL qo 1 o3.2.1], (cXo x an tr o3.2.2.1), (cH cyO (x 1) (x 2) 2 fl), (cXk cyI x o3.2.2.1), (cH cyO (x 4) (x 5) 6 fs), (cT cyI x (X_text o3.2.2.1)), (cSo an o3.2.2.2.1), (cG cyI an (S_green o3.2.2.2.1)), (cV cyI an (S_score o3.2.2.2.1)), (cSo tr o3.2.2.2.2), (cG cyI tr (S_green o3.2.2.2.2)), (cV cyI tr (S_score o3.2.2.2.2))]) (n := 21) [1, 13, 14, 15, 16, 17, 18, 19, 20] [0, 2, 3, 4, 5, 6, 7, 8, 9, 10, 11, 12] rfl rfl rfl (by decide)
  have hP : va_P (dC, dI) vwCl (([[cLo cyL qo 1 o3.2.1], (cM cyI mm mv), (cXo x an tr o3.2.2.1), (cH cyO (x 1) (x 2) 2 fl), (cXk cyI x o3.2.2.1), (cH cyO (x 4) (x 5) 6 fs), (cT cyI x (X_text o3.2.2.1)), (cSo an o3.2.2.2.1), (cG cyI an (S_green o3.2.2.2.1)), (cV cyI an (S_score o3.2.2.2.1)), (cSo tr o3.2.2.2.2), (cG cyI tr (S_green o3.2.2.2.2)), (cV cyI tr (S_score o3.2.2.2.2)), (cS cyI k0 w0), (cS cyI k1 w1), (cS cyI b0 v0), (cS cyI b1 v1), (cS cyI b2 v2), (cS cyI b3 v3), (cS cyI b4 v4), (cS cyI b5 v5)] : List va_W).flatten) H := hP.perm hq
  have hD : va_D A (([[cLo cyL qo 1 o3.2.1], (cM cyI mm mv), (cXo x an tr o3.2.2.1), (cH cyO (x 1) (x 2) 2 fl), (cXk cyI x o3.2.2.1), (cH cyO (x 4) (x 5) 6 fs), (cT cyI x (X_text o3.2.2.1)), (cSo an o3.2.2.2.1), (cG cyI an (S_green o3.2.2.2.1)), (cV cyI an (S_score o3.2.2.2.1)), (cSo tr o3.2.2.2.2), (cG cyI tr (S_green o3.2.2.2.2)), (cV cyI tr (S_score o3.2.2.2.2)), (cS cyI k0 w0), (cS cyI k1 w1), (cS cyI b0 v0), (cS cyI b1 v1), (cS cyI b2 v2), (cS cyI b3 v3), (cS cyI b4 v4), (cS cyI b5 v5)] : List va_W).flatten) := hD.perm hq
  clear hq
  refine lv_istore (lv' := [(5, .int o3.1), (0, .ref b), (1, .ref (x 0)), (2, .ref (mm 0)), (3, .ref qo), (4, .int i)]) hx hb dL_law_2192 hl (by decide) rfl (fun ls hl => ?_)
  refine lv_aload_n hx hb dL_law_2194 rfl (lv_at hl 3 rfl) ?_
  refine lv_aload_n hx hb dL_law_2195 rfl (lv_at hl 1 rfl) ?_
  refine lv_iload hx hb dL_law_2196 (lv_at hl 5 rfl) ?_
  refine lv_iconst (v := 1) hx hb dL_law_2198 (by decide) ?_
  refine lv_iadd hx hb dL_law_2199 ?_
  obtain ⟨hg5, hF⟩ := gd_use hF
  refine va_sld hx hb hX hbl hbA hS hg5 dL_law_2200 ?_
  refine lv_aload_n hx hb dL_law_2201 rfl (lv_at hl 1 rfl) ?_
  refine lv_iload hx hb dL_law_2202 (lv_at hl 5 rfl) ?_
  refine lv_iconst (v := 2) hx hb dL_law_2204 (by decide) ?_
  refine lv_iadd hx hb dL_law_2205 ?_
  obtain ⟨hg6, hF⟩ := gd_use hF
  refine va_sld hx hb hX hbl hbA hS hg6 dL_law_2206 ?_
  obtain ⟨o7, h8, hF⟩ := obd hF
  refine wcPVi (As := [.int (xs (i + (1 : Int32)).toNatClampNeg), .int (xs (i + (2 : Int32)).toNatClampNeg)]) (rest := []) (wr := ([[cLo cyL qo 1 o3.2.1], (cXo x an tr o3.2.2.1), (cH cyO (x 1) (x 2) 2 fl), (cXk cyI x o3.2.2.1), (cH cyO (x 4) (x 5) 6 fs), (cT cyI x (X_text o3.2.2.1)), (cSo an o3.2.2.2.1), (cG cyI an (S_green o3.2.2.2.1)), (cV cyI an (S_score o3.2.2.2.1)), (cSo tr o3.2.2.2.2), (cG cyI tr (S_green o3.2.2.2.2)), (cV cyI tr (S_score o3.2.2.2.2)), (cS cyI k0 w0), (cS cyI k1 w1), (cS cyI b0 v0), (cS cyI b1 v1), (cS cyI b2 v2), (cS cyI b3 v3), (cS cyI b4 v4), (cS cyI b5 v5)] : List va_W).flatten) (b := (mm 0)) ⟨hx, hb, hml, hown, hts⟩ (met_X6_bestWeight l dC dI cyI cyO cyL mm _ N mv (xs (i + (1 : Int32)).toNatClampNeg) (xs (i + (2 : Int32)).toNatClampNeg) o7 h8) (cwV 2 hts (gV w_methodLink_L_293 w_instanceMethod_X6_bestWeight w_selects_X6_bestWeight w_initialized_X6 w_code_X6_bestWeight) rfl rfl rfl (by decide +kernel) ⟨Nat.le_trans (Nat.le_of_ble_eq_true rfl) hRf, Nat.le_trans (Nat.le_of_ble_eq_true rfl) hRl⟩) (va_recv hK.1 hP (ci := 6) (q0 := 1) rfl rfl) hP hD hK (seg_perm (n := 21) (R := [[cLo cyL qo 1 o3.2.1], (cXo x an tr o3.2.2.1), (cH cyO (x 1) (x 2) 2 fl), (cXk cyI x o3.2.2.1), (cH cyO (x 4) (x 5) 6 fs), (cT cyI x (X_text o3.2.2.1)), (cSo an o3.2.2.2.1), (cG cyI an (S_green o3.2.2.2.1)), (cV cyI an (S_score o3.2.2.2.1)), (cSo tr o3.2.2.2.2), (cG cyI tr (S_green o3.2.2.2.2)), (cV cyI tr (S_score o3.2.2.2.2)), (cS cyI k0 w0), (cS cyI k1 w1), (cS cyI b0 v0), (cS cyI b1 v1), (cS cyI b2 v2), (cS cyI b3 v3), (cS cyI b4 v4), (cS cyI b5 v5)]) (C := [(cM cyI mm mv)]) [0, 2, 3, 4, 5, 6, 7, 8, 9, 10, 11, 12, 13, 14, 15, 16, 17, 18, 19, 20] [1] rfl rfl rfl (by decide) rfl) rfl hl.1 (Nat.le_of_ble_eq_true rfl) dL_law_2207 ⟨by omega, by omega⟩ hS hA (fun r u H locs hw hP hD hS => ?_)
  obtain rfl : r = o7.1 := congrArg Prod.fst hw
  obtain rfl : u = o7.2 := congrArg Prod.snd hw
  clear hw
  have hq := seg_permS (segs := [[cLo cyL qo 1 o3.2.1], (cM cyI mm o7.2), (cXo x an tr o3.2.2.1), (cH cyO (x 1) (x 2) 2 fl), (cXk cyI x o3.2.2.1), (cH cyO (x 4) (x 5) 6 fs), (cT cyI x (X_text o3.2.2.1)), (cSo an o3.2.2.2.1), (cG cyI an (S_green o3.2.2.2.1)), (cV cyI an (S_score o3.2.2.2.1)), (cSo tr o3.2.2.2.2), (cG cyI tr (S_green o3.2.2.2.2)), (cV cyI tr (S_score o3.2.2.2.2)), (cS cyI k0 w0), (cS cyI k1 w1), (cS cyI b0 v0), (cS cyI b1 v1), (cS cyI b2 v2), (cS cyI b3 v3), (cS cyI b4 v4), (cS cyI b5 v5)]) (R := [[cLo cyL qo 1 o3.2.1], (cXo x an tr o3.2.2.1), (cH cyO (x 1) (x 2) 2 fl), (cXk cyI x o3.2.2.1), (cH cyO (x 4) (x 5) 6 fs), (cT cyI x (X_text o3.2.2.1)), (cSo an o3.2.2.2.1), (cG cyI an (S_green o3.2.2.2.1)), (cV cyI an (S_score o3.2.2.2.1)), (cSo tr o3.2.2.2.2), (cG cyI tr (S_green o3.2.2.2.2)), (cV cyI tr (S_score o3.2.2.2.2)), (cS cyI k0 w0), (cS cyI k1 w1), (cS cyI b0 v0), (cS cyI b1 v1), (cS cyI b2 v2), (cS cyI b3 v3), (cS cyI b4 v4), (cS cyI b5 v5)]) (C := [(cM cyI mm o7.2)]) (n := 21) [0, 2, 3, 4, 5, 6, 7, 8, 9, 10, 11, 12, 13, 14, 15, 16, 17, 18, 19, 20] [1] rfl rfl rfl (by decide)
  have hP : va_P (dC, dI) vwCl (([[cLo cyL qo 1 o3.2.1], (cM cyI mm o7.2), (cXo x an tr o3.2.2.1), (cH cyO (x 1) (x 2) 2 fl), (cXk cyI x o3.2.2.1), (cH cyO (x 4) (x 5) 6 fs), (cT cyI x (X_text o3.2.2.1)), (cSo an o3.2.2.2.1), (cG cyI an (S_green o3.2.2.2.1)), (cV cyI an (S_score o3.2.2.2.1)), (cSo tr o3.2.2.2.2), (cG cyI tr (S_green o3.2.2.2.2)), (cV cyI tr (S_score o3.2.2.2.2)), (cS cyI k0 w0), (cS cyI k1 w1), (cS cyI b0 v0), (cS cyI b1 v1), (cS cyI b2 v2), (cS cyI b3 v3), (cS cyI b4 v4), (cS cyI b5 v5)] : List va_W).flatten) H := hP.perm hq
  have hD : va_D A (([[cLo cyL qo 1 o3.2.1], (cM cyI mm o7.2), (cXo x an tr o3.2.2.1), (cH cyO (x 1) (x 2) 2 fl), (cXk cyI x o3.2.2.1), (cH cyO (x 4) (x 5) 6 fs), (cT cyI x (X_text o3.2.2.1)), (cSo an o3.2.2.2.1), (cG cyI an (S_green o3.2.2.2.1)), (cV cyI an (S_score o3.2.2.2.1)), (cSo tr o3.2.2.2.2), (cG cyI tr (S_green o3.2.2.2.2)), (cV cyI tr (S_score o3.2.2.2.2)), (cS cyI k0 w0), (cS cyI k1 w1), (cS cyI b0 v0), (cS cyI b1 v1), (cS cyI b2 v2), (cS cyI b3 v3), (cS cyI b4 v4), (cS cyI b5 v5)] : List va_W).flatten) := hD.perm hq
  clear hq
  refine lv_istore (lv' := [(6, .int o7.1), (5, .int o3.1), (0, .ref b), (1, .ref (x 0)), (2, .ref (mm 0)), (3, .ref qo), (4, .int i)]) hx hb dL_law_2210 hl (by decide) rfl (fun ls hl => ?_)
  refine lv_aload_n hx hb dL_law_2212 rfl (lv_at hl 4 rfl) ?_
  obtain ⟨o9, h10, hF⟩ := obd hF
  refine wcRVi (As := []) (rest := []) (b := (mm 0)) ⟨hx, hb, hml, hown, hts⟩ (met_X6_thrown l dC dI cyI cyO cyL mm N o7.2  o9 h10) (cwV 0 hts (gV w_methodLink_L_143 w_instanceMethod_X6_thrown w_selects_X6_thrown w_initialized_X6 w_code_X6_thrown) rfl rfl rfl (by decide +kernel) ⟨Nat.le_trans (Nat.le_of_ble_eq_true rfl) hRf, Nat.le_trans (Nat.le_of_ble_eq_true rfl) hRl⟩) (va_recv hK.1 hP (ci := 6) (q0 := 1) rfl rfl) hP hK [1, 2, 3, 4, 5, 6, 7, 8] rfl rfl hl.1 (Nat.le_of_ble_eq_true rfl) dL_law_2213 ⟨by omega, by omega⟩ hS (fun r H locs hw hP hS => ?_)
  have hw := hw.symm
  subst hw
  refine lv_iload hx hb dL_law_2216 (lv_at hl 1 rfl) ?_
  refine lv_icmp_eq (tgt := 2223) hx hb dL_law_2218 (by decide) (fun c11 => ?_) (fun c11 => ?_)
  · have hF := itp c11 hF
    refine lv_iload hx hb dL_law_2223 (lv_at hl 1 rfl) ?_
    obtain ⟨j2240, hj2240, hF⟩ := jn_use hF
    have hJ2240 : ∀ (s2240 : Unit) (H : Heap) (locs : List Loc) (ls : Array Slot), va_P (dC, dI) vwCl (([[cLo cyL qo 1 o3.2.1], (cM cyI mm o7.2), (cXo x an tr o3.2.2.1), (cH cyO (x 1) (x 2) 2 fl), (cXk cyI x o3.2.2.1), (cH cyO (x 4) (x 5) 6 fs), (cT cyI x (X_text o3.2.2.1)), (cSo an o3.2.2.2.1), (cG cyI an (S_green o3.2.2.2.1)), (cV cyI an (S_score o3.2.2.2.1)), (cSo tr o3.2.2.2.2), (cG cyI tr (S_green o3.2.2.2.2)), (cV cyI tr (S_score o3.2.2.2.2)), (cS cyI k0 w0), (cS cyI k1 w1), (cS cyI b0 v0), (cS cyI b1 v1), (cS cyI b2 v2), (cS cyI b3 v3), (cS cyI b4 v4), (cS cyI b5 v5)] : List va_W).flatten) H → va_D A (([[cLo cyL qo 1 o3.2.1], (cM cyI mm o7.2), (cXo x an tr o3.2.2.1), (cH cyO (x 1) (x 2) 2 fl), (cXk cyI x o3.2.2.1), (cH cyO (x 4) (x 5) 6 fs), (cT cyI x (X_text o3.2.2.1)), (cSo an o3.2.2.2.1), (cG cyI an (S_green o3.2.2.2.1)), (cV cyI an (S_score o3.2.2.2.1)), (cSo tr o3.2.2.2.2), (cG cyI tr (S_green o3.2.2.2.2)), (cV cyI tr (S_score o3.2.2.2.2)), (cS cyI k0 w0), (cS cyI k1 w1), (cS cyI b0 v0), (cS cyI b1 v1), (cS cyI b2 v2), (cS cyI b3 v3), (cS cyI b4 v4), (cS cyI b5 v5)] : List va_W).flatten) → va_S A s.heap H locs → lv_has ls 9 [(0, .ref b), (1, .ref (x 0)), (2, .ref (mm 0)), (3, .ref qo), (4, .int i)] → j2240 s2240 = some out → W p l e R s m args below meth c H locs (cells + 1) (slots + 6) Q (F0 m 2240 ls []) := by
      intro s2240 H locs ls hP hD hS hl hF
      have hF := (congrFun hj2240 s2240).symm.trans hF
      refine lv_goto (tgt := 2733) hx hb dL_law_2240 (by decide) ?_
      obtain rfl := Option.some.inj hF
      refine W.widen (k := cells + 4) (n := slots + 24) (by omega) (by omega) ?_
      exact kk _ _ _ hP hD hS (lv_sub hl [0, 1, 2, 3, 4] rfl)
    refine lv_if_ne (tgt := 2240) hx hb dL_law_2225 (by decide) (fun c12 => ?_) (fun c12 => ?_)
    · have hF := itn c12 hF
      exact hJ2240 () _ _ _ hP hD hS (lv_sub hl [2, 3, 4, 5, 6] rfl) hF
    · have hF := itp c12 hF
      refine lv_aload_n hx hb dL_law_2228 rfl (lv_at hl 5 rfl) ?_
      refine lv_iconst (v := 0) hx hb dL_law_2229 (by decide) ?_
      refine va_lald hx hb hK.1 hP 0 2 rfl rfl (i := (0 : Int32)) (show ixok (0 : Int32) 1 by decide) dL_law_2230 ?_
      refine lv_iload hx hb dL_law_2231 (lv_at hl 0 rfl) ?_
      refine lv_i2l (v := (o7.1).toInt64) hx hb dL_law_2233 rfl ?_
      refine W.lcmp hx hb dL_law_2234 ?_
      refine lv_if_eq (tgt := 2240) hx hb dL_law_2235 (by decide) (fun c13 => ?_) (fun c13 => ?_)
      · have hF := itp c13 hF
        exact hJ2240 () _ _ _ hP hD hS (lv_sub hl [2, 3, 4, 5, 6] rfl) hF
      · have hF := itn c13 hF
        refine lv_iconst (v := 0) hx hb dL_law_2238 (by decide) ?_
        cases hF
  · have hF := itn c11 hF
    refine lv_iconst (v := 0) hx hb dL_law_2221 (by decide) ?_
    cases hF
theorem dL_law_2243 : decode cL_law 2243 = .ok (.aload_n 1, 1) := by decide +kernel
theorem dL_law_2244 : decode cL_law 2244 = .ok (.aload_n 0, 1) := by decide +kernel
theorem dL_law_2245 : decode cL_law 2245 = .ok (.iload 4, 2) := by decide +kernel
theorem dL_law_2247 : decode cL_law 2247 = .ok (.iconst 1, 1) := by decide +kernel
theorem dL_law_2248 : decode cL_law 2248 = .ok (.iadd, 1) := by decide +kernel
theorem dL_law_2249 : decode cL_law 2249 = .ok (.iaload, 1) := by decide +kernel
theorem dL_law_2250 : decode cL_law 2250 = .ok (.aload_n 0, 1) := by decide +kernel
theorem dL_law_2251 : decode cL_law 2251 = .ok (.iload 4, 2) := by decide +kernel
theorem dL_law_2253 : decode cL_law 2253 = .ok (.iconst 2, 1) := by decide +kernel
theorem dL_law_2254 : decode cL_law 2254 = .ok (.iadd, 1) := by decide +kernel
theorem dL_law_2255 : decode cL_law 2255 = .ok (.iaload, 1) := by decide +kernel
theorem dL_law_2256 : decode cL_law 2256 = .ok (.aload_n 0, 1) := by decide +kernel
theorem dL_law_2257 : decode cL_law 2257 = .ok (.iload 4, 2) := by decide +kernel
theorem dL_law_2259 : decode cL_law 2259 = .ok (.iconst 3, 1) := by decide +kernel
theorem dL_law_2260 : decode cL_law 2260 = .ok (.iadd, 1) := by decide +kernel
theorem dL_law_2261 : decode cL_law 2261 = .ok (.iaload, 1) := by decide +kernel
theorem dL_law_2262 : decode cL_law 2262 = .ok (.aload_n 3, 1) := by decide +kernel
theorem dL_law_2263 : decode cL_law 2263 = .ok (.invokestatic 294, 3) := by decide +kernel
theorem dL_law_2266 : decode cL_law 2266 = .ok (.istore 5, 2) := by decide +kernel
theorem dL_law_2268 : decode cL_law 2268 = .ok (.aload_n 2, 1) := by decide +kernel
theorem dL_law_2269 : decode cL_law 2269 = .ok (.aload_n 0, 1) := by decide +kernel
theorem dL_law_2270 : decode cL_law 2270 = .ok (.iload 4, 2) := by decide +kernel
theorem dL_law_2272 : decode cL_law 2272 = .ok (.iconst 1, 1) := by decide +kernel
theorem dL_law_2273 : decode cL_law 2273 = .ok (.iadd, 1) := by decide +kernel
theorem dL_law_2274 : decode cL_law 2274 = .ok (.iaload, 1) := by decide +kernel
theorem dL_law_2275 : decode cL_law 2275 = .ok (.aload_n 0, 1) := by decide +kernel
theorem dL_law_2276 : decode cL_law 2276 = .ok (.iload 4, 2) := by decide +kernel
theorem dL_law_2278 : decode cL_law 2278 = .ok (.iconst 2, 1) := by decide +kernel
theorem dL_law_2279 : decode cL_law 2279 = .ok (.iadd, 1) := by decide +kernel
theorem dL_law_2280 : decode cL_law 2280 = .ok (.iaload, 1) := by decide +kernel
theorem dL_law_2281 : decode cL_law 2281 = .ok (.aload_n 0, 1) := by decide +kernel
theorem dL_law_2282 : decode cL_law 2282 = .ok (.iload 4, 2) := by decide +kernel
theorem dL_law_2284 : decode cL_law 2284 = .ok (.iconst 3, 1) := by decide +kernel
theorem dL_law_2285 : decode cL_law 2285 = .ok (.iadd, 1) := by decide +kernel
theorem dL_law_2286 : decode cL_law 2286 = .ok (.iaload, 1) := by decide +kernel
theorem dL_law_2287 : decode cL_law 2287 = .ok (.invokevirtual 296, 3) := by decide +kernel
theorem dL_law_2290 : decode cL_law 2290 = .ok (.istore 6, 2) := by decide +kernel
theorem dL_law_2292 : decode cL_law 2292 = .ok (.aload_n 2, 1) := by decide +kernel
theorem dL_law_2293 : decode cL_law 2293 = .ok (.invokevirtual 143, 3) := by decide +kernel
theorem dL_law_2296 : decode cL_law 2296 = .ok (.iload 5, 2) := by decide +kernel
theorem dL_law_2298 : decode cL_law 2298 = .ok (.if_icmp .eq 5, 3) := by decide +kernel
theorem dL_law_2301 : decode cL_law 2301 = .ok (.iconst 0, 1) := by decide +kernel
theorem dL_law_2303 : decode cL_law 2303 = .ok (.iload 5, 2) := by decide +kernel
theorem dL_law_2305 : decode cL_law 2305 = .ok (.ifCond .ne 15, 3) := by decide +kernel
theorem dL_law_2308 : decode cL_law 2308 = .ok (.aload_n 3, 1) := by decide +kernel
theorem dL_law_2309 : decode cL_law 2309 = .ok (.iconst 0, 1) := by decide +kernel
theorem dL_law_2310 : decode cL_law 2310 = .ok (.laload, 1) := by decide +kernel
theorem dL_law_2311 : decode cL_law 2311 = .ok (.iload 6, 2) := by decide +kernel
theorem dL_law_2313 : decode cL_law 2313 = .ok (.i2l, 1) := by decide +kernel
theorem dL_law_2314 : decode cL_law 2314 = .ok (.lcmp, 1) := by decide +kernel
theorem dL_law_2315 : decode cL_law 2315 = .ok (.ifCond .eq 5, 3) := by decide +kernel
theorem dL_law_2318 : decode cL_law 2318 = .ok (.iconst 0, 1) := by decide +kernel
theorem dL_law_2320 : decode cL_law 2320 = .ok (.goto 413, 3) := by decide +kernel
def f_law44 (N L : Nat) (xs : Nat → Int32) (i : Int32) (fo : (Nat → Int64)) (mv : MV) (xv : XV) (nv : SV) (tv : SV) (w0 : SV) (w1 : SV) (v0 : SV) (v1 : SV) (v2 : SV) (v3 : SV) (v4 : SV) (v5 : SV) : Option ((Nat → Int64) × MV × XV × SV × SV × SV × SV × SV × SV × SV × SV × SV × SV) :=
  gd (ixok (i + (1 : Int32)) L) (gd (ixok (i + (2 : Int32)) L) (gd (ixok (i + (3 : Int32)) L) ((f_L_wouldStrike N fo xv nv tv (xs (i + (1 : Int32)).toNatClampNeg) (xs (i + (2 : Int32)).toNatClampNeg) (xs (i + (3 : Int32)).toNatClampNeg)).bind (fun o4 => gd (ixok (i + (1 : Int32)) L) (gd (ixok (i + (2 : Int32)) L) (gd (ixok (i + (3 : Int32)) L) ((f_X6_wouldStrike N mv (xs (i + (1 : Int32)).toNatClampNeg) (xs (i + (2 : Int32)).toNatClampNeg) (xs (i + (3 : Int32)).toNatClampNeg)).bind (fun o9 => (f_X6_thrown N o9.2).bind (fun o11 => (if o11 = o4.1 then jn (fun (s2320 : Unit) => some (o4.2.1, o9.2, o4.2.2.1, o4.2.2.2.1, o4.2.2.2.2, w0, w1, v0, v1, v2, v3, v4, v5)) (fun (j2320 : (Unit) → Option ((Nat → Int64) × MV × XV × SV × SV × SV × SV × SV × SV × SV × SV × SV × SV)) => (if o4.1 = 0 then (if (lg_cmp (o4.2.1 (0 : Int32).toNatClampNeg) ((o9.1).toInt64)) = 0 then j2320 () else none) else j2320 ())) else none))))))))))
set_option maxHeartbeats 4000000 in
set_option maxRecDepth 100000 in
theorem law44 (hst : l.stackTraces = false) (hx : p.tables.exec = Jvm.exec) (hb : c.code = code) (hml : c.maxLocals = 9) (hown : s.vm.findClass RL = some m.cls) (hts : ∀ w ∈ wT, w.before args s = true) (hK : wK dC dI cyI cyO cyL s) (hZ : wZ z0 s) (hAz : ∀ q, A q → z0 ≤ q) (hz0 : z0 ≤ s.heap.size) (hA : ∀ q : Nat, s.heap.size ≤ q → A q) (hX : va_X b L xs s s.heap) (hbl : b < s.heap.size) (hbA : ¬ A b) (hRf : 11 ≤ R.frames) (hRl : 398 ≤ R.locals) (qo : Nat) (mm x an tr k0 k1 b0 b1 b2 b3 b4 b5 : Nat → Nat) (fl fs : Nat → Option Nat) (N : Nat) (fo : (Nat → Int64)) (mv : MV) (xv : XV) (nv : SV) (tv : SV) (w0 : SV) (w1 : SV) (v0 : SV) (v1 : SV) (v2 : SV) (v3 : SV) (v4 : SV) (v5 : SV) (i : Int32) (hl0 : fl 0 = some (k0 0)) (hl1 : fl 1 = some (k1 0)) (hs0 : fs 0 = some (b0 0)) (hs1 : fs 1 = some (b1 0)) (hs2 : fs 2 = some (b2 0)) (hs3 : fs 3 = some (b3 0)) (hs4 : fs 4 = some (b4 0)) (hs5 : fs 5 = some (b5 0)) (out : (Nat → Int64) × MV × XV × SV × SV × SV × SV × SV × SV × SV × SV × SV × SV) (hF : f_law44 N L xs i fo mv xv nv tv w0 w1 v0 v1 v2 v3 v4 v5 = some out) (hP : va_P (dC, dI) vwCl (([[cLo cyL qo 1 fo], (cM cyI mm mv), (cXo x an tr xv), (cH cyO (x 1) (x 2) 2 fl), (cXk cyI x xv), (cH cyO (x 4) (x 5) 6 fs), (cT cyI x (X_text xv)), (cSo an nv), (cG cyI an (S_green nv)), (cV cyI an (S_score nv)), (cSo tr tv), (cG cyI tr (S_green tv)), (cV cyI tr (S_score tv)), (cS cyI k0 w0), (cS cyI k1 w1), (cS cyI b0 v0), (cS cyI b1 v1), (cS cyI b2 v2), (cS cyI b3 v3), (cS cyI b4 v4), (cS cyI b5 v5)] : List va_W).flatten) H) (hD : va_D A (([[cLo cyL qo 1 fo], (cM cyI mm mv), (cXo x an tr xv), (cH cyO (x 1) (x 2) 2 fl), (cXk cyI x xv), (cH cyO (x 4) (x 5) 6 fs), (cT cyI x (X_text xv)), (cSo an nv), (cG cyI an (S_green nv)), (cV cyI an (S_score nv)), (cSo tr tv), (cG cyI tr (S_green tv)), (cV cyI tr (S_score tv)), (cS cyI k0 w0), (cS cyI k1 w1), (cS cyI b0 v0), (cS cyI b1 v1), (cS cyI b2 v2), (cS cyI b3 v3), (cS cyI b4 v4), (cS cyI b5 v5)] : List va_W).flatten)) (hS : va_S A s.heap H locs) (hl : lv_has ls 9 [(0, .ref b), (1, .ref (x 0)), (2, .ref (mm 0)), (3, .ref qo), (4, .int i)]) (hRc : cells + 4 ≤ R.cells) (hRs : slots + 24 ≤ R.slots) (kk : ∀ (H : Heap) (locs : List Loc) (ls : Array Slot), va_P (dC, dI) vwCl (([[cLo cyL qo 1 out.1], (cM cyI mm out.2.1), (cXo x an tr out.2.2.1), (cH cyO (x 1) (x 2) 2 fl), (cXk cyI x out.2.2.1), (cH cyO (x 4) (x 5) 6 fs), (cT cyI x (X_text out.2.2.1)), (cSo an out.2.2.2.1), (cG cyI an (S_green out.2.2.2.1)), (cV cyI an (S_score out.2.2.2.1)), (cSo tr out.2.2.2.2.1), (cG cyI tr (S_green out.2.2.2.2.1)), (cV cyI tr (S_score out.2.2.2.2.1)), (cS cyI k0 out.2.2.2.2.2.1), (cS cyI k1 out.2.2.2.2.2.2.1), (cS cyI b0 out.2.2.2.2.2.2.2.1), (cS cyI b1 out.2.2.2.2.2.2.2.2.1), (cS cyI b2 out.2.2.2.2.2.2.2.2.2.1), (cS cyI b3 out.2.2.2.2.2.2.2.2.2.2.1), (cS cyI b4 out.2.2.2.2.2.2.2.2.2.2.2.1), (cS cyI b5 out.2.2.2.2.2.2.2.2.2.2.2.2)] : List va_W).flatten) H → va_D A (([[cLo cyL qo 1 out.1], (cM cyI mm out.2.1), (cXo x an tr out.2.2.1), (cH cyO (x 1) (x 2) 2 fl), (cXk cyI x out.2.2.1), (cH cyO (x 4) (x 5) 6 fs), (cT cyI x (X_text out.2.2.1)), (cSo an out.2.2.2.1), (cG cyI an (S_green out.2.2.2.1)), (cV cyI an (S_score out.2.2.2.1)), (cSo tr out.2.2.2.2.1), (cG cyI tr (S_green out.2.2.2.2.1)), (cV cyI tr (S_score out.2.2.2.2.1)), (cS cyI k0 out.2.2.2.2.2.1), (cS cyI k1 out.2.2.2.2.2.2.1), (cS cyI b0 out.2.2.2.2.2.2.2.1), (cS cyI b1 out.2.2.2.2.2.2.2.2.1), (cS cyI b2 out.2.2.2.2.2.2.2.2.2.1), (cS cyI b3 out.2.2.2.2.2.2.2.2.2.2.1), (cS cyI b4 out.2.2.2.2.2.2.2.2.2.2.2.1), (cS cyI b5 out.2.2.2.2.2.2.2.2.2.2.2.2)] : List va_W).flatten) → va_S A s.heap H locs → lv_has ls 9 [(0, .ref b), (1, .ref (x 0)), (2, .ref (mm 0)), (3, .ref qo), (4, .int i)] → W p l e R s m args below meth c H locs (cells + 4) (slots + 24) Q (F0 m 2733 ls [])) : W p l e R s m args below meth c H locs cells slots Q (F0 m 2243 ls []) := by
  unfold f_law44 at hF
  refine lv_aload_n hx hb dL_law_2243 rfl (lv_at hl 1 rfl) ?_
  refine lv_aload_n hx hb dL_law_2244 rfl (lv_at hl 0 rfl) ?_
  refine lv_iload hx hb dL_law_2245 (lv_at hl 4 rfl) ?_
  refine lv_iconst (v := 1) hx hb dL_law_2247 (by decide) ?_
  refine lv_iadd hx hb dL_law_2248 ?_
  obtain ⟨hg1, hF⟩ := gd_use hF
  refine va_sld hx hb hX hbl hbA hS hg1 dL_law_2249 ?_
  refine lv_aload_n hx hb dL_law_2250 rfl (lv_at hl 0 rfl) ?_
  refine lv_iload hx hb dL_law_2251 (lv_at hl 4 rfl) ?_
  refine lv_iconst (v := 2) hx hb dL_law_2253 (by decide) ?_
  refine lv_iadd hx hb dL_law_2254 ?_
  obtain ⟨hg2, hF⟩ := gd_use hF
  refine va_sld hx hb hX hbl hbA hS hg2 dL_law_2255 ?_
  refine lv_aload_n hx hb dL_law_2256 rfl (lv_at hl 0 rfl) ?_
  refine lv_iload hx hb dL_law_2257 (lv_at hl 4 rfl) ?_
  refine lv_iconst (v := 3) hx hb dL_law_2259 (by decide) ?_
  refine lv_iadd hx hb dL_law_2260 ?_
  obtain ⟨hg3, hF⟩ := gd_use hF
  refine va_sld hx hb hX hbl hbA hS hg3 dL_law_2261 ?_
  refine lv_aload_n hx hb dL_law_2262 rfl (lv_at hl 3 rfl) ?_
  obtain ⟨o4, h5, hF⟩ := obd hF
  refine wcLi (As := [.ref (x 0), .int (xs (i + (1 : Int32)).toNatClampNeg), .int (xs (i + (2 : Int32)).toNatClampNeg), .int (xs (i + (3 : Int32)).toNatClampNeg), .ref qo]) (rest := []) (wr := ([(cM cyI mm mv), (cS cyI k0 w0), (cS cyI k1 w1), (cS cyI b0 v0), (cS cyI b1 v1), (cS cyI b2 v2), (cS cyI b3 v3), (cS cyI b4 v4), (cS cyI b5 v5)] : List va_W).flatten) ⟨hx, hb, hml, hown, hts⟩ (met_L_wouldStrike l z0 hst dC dI cyI cyO cyL qo x an tr fl fs _ N fo xv nv tv (xs (i + (1 : Int32)).toNatClampNeg) (xs (i + (2 : Int32)).toNatClampNeg) (xs (i + (3 : Int32)).toNatClampNeg) o4 h5) (vx_cwSW 5 hts (gS w_methodLink_L_294 w_static_L_wouldStrike w_initialized_L w_codeW_L_wouldStrike) rfl rfl rfl (by decide +kernel) ⟨Nat.le_trans (Nat.le_of_ble_eq_true rfl) hRf, Nat.le_trans (Nat.le_of_ble_eq_true rfl) hRl⟩) hP hD hK hZ hAz hz0 (seg_perm (n := 21) (R := [(cM cyI mm mv), (cS cyI k0 w0), (cS cyI k1 w1), (cS cyI b0 v0), (cS cyI b1 v1), (cS cyI b2 v2), (cS cyI b3 v3), (cS cyI b4 v4), (cS cyI b5 v5)]) (C := [[cLo cyL qo 1 fo], (cXo x an tr xv), (cH cyO (x 1) (x 2) 2 fl), (cXk cyI x xv), (cH cyO (x 4) (x 5) 6 fs), (cT cyI x (X_text xv)), (cSo an nv), (cG cyI an (S_green nv)), (cV cyI an (S_score nv)), (cSo tr tv), (cG cyI tr (S_green tv)), (cV cyI tr (S_score tv))]) [1, 13, 14, 15, 16, 17, 18, 19, 20] [0, 2, 3, 4, 5, 6, 7, 8, 9, 10, 11, 12] rfl rfl rfl (by decide) rfl) rfl hl.1 (Nat.le_of_ble_eq_true rfl) dL_law_2263 ⟨by omega, by omega⟩ hS hA (fun r u H locs hw hP hD hS => ?_)
  obtain rfl : r = o4.1 := congrArg Prod.fst hw
  obtain rfl : u = o4.2 := congrArg Prod.snd hw
  clear hw
  have hq := seg_permS (segs := [[cLo cyL qo 1 o4.2.1], (cM cyI mm mv), (cXo x an tr o4.2.2.1), (cH cyO (x 1) (x 2) 2 fl), (cXk cyI x o4.2.2.1), (cH cyO (x 4) (x 5) 6 fs), (cT cyI x (X_text o4.2.2.1)), (cSo an o4.2.2.2.1), (cG cyI an (S_green o4.2.2.2.1)), (cV cyI an (S_score o4.2.2.2.1)), (cSo tr o4.2.2.2.2), (cG cyI tr (S_green o4.2.2.2.2)), (cV cyI tr (S_score o4.2.2.2.2)), (cS cyI k0 w0), (cS cyI k1 w1), (cS cyI b0 v0), (cS cyI b1 v1), (cS cyI b2 v2), (cS cyI b3 v3), (cS cyI b4 v4), (cS cyI b5 v5)]) (R := [(cM cyI mm mv), (cS cyI k0 w0), (cS cyI k1 w1), (cS cyI b0 v0), (cS cyI b1 v1), (cS cyI b2 v2), (cS cyI b3 v3), (cS cyI b4 v4), (cS cyI b5 v5)]) (C := [[cLo cyL qo 1 o4.2.1], (cXo x an tr o4.2.2.1), (cH cyO (x 1) (x 2) 2 fl), (cXk cyI x o4.2.2.1), (cH cyO (x 4) (x 5) 6 fs), (cT cyI x (X_text o4.2.2.1)), (cSo an o4.2.2.2.1), (cG cyI an (S_green o4.2.2.2.1)), (cV cyI an (S_score o4.2.2.2.1)), (cSo tr o4.2.2.2.2), (cG cyI tr (S_green o4.2.2.2.2)), (cV cyI tr (S_score o4.2.2.2.2))]) (n := 21) [1, 13, 14, 15, 16, 17, 18, 19, 20] [0, 2, 3, 4, 5, 6, 7, 8, 9, 10, 11, 12] rfl rfl rfl (by decide)
  have hP : va_P (dC, dI) vwCl (([[cLo cyL qo 1 o4.2.1], (cM cyI mm mv), (cXo x an tr o4.2.2.1), (cH cyO (x 1) (x 2) 2 fl), (cXk cyI x o4.2.2.1), (cH cyO (x 4) (x 5) 6 fs), (cT cyI x (X_text o4.2.2.1)), (cSo an o4.2.2.2.1), (cG cyI an (S_green o4.2.2.2.1)), (cV cyI an (S_score o4.2.2.2.1)), (cSo tr o4.2.2.2.2), (cG cyI tr (S_green o4.2.2.2.2)), (cV cyI tr (S_score o4.2.2.2.2)), (cS cyI k0 w0), (cS cyI k1 w1), (cS cyI b0 v0), (cS cyI b1 v1), (cS cyI b2 v2), (cS cyI b3 v3), (cS cyI b4 v4), (cS cyI b5 v5)] : List va_W).flatten) H := hP.perm hq
  have hD : va_D A (([[cLo cyL qo 1 o4.2.1], (cM cyI mm mv), (cXo x an tr o4.2.2.1), (cH cyO (x 1) (x 2) 2 fl), (cXk cyI x o4.2.2.1), (cH cyO (x 4) (x 5) 6 fs), (cT cyI x (X_text o4.2.2.1)), (cSo an o4.2.2.2.1), (cG cyI an (S_green o4.2.2.2.1)), (cV cyI an (S_score o4.2.2.2.1)), (cSo tr o4.2.2.2.2), (cG cyI tr (S_green o4.2.2.2.2)), (cV cyI tr (S_score o4.2.2.2.2)), (cS cyI k0 w0), (cS cyI k1 w1), (cS cyI b0 v0), (cS cyI b1 v1), (cS cyI b2 v2), (cS cyI b3 v3), (cS cyI b4 v4), (cS cyI b5 v5)] : List va_W).flatten) := hD.perm hq
  clear hq
  refine lv_istore (lv' := [(5, .int o4.1), (0, .ref b), (1, .ref (x 0)), (2, .ref (mm 0)), (3, .ref qo), (4, .int i)]) hx hb dL_law_2266 hl (by decide) rfl (fun ls hl => ?_)
  refine lv_aload_n hx hb dL_law_2268 rfl (lv_at hl 3 rfl) ?_
  refine lv_aload_n hx hb dL_law_2269 rfl (lv_at hl 1 rfl) ?_
  refine lv_iload hx hb dL_law_2270 (lv_at hl 5 rfl) ?_
  refine lv_iconst (v := 1) hx hb dL_law_2272 (by decide) ?_
  refine lv_iadd hx hb dL_law_2273 ?_
  obtain ⟨hg6, hF⟩ := gd_use hF
  refine va_sld hx hb hX hbl hbA hS hg6 dL_law_2274 ?_
  refine lv_aload_n hx hb dL_law_2275 rfl (lv_at hl 1 rfl) ?_
  refine lv_iload hx hb dL_law_2276 (lv_at hl 5 rfl) ?_
  refine lv_iconst (v := 2) hx hb dL_law_2278 (by decide) ?_
  refine lv_iadd hx hb dL_law_2279 ?_
  obtain ⟨hg7, hF⟩ := gd_use hF
  refine va_sld hx hb hX hbl hbA hS hg7 dL_law_2280 ?_
  refine lv_aload_n hx hb dL_law_2281 rfl (lv_at hl 1 rfl) ?_
  refine lv_iload hx hb dL_law_2282 (lv_at hl 5 rfl) ?_
  refine lv_iconst (v := 3) hx hb dL_law_2284 (by decide) ?_
  refine lv_iadd hx hb dL_law_2285 ?_
  obtain ⟨hg8, hF⟩ := gd_use hF
  refine va_sld hx hb hX hbl hbA hS hg8 dL_law_2286 ?_
  obtain ⟨o9, h10, hF⟩ := obd hF
  refine wcPVi (As := [.int (xs (i + (1 : Int32)).toNatClampNeg), .int (xs (i + (2 : Int32)).toNatClampNeg), .int (xs (i + (3 : Int32)).toNatClampNeg)]) (rest := []) (wr := ([[cLo cyL qo 1 o4.2.1], (cXo x an tr o4.2.2.1), (cH cyO (x 1) (x 2) 2 fl), (cXk cyI x o4.2.2.1), (cH cyO (x 4) (x 5) 6 fs), (cT cyI x (X_text o4.2.2.1)), (cSo an o4.2.2.2.1), (cG cyI an (S_green o4.2.2.2.1)), (cV cyI an (S_score o4.2.2.2.1)), (cSo tr o4.2.2.2.2), (cG cyI tr (S_green o4.2.2.2.2)), (cV cyI tr (S_score o4.2.2.2.2)), (cS cyI k0 w0), (cS cyI k1 w1), (cS cyI b0 v0), (cS cyI b1 v1), (cS cyI b2 v2), (cS cyI b3 v3), (cS cyI b4 v4), (cS cyI b5 v5)] : List va_W).flatten) (b := (mm 0)) ⟨hx, hb, hml, hown, hts⟩ (met_X6_wouldStrike l dC dI cyI cyO cyL mm _ N mv (xs (i + (1 : Int32)).toNatClampNeg) (xs (i + (2 : Int32)).toNatClampNeg) (xs (i + (3 : Int32)).toNatClampNeg) o9 h10) (cwV 3 hts (gV w_methodLink_L_296 w_instanceMethod_X6_wouldStrike w_selects_X6_wouldStrike w_initialized_X6 w_code_X6_wouldStrike) rfl rfl rfl (by decide +kernel) ⟨Nat.le_trans (Nat.le_of_ble_eq_true rfl) hRf, Nat.le_trans (Nat.le_of_ble_eq_true rfl) hRl⟩) (va_recv hK.1 hP (ci := 6) (q0 := 1) rfl rfl) hP hD hK (seg_perm (n := 21) (R := [[cLo cyL qo 1 o4.2.1], (cXo x an tr o4.2.2.1), (cH cyO (x 1) (x 2) 2 fl), (cXk cyI x o4.2.2.1), (cH cyO (x 4) (x 5) 6 fs), (cT cyI x (X_text o4.2.2.1)), (cSo an o4.2.2.2.1), (cG cyI an (S_green o4.2.2.2.1)), (cV cyI an (S_score o4.2.2.2.1)), (cSo tr o4.2.2.2.2), (cG cyI tr (S_green o4.2.2.2.2)), (cV cyI tr (S_score o4.2.2.2.2)), (cS cyI k0 w0), (cS cyI k1 w1), (cS cyI b0 v0), (cS cyI b1 v1), (cS cyI b2 v2), (cS cyI b3 v3), (cS cyI b4 v4), (cS cyI b5 v5)]) (C := [(cM cyI mm mv)]) [0, 2, 3, 4, 5, 6, 7, 8, 9, 10, 11, 12, 13, 14, 15, 16, 17, 18, 19, 20] [1] rfl rfl rfl (by decide) rfl) rfl hl.1 (Nat.le_of_ble_eq_true rfl) dL_law_2287 ⟨by omega, by omega⟩ hS hA (fun r u H locs hw hP hD hS => ?_)
  obtain rfl : r = o9.1 := congrArg Prod.fst hw
  obtain rfl : u = o9.2 := congrArg Prod.snd hw
  clear hw
  have hq := seg_permS (segs := [[cLo cyL qo 1 o4.2.1], (cM cyI mm o9.2), (cXo x an tr o4.2.2.1), (cH cyO (x 1) (x 2) 2 fl), (cXk cyI x o4.2.2.1), (cH cyO (x 4) (x 5) 6 fs), (cT cyI x (X_text o4.2.2.1)), (cSo an o4.2.2.2.1), (cG cyI an (S_green o4.2.2.2.1)), (cV cyI an (S_score o4.2.2.2.1)), (cSo tr o4.2.2.2.2), (cG cyI tr (S_green o4.2.2.2.2)), (cV cyI tr (S_score o4.2.2.2.2)), (cS cyI k0 w0), (cS cyI k1 w1), (cS cyI b0 v0), (cS cyI b1 v1), (cS cyI b2 v2), (cS cyI b3 v3), (cS cyI b4 v4), (cS cyI b5 v5)]) (R := [[cLo cyL qo 1 o4.2.1], (cXo x an tr o4.2.2.1), (cH cyO (x 1) (x 2) 2 fl), (cXk cyI x o4.2.2.1), (cH cyO (x 4) (x 5) 6 fs), (cT cyI x (X_text o4.2.2.1)), (cSo an o4.2.2.2.1), (cG cyI an (S_green o4.2.2.2.1)), (cV cyI an (S_score o4.2.2.2.1)), (cSo tr o4.2.2.2.2), (cG cyI tr (S_green o4.2.2.2.2)), (cV cyI tr (S_score o4.2.2.2.2)), (cS cyI k0 w0), (cS cyI k1 w1), (cS cyI b0 v0), (cS cyI b1 v1), (cS cyI b2 v2), (cS cyI b3 v3), (cS cyI b4 v4), (cS cyI b5 v5)]) (C := [(cM cyI mm o9.2)]) (n := 21) [0, 2, 3, 4, 5, 6, 7, 8, 9, 10, 11, 12, 13, 14, 15, 16, 17, 18, 19, 20] [1] rfl rfl rfl (by decide)
  have hP : va_P (dC, dI) vwCl (([[cLo cyL qo 1 o4.2.1], (cM cyI mm o9.2), (cXo x an tr o4.2.2.1), (cH cyO (x 1) (x 2) 2 fl), (cXk cyI x o4.2.2.1), (cH cyO (x 4) (x 5) 6 fs), (cT cyI x (X_text o4.2.2.1)), (cSo an o4.2.2.2.1), (cG cyI an (S_green o4.2.2.2.1)), (cV cyI an (S_score o4.2.2.2.1)), (cSo tr o4.2.2.2.2), (cG cyI tr (S_green o4.2.2.2.2)), (cV cyI tr (S_score o4.2.2.2.2)), (cS cyI k0 w0), (cS cyI k1 w1), (cS cyI b0 v0), (cS cyI b1 v1), (cS cyI b2 v2), (cS cyI b3 v3), (cS cyI b4 v4), (cS cyI b5 v5)] : List va_W).flatten) H := hP.perm hq
  have hD : va_D A (([[cLo cyL qo 1 o4.2.1], (cM cyI mm o9.2), (cXo x an tr o4.2.2.1), (cH cyO (x 1) (x 2) 2 fl), (cXk cyI x o4.2.2.1), (cH cyO (x 4) (x 5) 6 fs), (cT cyI x (X_text o4.2.2.1)), (cSo an o4.2.2.2.1), (cG cyI an (S_green o4.2.2.2.1)), (cV cyI an (S_score o4.2.2.2.1)), (cSo tr o4.2.2.2.2), (cG cyI tr (S_green o4.2.2.2.2)), (cV cyI tr (S_score o4.2.2.2.2)), (cS cyI k0 w0), (cS cyI k1 w1), (cS cyI b0 v0), (cS cyI b1 v1), (cS cyI b2 v2), (cS cyI b3 v3), (cS cyI b4 v4), (cS cyI b5 v5)] : List va_W).flatten) := hD.perm hq
  clear hq
  refine lv_istore (lv' := [(6, .int o9.1), (5, .int o4.1), (0, .ref b), (1, .ref (x 0)), (2, .ref (mm 0)), (3, .ref qo), (4, .int i)]) hx hb dL_law_2290 hl (by decide) rfl (fun ls hl => ?_)
  refine lv_aload_n hx hb dL_law_2292 rfl (lv_at hl 4 rfl) ?_
  obtain ⟨o11, h12, hF⟩ := obd hF
  refine wcRVi (As := []) (rest := []) (b := (mm 0)) ⟨hx, hb, hml, hown, hts⟩ (met_X6_thrown l dC dI cyI cyO cyL mm N o9.2  o11 h12) (cwV 0 hts (gV w_methodLink_L_143 w_instanceMethod_X6_thrown w_selects_X6_thrown w_initialized_X6 w_code_X6_thrown) rfl rfl rfl (by decide +kernel) ⟨Nat.le_trans (Nat.le_of_ble_eq_true rfl) hRf, Nat.le_trans (Nat.le_of_ble_eq_true rfl) hRl⟩) (va_recv hK.1 hP (ci := 6) (q0 := 1) rfl rfl) hP hK [1, 2, 3, 4, 5, 6, 7, 8] rfl rfl hl.1 (Nat.le_of_ble_eq_true rfl) dL_law_2293 ⟨by omega, by omega⟩ hS (fun r H locs hw hP hS => ?_)
  have hw := hw.symm
  subst hw
  refine lv_iload hx hb dL_law_2296 (lv_at hl 1 rfl) ?_
  refine lv_icmp_eq (tgt := 2303) hx hb dL_law_2298 (by decide) (fun c13 => ?_) (fun c13 => ?_)
  · have hF := itp c13 hF
    refine lv_iload hx hb dL_law_2303 (lv_at hl 1 rfl) ?_
    obtain ⟨j2320, hj2320, hF⟩ := jn_use hF
    have hJ2320 : ∀ (s2320 : Unit) (H : Heap) (locs : List Loc) (ls : Array Slot), va_P (dC, dI) vwCl (([[cLo cyL qo 1 o4.2.1], (cM cyI mm o9.2), (cXo x an tr o4.2.2.1), (cH cyO (x 1) (x 2) 2 fl), (cXk cyI x o4.2.2.1), (cH cyO (x 4) (x 5) 6 fs), (cT cyI x (X_text o4.2.2.1)), (cSo an o4.2.2.2.1), (cG cyI an (S_green o4.2.2.2.1)), (cV cyI an (S_score o4.2.2.2.1)), (cSo tr o4.2.2.2.2), (cG cyI tr (S_green o4.2.2.2.2)), (cV cyI tr (S_score o4.2.2.2.2)), (cS cyI k0 w0), (cS cyI k1 w1), (cS cyI b0 v0), (cS cyI b1 v1), (cS cyI b2 v2), (cS cyI b3 v3), (cS cyI b4 v4), (cS cyI b5 v5)] : List va_W).flatten) H → va_D A (([[cLo cyL qo 1 o4.2.1], (cM cyI mm o9.2), (cXo x an tr o4.2.2.1), (cH cyO (x 1) (x 2) 2 fl), (cXk cyI x o4.2.2.1), (cH cyO (x 4) (x 5) 6 fs), (cT cyI x (X_text o4.2.2.1)), (cSo an o4.2.2.2.1), (cG cyI an (S_green o4.2.2.2.1)), (cV cyI an (S_score o4.2.2.2.1)), (cSo tr o4.2.2.2.2), (cG cyI tr (S_green o4.2.2.2.2)), (cV cyI tr (S_score o4.2.2.2.2)), (cS cyI k0 w0), (cS cyI k1 w1), (cS cyI b0 v0), (cS cyI b1 v1), (cS cyI b2 v2), (cS cyI b3 v3), (cS cyI b4 v4), (cS cyI b5 v5)] : List va_W).flatten) → va_S A s.heap H locs → lv_has ls 9 [(0, .ref b), (1, .ref (x 0)), (2, .ref (mm 0)), (3, .ref qo), (4, .int i)] → j2320 s2320 = some out → W p l e R s m args below meth c H locs (cells + 1) (slots + 6) Q (F0 m 2320 ls []) := by
      intro s2320 H locs ls hP hD hS hl hF
      have hF := (congrFun hj2320 s2320).symm.trans hF
      refine lv_goto (tgt := 2733) hx hb dL_law_2320 (by decide) ?_
      obtain rfl := Option.some.inj hF
      refine W.widen (k := cells + 4) (n := slots + 24) (by omega) (by omega) ?_
      exact kk _ _ _ hP hD hS (lv_sub hl [0, 1, 2, 3, 4] rfl)
    refine lv_if_ne (tgt := 2320) hx hb dL_law_2305 (by decide) (fun c14 => ?_) (fun c14 => ?_)
    · have hF := itn c14 hF
      exact hJ2320 () _ _ _ hP hD hS (lv_sub hl [2, 3, 4, 5, 6] rfl) hF
    · have hF := itp c14 hF
      refine lv_aload_n hx hb dL_law_2308 rfl (lv_at hl 5 rfl) ?_
      refine lv_iconst (v := 0) hx hb dL_law_2309 (by decide) ?_
      refine va_lald hx hb hK.1 hP 0 2 rfl rfl (i := (0 : Int32)) (show ixok (0 : Int32) 1 by decide) dL_law_2310 ?_
      refine lv_iload hx hb dL_law_2311 (lv_at hl 0 rfl) ?_
      refine lv_i2l (v := (o9.1).toInt64) hx hb dL_law_2313 rfl ?_
      refine W.lcmp hx hb dL_law_2314 ?_
      refine lv_if_eq (tgt := 2320) hx hb dL_law_2315 (by decide) (fun c15 => ?_) (fun c15 => ?_)
      · have hF := itp c15 hF
        exact hJ2320 () _ _ _ hP hD hS (lv_sub hl [2, 3, 4, 5, 6] rfl) hF
      · have hF := itn c15 hF
        refine lv_iconst (v := 0) hx hb dL_law_2318 (by decide) ?_
        cases hF
  · have hF := itn c13 hF
    refine lv_iconst (v := 0) hx hb dL_law_2301 (by decide) ?_
    cases hF
theorem dL_law_2323 : decode cL_law 2323 = .ok (.aload_n 1, 1) := by decide +kernel
theorem dL_law_2324 : decode cL_law 2324 = .ok (.aload_n 3, 1) := by decide +kernel
theorem dL_law_2325 : decode cL_law 2325 = .ok (.invokestatic 297, 3) := by decide +kernel
theorem dL_law_2328 : decode cL_law 2328 = .ok (.istore 5, 2) := by decide +kernel
theorem dL_law_2330 : decode cL_law 2330 = .ok (.aload_n 2, 1) := by decide +kernel
theorem dL_law_2331 : decode cL_law 2331 = .ok (.invokevirtual 299, 3) := by decide +kernel
theorem dL_law_2334 : decode cL_law 2334 = .ok (.istore 6, 2) := by decide +kernel
theorem dL_law_2336 : decode cL_law 2336 = .ok (.aload_n 2, 1) := by decide +kernel
theorem dL_law_2337 : decode cL_law 2337 = .ok (.invokevirtual 143, 3) := by decide +kernel
theorem dL_law_2340 : decode cL_law 2340 = .ok (.iload 5, 2) := by decide +kernel
theorem dL_law_2342 : decode cL_law 2342 = .ok (.if_icmp .eq 5, 3) := by decide +kernel
theorem dL_law_2345 : decode cL_law 2345 = .ok (.iconst 0, 1) := by decide +kernel
theorem dL_law_2347 : decode cL_law 2347 = .ok (.iload 5, 2) := by decide +kernel
theorem dL_law_2349 : decode cL_law 2349 = .ok (.ifCond .ne 15, 3) := by decide +kernel
theorem dL_law_2352 : decode cL_law 2352 = .ok (.aload_n 3, 1) := by decide +kernel
theorem dL_law_2353 : decode cL_law 2353 = .ok (.iconst 0, 1) := by decide +kernel
theorem dL_law_2354 : decode cL_law 2354 = .ok (.laload, 1) := by decide +kernel
theorem dL_law_2355 : decode cL_law 2355 = .ok (.iload 6, 2) := by decide +kernel
theorem dL_law_2357 : decode cL_law 2357 = .ok (.i2l, 1) := by decide +kernel
theorem dL_law_2358 : decode cL_law 2358 = .ok (.lcmp, 1) := by decide +kernel
theorem dL_law_2359 : decode cL_law 2359 = .ok (.ifCond .eq 5, 3) := by decide +kernel
theorem dL_law_2362 : decode cL_law 2362 = .ok (.iconst 0, 1) := by decide +kernel
theorem dL_law_2364 : decode cL_law 2364 = .ok (.goto 369, 3) := by decide +kernel
def f_law45 (N L : Nat) (xs : Nat → Int32) (i : Int32) (fo : (Nat → Int64)) (mv : MV) (xv : XV) (nv : SV) (tv : SV) (w0 : SV) (w1 : SV) (v0 : SV) (v1 : SV) (v2 : SV) (v3 : SV) (v4 : SV) (v5 : SV) : Option ((Nat → Int64) × MV × XV × SV × SV × SV × SV × SV × SV × SV × SV × SV × SV) :=
  (f_L_bestPlay N fo xv nv tv).bind (fun o1 => (f_X6_bestPlay N mv).bind (fun o3 => (f_X6_thrown N o3.2).bind (fun o5 => (if o5 = o1.1 then jn (fun (s2364 : Unit) => some (o1.2.1, o3.2, o1.2.2.1, o1.2.2.2.1, o1.2.2.2.2, w0, w1, v0, v1, v2, v3, v4, v5)) (fun (j2364 : (Unit) → Option ((Nat → Int64) × MV × XV × SV × SV × SV × SV × SV × SV × SV × SV × SV × SV)) => (if o1.1 = 0 then (if (lg_cmp (o1.2.1 (0 : Int32).toNatClampNeg) ((o3.1).toInt64)) = 0 then j2364 () else none) else j2364 ())) else none))))
set_option maxHeartbeats 4000000 in
set_option maxRecDepth 100000 in
theorem law45 (hst : l.stackTraces = false) (hx : p.tables.exec = Jvm.exec) (hb : c.code = code) (hml : c.maxLocals = 9) (hown : s.vm.findClass RL = some m.cls) (hts : ∀ w ∈ wT, w.before args s = true) (hK : wK dC dI cyI cyO cyL s) (hZ : wZ z0 s) (hAz : ∀ q, A q → z0 ≤ q) (hz0 : z0 ≤ s.heap.size) (hA : ∀ q : Nat, s.heap.size ≤ q → A q) (hX : va_X b L xs s s.heap) (hbl : b < s.heap.size) (hbA : ¬ A b) (hRf : 11 ≤ R.frames) (hRl : 398 ≤ R.locals) (qo : Nat) (mm x an tr k0 k1 b0 b1 b2 b3 b4 b5 : Nat → Nat) (fl fs : Nat → Option Nat) (N : Nat) (fo : (Nat → Int64)) (mv : MV) (xv : XV) (nv : SV) (tv : SV) (w0 : SV) (w1 : SV) (v0 : SV) (v1 : SV) (v2 : SV) (v3 : SV) (v4 : SV) (v5 : SV) (i : Int32) (hl0 : fl 0 = some (k0 0)) (hl1 : fl 1 = some (k1 0)) (hs0 : fs 0 = some (b0 0)) (hs1 : fs 1 = some (b1 0)) (hs2 : fs 2 = some (b2 0)) (hs3 : fs 3 = some (b3 0)) (hs4 : fs 4 = some (b4 0)) (hs5 : fs 5 = some (b5 0)) (out : (Nat → Int64) × MV × XV × SV × SV × SV × SV × SV × SV × SV × SV × SV × SV) (hF : f_law45 N L xs i fo mv xv nv tv w0 w1 v0 v1 v2 v3 v4 v5 = some out) (hP : va_P (dC, dI) vwCl (([[cLo cyL qo 1 fo], (cM cyI mm mv), (cXo x an tr xv), (cH cyO (x 1) (x 2) 2 fl), (cXk cyI x xv), (cH cyO (x 4) (x 5) 6 fs), (cT cyI x (X_text xv)), (cSo an nv), (cG cyI an (S_green nv)), (cV cyI an (S_score nv)), (cSo tr tv), (cG cyI tr (S_green tv)), (cV cyI tr (S_score tv)), (cS cyI k0 w0), (cS cyI k1 w1), (cS cyI b0 v0), (cS cyI b1 v1), (cS cyI b2 v2), (cS cyI b3 v3), (cS cyI b4 v4), (cS cyI b5 v5)] : List va_W).flatten) H) (hD : va_D A (([[cLo cyL qo 1 fo], (cM cyI mm mv), (cXo x an tr xv), (cH cyO (x 1) (x 2) 2 fl), (cXk cyI x xv), (cH cyO (x 4) (x 5) 6 fs), (cT cyI x (X_text xv)), (cSo an nv), (cG cyI an (S_green nv)), (cV cyI an (S_score nv)), (cSo tr tv), (cG cyI tr (S_green tv)), (cV cyI tr (S_score tv)), (cS cyI k0 w0), (cS cyI k1 w1), (cS cyI b0 v0), (cS cyI b1 v1), (cS cyI b2 v2), (cS cyI b3 v3), (cS cyI b4 v4), (cS cyI b5 v5)] : List va_W).flatten)) (hS : va_S A s.heap H locs) (hl : lv_has ls 9 [(0, .ref b), (1, .ref (x 0)), (2, .ref (mm 0)), (3, .ref qo), (4, .int i)]) (hRc : cells + 4 ≤ R.cells) (hRs : slots + 24 ≤ R.slots) (kk : ∀ (H : Heap) (locs : List Loc) (ls : Array Slot), va_P (dC, dI) vwCl (([[cLo cyL qo 1 out.1], (cM cyI mm out.2.1), (cXo x an tr out.2.2.1), (cH cyO (x 1) (x 2) 2 fl), (cXk cyI x out.2.2.1), (cH cyO (x 4) (x 5) 6 fs), (cT cyI x (X_text out.2.2.1)), (cSo an out.2.2.2.1), (cG cyI an (S_green out.2.2.2.1)), (cV cyI an (S_score out.2.2.2.1)), (cSo tr out.2.2.2.2.1), (cG cyI tr (S_green out.2.2.2.2.1)), (cV cyI tr (S_score out.2.2.2.2.1)), (cS cyI k0 out.2.2.2.2.2.1), (cS cyI k1 out.2.2.2.2.2.2.1), (cS cyI b0 out.2.2.2.2.2.2.2.1), (cS cyI b1 out.2.2.2.2.2.2.2.2.1), (cS cyI b2 out.2.2.2.2.2.2.2.2.2.1), (cS cyI b3 out.2.2.2.2.2.2.2.2.2.2.1), (cS cyI b4 out.2.2.2.2.2.2.2.2.2.2.2.1), (cS cyI b5 out.2.2.2.2.2.2.2.2.2.2.2.2)] : List va_W).flatten) H → va_D A (([[cLo cyL qo 1 out.1], (cM cyI mm out.2.1), (cXo x an tr out.2.2.1), (cH cyO (x 1) (x 2) 2 fl), (cXk cyI x out.2.2.1), (cH cyO (x 4) (x 5) 6 fs), (cT cyI x (X_text out.2.2.1)), (cSo an out.2.2.2.1), (cG cyI an (S_green out.2.2.2.1)), (cV cyI an (S_score out.2.2.2.1)), (cSo tr out.2.2.2.2.1), (cG cyI tr (S_green out.2.2.2.2.1)), (cV cyI tr (S_score out.2.2.2.2.1)), (cS cyI k0 out.2.2.2.2.2.1), (cS cyI k1 out.2.2.2.2.2.2.1), (cS cyI b0 out.2.2.2.2.2.2.2.1), (cS cyI b1 out.2.2.2.2.2.2.2.2.1), (cS cyI b2 out.2.2.2.2.2.2.2.2.2.1), (cS cyI b3 out.2.2.2.2.2.2.2.2.2.2.1), (cS cyI b4 out.2.2.2.2.2.2.2.2.2.2.2.1), (cS cyI b5 out.2.2.2.2.2.2.2.2.2.2.2.2)] : List va_W).flatten) → va_S A s.heap H locs → lv_has ls 9 [(0, .ref b), (1, .ref (x 0)), (2, .ref (mm 0)), (3, .ref qo), (4, .int i)] → W p l e R s m args below meth c H locs (cells + 4) (slots + 24) Q (F0 m 2733 ls [])) : W p l e R s m args below meth c H locs cells slots Q (F0 m 2323 ls []) := by
  unfold f_law45 at hF
  refine lv_aload_n hx hb dL_law_2323 rfl (lv_at hl 1 rfl) ?_
  refine lv_aload_n hx hb dL_law_2324 rfl (lv_at hl 3 rfl) ?_
  obtain ⟨o1, h2, hF⟩ := obd hF
  refine wcLi (As := [.ref (x 0), .ref qo]) (rest := []) (wr := ([(cM cyI mm mv), (cS cyI k0 w0), (cS cyI k1 w1), (cS cyI b0 v0), (cS cyI b1 v1), (cS cyI b2 v2), (cS cyI b3 v3), (cS cyI b4 v4), (cS cyI b5 v5)] : List va_W).flatten) ⟨hx, hb, hml, hown, hts⟩ (met_L_bestPlay l z0 hst dC dI cyI cyO cyL qo x an tr fl fs _ N fo xv nv tv  o1 h2) (vx_cwSW 2 hts (gS w_methodLink_L_297 w_static_L_bestPlay w_initialized_L w_codeW_L_bestPlay) rfl rfl rfl (by decide +kernel) ⟨Nat.le_trans (Nat.le_of_ble_eq_true rfl) hRf, Nat.le_trans (Nat.le_of_ble_eq_true rfl) hRl⟩) hP hD hK hZ hAz hz0 (seg_perm (n := 21) (R := [(cM cyI mm mv), (cS cyI k0 w0), (cS cyI k1 w1), (cS cyI b0 v0), (cS cyI b1 v1), (cS cyI b2 v2), (cS cyI b3 v3), (cS cyI b4 v4), (cS cyI b5 v5)]) (C := [[cLo cyL qo 1 fo], (cXo x an tr xv), (cH cyO (x 1) (x 2) 2 fl), (cXk cyI x xv), (cH cyO (x 4) (x 5) 6 fs), (cT cyI x (X_text xv)), (cSo an nv), (cG cyI an (S_green nv)), (cV cyI an (S_score nv)), (cSo tr tv), (cG cyI tr (S_green tv)), (cV cyI tr (S_score tv))]) [1, 13, 14, 15, 16, 17, 18, 19, 20] [0, 2, 3, 4, 5, 6, 7, 8, 9, 10, 11, 12] rfl rfl rfl (by decide) rfl) rfl hl.1 (Nat.le_of_ble_eq_true rfl) dL_law_2325 ⟨by omega, by omega⟩ hS hA (fun r u H locs hw hP hD hS => ?_)
  obtain rfl : r = o1.1 := congrArg Prod.fst hw
  obtain rfl : u = o1.2 := congrArg Prod.snd hw
  clear hw
  have hq := seg_permS (segs := [[cLo cyL qo 1 o1.2.1], (cM cyI mm mv), (cXo x an tr o1.2.2.1), (cH cyO (x 1) (x 2) 2 fl), (cXk cyI x o1.2.2.1), (cH cyO (x 4) (x 5) 6 fs), (cT cyI x (X_text o1.2.2.1)), (cSo an o1.2.2.2.1), (cG cyI an (S_green o1.2.2.2.1)), (cV cyI an (S_score o1.2.2.2.1)), (cSo tr o1.2.2.2.2), (cG cyI tr (S_green o1.2.2.2.2)), (cV cyI tr (S_score o1.2.2.2.2)), (cS cyI k0 w0), (cS cyI k1 w1), (cS cyI b0 v0), (cS cyI b1 v1), (cS cyI b2 v2), (cS cyI b3 v3), (cS cyI b4 v4), (cS cyI b5 v5)]) (R := [(cM cyI mm mv), (cS cyI k0 w0), (cS cyI k1 w1), (cS cyI b0 v0), (cS cyI b1 v1), (cS cyI b2 v2), (cS cyI b3 v3), (cS cyI b4 v4), (cS cyI b5 v5)]) (C := [[cLo cyL qo 1 o1.2.1], (cXo x an tr o1.2.2.1), (cH cyO (x 1) (x 2) 2 fl), (cXk cyI x o1.2.2.1), (cH cyO (x 4) (x 5) 6 fs), (cT cyI x (X_text o1.2.2.1)), (cSo an o1.2.2.2.1), (cG cyI an (S_green o1.2.2.2.1)), (cV cyI an (S_score o1.2.2.2.1)), (cSo tr o1.2.2.2.2), (cG cyI tr (S_green o1.2.2.2.2)), (cV cyI tr (S_score o1.2.2.2.2))]) (n := 21) [1, 13, 14, 15, 16, 17, 18, 19, 20] [0, 2, 3, 4, 5, 6, 7, 8, 9, 10, 11, 12] rfl rfl rfl (by decide)
  have hP : va_P (dC, dI) vwCl (([[cLo cyL qo 1 o1.2.1], (cM cyI mm mv), (cXo x an tr o1.2.2.1), (cH cyO (x 1) (x 2) 2 fl), (cXk cyI x o1.2.2.1), (cH cyO (x 4) (x 5) 6 fs), (cT cyI x (X_text o1.2.2.1)), (cSo an o1.2.2.2.1), (cG cyI an (S_green o1.2.2.2.1)), (cV cyI an (S_score o1.2.2.2.1)), (cSo tr o1.2.2.2.2), (cG cyI tr (S_green o1.2.2.2.2)), (cV cyI tr (S_score o1.2.2.2.2)), (cS cyI k0 w0), (cS cyI k1 w1), (cS cyI b0 v0), (cS cyI b1 v1), (cS cyI b2 v2), (cS cyI b3 v3), (cS cyI b4 v4), (cS cyI b5 v5)] : List va_W).flatten) H := hP.perm hq
  have hD : va_D A (([[cLo cyL qo 1 o1.2.1], (cM cyI mm mv), (cXo x an tr o1.2.2.1), (cH cyO (x 1) (x 2) 2 fl), (cXk cyI x o1.2.2.1), (cH cyO (x 4) (x 5) 6 fs), (cT cyI x (X_text o1.2.2.1)), (cSo an o1.2.2.2.1), (cG cyI an (S_green o1.2.2.2.1)), (cV cyI an (S_score o1.2.2.2.1)), (cSo tr o1.2.2.2.2), (cG cyI tr (S_green o1.2.2.2.2)), (cV cyI tr (S_score o1.2.2.2.2)), (cS cyI k0 w0), (cS cyI k1 w1), (cS cyI b0 v0), (cS cyI b1 v1), (cS cyI b2 v2), (cS cyI b3 v3), (cS cyI b4 v4), (cS cyI b5 v5)] : List va_W).flatten) := hD.perm hq
  clear hq
  refine lv_istore (lv' := [(5, .int o1.1), (0, .ref b), (1, .ref (x 0)), (2, .ref (mm 0)), (3, .ref qo), (4, .int i)]) hx hb dL_law_2328 hl (by decide) rfl (fun ls hl => ?_)
  refine lv_aload_n hx hb dL_law_2330 rfl (lv_at hl 3 rfl) ?_
  obtain ⟨o3, h4, hF⟩ := obd hF
  refine wcPVi (As := []) (rest := []) (wr := ([[cLo cyL qo 1 o1.2.1], (cXo x an tr o1.2.2.1), (cH cyO (x 1) (x 2) 2 fl), (cXk cyI x o1.2.2.1), (cH cyO (x 4) (x 5) 6 fs), (cT cyI x (X_text o1.2.2.1)), (cSo an o1.2.2.2.1), (cG cyI an (S_green o1.2.2.2.1)), (cV cyI an (S_score o1.2.2.2.1)), (cSo tr o1.2.2.2.2), (cG cyI tr (S_green o1.2.2.2.2)), (cV cyI tr (S_score o1.2.2.2.2)), (cS cyI k0 w0), (cS cyI k1 w1), (cS cyI b0 v0), (cS cyI b1 v1), (cS cyI b2 v2), (cS cyI b3 v3), (cS cyI b4 v4), (cS cyI b5 v5)] : List va_W).flatten) (b := (mm 0)) ⟨hx, hb, hml, hown, hts⟩ (met_X6_bestPlay l dC dI cyI cyO cyL mm _ N mv  o3 h4) (cwV 0 hts (gV w_methodLink_L_299 w_instanceMethod_X6_bestPlay w_selects_X6_bestPlay w_initialized_X6 w_code_X6_bestPlay) rfl rfl rfl (by decide +kernel) ⟨Nat.le_trans (Nat.le_of_ble_eq_true rfl) hRf, Nat.le_trans (Nat.le_of_ble_eq_true rfl) hRl⟩) (va_recv hK.1 hP (ci := 6) (q0 := 1) rfl rfl) hP hD hK (seg_perm (n := 21) (R := [[cLo cyL qo 1 o1.2.1], (cXo x an tr o1.2.2.1), (cH cyO (x 1) (x 2) 2 fl), (cXk cyI x o1.2.2.1), (cH cyO (x 4) (x 5) 6 fs), (cT cyI x (X_text o1.2.2.1)), (cSo an o1.2.2.2.1), (cG cyI an (S_green o1.2.2.2.1)), (cV cyI an (S_score o1.2.2.2.1)), (cSo tr o1.2.2.2.2), (cG cyI tr (S_green o1.2.2.2.2)), (cV cyI tr (S_score o1.2.2.2.2)), (cS cyI k0 w0), (cS cyI k1 w1), (cS cyI b0 v0), (cS cyI b1 v1), (cS cyI b2 v2), (cS cyI b3 v3), (cS cyI b4 v4), (cS cyI b5 v5)]) (C := [(cM cyI mm mv)]) [0, 2, 3, 4, 5, 6, 7, 8, 9, 10, 11, 12, 13, 14, 15, 16, 17, 18, 19, 20] [1] rfl rfl rfl (by decide) rfl) rfl hl.1 (Nat.le_of_ble_eq_true rfl) dL_law_2331 ⟨by omega, by omega⟩ hS hA (fun r u H locs hw hP hD hS => ?_)
  obtain rfl : r = o3.1 := congrArg Prod.fst hw
  obtain rfl : u = o3.2 := congrArg Prod.snd hw
  clear hw
  have hq := seg_permS (segs := [[cLo cyL qo 1 o1.2.1], (cM cyI mm o3.2), (cXo x an tr o1.2.2.1), (cH cyO (x 1) (x 2) 2 fl), (cXk cyI x o1.2.2.1), (cH cyO (x 4) (x 5) 6 fs), (cT cyI x (X_text o1.2.2.1)), (cSo an o1.2.2.2.1), (cG cyI an (S_green o1.2.2.2.1)), (cV cyI an (S_score o1.2.2.2.1)), (cSo tr o1.2.2.2.2), (cG cyI tr (S_green o1.2.2.2.2)), (cV cyI tr (S_score o1.2.2.2.2)), (cS cyI k0 w0), (cS cyI k1 w1), (cS cyI b0 v0), (cS cyI b1 v1), (cS cyI b2 v2), (cS cyI b3 v3), (cS cyI b4 v4), (cS cyI b5 v5)]) (R := [[cLo cyL qo 1 o1.2.1], (cXo x an tr o1.2.2.1), (cH cyO (x 1) (x 2) 2 fl), (cXk cyI x o1.2.2.1), (cH cyO (x 4) (x 5) 6 fs), (cT cyI x (X_text o1.2.2.1)), (cSo an o1.2.2.2.1), (cG cyI an (S_green o1.2.2.2.1)), (cV cyI an (S_score o1.2.2.2.1)), (cSo tr o1.2.2.2.2), (cG cyI tr (S_green o1.2.2.2.2)), (cV cyI tr (S_score o1.2.2.2.2)), (cS cyI k0 w0), (cS cyI k1 w1), (cS cyI b0 v0), (cS cyI b1 v1), (cS cyI b2 v2), (cS cyI b3 v3), (cS cyI b4 v4), (cS cyI b5 v5)]) (C := [(cM cyI mm o3.2)]) (n := 21) [0, 2, 3, 4, 5, 6, 7, 8, 9, 10, 11, 12, 13, 14, 15, 16, 17, 18, 19, 20] [1] rfl rfl rfl (by decide)
  have hP : va_P (dC, dI) vwCl (([[cLo cyL qo 1 o1.2.1], (cM cyI mm o3.2), (cXo x an tr o1.2.2.1), (cH cyO (x 1) (x 2) 2 fl), (cXk cyI x o1.2.2.1), (cH cyO (x 4) (x 5) 6 fs), (cT cyI x (X_text o1.2.2.1)), (cSo an o1.2.2.2.1), (cG cyI an (S_green o1.2.2.2.1)), (cV cyI an (S_score o1.2.2.2.1)), (cSo tr o1.2.2.2.2), (cG cyI tr (S_green o1.2.2.2.2)), (cV cyI tr (S_score o1.2.2.2.2)), (cS cyI k0 w0), (cS cyI k1 w1), (cS cyI b0 v0), (cS cyI b1 v1), (cS cyI b2 v2), (cS cyI b3 v3), (cS cyI b4 v4), (cS cyI b5 v5)] : List va_W).flatten) H := hP.perm hq
  have hD : va_D A (([[cLo cyL qo 1 o1.2.1], (cM cyI mm o3.2), (cXo x an tr o1.2.2.1), (cH cyO (x 1) (x 2) 2 fl), (cXk cyI x o1.2.2.1), (cH cyO (x 4) (x 5) 6 fs), (cT cyI x (X_text o1.2.2.1)), (cSo an o1.2.2.2.1), (cG cyI an (S_green o1.2.2.2.1)), (cV cyI an (S_score o1.2.2.2.1)), (cSo tr o1.2.2.2.2), (cG cyI tr (S_green o1.2.2.2.2)), (cV cyI tr (S_score o1.2.2.2.2)), (cS cyI k0 w0), (cS cyI k1 w1), (cS cyI b0 v0), (cS cyI b1 v1), (cS cyI b2 v2), (cS cyI b3 v3), (cS cyI b4 v4), (cS cyI b5 v5)] : List va_W).flatten) := hD.perm hq
  clear hq
  refine lv_istore (lv' := [(6, .int o3.1), (5, .int o1.1), (0, .ref b), (1, .ref (x 0)), (2, .ref (mm 0)), (3, .ref qo), (4, .int i)]) hx hb dL_law_2334 hl (by decide) rfl (fun ls hl => ?_)
  refine lv_aload_n hx hb dL_law_2336 rfl (lv_at hl 4 rfl) ?_
  obtain ⟨o5, h6, hF⟩ := obd hF
  refine wcRVi (As := []) (rest := []) (b := (mm 0)) ⟨hx, hb, hml, hown, hts⟩ (met_X6_thrown l dC dI cyI cyO cyL mm N o3.2  o5 h6) (cwV 0 hts (gV w_methodLink_L_143 w_instanceMethod_X6_thrown w_selects_X6_thrown w_initialized_X6 w_code_X6_thrown) rfl rfl rfl (by decide +kernel) ⟨Nat.le_trans (Nat.le_of_ble_eq_true rfl) hRf, Nat.le_trans (Nat.le_of_ble_eq_true rfl) hRl⟩) (va_recv hK.1 hP (ci := 6) (q0 := 1) rfl rfl) hP hK [1, 2, 3, 4, 5, 6, 7, 8] rfl rfl hl.1 (Nat.le_of_ble_eq_true rfl) dL_law_2337 ⟨by omega, by omega⟩ hS (fun r H locs hw hP hS => ?_)
  have hw := hw.symm
  subst hw
  refine lv_iload hx hb dL_law_2340 (lv_at hl 1 rfl) ?_
  refine lv_icmp_eq (tgt := 2347) hx hb dL_law_2342 (by decide) (fun c7 => ?_) (fun c7 => ?_)
  · have hF := itp c7 hF
    refine lv_iload hx hb dL_law_2347 (lv_at hl 1 rfl) ?_
    obtain ⟨j2364, hj2364, hF⟩ := jn_use hF
    have hJ2364 : ∀ (s2364 : Unit) (H : Heap) (locs : List Loc) (ls : Array Slot), va_P (dC, dI) vwCl (([[cLo cyL qo 1 o1.2.1], (cM cyI mm o3.2), (cXo x an tr o1.2.2.1), (cH cyO (x 1) (x 2) 2 fl), (cXk cyI x o1.2.2.1), (cH cyO (x 4) (x 5) 6 fs), (cT cyI x (X_text o1.2.2.1)), (cSo an o1.2.2.2.1), (cG cyI an (S_green o1.2.2.2.1)), (cV cyI an (S_score o1.2.2.2.1)), (cSo tr o1.2.2.2.2), (cG cyI tr (S_green o1.2.2.2.2)), (cV cyI tr (S_score o1.2.2.2.2)), (cS cyI k0 w0), (cS cyI k1 w1), (cS cyI b0 v0), (cS cyI b1 v1), (cS cyI b2 v2), (cS cyI b3 v3), (cS cyI b4 v4), (cS cyI b5 v5)] : List va_W).flatten) H → va_D A (([[cLo cyL qo 1 o1.2.1], (cM cyI mm o3.2), (cXo x an tr o1.2.2.1), (cH cyO (x 1) (x 2) 2 fl), (cXk cyI x o1.2.2.1), (cH cyO (x 4) (x 5) 6 fs), (cT cyI x (X_text o1.2.2.1)), (cSo an o1.2.2.2.1), (cG cyI an (S_green o1.2.2.2.1)), (cV cyI an (S_score o1.2.2.2.1)), (cSo tr o1.2.2.2.2), (cG cyI tr (S_green o1.2.2.2.2)), (cV cyI tr (S_score o1.2.2.2.2)), (cS cyI k0 w0), (cS cyI k1 w1), (cS cyI b0 v0), (cS cyI b1 v1), (cS cyI b2 v2), (cS cyI b3 v3), (cS cyI b4 v4), (cS cyI b5 v5)] : List va_W).flatten) → va_S A s.heap H locs → lv_has ls 9 [(0, .ref b), (1, .ref (x 0)), (2, .ref (mm 0)), (3, .ref qo), (4, .int i)] → j2364 s2364 = some out → W p l e R s m args below meth c H locs (cells + 1) (slots + 6) Q (F0 m 2364 ls []) := by
      intro s2364 H locs ls hP hD hS hl hF
      have hF := (congrFun hj2364 s2364).symm.trans hF
      refine lv_goto (tgt := 2733) hx hb dL_law_2364 (by decide) ?_
      obtain rfl := Option.some.inj hF
      refine W.widen (k := cells + 4) (n := slots + 24) (by omega) (by omega) ?_
      exact kk _ _ _ hP hD hS (lv_sub hl [0, 1, 2, 3, 4] rfl)
    refine lv_if_ne (tgt := 2364) hx hb dL_law_2349 (by decide) (fun c8 => ?_) (fun c8 => ?_)
    · have hF := itn c8 hF
      exact hJ2364 () _ _ _ hP hD hS (lv_sub hl [2, 3, 4, 5, 6] rfl) hF
    · have hF := itp c8 hF
      refine lv_aload_n hx hb dL_law_2352 rfl (lv_at hl 5 rfl) ?_
      refine lv_iconst (v := 0) hx hb dL_law_2353 (by decide) ?_
      refine va_lald hx hb hK.1 hP 0 2 rfl rfl (i := (0 : Int32)) (show ixok (0 : Int32) 1 by decide) dL_law_2354 ?_
      refine lv_iload hx hb dL_law_2355 (lv_at hl 0 rfl) ?_
      refine lv_i2l (v := (o3.1).toInt64) hx hb dL_law_2357 rfl ?_
      refine W.lcmp hx hb dL_law_2358 ?_
      refine lv_if_eq (tgt := 2364) hx hb dL_law_2359 (by decide) (fun c9 => ?_) (fun c9 => ?_)
      · have hF := itp c9 hF
        exact hJ2364 () _ _ _ hP hD hS (lv_sub hl [2, 3, 4, 5, 6] rfl) hF
      · have hF := itn c9 hF
        refine lv_iconst (v := 0) hx hb dL_law_2362 (by decide) ?_
        cases hF
  · have hF := itn c7 hF
    refine lv_iconst (v := 0) hx hb dL_law_2345 (by decide) ?_
    cases hF
end LAW2
