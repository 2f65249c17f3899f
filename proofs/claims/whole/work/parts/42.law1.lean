/-! the law: cases, part 1 -/
section LAW1
variable {p : Program} {l : Launch} {e : Env} {R : Room} {s : State} {m : MethodId} {args : Array Value} {below : List Frame} {meth : Method} {c : Code} {H : Heap} {locs : List Loc} {cells slots : Nat} {Q : State → Prop} {ls : Array Slot}
variable {A : Nat → Prop} {z0 b L : Nat} {xs : Nat → Int32} {dC : Nat → ClassId} {dI : Nat → Nat → Nat} {cyI cyO cyL : ClassId}
theorem dL_law_896 : decode cL_law 896 = .ok (.aload_n 1, 1) := by decide +kernel
theorem dL_law_897 : decode cL_law 897 = .ok (.invokevirtual 197, 3) := by decide +kernel
theorem dL_law_900 : decode cL_law 900 = .ok (.aload_n 2, 1) := by decide +kernel
theorem dL_law_901 : decode cL_law 901 = .ok (.invokevirtual 200, 3) := by decide +kernel
theorem dL_law_904 : decode cL_law 904 = .ok (.if_icmp .eq 1829, 3) := by decide +kernel
theorem dL_law_907 : decode cL_law 907 = .ok (.iconst 0, 1) := by decide +kernel
def f_law15 (N L : Nat) (xs : Nat → Int32) (i : Int32) (fo : (Nat → Int64)) (mv : MV) (xv : XV) (nv : SV) (tv : SV) (w0 : SV) (w1 : SV) (v0 : SV) (v1 : SV) (v2 : SV) (v3 : SV) (v4 : SV) (v5 : SV) : Option ((Nat → Int64) × MV × XV × SV × SV × SV × SV × SV × SV × SV × SV × SV × SV) :=
  (f_X5_savedStates N xv).bind (fun o1 => (f_X6_savedStates N mv).bind (fun o3 => (if o1 = o3.1 then some (fo, o3.2, xv, nv, tv, w0, w1, v0, v1, v2, v3, v4, v5) else none)))
set_option maxHeartbeats 4000000 in
set_option maxRecDepth 100000 in
theorem law15 (hst : l.stackTraces = false) (hx : p.tables.exec = Jvm.exec) (hb : c.code = code) (hml : c.maxLocals = 9) (hown : s.vm.findClass RL = some m.cls) (hts : ∀ w ∈ wT, w.before args s = true) (hK : wK dC dI cyI cyO cyL s) (hZ : wZ z0 s) (hAz : ∀ q, A q → z0 ≤ q) (hz0 : z0 ≤ s.heap.size) (hA : ∀ q : Nat, s.heap.size ≤ q → A q) (hX : va_X b L xs s s.heap) (hbl : b < s.heap.size) (hbA : ¬ A b) (hRf : 11 ≤ R.frames) (hRl : 398 ≤ R.locals) (qo : Nat) (mm x an tr k0 k1 b0 b1 b2 b3 b4 b5 : Nat → Nat) (fl fs : Nat → Option Nat) (N : Nat) (fo : (Nat → Int64)) (mv : MV) (xv : XV) (nv : SV) (tv : SV) (w0 : SV) (w1 : SV) (v0 : SV) (v1 : SV) (v2 : SV) (v3 : SV) (v4 : SV) (v5 : SV) (i : Int32) (hl0 : fl 0 = some (k0 0)) (hl1 : fl 1 = some (k1 0)) (hs0 : fs 0 = some (b0 0)) (hs1 : fs 1 = some (b1 0)) (hs2 : fs 2 = some (b2 0)) (hs3 : fs 3 = some (b3 0)) (hs4 : fs 4 = some (b4 0)) (hs5 : fs 5 = some (b5 0)) (out : (Nat → Int64) × MV × XV × SV × SV × SV × SV × SV × SV × SV × SV × SV × SV) (hF : f_law15 N L xs i fo mv xv nv tv w0 w1 v0 v1 v2 v3 v4 v5 = some out) (hP : va_P (dC, dI) vwCl (([[cLo cyL qo 1 fo], (cM cyI mm mv), (cXo x an tr xv), (cH cyO (x 1) (x 2) 2 fl), (cXk cyI x xv), (cH cyO (x 4) (x 5) 6 fs), (cT cyI x (X_text xv)), (cSo an nv), (cG cyI an (S_green nv)), (cV cyI an (S_score nv)), (cSo tr tv), (cG cyI tr (S_green tv)), (cV cyI tr (S_score tv)), (cS cyI k0 w0), (cS cyI k1 w1), (cS cyI b0 v0), (cS cyI b1 v1), (cS cyI b2 v2), (cS cyI b3 v3), (cS cyI b4 v4), (cS cyI b5 v5)] : List va_W).flatten) H) (hD : va_D A (([[cLo cyL qo 1 fo], (cM cyI mm mv), (cXo x an tr xv), (cH cyO (x 1) (x 2) 2 fl), (cXk cyI x xv), (cH cyO (x 4) (x 5) 6 fs), (cT cyI x (X_text xv)), (cSo an nv), (cG cyI an (S_green nv)), (cV cyI an (S_score nv)), (cSo tr tv), (cG cyI tr (S_green tv)), (cV cyI tr (S_score tv)), (cS cyI k0 w0), (cS cyI k1 w1), (cS cyI b0 v0), (cS cyI b1 v1), (cS cyI b2 v2), (cS cyI b3 v3), (cS cyI b4 v4), (cS cyI b5 v5)] : List va_W).flatten)) (hS : va_S A s.heap H locs) (hl : lv_has ls 9 [(0, .ref b), (1, .ref (x 0)), (2, .ref (mm 0)), (3, .ref qo), (4, .int i)]) (hRc : cells + 4 ≤ R.cells) (hRs : slots + 24 ≤ R.slots) (kk : ∀ (H : Heap) (locs : List Loc) (ls : Array Slot), va_P (dC, dI) vwCl (([[cLo cyL qo 1 out.1], (cM cyI mm out.2.1), (cXo x an tr out.2.2.1), (cH cyO (x 1) (x 2) 2 fl), (cXk cyI x out.2.2.1), (cH cyO (x 4) (x 5) 6 fs), (cT cyI x (X_text out.2.2.1)), (cSo an out.2.2.2.1), (cG cyI an (S_green out.2.2.2.1)), (cV cyI an (S_score out.2.2.2.1)), (cSo tr out.2.2.2.2.1), (cG cyI tr (S_green out.2.2.2.2.1)), (cV cyI tr (S_score out.2.2.2.2.1)), (cS cyI k0 out.2.2.2.2.2.1), (cS cyI k1 out.2.2.2.2.2.2.1), (cS cyI b0 out.2.2.2.2.2.2.2.1), (cS cyI b1 out.2.2.2.2.2.2.2.2.1), (cS cyI b2 out.2.2.2.2.2.2.2.2.2.1), (cS cyI b3 out.2.2.2.2.2.2.2.2.2.2.1), (cS cyI b4 out.2.2.2.2.2.2.2.2.2.2.2.1), (cS cyI b5 out.2.2.2.2.2.2.2.2.2.2.2.2)] : List va_W).flatten) H → va_D A (([[cLo cyL qo 1 out.1], (cM cyI mm out.2.1), (cXo x an tr out.2.2.1), (cH cyO (x 1) (x 2) 2 fl), (cXk cyI x out.2.2.1), (cH cyO (x 4) (x 5) 6 fs), (cT cyI x (X_text out.2.2.1)), (cSo an out.2.2.2.1), (cG cyI an (S_green out.2.2.2.1)), (cV cyI an (S_score out.2.2.2.1)), (cSo tr out.2.2.2.2.1), (cG cyI tr (S_green out.2.2.2.2.1)), (cV cyI tr (S_score out.2.2.2.2.1)), (cS cyI k0 out.2.2.2.2.2.1), (cS cyI k1 out.2.2.2.2.2.2.1), (cS cyI b0 out.2.2.2.2.2.2.2.1), (cS cyI b1 out.2.2.2.2.2.2.2.2.1), (cS cyI b2 out.2.2.2.2.2.2.2.2.2.1), (cS cyI b3 out.2.2.2.2.2.2.2.2.2.2.1), (cS cyI b4 out.2.2.2.2.2.2.2.2.2.2.2.1), (cS cyI b5 out.2.2.2.2.2.2.2.2.2.2.2.2)] : List va_W).flatten) → va_S A s.heap H locs → lv_has ls 9 [(0, .ref b), (1, .ref (x 0)), (2, .ref (mm 0)), (3, .ref qo), (4, .int i)] → W p l e R s m args below meth c H locs (cells + 4) (slots + 24) Q (F0 m 2733 ls [])) : W p l e R s m args below meth c H locs cells slots Q (F0 m 896 ls []) := by
  unfold f_law15 at hF
  refine lv_aload_n hx hb dL_law_896 rfl (lv_at hl 1 rfl) ?_
  obtain ⟨o1, h2, hF⟩ := obd hF
  refine wcRVi (As := []) (rest := []) (b := (x 0)) ⟨hx, hb, hml, hown, hts⟩ (met_X5_savedStates l dC dI cyI cyO cyL x an tr fl fs N xv  o1 h2) (cwV 0 hts (gV w_methodLink_L_197 w_instanceMethod_X5_savedStates w_selects_X5_savedStates w_initialized_X5 w_code_X5_savedStates) rfl rfl rfl (by decide +kernel) ⟨Nat.le_trans (Nat.le_of_ble_eq_true rfl) hRf, Nat.le_trans (Nat.le_of_ble_eq_true rfl) hRl⟩) (va_recv hK.1 hP (ci := 5) (q0 := 9) rfl rfl) hP hK [9, 10, 11, 12, 13, 14, 15, 16] rfl rfl hl.1 (Nat.le_of_ble_eq_true rfl) dL_law_897 ⟨by omega, by omega⟩ hS (fun r H locs hw hP hS => ?_)
  have hw := hw.symm
  subst hw
  refine lv_aload_n hx hb dL_law_900 rfl (lv_at hl 2 rfl) ?_
  obtain ⟨o3, h4, hF⟩ := obd hF
  refine wcPVi (As := []) (rest := [.int o1]) (wr := ([[cLo cyL qo 1 fo], (cXo x an tr xv), (cH cyO (x 1) (x 2) 2 fl), (cXk cyI x xv), (cH cyO (x 4) (x 5) 6 fs), (cT cyI x (X_text xv)), (cSo an nv), (cG cyI an (S_green nv)), (cV cyI an (S_score nv)), (cSo tr tv), (cG cyI tr (S_green tv)), (cV cyI tr (S_score tv)), (cS cyI k0 w0), (cS cyI k1 w1), (cS cyI b0 v0), (cS cyI b1 v1), (cS cyI b2 v2), (cS cyI b3 v3), (cS cyI b4 v4), (cS cyI b5 v5)] : List va_W).flatten) (b := (mm 0)) ⟨hx, hb, hml, hown, hts⟩ (met_X6_savedStates l dC dI cyI cyO cyL mm _ N mv  o3 h4) (cwV 0 hts (gV w_methodLink_L_200 w_instanceMethod_X6_savedStates w_selects_X6_savedStates w_initialized_X6 w_code_X6_savedStates) rfl rfl rfl (by decide +kernel) ⟨Nat.le_trans (Nat.le_of_ble_eq_true rfl) hRf, Nat.le_trans (Nat.le_of_ble_eq_true rfl) hRl⟩) (va_recv hK.1 hP (ci := 6) (q0 := 1) rfl rfl) hP hD hK (seg_perm (n := 21) (R := [[cLo cyL qo 1 fo], (cXo x an tr xv), (cH cyO (x 1) (x 2) 2 fl), (cXk cyI x xv), (cH cyO (x 4) (x 5) 6 fs), (cT cyI x (X_text xv)), (cSo an nv), (cG cyI an (S_green nv)), (cV cyI an (S_score nv)), (cSo tr tv), (cG cyI tr (S_green tv)), (cV cyI tr (S_score tv)), (cS cyI k0 w0), (cS cyI k1 w1), (cS cyI b0 v0), (cS cyI b1 v1), (cS cyI b2 v2), (cS cyI b3 v3), (cS cyI b4 v4), (cS cyI b5 v5)]) (C := [(cM cyI mm mv)]) [0, 2, 3, 4, 5, 6, 7, 8, 9, 10, 11, 12, 13, 14, 15, 16, 17, 18, 19, 20] [1] rfl rfl rfl (by decide) rfl) rfl hl.1 (Nat.le_of_ble_eq_true rfl) dL_law_901 ⟨by omega, by omega⟩ hS hA (fun r u H locs hw hP hD hS => ?_)
  obtain rfl : r = o3.1 := congrArg Prod.fst hw
  obtain rfl : u = o3.2 := congrArg Prod.snd hw
  clear hw
  have hq := seg_permS (segs := [[cLo cyL qo 1 fo], (cM cyI mm o3.2), (cXo x an tr xv), (cH cyO (x 1) (x 2) 2 fl), (cXk cyI x xv), (cH cyO (x 4) (x 5) 6 fs), (cT cyI x (X_text xv)), (cSo an nv), (cG cyI an (S_green nv)), (cV cyI an (S_score nv)), (cSo tr tv), (cG cyI tr (S_green tv)), (cV cyI tr (S_score tv)), (cS cyI k0 w0), (cS cyI k1 w1), (cS cyI b0 v0), (cS cyI b1 v1), (cS cyI b2 v2), (cS cyI b3 v3), (cS cyI b4 v4), (cS cyI b5 v5)]) (R := [[cLo cyL qo 1 fo], (cXo x an tr xv), (cH cyO (x 1) (x 2) 2 fl), (cXk cyI x xv), (cH cyO (x 4) (x 5) 6 fs), (cT cyI x (X_text xv)), (cSo an nv), (cG cyI an (S_green nv)), (cV cyI an (S_score nv)), (cSo tr tv), (cG cyI tr (S_green tv)), (cV cyI tr (S_score tv)), (cS cyI k0 w0), (cS cyI k1 w1), (cS cyI b0 v0), (cS cyI b1 v1), (cS cyI b2 v2), (cS cyI b3 v3), (cS cyI b4 v4), (cS cyI b5 v5)]) (C := [(cM cyI mm o3.2)]) (n := 21) [0, 2, 3, 4, 5, 6, 7, 8, 9, 10, 11, 12, 13, 14, 15, 16, 17, 18, 19, 20] [1] rfl rfl rfl (by decide)
  have hP : va_P (dC, dI) vwCl (([[cLo cyL qo 1 fo], (cM cyI mm o3.2), (cXo x an tr xv), (cH cyO (x 1) (x 2) 2 fl), (cXk cyI x xv), (cH cyO (x 4) (x 5) 6 fs), (cT cyI x (X_text xv)), (cSo an nv), (cG cyI an (S_green nv)), (cV cyI an (S_score nv)), (cSo tr tv), (cG cyI tr (S_green tv)), (cV cyI tr (S_score tv)), (cS cyI k0 w0), (cS cyI k1 w1), (cS cyI b0 v0), (cS cyI b1 v1), (cS cyI b2 v2), (cS cyI b3 v3), (cS cyI b4 v4), (cS cyI b5 v5)] : List va_W).flatten) H := hP.perm hq
  have hD : va_D A (([[cLo cyL qo 1 fo], (cM cyI mm o3.2), (cXo x an tr xv), (cH cyO (x 1) (x 2) 2 fl), (cXk cyI x xv), (cH cyO (x 4) (x 5) 6 fs), (cT cyI x (X_text xv)), (cSo an nv), (cG cyI an (S_green nv)), (cV cyI an (S_score nv)), (cSo tr tv), (cG cyI tr (S_green tv)), (cV cyI tr (S_score tv)), (cS cyI k0 w0), (cS cyI k1 w1), (cS cyI b0 v0), (cS cyI b1 v1), (cS cyI b2 v2), (cS cyI b3 v3), (cS cyI b4 v4), (cS cyI b5 v5)] : List va_W).flatten) := hD.perm hq
  clear hq
  refine lv_icmp_eq (tgt := 2733) hx hb dL_law_904 (by decide) (fun c5 => ?_) (fun c5 => ?_)
  · have hF := itp c5 hF
    obtain rfl := Option.some.inj hF
    refine W.widen (k := cells + 4) (n := slots + 24) (by omega) (by omega) ?_
    exact kk _ _ _ hP hD hS (lv_sub hl [0, 1, 2, 3, 4] rfl)
  · have hF := itn c5 hF
    refine lv_iconst (v := 0) hx hb dL_law_907 (by decide) ?_
    cases hF
theorem dL_law_909 : decode cL_law 909 = .ok (.aload_n 1, 1) := by decide +kernel
theorem dL_law_910 : decode cL_law 910 = .ok (.invokevirtual 201, 3) := by decide +kernel
theorem dL_law_913 : decode cL_law 913 = .ok (.aload_n 2, 1) := by decide +kernel
theorem dL_law_914 : decode cL_law 914 = .ok (.invokevirtual 204, 3) := by decide +kernel
theorem dL_law_917 : decode cL_law 917 = .ok (.if_icmp .eq 1816, 3) := by decide +kernel
theorem dL_law_920 : decode cL_law 920 = .ok (.iconst 0, 1) := by decide +kernel
def f_law16 (N L : Nat) (xs : Nat → Int32) (i : Int32) (fo : (Nat → Int64)) (mv : MV) (xv : XV) (nv : SV) (tv : SV) (w0 : SV) (w1 : SV) (v0 : SV) (v1 : SV) (v2 : SV) (v3 : SV) (v4 : SV) (v5 : SV) : Option ((Nat → Int64) × MV × XV × SV × SV × SV × SV × SV × SV × SV × SV × SV × SV) :=
  (f_X5_isJackThere N xv nv).bind (fun o1 => (f_X6_isJackThere N mv).bind (fun o4 => (if o1 = o4.1 then some (fo, o4.2, xv, nv, tv, w0, w1, v0, v1, v2, v3, v4, v5) else none)))
set_option maxHeartbeats 4000000 in
set_option maxRecDepth 100000 in
theorem law16 (hst : l.stackTraces = false) (hx : p.tables.exec = Jvm.exec) (hb : c.code = code) (hml : c.maxLocals = 9) (hown : s.vm.findClass RL = some m.cls) (hts : ∀ w ∈ wT, w.before args s = true) (hK : wK dC dI cyI cyO cyL s) (hZ : wZ z0 s) (hAz : ∀ q, A q → z0 ≤ q) (hz0 : z0 ≤ s.heap.size) (hA : ∀ q : Nat, s.heap.size ≤ q → A q) (hX : va_X b L xs s s.heap) (hbl : b < s.heap.size) (hbA : ¬ A b) (hRf : 11 ≤ R.frames) (hRl : 398 ≤ R.locals) (qo : Nat) (mm x an tr k0 k1 b0 b1 b2 b3 b4 b5 : Nat → Nat) (fl fs : Nat → Option Nat) (N : Nat) (fo : (Nat → Int64)) (mv : MV) (xv : XV) (nv : SV) (tv : SV) (w0 : SV) (w1 : SV) (v0 : SV) (v1 : SV) (v2 : SV) (v3 : SV) (v4 : SV) (v5 : SV) (i : Int32) (hl0 : fl 0 = some (k0 0)) (hl1 : fl 1 = some (k1 0)) (hs0 : fs 0 = some (b0 0)) (hs1 : fs 1 = some (b1 0)) (hs2 : fs 2 = some (b2 0)) (hs3 : fs 3 = some (b3 0)) (hs4 : fs 4 = some (b4 0)) (hs5 : fs 5 = some (b5 0)) (out : (Nat → Int64) × MV × XV × SV × SV × SV × SV × SV × SV × SV × SV × SV × SV) (hF : f_law16 N L xs i fo mv xv nv tv w0 w1 v0 v1 v2 v3 v4 v5 = some out) (hP : va_P (dC, dI) vwCl (([[cLo cyL qo 1 fo], (cM cyI mm mv), (cXo x an tr xv), (cH cyO (x 1) (x 2) 2 fl), (cXk cyI x xv), (cH cyO (x 4) (x 5) 6 fs), (cT cyI x (X_text xv)), (cSo an nv), (cG cyI an (S_green nv)), (cV cyI an (S_score nv)), (cSo tr tv), (cG cyI tr (S_green tv)), (cV cyI tr (S_score tv)), (cS cyI k0 w0), (cS cyI k1 w1), (cS cyI b0 v0), (cS cyI b1 v1), (cS cyI b2 v2), (cS cyI b3 v3), (cS cyI b4 v4), (cS cyI b5 v5)] : List va_W).flatten) H) (hD : va_D A (([[cLo cyL qo 1 fo], (cM cyI mm mv), (cXo x an tr xv), (cH cyO (x 1) (x 2) 2 fl), (cXk cyI x xv), (cH cyO (x 4) (x 5) 6 fs), (cT cyI x (X_text xv)), (cSo an nv), (cG cyI an (S_green nv)), (cV cyI an (S_score nv)), (cSo tr tv), (cG cyI tr (S_green tv)), (cV cyI tr (S_score tv)), (cS cyI k0 w0), (cS cyI k1 w1), (cS cyI b0 v0), (cS cyI b1 v1), (cS cyI b2 v2), (cS cyI b3 v3), (cS cyI b4 v4), (cS cyI b5 v5)] : List va_W).flatten)) (hS : va_S A s.heap H locs) (hl : lv_has ls 9 [(0, .ref b), (1, .ref (x 0)), (2, .ref (mm 0)), (3, .ref qo), (4, .int i)]) (hRc : cells + 4 ≤ R.cells) (hRs : slots + 24 ≤ R.slots) (kk : ∀ (H : Heap) (locs : List Loc) (ls : Array Slot), va_P (dC, dI) vwCl (([[cLo cyL qo 1 out.1], (cM cyI mm out.2.1), (cXo x an tr out.2.2.1), (cH cyO (x 1) (x 2) 2 fl), (cXk cyI x out.2.2.1), (cH cyO (x 4) (x 5) 6 fs), (cT cyI x (X_text out.2.2.1)), (cSo an out.2.2.2.1), (cG cyI an (S_green out.2.2.2.1)), (cV cyI an (S_score out.2.2.2.1)), (cSo tr out.2.2.2.2.1), (cG cyI tr (S_green out.2.2.2.2.1)), (cV cyI tr (S_score out.2.2.2.2.1)), (cS cyI k0 out.2.2.2.2.2.1), (cS cyI k1 out.2.2.2.2.2.2.1), (cS cyI b0 out.2.2.2.2.2.2.2.1), (cS cyI b1 out.2.2.2.2.2.2.2.2.1), (cS cyI b2 out.2.2.2.2.2.2.2.2.2.1), (cS cyI b3 out.2.2.2.2.2.2.2.2.2.2.1), (cS cyI b4 out.2.2.2.2.2.2.2.2.2.2.2.1), (cS cyI b5 out.2.2.2.2.2.2.2.2.2.2.2.2)] : List va_W).flatten) H → va_D A (([[cLo cyL qo 1 out.1], (cM cyI mm out.2.1), (cXo x an tr out.2.2.1), (cH cyO (x 1) (x 2) 2 fl), (cXk cyI x out.2.2.1), (cH cyO (x 4) (x 5) 6 fs), (cT cyI x (X_text out.2.2.1)), (cSo an out.2.2.2.1), (cG cyI an (S_green out.2.2.2.1)), (cV cyI an (S_score out.2.2.2.1)), (cSo tr out.2.2.2.2.1), (cG cyI tr (S_green out.2.2.2.2.1)), (cV cyI tr (S_score out.2.2.2.2.1)), (cS cyI k0 out.2.2.2.2.2.1), (cS cyI k1 out.2.2.2.2.2.2.1), (cS cyI b0 out.2.2.2.2.2.2.2.1), (cS cyI b1 out.2.2.2.2.2.2.2.2.1), (cS cyI b2 out.2.2.2.2.2.2.2.2.2.1), (cS cyI b3 out.2.2.2.2.2.2.2.2.2.2.1), (cS cyI b4 out.2.2.2.2.2.2.2.2.2.2.2.1), (cS cyI b5 out.2.2.2.2.2.2.2.2.2.2.2.2)] : List va_W).flatten) → va_S A s.heap H locs → lv_has ls 9 [(0, .ref b), (1, .ref (x 0)), (2, .ref (mm 0)), (3, .ref qo), (4, .int i)] → W p l e R s m args below meth c H locs (cells + 4) (slots + 24) Q (F0 m 2733 ls [])) : W p l e R s m args below meth c H locs cells slots Q (F0 m 909 ls []) := by
  unfold f_law16 at hF
  refine lv_aload_n hx hb dL_law_909 rfl (lv_at hl 1 rfl) ?_
  obtain ⟨o1, h2, hF⟩ := obd hF
  refine wcRVi (As := []) (rest := []) (b := (x 0)) ⟨hx, hb, hml, hown, hts⟩ (met_X5_isJackThere l dC dI cyI cyO cyL x tr an fl fs N xv nv  o1 h2) (cwV 0 hts (gV w_methodLink_L_201 w_instanceMethod_X5_isJackThere w_selects_X5_isJackThere w_initialized_X5 w_code_X5_isJackThere) rfl rfl rfl (by decide +kernel) ⟨Nat.le_trans (Nat.le_of_ble_eq_true rfl) hRf, Nat.le_trans (Nat.le_of_ble_eq_true rfl) hRl⟩) (va_recv hK.1 hP (ci := 5) (q0 := 9) rfl rfl) hP hK [9, 10, 11, 12, 13, 14, 15, 16, 17, 18, 19, 20, 21, 22, 23, 24, 25, 26, 27, 28, 29] rfl rfl hl.1 (Nat.le_of_ble_eq_true rfl) dL_law_910 ⟨by omega, by omega⟩ hS (fun r H locs hw hP hS => ?_)
  obtain ⟨hw, hz3⟩ := hw
  have hw := hw.symm
  subst hw
  refine lv_aload_n hx hb dL_law_913 rfl (lv_at hl 2 rfl) ?_
  obtain ⟨o4, h5, hF⟩ := obd hF
  refine wcPVi (As := []) (rest := [.int o1]) (wr := ([[cLo cyL qo 1 fo], (cXo x an tr xv), (cH cyO (x 1) (x 2) 2 fl), (cXk cyI x xv), (cH cyO (x 4) (x 5) 6 fs), (cT cyI x (X_text xv)), (cSo an nv), (cG cyI an (S_green nv)), (cV cyI an (S_score nv)), (cSo tr tv), (cG cyI tr (S_green tv)), (cV cyI tr (S_score tv)), (cS cyI k0 w0), (cS cyI k1 w1), (cS cyI b0 v0), (cS cyI b1 v1), (cS cyI b2 v2), (cS cyI b3 v3), (cS cyI b4 v4), (cS cyI b5 v5)] : List va_W).flatten) (b := (mm 0)) ⟨hx, hb, hml, hown, hts⟩ (met_X6_isJackThere l dC dI cyI cyO cyL mm _ N mv  o4 h5) (cwV 0 hts (gV w_methodLink_L_204 w_instanceMethod_X6_isJackThere w_selects_X6_isJackThere w_initialized_X6 w_code_X6_isJackThere) rfl rfl rfl (by decide +kernel) ⟨Nat.le_trans (Nat.le_of_ble_eq_true rfl) hRf, Nat.le_trans (Nat.le_of_ble_eq_true rfl) hRl⟩) (va_recv hK.1 hP (ci := 6) (q0 := 1) rfl rfl) hP hD hK (seg_perm (n := 21) (R := [[cLo cyL qo 1 fo], (cXo x an tr xv), (cH cyO (x 1) (x 2) 2 fl), (cXk cyI x xv), (cH cyO (x 4) (x 5) 6 fs), (cT cyI x (X_text xv)), (cSo an nv), (cG cyI an (S_green nv)), (cV cyI an (S_score nv)), (cSo tr tv), (cG cyI tr (S_green tv)), (cV cyI tr (S_score tv)), (cS cyI k0 w0), (cS cyI k1 w1), (cS cyI b0 v0), (cS cyI b1 v1), (cS cyI b2 v2), (cS cyI b3 v3), (cS cyI b4 v4), (cS cyI b5 v5)]) (C := [(cM cyI mm mv)]) [0, 2, 3, 4, 5, 6, 7, 8, 9, 10, 11, 12, 13, 14, 15, 16, 17, 18, 19, 20] [1] rfl rfl rfl (by decide) rfl) rfl hl.1 (Nat.le_of_ble_eq_true rfl) dL_law_914 ⟨by omega, by omega⟩ hS hA (fun r u H locs hw hP hD hS => ?_)
  obtain ⟨hw, hz6⟩ := hw
  obtain rfl : r = o4.1 := congrArg Prod.fst hw
  obtain rfl : u = o4.2 := congrArg Prod.snd hw
  clear hw
  have hq := seg_permS (segs := [[cLo cyL qo 1 fo], (cM cyI mm o4.2), (cXo x an tr xv), (cH cyO (x 1) (x 2) 2 fl), (cXk cyI x xv), (cH cyO (x 4) (x 5) 6 fs), (cT cyI x (X_text xv)), (cSo an nv), (cG cyI an (S_green nv)), (cV cyI an (S_score nv)), (cSo tr tv), (cG cyI tr (S_green tv)), (cV cyI tr (S_score tv)), (cS cyI k0 w0), (cS cyI k1 w1), (cS cyI b0 v0), (cS cyI b1 v1), (cS cyI b2 v2), (cS cyI b3 v3), (cS cyI b4 v4), (cS cyI b5 v5)]) (R := [[cLo cyL qo 1 fo], (cXo x an tr xv), (cH cyO (x 1) (x 2) 2 fl), (cXk cyI x xv), (cH cyO (x 4) (x 5) 6 fs), (cT cyI x (X_text xv)), (cSo an nv), (cG cyI an (S_green nv)), (cV cyI an (S_score nv)), (cSo tr tv), (cG cyI tr (S_green tv)), (cV cyI tr (S_score tv)), (cS cyI k0 w0), (cS cyI k1 w1), (cS cyI b0 v0), (cS cyI b1 v1), (cS cyI b2 v2), (cS cyI b3 v3), (cS cyI b4 v4), (cS cyI b5 v5)]) (C := [(cM cyI mm o4.2)]) (n := 21) [0, 2, 3, 4, 5, 6, 7, 8, 9, 10, 11, 12, 13, 14, 15, 16, 17, 18, 19, 20] [1] rfl rfl rfl (by decide)
  have hP : va_P (dC, dI) vwCl (([[cLo cyL qo 1 fo], (cM cyI mm o4.2), (cXo x an tr xv), (cH cyO (x 1) (x 2) 2 fl), (cXk cyI x xv), (cH cyO (x 4) (x 5) 6 fs), (cT cyI x (X_text xv)), (cSo an nv), (cG cyI an (S_green nv)), (cV cyI an (S_score nv)), (cSo tr tv), (cG cyI tr (S_green tv)), (cV cyI tr (S_score tv)), (cS cyI k0 w0), (cS cyI k1 w1), (cS cyI b0 v0), (cS cyI b1 v1), (cS cyI b2 v2), (cS cyI b3 v3), (cS cyI b4 v4), (cS cyI b5 v5)] : List va_W).flatten) H := hP.perm hq
  have hD : va_D A (([[cLo cyL qo 1 fo], (cM cyI mm o4.2), (cXo x an tr xv), (cH cyO (x 1) (x 2) 2 fl), (cXk cyI x xv), (cH cyO (x 4) (x 5) 6 fs), (cT cyI x (X_text xv)), (cSo an nv), (cG cyI an (S_green nv)), (cV cyI an (S_score nv)), (cSo tr tv), (cG cyI tr (S_green tv)), (cV cyI tr (S_score tv)), (cS cyI k0 w0), (cS cyI k1 w1), (cS cyI b0 v0), (cS cyI b1 v1), (cS cyI b2 v2), (cS cyI b3 v3), (cS cyI b4 v4), (cS cyI b5 v5)] : List va_W).flatten) := hD.perm hq
  clear hq
  refine lv_icmp_eq (tgt := 2733) hx hb dL_law_917 (by decide) (fun c7 => ?_) (fun c7 => ?_)
  · have hF := itp c7 hF
    obtain rfl := Option.some.inj hF
    refine W.widen (k := cells + 4) (n := slots + 24) (by omega) (by omega) ?_
    exact kk _ _ _ hP hD hS (lv_sub hl [0, 1, 2, 3, 4] rfl)
  · have hF := itn c7 hF
    refine lv_iconst (v := 0) hx hb dL_law_920 (by decide) ?_
    cases hF
theorem dL_law_922 : decode cL_law 922 = .ok (.aload_n 1, 1) := by decide +kernel
theorem dL_law_923 : decode cL_law 923 = .ok (.aload_n 3, 1) := by decide +kernel
theorem dL_law_924 : decode cL_law 924 = .ok (.invokestatic 205, 3) := by decide +kernel
theorem dL_law_927 : decode cL_law 927 = .ok (.istore 5, 2) := by decide +kernel
theorem dL_law_929 : decode cL_law 929 = .ok (.aload_n 2, 1) := by decide +kernel
theorem dL_law_930 : decode cL_law 930 = .ok (.invokevirtual 207, 3) := by decide +kernel
theorem dL_law_933 : decode cL_law 933 = .ok (.istore 6, 2) := by decide +kernel
theorem dL_law_935 : decode cL_law 935 = .ok (.aload_n 2, 1) := by decide +kernel
theorem dL_law_936 : decode cL_law 936 = .ok (.invokevirtual 143, 3) := by decide +kernel
theorem dL_law_939 : decode cL_law 939 = .ok (.iload 5, 2) := by decide +kernel
theorem dL_law_941 : decode cL_law 941 = .ok (.if_icmp .eq 5, 3) := by decide +kernel
theorem dL_law_944 : decode cL_law 944 = .ok (.iconst 0, 1) := by decide +kernel
theorem dL_law_946 : decode cL_law 946 = .ok (.iload 5, 2) := by decide +kernel
theorem dL_law_948 : decode cL_law 948 = .ok (.ifCond .ne 15, 3) := by decide +kernel
theorem dL_law_951 : decode cL_law 951 = .ok (.aload_n 3, 1) := by decide +kernel
theorem dL_law_952 : decode cL_law 952 = .ok (.iconst 0, 1) := by decide +kernel
theorem dL_law_953 : decode cL_law 953 = .ok (.laload, 1) := by decide +kernel
theorem dL_law_954 : decode cL_law 954 = .ok (.iload 6, 2) := by decide +kernel
theorem dL_law_956 : decode cL_law 956 = .ok (.i2l, 1) := by decide +kernel
theorem dL_law_957 : decode cL_law 957 = .ok (.lcmp, 1) := by decide +kernel
theorem dL_law_958 : decode cL_law 958 = .ok (.ifCond .eq 5, 3) := by decide +kernel
theorem dL_law_961 : decode cL_law 961 = .ok (.iconst 0, 1) := by decide +kernel
theorem dL_law_963 : decode cL_law 963 = .ok (.goto 1770, 3) := by decide +kernel
def f_law17 (N L : Nat) (xs : Nat → Int32) (i : Int32) (fo : (Nat → Int64)) (mv : MV) (xv : XV) (nv : SV) (tv : SV) (w0 : SV) (w1 : SV) (v0 : SV) (v1 : SV) (v2 : SV) (v3 : SV) (v4 : SV) (v5 : SV) : Option ((Nat → Int64) × MV × XV × SV × SV × SV × SV × SV × SV × SV × SV × SV × SV) :=
  (f_L_jackRow N fo xv nv).bind (fun o1 => (f_X6_jackRow N mv).bind (fun o3 => (f_X6_thrown N o3.2).bind (fun o5 => (if o5 = o1.1 then jn (fun (s963 : Unit) => some (o1.2.1, o3.2, o1.2.2.1, o1.2.2.2, tv, w0, w1, v0, v1, v2, v3, v4, v5)) (fun (j963 : (Unit) → Option ((Nat → Int64) × MV × XV × SV × SV × SV × SV × SV × SV × SV × SV × SV × SV)) => (if o1.1 = 0 then (if (lg_cmp (o1.2.1 (0 : Int32).toNatClampNeg) ((o3.1).toInt64)) = 0 then j963 () else none) else j963 ())) else none))))
set_option maxHeartbeats 4000000 in
set_option maxRecDepth 100000 in
theorem law17 (hst : l.stackTraces = false) (hx : p.tables.exec = Jvm.exec) (hb : c.code = code) (hml : c.maxLocals = 9) (hown : s.vm.findClass RL = some m.cls) (hts : ∀ w ∈ wT, w.before args s = true) (hK : wK dC dI cyI cyO cyL s) (hZ : wZ z0 s) (hAz : ∀ q, A q → z0 ≤ q) (hz0 : z0 ≤ s.heap.size) (hA : ∀ q : Nat, s.heap.size ≤ q → A q) (hX : va_X b L xs s s.heap) (hbl : b < s.heap.size) (hbA : ¬ A b) (hRf : 11 ≤ R.frames) (hRl : 398 ≤ R.locals) (qo : Nat) (mm x an tr k0 k1 b0 b1 b2 b3 b4 b5 : Nat → Nat) (fl fs : Nat → Option Nat) (N : Nat) (fo : (Nat → Int64)) (mv : MV) (xv : XV) (nv : SV) (tv : SV) (w0 : SV) (w1 : SV) (v0 : SV) (v1 : SV) (v2 : SV) (v3 : SV) (v4 : SV) (v5 : SV) (i : Int32) (hl0 : fl 0 = some (k0 0)) (hl1 : fl 1 = some (k1 0)) (hs0 : fs 0 = some (b0 0)) (hs1 : fs 1 = some (b1 0)) (hs2 : fs 2 = some (b2 0)) (hs3 : fs 3 = some (b3 0)) (hs4 : fs 4 = some (b4 0)) (hs5 : fs 5 = some (b5 0)) (out : (Nat → Int64) × MV × XV × SV × SV × SV × SV × SV × SV × SV × SV × SV × SV) (hF : f_law17 N L xs i fo mv xv nv tv w0 w1 v0 v1 v2 v3 v4 v5 = some out) (hP : va_P (dC, dI) vwCl (([[cLo cyL qo 1 fo], (cM cyI mm mv), (cXo x an tr xv), (cH cyO (x 1) (x 2) 2 fl), (cXk cyI x xv), (cH cyO (x 4) (x 5) 6 fs), (cT cyI x (X_text xv)), (cSo an nv), (cG cyI an (S_green nv)), (cV cyI an (S_score nv)), (cSo tr tv), (cG cyI tr (S_green tv)), (cV cyI tr (S_score tv)), (cS cyI k0 w0), (cS cyI k1 w1), (cS cyI b0 v0), (cS cyI b1 v1), (cS cyI b2 v2), (cS cyI b3 v3), (cS cyI b4 v4), (cS cyI b5 v5)] : List va_W).flatten) H) (hD : va_D A (([[cLo cyL qo 1 fo], (cM cyI mm mv), (cXo x an tr xv), (cH cyO (x 1) (x 2) 2 fl), (cXk cyI x xv), (cH cyO (x 4) (x 5) 6 fs), (cT cyI x (X_text xv)), (cSo an nv), (cG cyI an (S_green nv)), (cV cyI an (S_score nv)), (cSo tr tv), (cG cyI tr (S_green tv)), (cV cyI tr (S_score tv)), (cS cyI k0 w0), (cS cyI k1 w1), (cS cyI b0 v0), (cS cyI b1 v1), (cS cyI b2 v2), (cS cyI b3 v3), (cS cyI b4 v4), (cS cyI b5 v5)] : List va_W).flatten)) (hS : va_S A s.heap H locs) (hl : lv_has ls 9 [(0, .ref b), (1, .ref (x 0)), (2, .ref (mm 0)), (3, .ref qo), (4, .int i)]) (hRc : cells + 4 ≤ R.cells) (hRs : slots + 24 ≤ R.slots) (kk : ∀ (H : Heap) (locs : List Loc) (ls : Array Slot), va_P (dC, dI) vwCl (([[cLo cyL qo 1 out.1], (cM cyI mm out.2.1), (cXo x an tr out.2.2.1), (cH cyO (x 1) (x 2) 2 fl), (cXk cyI x out.2.2.1), (cH cyO (x 4) (x 5) 6 fs), (cT cyI x (X_text out.2.2.1)), (cSo an out.2.2.2.1), (cG cyI an (S_green out.2.2.2.1)), (cV cyI an (S_score out.2.2.2.1)), (cSo tr out.2.2.2.2.1), (cG cyI tr (S_green out.2.2.2.2.1)), (cV cyI tr (S_score out.2.2.2.2.1)), (cS cyI k0 out.2.2.2.2.2.1), (cS cyI k1 out.2.2.2.2.2.2.1), (cS cyI b0 out.2.2.2.2.2.2.2.1), (cS cyI b1 out.2.2.2.2.2.2.2.2.1), (cS cyI b2 out.2.2.2.2.2.2.2.2.2.1), (cS cyI b3 out.2.2.2.2.2.2.2.2.2.2.1), (cS cyI b4 out.2.2.2.2.2.2.2.2.2.2.2.1), (cS cyI b5 out.2.2.2.2.2.2.2.2.2.2.2.2)] : List va_W).flatten) H → va_D A (([[cLo cyL qo 1 out.1], (cM cyI mm out.2.1), (cXo x an tr out.2.2.1), (cH cyO (x 1) (x 2) 2 fl), (cXk cyI x out.2.2.1), (cH cyO (x 4) (x 5) 6 fs), (cT cyI x (X_text out.2.2.1)), (cSo an out.2.2.2.1), (cG cyI an (S_green out.2.2.2.1)), (cV cyI an (S_score out.2.2.2.1)), (cSo tr out.2.2.2.2.1), (cG cyI tr (S_green out.2.2.2.2.1)), (cV cyI tr (S_score out.2.2.2.2.1)), (cS cyI k0 out.2.2.2.2.2.1), (cS cyI k1 out.2.2.2.2.2.2.1), (cS cyI b0 out.2.2.2.2.2.2.2.1), (cS cyI b1 out.2.2.2.2.2.2.2.2.1), (cS cyI b2 out.2.2.2.2.2.2.2.2.2.1), (cS cyI b3 out.2.2.2.2.2.2.2.2.2.2.1), (cS cyI b4 out.2.2.2.2.2.2.2.2.2.2.2.1), (cS cyI b5 out.2.2.2.2.2.2.2.2.2.2.2.2)] : List va_W).flatten) → va_S A s.heap H locs → lv_has ls 9 [(0, .ref b), (1, .ref (x 0)), (2, .ref (mm 0)), (3, .ref qo), (4, .int i)] → W p l e R s m args below meth c H locs (cells + 4) (slots + 24) Q (F0 m 2733 ls [])) : W p l e R s m args below meth c H locs cells slots Q (F0 m 922 ls []) := by
  unfold f_law17 at hF
  refine lv_aload_n hx hb dL_law_922 rfl (lv_at hl 1 rfl) ?_
  refine lv_aload_n hx hb dL_law_923 rfl (lv_at hl 3 rfl) ?_
  obtain ⟨o1, h2, hF⟩ := obd hF
  refine wcLi (As := [.ref (x 0), .ref qo]) (rest := []) (wr := ([(cM cyI mm mv), (cSo tr tv), (cG cyI tr (S_green tv)), (cV cyI tr (S_score tv)), (cS cyI k0 w0), (cS cyI k1 w1), (cS cyI b0 v0), (cS cyI b1 v1), (cS cyI b2 v2), (cS cyI b3 v3), (cS cyI b4 v4), (cS cyI b5 v5)] : List va_W).flatten) ⟨hx, hb, hml, hown, hts⟩ (met_L_jackRow l z0 hst dC dI cyI cyO cyL qo x tr an fl fs _ N fo xv nv  o1 h2) (vx_cwSW 2 hts (gS w_methodLink_L_205 w_static_L_jackRow w_initialized_L w_codeW_L_jackRow) rfl rfl rfl (by decide +kernel) ⟨Nat.le_trans (Nat.le_of_ble_eq_true rfl) hRf, Nat.le_trans (Nat.le_of_ble_eq_true rfl) hRl⟩) hP hD hK hZ hAz hz0 (seg_perm (n := 21) (R := [(cM cyI mm mv), (cSo tr tv), (cG cyI tr (S_green tv)), (cV cyI tr (S_score tv)), (cS cyI k0 w0), (cS cyI k1 w1), (cS cyI b0 v0), (cS cyI b1 v1), (cS cyI b2 v2), (cS cyI b3 v3), (cS cyI b4 v4), (cS cyI b5 v5)]) (C := [[cLo cyL qo 1 fo], (cXo x an tr xv), (cH cyO (x 1) (x 2) 2 fl), (cXk cyI x xv), (cH cyO (x 4) (x 5) 6 fs), (cT cyI x (X_text xv)), (cSo an nv), (cG cyI an (S_green nv)), (cV cyI an (S_score nv))]) [1, 10, 11, 12, 13, 14, 15, 16, 17, 18, 19, 20] [0, 2, 3, 4, 5, 6, 7, 8, 9] rfl rfl rfl (by decide) rfl) rfl hl.1 (Nat.le_of_ble_eq_true rfl) dL_law_924 ⟨by omega, by omega⟩ hS hA (fun r u H locs hw hP hD hS => ?_)
  obtain rfl : r = o1.1 := congrArg Prod.fst hw
  obtain rfl : u = o1.2 := congrArg Prod.snd hw
  clear hw
  have hq := seg_permS (segs := [[cLo cyL qo 1 o1.2.1], (cM cyI mm mv), (cXo x an tr o1.2.2.1), (cH cyO (x 1) (x 2) 2 fl), (cXk cyI x o1.2.2.1), (cH cyO (x 4) (x 5) 6 fs), (cT cyI x (X_text o1.2.2.1)), (cSo an o1.2.2.2), (cG cyI an (S_green o1.2.2.2)), (cV cyI an (S_score o1.2.2.2)), (cSo tr tv), (cG cyI tr (S_green tv)), (cV cyI tr (S_score tv)), (cS cyI k0 w0), (cS cyI k1 w1), (cS cyI b0 v0), (cS cyI b1 v1), (cS cyI b2 v2), (cS cyI b3 v3), (cS cyI b4 v4), (cS cyI b5 v5)]) (R := [(cM cyI mm mv), (cSo tr tv), (cG cyI tr (S_green tv)), (cV cyI tr (S_score tv)), (cS cyI k0 w0), (cS cyI k1 w1), (cS cyI b0 v0), (cS cyI b1 v1), (cS cyI b2 v2), (cS cyI b3 v3), (cS cyI b4 v4), (cS cyI b5 v5)]) (C := [[cLo cyL qo 1 o1.2.1], (cXo x an tr o1.2.2.1), (cH cyO (x 1) (x 2) 2 fl), (cXk cyI x o1.2.2.1), (cH cyO (x 4) (x 5) 6 fs), (cT cyI x (X_text o1.2.2.1)), (cSo an o1.2.2.2), (cG cyI an (S_green o1.2.2.2)), (cV cyI an (S_score o1.2.2.2))]) (n := 21) [1, 10, 11, 12, 13, 14, 15, 16, 17, 18, 19, 20] [0, 2, 3, 4, 5, 6, 7, 8, 9] rfl rfl rfl (by decide)
  have hP : va_P (dC, dI) vwCl (([[cLo cyL qo 1 o1.2.1], (cM cyI mm mv), (cXo x an tr o1.2.2.1), (cH cyO (x 1) (x 2) 2 fl), (cXk cyI x o1.2.2.1), (cH cyO (x 4) (x 5) 6 fs), (cT cyI x (X_text o1.2.2.1)), (cSo an o1.2.2.2), (cG cyI an (S_green o1.2.2.2)), (cV cyI an (S_score o1.2.2.2)), (cSo tr tv), (cG cyI tr (S_green tv)), (cV cyI tr (S_score tv)), (cS cyI k0 w0), (cS cyI k1 w1), (cS cyI b0 v0), (cS cyI b1 v1), (cS cyI b2 v2), (cS cyI b3 v3), (cS cyI b4 v4), (cS cyI b5 v5)] : List va_W).flatten) H := hP.perm hq
  have hD : va_D A (([[cLo cyL qo 1 o1.2.1], (cM cyI mm mv), (cXo x an tr o1.2.2.1), (cH cyO (x 1) (x 2) 2 fl), (cXk cyI x o1.2.2.1), (cH cyO (x 4) (x 5) 6 fs), (cT cyI x (X_text o1.2.2.1)), (cSo an o1.2.2.2), (cG cyI an (S_green o1.2.2.2)), (cV cyI an (S_score o1.2.2.2)), (cSo tr tv), (cG cyI tr (S_green tv)), (cV cyI tr (S_score tv)), (cS cyI k0 w0), (cS cyI k1 w1), (cS cyI b0 v0), (cS cyI b1 v1), (cS cyI b2 v2), (cS cyI b3 v3), (cS cyI b4 v4), (cS cyI b5 v5)] : List va_W).flatten) := hD.perm hq
  clear hq
  refine lv_istore (lv' := [(5, .int o1.1), (0, .ref b), (1, .ref (x 0)), (2, .ref (mm 0)), (3, .ref qo), (4, .int i)]) hx hb dL_law_927 hl (by decide) rfl (fun ls hl => ?_)
  refine lv_aload_n hx hb dL_law_929 rfl (lv_at hl 3 rfl) ?_
  obtain ⟨o3, h4, hF⟩ := obd hF
  refine wcPVi (As := []) (rest := []) (wr := ([[cLo cyL qo 1 o1.2.1], (cXo x an tr o1.2.2.1), (cH cyO (x 1) (x 2) 2 fl), (cXk cyI x o1.2.2.1), (cH cyO (x 4) (x 5) 6 fs), (cT cyI x (X_text o1.2.2.1)), (cSo an o1.2.2.2), (cG cyI an (S_green o1.2.2.2)), (cV cyI an (S_score o1.2.2.2)), (cSo tr tv), (cG cyI tr (S_green tv)), (cV cyI tr (S_score tv)), (cS cyI k0 w0), (cS cyI k1 w1), (cS cyI b0 v0), (cS cyI b1 v1), (cS cyI b2 v2), (cS cyI b3 v3), (cS cyI b4 v4), (cS cyI b5 v5)] : List va_W).flatten) (b := (mm 0)) ⟨hx, hb, hml, hown, hts⟩ (met_X6_jackRow l dC dI cyI cyO cyL mm _ N mv  o3 h4) (cwV 0 hts (gV w_methodLink_L_207 w_instanceMethod_X6_jackRow w_selects_X6_jackRow w_initialized_X6 w_code_X6_jackRow) rfl rfl rfl (by decide +kernel) ⟨Nat.le_trans (Nat.le_of_ble_eq_true rfl) hRf, Nat.le_trans (Nat.le_of_ble_eq_true rfl) hRl⟩) (va_recv hK.1 hP (ci := 6) (q0 := 1) rfl rfl) hP hD hK (seg_perm (n := 21) (R := [[cLo cyL qo 1 o1.2.1], (cXo x an tr o1.2.2.1), (cH cyO (x 1) (x 2) 2 fl), (cXk cyI x o1.2.2.1), (cH cyO (x 4) (x 5) 6 fs), (cT cyI x (X_text o1.2.2.1)), (cSo an o1.2.2.2), (cG cyI an (S_green o1.2.2.2)), (cV cyI an (S_score o1.2.2.2)), (cSo tr tv), (cG cyI tr (S_green tv)), (cV cyI tr (S_score tv)), (cS cyI k0 w0), (cS cyI k1 w1), (cS cyI b0 v0), (cS cyI b1 v1), (cS cyI b2 v2), (cS cyI b3 v3), (cS cyI b4 v4), (cS cyI b5 v5)]) (C := [(cM cyI mm mv)]) [0, 2, 3, 4, 5, 6, 7, 8, 9, 10, 11, 12, 13, 14, 15, 16, 17, 18, 19, 20] [1] rfl rfl rfl (by decide) rfl) rfl hl.1 (Nat.le_of_ble_eq_true rfl) dL_law_930 ⟨by omega, by omega⟩ hS hA (fun r u H locs hw hP hD hS => ?_)
  obtain rfl : r = o3.1 := congrArg Prod.fst hw
  obtain rfl : u = o3.2 := congrArg Prod.snd hw
  clear hw
  have hq := seg_permS (segs := [[cLo cyL qo 1 o1.2.1], (cM cyI mm o3.2), (cXo x an tr o1.2.2.1), (cH cyO (x 1) (x 2) 2 fl), (cXk cyI x o1.2.2.1), (cH cyO (x 4) (x 5) 6 fs), (cT cyI x (X_text o1.2.2.1)), (cSo an o1.2.2.2), (cG cyI an (S_green o1.2.2.2)), (cV cyI an (S_score o1.2.2.2)), (cSo tr tv), (cG cyI tr (S_green tv)), (cV cyI tr (S_score tv)), (cS cyI k0 w0), (cS cyI k1 w1), (cS cyI b0 v0), (cS cyI b1 v1), (cS cyI b2 v2), (cS cyI b3 v3), (cS cyI b4 v4), (cS cyI b5 v5)]) (R := [[cLo cyL qo 1 o1.2.1], (cXo x an tr o1.2.2.1), (cH cyO (x 1) (x 2) 2 fl), (cXk cyI x o1.2.2.1), (cH cyO (x 4) (x 5) 6 fs), (cT cyI x (X_text o1.2.2.1)), (cSo an o1.2.2.2), (cG cyI an (S_green o1.2.2.2)), (cV cyI an (S_score o1.2.2.2)), (cSo tr tv), (cG cyI tr (S_green tv)), (cV cyI tr (S_score tv)), (cS cyI k0 w0), (cS cyI k1 w1), (cS cyI b0 v0), (cS cyI b1 v1), (cS cyI b2 v2), (cS cyI b3 v3), (cS cyI b4 v4), (cS cyI b5 v5)]) (C := [(cM cyI mm o3.2)]) (n := 21) [0, 2, 3, 4, 5, 6, 7, 8, 9, 10, 11, 12, 13, 14, 15, 16, 17, 18, 19, 20] [1] rfl rfl rfl (by decide)
  have hP : va_P (dC, dI) vwCl (([[cLo cyL qo 1 o1.2.1], (cM cyI mm o3.2), (cXo x an tr o1.2.2.1), (cH cyO (x 1) (x 2) 2 fl), (cXk cyI x o1.2.2.1), (cH cyO (x 4) (x 5) 6 fs), (cT cyI x (X_text o1.2.2.1)), (cSo an o1.2.2.2), (cG cyI an (S_green o1.2.2.2)), (cV cyI an (S_score o1.2.2.2)), (cSo tr tv), (cG cyI tr (S_green tv)), (cV cyI tr (S_score tv)), (cS cyI k0 w0), (cS cyI k1 w1), (cS cyI b0 v0), (cS cyI b1 v1), (cS cyI b2 v2), (cS cyI b3 v3), (cS cyI b4 v4), (cS cyI b5 v5)] : List va_W).flatten) H := hP.perm hq
  have hD : va_D A (([[cLo cyL qo 1 o1.2.1], (cM cyI mm o3.2), (cXo x an tr o1.2.2.1), (cH cyO (x 1) (x 2) 2 fl), (cXk cyI x o1.2.2.1), (cH cyO (x 4) (x 5) 6 fs), (cT cyI x (X_text o1.2.2.1)), (cSo an o1.2.2.2), (cG cyI an (S_green o1.2.2.2)), (cV cyI an (S_score o1.2.2.2)), (cSo tr tv), (cG cyI tr (S_green tv)), (cV cyI tr (S_score tv)), (cS cyI k0 w0), (cS cyI k1 w1), (cS cyI b0 v0), (cS cyI b1 v1), (cS cyI b2 v2), (cS cyI b3 v3), (cS cyI b4 v4), (cS cyI b5 v5)] : List va_W).flatten) := hD.perm hq
  clear hq
  refine lv_istore (lv' := [(6, .int o3.1), (5, .int o1.1), (0, .ref b), (1, .ref (x 0)), (2, .ref (mm 0)), (3, .ref qo), (4, .int i)]) hx hb dL_law_933 hl (by decide) rfl (fun ls hl => ?_)
  refine lv_aload_n hx hb dL_law_935 rfl (lv_at hl 4 rfl) ?_
  obtain ⟨o5, h6, hF⟩ := obd hF
  refine wcRVi (As := []) (rest := []) (b := (mm 0)) ⟨hx, hb, hml, hown, hts⟩ (met_X6_thrown l dC dI cyI cyO cyL mm N o3.2  o5 h6) (cwV 0 hts (gV w_methodLink_L_143 w_instanceMethod_X6_thrown w_selects_X6_thrown w_initialized_X6 w_code_X6_thrown) rfl rfl rfl (by decide +kernel) ⟨Nat.le_trans (Nat.le_of_ble_eq_true rfl) hRf, Nat.le_trans (Nat.le_of_ble_eq_true rfl) hRl⟩) (va_recv hK.1 hP (ci := 6) (q0 := 1) rfl rfl) hP hK [1, 2, 3, 4, 5, 6, 7, 8] rfl rfl hl.1 (Nat.le_of_ble_eq_true rfl) dL_law_936 ⟨by omega, by omega⟩ hS (fun r H locs hw hP hS => ?_)
  have hw := hw.symm
  subst hw
  refine lv_iload hx hb dL_law_939 (lv_at hl 1 rfl) ?_
  refine lv_icmp_eq (tgt := 946) hx hb dL_law_941 (by decide) (fun c7 => ?_) (fun c7 => ?_)
  · have hF := itp c7 hF
    refine lv_iload hx hb dL_law_946 (lv_at hl 1 rfl) ?_
    obtain ⟨j963, hj963, hF⟩ := jn_use hF
    have hJ963 : ∀ (s963 : Unit) (H : Heap) (locs : List Loc) (ls : Array Slot), va_P (dC, dI) vwCl (([[cLo cyL qo 1 o1.2.1], (cM cyI mm o3.2), (cXo x an tr o1.2.2.1), (cH cyO (x 1) (x 2) 2 fl), (cXk cyI x o1.2.2.1), (cH cyO (x 4) (x 5) 6 fs), (cT cyI x (X_text o1.2.2.1)), (cSo an o1.2.2.2), (cG cyI an (S_green o1.2.2.2)), (cV cyI an (S_score o1.2.2.2)), (cSo tr tv), (cG cyI tr (S_green tv)), (cV cyI tr (S_score tv)), (cS cyI k0 w0), (cS cyI k1 w1), (cS cyI b0 v0), (cS cyI b1 v1), (cS cyI b2 v2), (cS cyI b3 v3), (cS cyI b4 v4), (cS cyI b5 v5)] : List va_W).flatten) H → va_D A (([[cLo cyL qo 1 o1.2.1], (cM cyI mm o3.2), (cXo x an tr o1.2.2.1), (cH cyO (x 1) (x 2) 2 fl), (cXk cyI x o1.2.2.1), (cH cyO (x 4) (x 5) 6 fs), (cT cyI x (X_text o1.2.2.1)), (cSo an o1.2.2.2), (cG cyI an (S_green o1.2.2.2)), (cV cyI an (S_score o1.2.2.2)), (cSo tr tv), (cG cyI tr (S_green tv)), (cV cyI tr (S_score tv)), (cS cyI k0 w0), (cS cyI k1 w1), (cS cyI b0 v0), (cS cyI b1 v1), (cS cyI b2 v2), (cS cyI b3 v3), (cS cyI b4 v4), (cS cyI b5 v5)] : List va_W).flatten) → va_S A s.heap H locs → lv_has ls 9 [(0, .ref b), (1, .ref (x 0)), (2, .ref (mm 0)), (3, .ref qo), (4, .int i)] → j963 s963 = some out → W p l e R s m args below meth c H locs (cells + 1) (slots + 6) Q (F0 m 963 ls []) := by
      intro s963 H locs ls hP hD hS hl hF
      have hF := (congrFun hj963 s963).symm.trans hF
      refine lv_goto (tgt := 2733) hx hb dL_law_963 (by decide) ?_
      obtain rfl := Option.some.inj hF
      refine W.widen (k := cells + 4) (n := slots + 24) (by omega) (by omega) ?_
      exact kk _ _ _ hP hD hS (lv_sub hl [0, 1, 2, 3, 4] rfl)
    refine lv_if_ne (tgt := 963) hx hb dL_law_948 (by decide) (fun c8 => ?_) (fun c8 => ?_)
    · have hF := itn c8 hF
      exact hJ963 () _ _ _ hP hD hS (lv_sub hl [2, 3, 4, 5, 6] rfl) hF
    · have hF := itp c8 hF
      refine lv_aload_n hx hb dL_law_951 rfl (lv_at hl 5 rfl) ?_
      refine lv_iconst (v := 0) hx hb dL_law_952 (by decide) ?_
      refine va_lald hx hb hK.1 hP 0 2 rfl rfl (i := (0 : Int32)) (show ixok (0 : Int32) 1 by decide) dL_law_953 ?_
      refine lv_iload hx hb dL_law_954 (lv_at hl 0 rfl) ?_
      refine lv_i2l (v := (o3.1).toInt64) hx hb dL_law_956 rfl ?_
      refine W.lcmp hx hb dL_law_957 ?_
      refine lv_if_eq (tgt := 963) hx hb dL_law_958 (by decide) (fun c9 => ?_) (fun c9 => ?_)
      · have hF := itp c9 hF
        exact hJ963 () _ _ _ hP hD hS (lv_sub hl [2, 3, 4, 5, 6] rfl) hF
      · have hF := itn c9 hF
        refine lv_iconst (v := 0) hx hb dL_law_961 (by decide) ?_
        cases hF
  · have hF := itn c7 hF
    refine lv_iconst (v := 0) hx hb dL_law_944 (by decide) ?_
    cases hF
theorem dL_law_966 : decode cL_law 966 = .ok (.aload_n 1, 1) := by decide +kernel
theorem dL_law_967 : decode cL_law 967 = .ok (.aload_n 3, 1) := by decide +kernel
theorem dL_law_968 : decode cL_law 968 = .ok (.invokestatic 208, 3) := by decide +kernel
theorem dL_law_971 : decode cL_law 971 = .ok (.istore 5, 2) := by decide +kernel
theorem dL_law_973 : decode cL_law 973 = .ok (.aload_n 2, 1) := by decide +kernel
theorem dL_law_974 : decode cL_law 974 = .ok (.invokevirtual 210, 3) := by decide +kernel
theorem dL_law_977 : decode cL_law 977 = .ok (.istore 6, 2) := by decide +kernel
theorem dL_law_979 : decode cL_law 979 = .ok (.aload_n 2, 1) := by decide +kernel
theorem dL_law_980 : decode cL_law 980 = .ok (.invokevirtual 143, 3) := by decide +kernel
theorem dL_law_983 : decode cL_law 983 = .ok (.iload 5, 2) := by decide +kernel
theorem dL_law_985 : decode cL_law 985 = .ok (.if_icmp .eq 5, 3) := by decide +kernel
theorem dL_law_988 : decode cL_law 988 = .ok (.iconst 0, 1) := by decide +kernel
theorem dL_law_990 : decode cL_law 990 = .ok (.iload 5, 2) := by decide +kernel
theorem dL_law_992 : decode cL_law 992 = .ok (.ifCond .ne 15, 3) := by decide +kernel
theorem dL_law_995 : decode cL_law 995 = .ok (.aload_n 3, 1) := by decide +kernel
theorem dL_law_996 : decode cL_law 996 = .ok (.iconst 0, 1) := by decide +kernel
theorem dL_law_997 : decode cL_law 997 = .ok (.laload, 1) := by decide +kernel
theorem dL_law_998 : decode cL_law 998 = .ok (.iload 6, 2) := by decide +kernel
theorem dL_law_1000 : decode cL_law 1000 = .ok (.i2l, 1) := by decide +kernel
theorem dL_law_1001 : decode cL_law 1001 = .ok (.lcmp, 1) := by decide +kernel
theorem dL_law_1002 : decode cL_law 1002 = .ok (.ifCond .eq 5, 3) := by decide +kernel
theorem dL_law_1005 : decode cL_law 1005 = .ok (.iconst 0, 1) := by decide +kernel
theorem dL_law_1007 : decode cL_law 1007 = .ok (.goto 1726, 3) := by decide +kernel
def f_law18 (N L : Nat) (xs : Nat → Int32) (i : Int32) (fo : (Nat → Int64)) (mv : MV) (xv : XV) (nv : SV) (tv : SV) (w0 : SV) (w1 : SV) (v0 : SV) (v1 : SV) (v2 : SV) (v3 : SV) (v4 : SV) (v5 : SV) : Option ((Nat → Int64) × MV × XV × SV × SV × SV × SV × SV × SV × SV × SV × SV × SV) :=
  (f_L_jackColumn N fo xv nv).bind (fun o1 => (f_X6_jackColumn N mv).bind (fun o3 => (f_X6_thrown N o3.2).bind (fun o5 => (if o5 = o1.1 then jn (fun (s1007 : Unit) => some (o1.2.1, o3.2, o1.2.2.1, o1.2.2.2, tv, w0, w1, v0, v1, v2, v3, v4, v5)) (fun (j1007 : (Unit) → Option ((Nat → Int64) × MV × XV × SV × SV × SV × SV × SV × SV × SV × SV × SV × SV)) => (if o1.1 = 0 then (if (lg_cmp (o1.2.1 (0 : Int32).toNatClampNeg) ((o3.1).toInt64)) = 0 then j1007 () else none) else j1007 ())) else none))))
set_option maxHeartbeats 4000000 in
set_option maxRecDepth 100000 in
theorem law18 (hst : l.stackTraces = false) (hx : p.tables.exec = Jvm.exec) (hb : c.code = code) (hml : c.maxLocals = 9) (hown : s.vm.findClass RL = some m.cls) (hts : ∀ w ∈ wT, w.before args s = true) (hK : wK dC dI cyI cyO cyL s) (hZ : wZ z0 s) (hAz : ∀ q, A q → z0 ≤ q) (hz0 : z0 ≤ s.heap.size) (hA : ∀ q : Nat, s.heap.size ≤ q → A q) (hX : va_X b L xs s s.heap) (hbl : b < s.heap.size) (hbA : ¬ A b) (hRf : 11 ≤ R.frames) (hRl : 398 ≤ R.locals) (qo : Nat) (mm x an tr k0 k1 b0 b1 b2 b3 b4 b5 : Nat → Nat) (fl fs : Nat → Option Nat) (N : Nat) (fo : (Nat → Int64)) (mv : MV) (xv : XV) (nv : SV) (tv : SV) (w0 : SV) (w1 : SV) (v0 : SV) (v1 : SV) (v2 : SV) (v3 : SV) (v4 : SV) (v5 : SV) (i : Int32) (hl0 : fl 0 = some (k0 0)) (hl1 : fl 1 = some (k1 0)) (hs0 : fs 0 = some (b0 0)) (hs1 : fs 1 = some (b1 0)) (hs2 : fs 2 = some (b2 0)) (hs3 : fs 3 = some (b3 0)) (hs4 : fs 4 = some (b4 0)) (hs5 : fs 5 = some (b5 0)) (out : (Nat → Int64) × MV × XV × SV × SV × SV × SV × SV × SV × SV × SV × SV × SV) (hF : f_law18 N L xs i fo mv xv nv tv w0 w1 v0 v1 v2 v3 v4 v5 = some out) (hP : va_P (dC, dI) vwCl (([[cLo cyL qo 1 fo], (cM cyI mm mv), (cXo x an tr xv), (cH cyO (x 1) (x 2) 2 fl), (cXk cyI x xv), (cH cyO (x 4) (x 5) 6 fs), (cT cyI x (X_text xv)), (cSo an nv), (cG cyI an (S_green nv)), (cV cyI an (S_score nv)), (cSo tr tv), (cG cyI tr (S_green tv)), (cV cyI tr (S_score tv)), (cS cyI k0 w0), (cS cyI k1 w1), (cS cyI b0 v0), (cS cyI b1 v1), (cS cyI b2 v2), (cS cyI b3 v3), (cS cyI b4 v4), (cS cyI b5 v5)] : List va_W).flatten) H) (hD : va_D A (([[cLo cyL qo 1 fo], (cM cyI mm mv), (cXo x an tr xv), (cH cyO (x 1) (x 2) 2 fl), (cXk cyI x xv), (cH cyO (x 4) (x 5) 6 fs), (cT cyI x (X_text xv)), (cSo an nv), (cG cyI an (S_green nv)), (cV cyI an (S_score nv)), (cSo tr tv), (cG cyI tr (S_green tv)), (cV cyI tr (S_score tv)), (cS cyI k0 w0), (cS cyI k1 w1), (cS cyI b0 v0), (cS cyI b1 v1), (cS cyI b2 v2), (cS cyI b3 v3), (cS cyI b4 v4), (cS cyI b5 v5)] : List va_W).flatten)) (hS : va_S A s.heap H locs) (hl : lv_has ls 9 [(0, .ref b), (1, .ref (x 0)), (2, .ref (mm 0)), (3, .ref qo), (4, .int i)]) (hRc : cells + 4 ≤ R.cells) (hRs : slots + 24 ≤ R.slots) (kk : ∀ (H : Heap) (locs : List Loc) (ls : Array Slot), va_P (dC, dI) vwCl (([[cLo cyL qo 1 out.1], (cM cyI mm out.2.1), (cXo x an tr out.2.2.1), (cH cyO (x 1) (x 2) 2 fl), (cXk cyI x out.2.2.1), (cH cyO (x 4) (x 5) 6 fs), (cT cyI x (X_text out.2.2.1)), (cSo an out.2.2.2.1), (cG cyI an (S_green out.2.2.2.1)), (cV cyI an (S_score out.2.2.2.1)), (cSo tr out.2.2.2.2.1), (cG cyI tr (S_green out.2.2.2.2.1)), (cV cyI tr (S_score out.2.2.2.2.1)), (cS cyI k0 out.2.2.2.2.2.1), (cS cyI k1 out.2.2.2.2.2.2.1), (cS cyI b0 out.2.2.2.2.2.2.2.1), (cS cyI b1 out.2.2.2.2.2.2.2.2.1), (cS cyI b2 out.2.2.2.2.2.2.2.2.2.1), (cS cyI b3 out.2.2.2.2.2.2.2.2.2.2.1), (cS cyI b4 out.2.2.2.2.2.2.2.2.2.2.2.1), (cS cyI b5 out.2.2.2.2.2.2.2.2.2.2.2.2)] : List va_W).flatten) H → va_D A (([[cLo cyL qo 1 out.1], (cM cyI mm out.2.1), (cXo x an tr out.2.2.1), (cH cyO (x 1) (x 2) 2 fl), (cXk cyI x out.2.2.1), (cH cyO (x 4) (x 5) 6 fs), (cT cyI x (X_text out.2.2.1)), (cSo an out.2.2.2.1), (cG cyI an (S_green out.2.2.2.1)), (cV cyI an (S_score out.2.2.2.1)), (cSo tr out.2.2.2.2.1), (cG cyI tr (S_green out.2.2.2.2.1)), (cV cyI tr (S_score out.2.2.2.2.1)), (cS cyI k0 out.2.2.2.2.2.1), (cS cyI k1 out.2.2.2.2.2.2.1), (cS cyI b0 out.2.2.2.2.2.2.2.1), (cS cyI b1 out.2.2.2.2.2.2.2.2.1), (cS cyI b2 out.2.2.2.2.2.2.2.2.2.1), (cS cyI b3 out.2.2.2.2.2.2.2.2.2.2.1), (cS cyI b4 out.2.2.2.2.2.2.2.2.2.2.2.1), (cS cyI b5 out.2.2.2.2.2.2.2.2.2.2.2.2)] : List va_W).flatten) → va_S A s.heap H locs → lv_has ls 9 [(0, .ref b), (1, .ref (x 0)), (2, .ref (mm 0)), (3, .ref qo), (4, .int i)] → W p l e R s m args below meth c H locs (cells + 4) (slots + 24) Q (F0 m 2733 ls [])) : W p l e R s m args below meth c H locs cells slots Q (F0 m 966 ls []) := by
  unfold f_law18 at hF
  refine lv_aload_n hx hb dL_law_966 rfl (lv_at hl 1 rfl) ?_
  refine lv_aload_n hx hb dL_law_967 rfl (lv_at hl 3 rfl) ?_
  obtain ⟨o1, h2, hF⟩ := obd hF
  refine wcLi (As := [.ref (x 0), .ref qo]) (rest := []) (wr := ([(cM cyI mm mv), (cSo tr tv), (cG cyI tr (S_green tv)), (cV cyI tr (S_score tv)), (cS cyI k0 w0), (cS cyI k1 w1), (cS cyI b0 v0), (cS cyI b1 v1), (cS cyI b2 v2), (cS cyI b3 v3), (cS cyI b4 v4), (cS cyI b5 v5)] : List va_W).flatten) ⟨hx, hb, hml, hown, hts⟩ (met_L_jackColumn l z0 hst dC dI cyI cyO cyL qo x tr an fl fs _ N fo xv nv  o1 h2) (vx_cwSW 2 hts (gS w_methodLink_L_208 w_static_L_jackColumn w_initialized_L w_codeW_L_jackColumn) rfl rfl rfl (by decide +kernel) ⟨Nat.le_trans (Nat.le_of_ble_eq_true rfl) hRf, Nat.le_trans (Nat.le_of_ble_eq_true rfl) hRl⟩) hP hD hK hZ hAz hz0 (seg_perm (n := 21) (R := [(cM cyI mm mv), (cSo tr tv), (cG cyI tr (S_green tv)), (cV cyI tr (S_score tv)), (cS cyI k0 w0), (cS cyI k1 w1), (cS cyI b0 v0), (cS cyI b1 v1), (cS cyI b2 v2), (cS cyI b3 v3), (cS cyI b4 v4), (cS cyI b5 v5)]) (C := [[cLo cyL qo 1 fo], (cXo x an tr xv), (cH cyO (x 1) (x 2) 2 fl), (cXk cyI x xv), (cH cyO (x 4) (x 5) 6 fs), (cT cyI x (X_text xv)), (cSo an nv), (cG cyI an (S_green nv)), (cV cyI an (S_score nv))]) [1, 10, 11, 12, 13, 14, 15, 16, 17, 18, 19, 20] [0, 2, 3, 4, 5, 6, 7, 8, 9] rfl rfl rfl (by decide) rfl) rfl hl.1 (Nat.le_of_ble_eq_true rfl) dL_law_968 ⟨by omega, by omega⟩ hS hA (fun r u H locs hw hP hD hS => ?_)
  obtain rfl : r = o1.1 := congrArg Prod.fst hw
  obtain rfl : u = o1.2 := congrArg Prod.snd hw
  clear hw
  have hq := seg_permS (segs := [[cLo cyL qo 1 o1.2.1], (cM cyI mm mv), (cXo x an tr o1.2.2.1), (cH cyO (x 1) (x 2) 2 fl), (cXk cyI x o1.2.2.1), (cH cyO (x 4) (x 5) 6 fs), (cT cyI x (X_text o1.2.2.1)), (cSo an o1.2.2.2), (cG cyI an (S_green o1.2.2.2)), (cV cyI an (S_score o1.2.2.2)), (cSo tr tv), (cG cyI tr (S_green tv)), (cV cyI tr (S_score tv)), (cS cyI k0 w0), (cS cyI k1 w1), (cS cyI b0 v0), (cS cyI b1 v1), (cS cyI b2 v2), (cS cyI b3 v3), (cS cyI b4 v4), (cS cyI b5 v5)]) (R := [(cM cyI mm mv), (cSo tr tv), (cG cyI tr (S_green tv)), (cV cyI tr (S_score tv)), (cS cyI k0 w0), (cS cyI k1 w1), (cS cyI b0 v0), (cS cyI b1 v1), (cS cyI b2 v2), (cS cyI b3 v3), (cS cyI b4 v4), (cS cyI b5 v5)]) (C := [[cLo cyL qo 1 o1.2.1], (cXo x an tr o1.2.2.1), (cH cyO (x 1) (x 2) 2 fl), (cXk cyI x o1.2.2.1), (cH cyO (x 4) (x 5) 6 fs), (cT cyI x (X_text o1.2.2.1)), (cSo an o1.2.2.2), (cG cyI an (S_green o1.2.2.2)), (cV cyI an (S_score o1.2.2.2))]) (n := 21) [1, 10, 11, 12, 13, 14, 15, 16, 17, 18, 19, 20] [0, 2, 3, 4, 5, 6, 7, 8, 9] rfl rfl rfl (by decide)
  have hP : va_P (dC, dI) vwCl (([[cLo cyL qo 1 o1.2.1], (cM cyI mm mv), (cXo x an tr o1.2.2.1), (cH cyO (x 1) (x 2) 2 fl), (cXk cyI x o1.2.2.1), (cH cyO (x 4) (x 5) 6 fs), (cT cyI x (X_text o1.2.2.1)), (cSo an o1.2.2.2), (cG cyI an (S_green o1.2.2.2)), (cV cyI an (S_score o1.2.2.2)), (cSo tr tv), (cG cyI tr (S_green tv)), (cV cyI tr (S_score tv)), (cS cyI k0 w0), (cS cyI k1 w1), (cS cyI b0 v0), (cS cyI b1 v1), (cS cyI b2 v2), (cS cyI b3 v3), (cS cyI b4 v4), (cS cyI b5 v5)] : List va_W).flatten) H := hP.perm hq
  have hD : va_D A (([[cLo cyL qo 1 o1.2.1], (cM cyI mm mv), (cXo x an tr o1.2.2.1), (cH cyO (x 1) (x 2) 2 fl), (cXk cyI x o1.2.2.1), (cH cyO (x 4) (x 5) 6 fs), (cT cyI x (X_text o1.2.2.1)), (cSo an o1.2.2.2), (cG cyI an (S_green o1.2.2.2)), (cV cyI an (S_score o1.2.2.2)), (cSo tr tv), (cG cyI tr (S_green tv)), (cV cyI tr (S_score tv)), (cS cyI k0 w0), (cS cyI k1 w1), (cS cyI b0 v0), (cS cyI b1 v1), (cS cyI b2 v2), (cS cyI b3 v3), (cS cyI b4 v4), (cS cyI b5 v5)] : List va_W).flatten) := hD.perm hq
  clear hq
  refine lv_istore (lv' := [(5, .int o1.1), (0, .ref b), (1, .ref (x 0)), (2, .ref (mm 0)), (3, .ref qo), (4, .int i)]) hx hb dL_law_971 hl (by decide) rfl (fun ls hl => ?_)
  refine lv_aload_n hx hb dL_law_973 rfl (lv_at hl 3 rfl) ?_
  obtain ⟨o3, h4, hF⟩ := obd hF
  refine wcPVi (As := []) (rest := []) (wr := ([[cLo cyL qo 1 o1.2.1], (cXo x an tr o1.2.2.1), (cH cyO (x 1) (x 2) 2 fl), (cXk cyI x o1.2.2.1), (cH cyO (x 4) (x 5) 6 fs), (cT cyI x (X_text o1.2.2.1)), (cSo an o1.2.2.2), (cG cyI an (S_green o1.2.2.2)), (cV cyI an (S_score o1.2.2.2)), (cSo tr tv), (cG cyI tr (S_green tv)), (cV cyI tr (S_score tv)), (cS cyI k0 w0), (cS cyI k1 w1), (cS cyI b0 v0), (cS cyI b1 v1), (cS cyI b2 v2), (cS cyI b3 v3), (cS cyI b4 v4), (cS cyI b5 v5)] : List va_W).flatten) (b := (mm 0)) ⟨hx, hb, hml, hown, hts⟩ (met_X6_jackColumn l dC dI cyI cyO cyL mm _ N mv  o3 h4) (cwV 0 hts (gV w_methodLink_L_210 w_instanceMethod_X6_jackColumn w_selects_X6_jackColumn w_initialized_X6 w_code_X6_jackColumn) rfl rfl rfl (by decide +kernel) ⟨Nat.le_trans (Nat.le_of_ble_eq_true rfl) hRf, Nat.le_trans (Nat.le_of_ble_eq_true rfl) hRl⟩) (va_recv hK.1 hP (ci := 6) (q0 := 1) rfl rfl) hP hD hK (seg_perm (n := 21) (R := [[cLo cyL qo 1 o1.2.1], (cXo x an tr o1.2.2.1), (cH cyO (x 1) (x 2) 2 fl), (cXk cyI x o1.2.2.1), (cH cyO (x 4) (x 5) 6 fs), (cT cyI x (X_text o1.2.2.1)), (cSo an o1.2.2.2), (cG cyI an (S_green o1.2.2.2)), (cV cyI an (S_score o1.2.2.2)), (cSo tr tv), (cG cyI tr (S_green tv)), (cV cyI tr (S_score tv)), (cS cyI k0 w0), (cS cyI k1 w1), (cS cyI b0 v0), (cS cyI b1 v1), (cS cyI b2 v2), (cS cyI b3 v3), (cS cyI b4 v4), (cS cyI b5 v5)]) (C := [(cM cyI mm mv)]) [0, 2, 3, 4, 5, 6, 7, 8, 9, 10, 11, 12, 13, 14, 15, 16, 17, 18, 19, 20] [1] rfl rfl rfl (by decide) rfl) rfl hl.1 (Nat.le_of_ble_eq_true rfl) dL_law_974 ⟨by omega, by omega⟩ hS hA (fun r u H locs hw hP hD hS => ?_)
  obtain rfl : r = o3.1 := congrArg Prod.fst hw
  obtain rfl : u = o3.2 := congrArg Prod.snd hw
  clear hw
  have hq := seg_permS (segs := [[cLo cyL qo 1 o1.2.1], (cM cyI mm o3.2), (cXo x an tr o1.2.2.1), (cH cyO (x 1) (x 2) 2 fl), (cXk cyI x o1.2.2.1), (cH cyO (x 4) (x 5) 6 fs), (cT cyI x (X_text o1.2.2.1)), (cSo an o1.2.2.2), (cG cyI an (S_green o1.2.2.2)), (cV cyI an (S_score o1.2.2.2)), (cSo tr tv), (cG cyI tr (S_green tv)), (cV cyI tr (S_score tv)), (cS cyI k0 w0), (cS cyI k1 w1), (cS cyI b0 v0), (cS cyI b1 v1), (cS cyI b2 v2), (cS cyI b3 v3), (cS cyI b4 v4), (cS cyI b5 v5)]) (R := [[cLo cyL qo 1 o1.2.1], (cXo x an tr o1.2.2.1), (cH cyO (x 1) (x 2) 2 fl), (cXk cyI x o1.2.2.1), (cH cyO (x 4) (x 5) 6 fs), (cT cyI x (X_text o1.2.2.1)), (cSo an o1.2.2.2), (cG cyI an (S_green o1.2.2.2)), (cV cyI an (S_score o1.2.2.2)), (cSo tr tv), (cG cyI tr (S_green tv)), (cV cyI tr (S_score tv)), (cS cyI k0 w0), (cS cyI k1 w1), (cS cyI b0 v0), (cS cyI b1 v1), (cS cyI b2 v2), (cS cyI b3 v3), (cS cyI b4 v4), (cS cyI b5 v5)]) (C := [(cM cyI mm o3.2)]) (n := 21) [0, 2, 3, 4, 5, 6, 7, 8, 9, 10, 11, 12, 13, 14, 15, 16, 17, 18, 19, 20] [1] rfl rfl rfl (by decide)
  have hP : va_P (dC, dI) vwCl (([[cLo cyL qo 1 o1.2.1], (cM cyI mm o3.2), (cXo x an tr o1.2.2.1), (cH cyO (x 1) (x 2) 2 fl), (cXk cyI x o1.2.2.1), (cH cyO (x 4) (x 5) 6 fs), (cT cyI x (X_text o1.2.2.1)), (cSo an o1.2.2.2), (cG cyI an (S_green o1.2.2.2)), (cV cyI an (S_score o1.2.2.2)), (cSo tr tv), (cG cyI tr (S_green tv)), (cV cyI tr (S_score tv)), (cS cyI k0 w0), (cS cyI k1 w1), (cS cyI b0 v0), (cS cyI b1 v1), (cS cyI b2 v2), (cS cyI b3 v3), (cS cyI b4 v4), (cS cyI b5 v5)] : List va_W).flatten) H := hP.perm hq
  have hD : va_D A (([[cLo cyL qo 1 o1.2.1], (cM cyI mm o3.2), (cXo x an tr o1.2.2.1), (cH cyO (x 1) (x 2) 2 fl), (cXk cyI x o1.2.2.1), (cH cyO (x 4) (x 5) 6 fs), (cT cyI x (X_text o1.2.2.1)), (cSo an o1.2.2.2), (cG cyI an (S_green o1.2.2.2)), (cV cyI an (S_score o1.2.2.2)), (cSo tr tv), (cG cyI tr (S_green tv)), (cV cyI tr (S_score tv)), (cS cyI k0 w0), (cS cyI k1 w1), (cS cyI b0 v0), (cS cyI b1 v1), (cS cyI b2 v2), (cS cyI b3 v3), (cS cyI b4 v4), (cS cyI b5 v5)] : List va_W).flatten) := hD.perm hq
  clear hq
  refine lv_istore (lv' := [(6, .int o3.1), (5, .int o1.1), (0, .ref b), (1, .ref (x 0)), (2, .ref (mm 0)), (3, .ref qo), (4, .int i)]) hx hb dL_law_977 hl (by decide) rfl (fun ls hl => ?_)
  refine lv_aload_n hx hb dL_law_979 rfl (lv_at hl 4 rfl) ?_
  obtain ⟨o5, h6, hF⟩ := obd hF
  refine wcRVi (As := []) (rest := []) (b := (mm 0)) ⟨hx, hb, hml, hown, hts⟩ (met_X6_thrown l dC dI cyI cyO cyL mm N o3.2  o5 h6) (cwV 0 hts (gV w_methodLink_L_143 w_instanceMethod_X6_thrown w_selects_X6_thrown w_initialized_X6 w_code_X6_thrown) rfl rfl rfl (by decide +kernel) ⟨Nat.le_trans (Nat.le_of_ble_eq_true rfl) hRf, Nat.le_trans (Nat.le_of_ble_eq_true rfl) hRl⟩) (va_recv hK.1 hP (ci := 6) (q0 := 1) rfl rfl) hP hK [1, 2, 3, 4, 5, 6, 7, 8] rfl rfl hl.1 (Nat.le_of_ble_eq_true rfl) dL_law_980 ⟨by omega, by omega⟩ hS (fun r H locs hw hP hS => ?_)
  have hw := hw.symm
  subst hw
  refine lv_iload hx hb dL_law_983 (lv_at hl 1 rfl) ?_
  refine lv_icmp_eq (tgt := 990) hx hb dL_law_985 (by decide) (fun c7 => ?_) (fun c7 => ?_)
  · have hF := itp c7 hF
    refine lv_iload hx hb dL_law_990 (lv_at hl 1 rfl) ?_
    obtain ⟨j1007, hj1007, hF⟩ := jn_use hF
    have hJ1007 : ∀ (s1007 : Unit) (H : Heap) (locs : List Loc) (ls : Array Slot), va_P (dC, dI) vwCl (([[cLo cyL qo 1 o1.2.1], (cM cyI mm o3.2), (cXo x an tr o1.2.2.1), (cH cyO (x 1) (x 2) 2 fl), (cXk cyI x o1.2.2.1), (cH cyO (x 4) (x 5) 6 fs), (cT cyI x (X_text o1.2.2.1)), (cSo an o1.2.2.2), (cG cyI an (S_green o1.2.2.2)), (cV cyI an (S_score o1.2.2.2)), (cSo tr tv), (cG cyI tr (S_green tv)), (cV cyI tr (S_score tv)), (cS cyI k0 w0), (cS cyI k1 w1), (cS cyI b0 v0), (cS cyI b1 v1), (cS cyI b2 v2), (cS cyI b3 v3), (cS cyI b4 v4), (cS cyI b5 v5)] : List va_W).flatten) H → va_D A (([[cLo cyL qo 1 o1.2.1], (cM cyI mm o3.2), (cXo x an tr o1.2.2.1), (cH cyO (x 1) (x 2) 2 fl), (cXk cyI x o1.2.2.1), (cH cyO (x 4) (x 5) 6 fs), (cT cyI x (X_text o1.2.2.1)), (cSo an o1.2.2.2), (cG cyI an (S_green o1.2.2.2)), (cV cyI an (S_score o1.2.2.2)), (cSo tr tv), (cG cyI tr (S_green tv)), (cV cyI tr (S_score tv)), (cS cyI k0 w0), (cS cyI k1 w1), (cS cyI b0 v0), (cS cyI b1 v1), (cS cyI b2 v2), (cS cyI b3 v3), (cS cyI b4 v4), (cS cyI b5 v5)] : List va_W).flatten) → va_S A s.heap H locs → lv_has ls 9 [(0, .ref b), (1, .ref (x 0)), (2, .ref (mm 0)), (3, .ref qo), (4, .int i)] → j1007 s1007 = some out → W p l e R s m args below meth c H locs (cells + 1) (slots + 6) Q (F0 m 1007 ls []) := by
      intro s1007 H locs ls hP hD hS hl hF
      have hF := (congrFun hj1007 s1007).symm.trans hF
      refine lv_goto (tgt := 2733) hx hb dL_law_1007 (by decide) ?_
      obtain rfl := Option.some.inj hF
      refine W.widen (k := cells + 4) (n := slots + 24) (by omega) (by omega) ?_
      exact kk _ _ _ hP hD hS (lv_sub hl [0, 1, 2, 3, 4] rfl)
    refine lv_if_ne (tgt := 1007) hx hb dL_law_992 (by decide) (fun c8 => ?_) (fun c8 => ?_)
    · have hF := itn c8 hF
      exact hJ1007 () _ _ _ hP hD hS (lv_sub hl [2, 3, 4, 5, 6] rfl) hF
    · have hF := itp c8 hF
      refine lv_aload_n hx hb dL_law_995 rfl (lv_at hl 5 rfl) ?_
      refine lv_iconst (v := 0) hx hb dL_law_996 (by decide) ?_
      refine va_lald hx hb hK.1 hP 0 2 rfl rfl (i := (0 : Int32)) (show ixok (0 : Int32) 1 by decide) dL_law_997 ?_
      refine lv_iload hx hb dL_law_998 (lv_at hl 0 rfl) ?_
      refine lv_i2l (v := (o3.1).toInt64) hx hb dL_law_1000 rfl ?_
      refine W.lcmp hx hb dL_law_1001 ?_
      refine lv_if_eq (tgt := 1007) hx hb dL_law_1002 (by decide) (fun c9 => ?_) (fun c9 => ?_)
      · have hF := itp c9 hF
        exact hJ1007 () _ _ _ hP hD hS (lv_sub hl [2, 3, 4, 5, 6] rfl) hF
      · have hF := itn c9 hF
        refine lv_iconst (v := 0) hx hb dL_law_1005 (by decide) ?_
        cases hF
  · have hF := itn c7 hF
    refine lv_iconst (v := 0) hx hb dL_law_988 (by decide) ?_
    cases hF
theorem dL_law_1010 : decode cL_law 1010 = .ok (.aload_n 1, 1) := by decide +kernel
theorem dL_law_1011 : decode cL_law 1011 = .ok (.invokevirtual 211, 3) := by decide +kernel
theorem dL_law_1014 : decode cL_law 1014 = .ok (.aload_n 2, 1) := by decide +kernel
theorem dL_law_1015 : decode cL_law 1015 = .ok (.invokevirtual 214, 3) := by decide +kernel
theorem dL_law_1018 : decode cL_law 1018 = .ok (.if_icmp .eq 1715, 3) := by decide +kernel
theorem dL_law_1021 : decode cL_law 1021 = .ok (.iconst 0, 1) := by decide +kernel
def f_law19 (N L : Nat) (xs : Nat → Int32) (i : Int32) (fo : (Nat → Int64)) (mv : MV) (xv : XV) (nv : SV) (tv : SV) (w0 : SV) (w1 : SV) (v0 : SV) (v1 : SV) (v2 : SV) (v3 : SV) (v4 : SV) (v5 : SV) : Option ((Nat → Int64) × MV × XV × SV × SV × SV × SV × SV × SV × SV × SV × SV × SV) :=
  (f_X5_isBurnt N xv nv).bind (fun o1 => (f_X6_isBurnt N mv).bind (fun o4 => (if o1 = o4.1 then some (fo, o4.2, xv, nv, tv, w0, w1, v0, v1, v2, v3, v4, v5) else none)))
set_option maxHeartbeats 4000000 in
set_option maxRecDepth 100000 in
theorem law19 (hst : l.stackTraces = false) (hx : p.tables.exec = Jvm.exec) (hb : c.code = code) (hml : c.maxLocals = 9) (hown : s.vm.findClass RL = some m.cls) (hts : ∀ w ∈ wT, w.before args s = true) (hK : wK dC dI cyI cyO cyL s) (hZ : wZ z0 s) (hAz : ∀ q, A q → z0 ≤ q) (hz0 : z0 ≤ s.heap.size) (hA : ∀ q : Nat, s.heap.size ≤ q → A q) (hX : va_X b L xs s s.heap) (hbl : b < s.heap.size) (hbA : ¬ A b) (hRf : 11 ≤ R.frames) (hRl : 398 ≤ R.locals) (qo : Nat) (mm x an tr k0 k1 b0 b1 b2 b3 b4 b5 : Nat → Nat) (fl fs : Nat → Option Nat) (N : Nat) (fo : (Nat → Int64)) (mv : MV) (xv : XV) (nv : SV) (tv : SV) (w0 : SV) (w1 : SV) (v0 : SV) (v1 : SV) (v2 : SV) (v3 : SV) (v4 : SV) (v5 : SV) (i : Int32) (hl0 : fl 0 = some (k0 0)) (hl1 : fl 1 = some (k1 0)) (hs0 : fs 0 = some (b0 0)) (hs1 : fs 1 = some (b1 0)) (hs2 : fs 2 = some (b2 0)) (hs3 : fs 3 = some (b3 0)) (hs4 : fs 4 = some (b4 0)) (hs5 : fs 5 = some (b5 0)) (out : (Nat → Int64) × MV × XV × SV × SV × SV × SV × SV × SV × SV × SV × SV × SV) (hF : f_law19 N L xs i fo mv xv nv tv w0 w1 v0 v1 v2 v3 v4 v5 = some out) (hP : va_P (dC, dI) vwCl (([[cLo cyL qo 1 fo], (cM cyI mm mv), (cXo x an tr xv), (cH cyO (x 1) (x 2) 2 fl), (cXk cyI x xv), (cH cyO (x 4) (x 5) 6 fs), (cT cyI x (X_text xv)), (cSo an nv), (cG cyI an (S_green nv)), (cV cyI an (S_score nv)), (cSo tr tv), (cG cyI tr (S_green tv)), (cV cyI tr (S_score tv)), (cS cyI k0 w0), (cS cyI k1 w1), (cS cyI b0 v0), (cS cyI b1 v1), (cS cyI b2 v2), (cS cyI b3 v3), (cS cyI b4 v4), (cS cyI b5 v5)] : List va_W).flatten) H) (hD : va_D A (([[cLo cyL qo 1 fo], (cM cyI mm mv), (cXo x an tr xv), (cH cyO (x 1) (x 2) 2 fl), (cXk cyI x xv), (cH cyO (x 4) (x 5) 6 fs), (cT cyI x (X_text xv)), (cSo an nv), (cG cyI an (S_green nv)), (cV cyI an (S_score nv)), (cSo tr tv), (cG cyI tr (S_green tv)), (cV cyI tr (S_score tv)), (cS cyI k0 w0), (cS cyI k1 w1), (cS cyI b0 v0), (cS cyI b1 v1), (cS cyI b2 v2), (cS cyI b3 v3), (cS cyI b4 v4), (cS cyI b5 v5)] : List va_W).flatten)) (hS : va_S A s.heap H locs) (hl : lv_has ls 9 [(0, .ref b), (1, .ref (x 0)), (2, .ref (mm 0)), (3, .ref qo), (4, .int i)]) (hRc : cells + 4 ≤ R.cells) (hRs : slots + 24 ≤ R.slots) (kk : ∀ (H : Heap) (locs : List Loc) (ls : Array Slot), va_P (dC, dI) vwCl (([[cLo cyL qo 1 out.1], (cM cyI mm out.2.1), (cXo x an tr out.2.2.1), (cH cyO (x 1) (x 2) 2 fl), (cXk cyI x out.2.2.1), (cH cyO (x 4) (x 5) 6 fs), (cT cyI x (X_text out.2.2.1)), (cSo an out.2.2.2.1), (cG cyI an (S_green out.2.2.2.1)), (cV cyI an (S_score out.2.2.2.1)), (cSo tr out.2.2.2.2.1), (cG cyI tr (S_green out.2.2.2.2.1)), (cV cyI tr (S_score out.2.2.2.2.1)), (cS cyI k0 out.2.2.2.2.2.1), (cS cyI k1 out.2.2.2.2.2.2.1), (cS cyI b0 out.2.2.2.2.2.2.2.1), (cS cyI b1 out.2.2.2.2.2.2.2.2.1), (cS cyI b2 out.2.2.2.2.2.2.2.2.2.1), (cS cyI b3 out.2.2.2.2.2.2.2.2.2.2.1), (cS cyI b4 out.2.2.2.2.2.2.2.2.2.2.2.1), (cS cyI b5 out.2.2.2.2.2.2.2.2.2.2.2.2)] : List va_W).flatten) H → va_D A (([[cLo cyL qo 1 out.1], (cM cyI mm out.2.1), (cXo x an tr out.2.2.1), (cH cyO (x 1) (x 2) 2 fl), (cXk cyI x out.2.2.1), (cH cyO (x 4) (x 5) 6 fs), (cT cyI x (X_text out.2.2.1)), (cSo an out.2.2.2.1), (cG cyI an (S_green out.2.2.2.1)), (cV cyI an (S_score out.2.2.2.1)), (cSo tr out.2.2.2.2.1), (cG cyI tr (S_green out.2.2.2.2.1)), (cV cyI tr (S_score out.2.2.2.2.1)), (cS cyI k0 out.2.2.2.2.2.1), (cS cyI k1 out.2.2.2.2.2.2.1), (cS cyI b0 out.2.2.2.2.2.2.2.1), (cS cyI b1 out.2.2.2.2.2.2.2.2.1), (cS cyI b2 out.2.2.2.2.2.2.2.2.2.1), (cS cyI b3 out.2.2.2.2.2.2.2.2.2.2.1), (cS cyI b4 out.2.2.2.2.2.2.2.2.2.2.2.1), (cS cyI b5 out.2.2.2.2.2.2.2.2.2.2.2.2)] : List va_W).flatten) → va_S A s.heap H locs → lv_has ls 9 [(0, .ref b), (1, .ref (x 0)), (2, .ref (mm 0)), (3, .ref qo), (4, .int i)] → W p l e R s m args below meth c H locs (cells + 4) (slots + 24) Q (F0 m 2733 ls [])) : W p l e R s m args below meth c H locs cells slots Q (F0 m 1010 ls []) := by
  unfold f_law19 at hF
  refine lv_aload_n hx hb dL_law_1010 rfl (lv_at hl 1 rfl) ?_
  obtain ⟨o1, h2, hF⟩ := obd hF
  refine wcRVi (As := []) (rest := []) (b := (x 0)) ⟨hx, hb, hml, hown, hts⟩ (met_X5_isBurnt l dC dI cyI cyO cyL x tr an fl fs N xv nv  o1 h2) (cwV 0 hts (gV w_methodLink_L_211 w_instanceMethod_X5_isBurnt w_selects_X5_isBurnt w_initialized_X5 w_code_X5_isBurnt) rfl rfl rfl (by decide +kernel) ⟨Nat.le_trans (Nat.le_of_ble_eq_true rfl) hRf, Nat.le_trans (Nat.le_of_ble_eq_true rfl) hRl⟩) (va_recv hK.1 hP (ci := 5) (q0 := 9) rfl rfl) hP hK [9, 10, 11, 12, 13, 14, 15, 16, 17, 18, 19, 20, 21, 22, 23, 24, 25, 26, 27, 28, 29] rfl rfl hl.1 (Nat.le_of_ble_eq_true rfl) dL_law_1011 ⟨by omega, by omega⟩ hS (fun r H locs hw hP hS => ?_)
  obtain ⟨hw, hz3⟩ := hw
  have hw := hw.symm
  subst hw
  refine lv_aload_n hx hb dL_law_1014 rfl (lv_at hl 2 rfl) ?_
  obtain ⟨o4, h5, hF⟩ := obd hF
  refine wcPVi (As := []) (rest := [.int o1]) (wr := ([[cLo cyL qo 1 fo], (cXo x an tr xv), (cH cyO (x 1) (x 2) 2 fl), (cXk cyI x xv), (cH cyO (x 4) (x 5) 6 fs), (cT cyI x (X_text xv)), (cSo an nv), (cG cyI an (S_green nv)), (cV cyI an (S_score nv)), (cSo tr tv), (cG cyI tr (S_green tv)), (cV cyI tr (S_score tv)), (cS cyI k0 w0), (cS cyI k1 w1), (cS cyI b0 v0), (cS cyI b1 v1), (cS cyI b2 v2), (cS cyI b3 v3), (cS cyI b4 v4), (cS cyI b5 v5)] : List va_W).flatten) (b := (mm 0)) ⟨hx, hb, hml, hown, hts⟩ (met_X6_isBurnt l dC dI cyI cyO cyL mm _ N mv  o4 h5) (cwV 0 hts (gV w_methodLink_L_214 w_instanceMethod_X6_isBurnt w_selects_X6_isBurnt w_initialized_X6 w_code_X6_isBurnt) rfl rfl rfl (by decide +kernel) ⟨Nat.le_trans (Nat.le_of_ble_eq_true rfl) hRf, Nat.le_trans (Nat.le_of_ble_eq_true rfl) hRl⟩) (va_recv hK.1 hP (ci := 6) (q0 := 1) rfl rfl) hP hD hK (seg_perm (n := 21) (R := [[cLo cyL qo 1 fo], (cXo x an tr xv), (cH cyO (x 1) (x 2) 2 fl), (cXk cyI x xv), (cH cyO (x 4) (x 5) 6 fs), (cT cyI x (X_text xv)), (cSo an nv), (cG cyI an (S_green nv)), (cV cyI an (S_score nv)), (cSo tr tv), (cG cyI tr (S_green tv)), (cV cyI tr (S_score tv)), (cS cyI k0 w0), (cS cyI k1 w1), (cS cyI b0 v0), (cS cyI b1 v1), (cS cyI b2 v2), (cS cyI b3 v3), (cS cyI b4 v4), (cS cyI b5 v5)]) (C := [(cM cyI mm mv)]) [0, 2, 3, 4, 5, 6, 7, 8, 9, 10, 11, 12, 13, 14, 15, 16, 17, 18, 19, 20] [1] rfl rfl rfl (by decide) rfl) rfl hl.1 (Nat.le_of_ble_eq_true rfl) dL_law_1015 ⟨by omega, by omega⟩ hS hA (fun r u H locs hw hP hD hS => ?_)
  obtain ⟨hw, hz6⟩ := hw
  obtain rfl : r = o4.1 := congrArg Prod.fst hw
  obtain rfl : u = o4.2 := congrArg Prod.snd hw
  clear hw
  have hq := seg_permS (segs := [[cLo cyL qo 1 fo], (cM cyI mm o4.2), (cXo x an tr xv), (cH cyO (x 1) (x 2) 2 fl), (cXk cyI x xv), (cH cyO (x 4) (x 5) 6 fs), (cT cyI x (X_text xv)), (cSo an nv), (cG cyI an (S_green nv)), (cV cyI an (S_score nv)), (cSo tr tv), (cG cyI tr (S_green tv)), (cV cyI tr (S_score tv)), (cS cyI k0 w0), (cS cyI k1 w1), (cS cyI b0 v0), (cS cyI b1 v1), (cS cyI b2 v2), (cS cyI b3 v3), (cS cyI b4 v4), (cS cyI b5 v5)]) (R := [[cLo cyL qo 1 fo], (cXo x an tr xv), (cH cyO (x 1) (x 2) 2 fl), (cXk cyI x xv), (cH cyO (x 4) (x 5) 6 fs), (cT cyI x (X_text xv)), (cSo an nv), (cG cyI an (S_green nv)), (cV cyI an (S_score nv)), (cSo tr tv), (cG cyI tr (S_green tv)), (cV cyI tr (S_score tv)), (cS cyI k0 w0), (cS cyI k1 w1), (cS cyI b0 v0), (cS cyI b1 v1), (cS cyI b2 v2), (cS cyI b3 v3), (cS cyI b4 v4), (cS cyI b5 v5)]) (C := [(cM cyI mm o4.2)]) (n := 21) [0, 2, 3, 4, 5, 6, 7, 8, 9, 10, 11, 12, 13, 14, 15, 16, 17, 18, 19, 20] [1] rfl rfl rfl (by decide)
  have hP : va_P (dC, dI) vwCl (([[cLo cyL qo 1 fo], (cM cyI mm o4.2), (cXo x an tr xv), (cH cyO (x 1) (x 2) 2 fl), (cXk cyI x xv), (cH cyO (x 4) (x 5) 6 fs), (cT cyI x (X_text xv)), (cSo an nv), (cG cyI an (S_green nv)), (cV cyI an (S_score nv)), (cSo tr tv), (cG cyI tr (S_green tv)), (cV cyI tr (S_score tv)), (cS cyI k0 w0), (cS cyI k1 w1), (cS cyI b0 v0), (cS cyI b1 v1), (cS cyI b2 v2), (cS cyI b3 v3), (cS cyI b4 v4), (cS cyI b5 v5)] : List va_W).flatten) H := hP.perm hq
  have hD : va_D A (([[cLo cyL qo 1 fo], (cM cyI mm o4.2), (cXo x an tr xv), (cH cyO (x 1) (x 2) 2 fl), (cXk cyI x xv), (cH cyO (x 4) (x 5) 6 fs), (cT cyI x (X_text xv)), (cSo an nv), (cG cyI an (S_green nv)), (cV cyI an (S_score nv)), (cSo tr tv), (cG cyI tr (S_green tv)), (cV cyI tr (S_score tv)), (cS cyI k0 w0), (cS cyI k1 w1), (cS cyI b0 v0), (cS cyI b1 v1), (cS cyI b2 v2), (cS cyI b3 v3), (cS cyI b4 v4), (cS cyI b5 v5)] : List va_W).flatten) := hD.perm hq
  clear hq
  refine lv_icmp_eq (tgt := 2733) hx hb dL_law_1018 (by decide) (fun c7 => ?_) (fun c7 => ?_)
  · have hF := itp c7 hF
    obtain rfl := Option.some.inj hF
    refine W.widen (k := cells + 4) (n := slots + 24) (by omega) (by omega) ?_
    exact kk _ _ _ hP hD hS (lv_sub hl [0, 1, 2, 3, 4] rfl)
  · have hF := itn c7 hF
    refine lv_iconst (v := 0) hx hb dL_law_1021 (by decide) ?_
    cases hF
theorem dL_law_1023 : decode cL_law 1023 = .ok (.aload_n 1, 1) := by decide +kernel
theorem dL_law_1024 : decode cL_law 1024 = .ok (.invokevirtual 215, 3) := by decide +kernel
theorem dL_law_1027 : decode cL_law 1027 = .ok (.aload_n 2, 1) := by decide +kernel
theorem dL_law_1028 : decode cL_law 1028 = .ok (.invokevirtual 218, 3) := by decide +kernel
theorem dL_law_1031 : decode cL_law 1031 = .ok (.if_icmp .eq 1702, 3) := by decide +kernel
theorem dL_law_1034 : decode cL_law 1034 = .ok (.iconst 0, 1) := by decide +kernel
def f_law20 (N L : Nat) (xs : Nat → Int32) (i : Int32) (fo : (Nat → Int64)) (mv : MV) (xv : XV) (nv : SV) (tv : SV) (w0 : SV) (w1 : SV) (v0 : SV) (v1 : SV) (v2 : SV) (v3 : SV) (v4 : SV) (v5 : SV) : Option ((Nat → Int64) × MV × XV × SV × SV × SV × SV × SV × SV × SV × SV × SV × SV) :=
  (f_X5_bowls N xv nv).bind (fun o1 => (f_X6_bowls N mv).bind (fun o3 => (if o1 = o3.1 then some (fo, o3.2, xv, nv, tv, w0, w1, v0, v1, v2, v3, v4, v5) else none)))
set_option maxHeartbeats 4000000 in
set_option maxRecDepth 100000 in
theorem law20 (hst : l.stackTraces = false) (hx : p.tables.exec = Jvm.exec) (hb : c.code = code) (hml : c.maxLocals = 9) (hown : s.vm.findClass RL = some m.cls) (hts : ∀ w ∈ wT, w.before args s = true) (hK : wK dC dI cyI cyO cyL s) (hZ : wZ z0 s) (hAz : ∀ q, A q → z0 ≤ q) (hz0 : z0 ≤ s.heap.size) (hA : ∀ q : Nat, s.heap.size ≤ q → A q) (hX : va_X b L xs s s.heap) (hbl : b < s.heap.size) (hbA : ¬ A b) (hRf : 11 ≤ R.frames) (hRl : 398 ≤ R.locals) (qo : Nat) (mm x an tr k0 k1 b0 b1 b2 b3 b4 b5 : Nat → Nat) (fl fs : Nat → Option Nat) (N : Nat) (fo : (Nat → Int64)) (mv : MV) (xv : XV) (nv : SV) (tv : SV) (w0 : SV) (w1 : SV) (v0 : SV) (v1 : SV) (v2 : SV) (v3 : SV) (v4 : SV) (v5 : SV) (i : Int32) (hl0 : fl 0 = some (k0 0)) (hl1 : fl 1 = some (k1 0)) (hs0 : fs 0 = some (b0 0)) (hs1 : fs 1 = some (b1 0)) (hs2 : fs 2 = some (b2 0)) (hs3 : fs 3 = some (b3 0)) (hs4 : fs 4 = some (b4 0)) (hs5 : fs 5 = some (b5 0)) (out : (Nat → Int64) × MV × XV × SV × SV × SV × SV × SV × SV × SV × SV × SV × SV) (hF : f_law20 N L xs i fo mv xv nv tv w0 w1 v0 v1 v2 v3 v4 v5 = some out) (hP : va_P (dC, dI) vwCl (([[cLo cyL qo 1 fo], (cM cyI mm mv), (cXo x an tr xv), (cH cyO (x 1) (x 2) 2 fl), (cXk cyI x xv), (cH cyO (x 4) (x 5) 6 fs), (cT cyI x (X_text xv)), (cSo an nv), (cG cyI an (S_green nv)), (cV cyI an (S_score nv)), (cSo tr tv), (cG cyI tr (S_green tv)), (cV cyI tr (S_score tv)), (cS cyI k0 w0), (cS cyI k1 w1), (cS cyI b0 v0), (cS cyI b1 v1), (cS cyI b2 v2), (cS cyI b3 v3), (cS cyI b4 v4), (cS cyI b5 v5)] : List va_W).flatten) H) (hD : va_D A (([[cLo cyL qo 1 fo], (cM cyI mm mv), (cXo x an tr xv), (cH cyO (x 1) (x 2) 2 fl), (cXk cyI x xv), (cH cyO (x 4) (x 5) 6 fs), (cT cyI x (X_text xv)), (cSo an nv), (cG cyI an (S_green nv)), (cV cyI an (S_score nv)), (cSo tr tv), (cG cyI tr (S_green tv)), (cV cyI tr (S_score tv)), (cS cyI k0 w0), (cS cyI k1 w1), (cS cyI b0 v0), (cS cyI b1 v1), (cS cyI b2 v2), (cS cyI b3 v3), (cS cyI b4 v4), (cS cyI b5 v5)] : List va_W).flatten)) (hS : va_S A s.heap H locs) (hl : lv_has ls 9 [(0, .ref b), (1, .ref (x 0)), (2, .ref (mm 0)), (3, .ref qo), (4, .int i)]) (hRc : cells + 4 ≤ R.cells) (hRs : slots + 24 ≤ R.slots) (kk : ∀ (H : Heap) (locs : List Loc) (ls : Array Slot), va_P (dC, dI) vwCl (([[cLo cyL qo 1 out.1], (cM cyI mm out.2.1), (cXo x an tr out.2.2.1), (cH cyO (x 1) (x 2) 2 fl), (cXk cyI x out.2.2.1), (cH cyO (x 4) (x 5) 6 fs), (cT cyI x (X_text out.2.2.1)), (cSo an out.2.2.2.1), (cG cyI an (S_green out.2.2.2.1)), (cV cyI an (S_score out.2.2.2.1)), (cSo tr out.2.2.2.2.1), (cG cyI tr (S_green out.2.2.2.2.1)), (cV cyI tr (S_score out.2.2.2.2.1)), (cS cyI k0 out.2.2.2.2.2.1), (cS cyI k1 out.2.2.2.2.2.2.1), (cS cyI b0 out.2.2.2.2.2.2.2.1), (cS cyI b1 out.2.2.2.2.2.2.2.2.1), (cS cyI b2 out.2.2.2.2.2.2.2.2.2.1), (cS cyI b3 out.2.2.2.2.2.2.2.2.2.2.1), (cS cyI b4 out.2.2.2.2.2.2.2.2.2.2.2.1), (cS cyI b5 out.2.2.2.2.2.2.2.2.2.2.2.2)] : List va_W).flatten) H → va_D A (([[cLo cyL qo 1 out.1], (cM cyI mm out.2.1), (cXo x an tr out.2.2.1), (cH cyO (x 1) (x 2) 2 fl), (cXk cyI x out.2.2.1), (cH cyO (x 4) (x 5) 6 fs), (cT cyI x (X_text out.2.2.1)), (cSo an out.2.2.2.1), (cG cyI an (S_green out.2.2.2.1)), (cV cyI an (S_score out.2.2.2.1)), (cSo tr out.2.2.2.2.1), (cG cyI tr (S_green out.2.2.2.2.1)), (cV cyI tr (S_score out.2.2.2.2.1)), (cS cyI k0 out.2.2.2.2.2.1), (cS cyI k1 out.2.2.2.2.2.2.1), (cS cyI b0 out.2.2.2.2.2.2.2.1), (cS cyI b1 out.2.2.2.2.2.2.2.2.1), (cS cyI b2 out.2.2.2.2.2.2.2.2.2.1), (cS cyI b3 out.2.2.2.2.2.2.2.2.2.2.1), (cS cyI b4 out.2.2.2.2.2.2.2.2.2.2.2.1), (cS cyI b5 out.2.2.2.2.2.2.2.2.2.2.2.2)] : List va_W).flatten) → va_S A s.heap H locs → lv_has ls 9 [(0, .ref b), (1, .ref (x 0)), (2, .ref (mm 0)), (3, .ref qo), (4, .int i)] → W p l e R s m args below meth c H locs (cells + 4) (slots + 24) Q (F0 m 2733 ls [])) : W p l e R s m args below meth c H locs cells slots Q (F0 m 1023 ls []) := by
  unfold f_law20 at hF
  refine lv_aload_n hx hb dL_law_1023 rfl (lv_at hl 1 rfl) ?_
  obtain ⟨o1, h2, hF⟩ := obd hF
  refine wcRVi (As := []) (rest := []) (b := (x 0)) ⟨hx, hb, hml, hown, hts⟩ (met_X5_bowls l dC dI cyI cyO cyL x tr an fl fs N xv nv  o1 h2) (cwV 0 hts (gV w_methodLink_L_215 w_instanceMethod_X5_bowls w_selects_X5_bowls w_initialized_X5 w_code_X5_bowls) rfl rfl rfl (by decide +kernel) ⟨Nat.le_trans (Nat.le_of_ble_eq_true rfl) hRf, Nat.le_trans (Nat.le_of_ble_eq_true rfl) hRl⟩) (va_recv hK.1 hP (ci := 5) (q0 := 9) rfl rfl) hP hK [9, 10, 11, 12, 13, 14, 15, 16, 17, 18, 19, 20, 21, 22, 23, 24, 25, 26, 27, 28, 29] rfl rfl hl.1 (Nat.le_of_ble_eq_true rfl) dL_law_1024 ⟨by omega, by omega⟩ hS (fun r H locs hw hP hS => ?_)
  have hw := hw.symm
  subst hw
  refine lv_aload_n hx hb dL_law_1027 rfl (lv_at hl 2 rfl) ?_
  obtain ⟨o3, h4, hF⟩ := obd hF
  refine wcPVi (As := []) (rest := [.int o1]) (wr := ([[cLo cyL qo 1 fo], (cXo x an tr xv), (cH cyO (x 1) (x 2) 2 fl), (cXk cyI x xv), (cH cyO (x 4) (x 5) 6 fs), (cT cyI x (X_text xv)), (cSo an nv), (cG cyI an (S_green nv)), (cV cyI an (S_score nv)), (cSo tr tv), (cG cyI tr (S_green tv)), (cV cyI tr (S_score tv)), (cS cyI k0 w0), (cS cyI k1 w1), (cS cyI b0 v0), (cS cyI b1 v1), (cS cyI b2 v2), (cS cyI b3 v3), (cS cyI b4 v4), (cS cyI b5 v5)] : List va_W).flatten) (b := (mm 0)) ⟨hx, hb, hml, hown, hts⟩ (met_X6_bowls l dC dI cyI cyO cyL mm _ N mv  o3 h4) (cwV 0 hts (gV w_methodLink_L_218 w_instanceMethod_X6_bowls w_selects_X6_bowls w_initialized_X6 w_code_X6_bowls) rfl rfl rfl (by decide +kernel) ⟨Nat.le_trans (Nat.le_of_ble_eq_true rfl) hRf, Nat.le_trans (Nat.le_of_ble_eq_true rfl) hRl⟩) (va_recv hK.1 hP (ci := 6) (q0 := 1) rfl rfl) hP hD hK (seg_perm (n := 21) (R := [[cLo cyL qo 1 fo], (cXo x an tr xv), (cH cyO (x 1) (x 2) 2 fl), (cXk cyI x xv), (cH cyO (x 4) (x 5) 6 fs), (cT cyI x (X_text xv)), (cSo an nv), (cG cyI an (S_green nv)), (cV cyI an (S_score nv)), (cSo tr tv), (cG cyI tr (S_green tv)), (cV cyI tr (S_score tv)), (cS cyI k0 w0), (cS cyI k1 w1), (cS cyI b0 v0), (cS cyI b1 v1), (cS cyI b2 v2), (cS cyI b3 v3), (cS cyI b4 v4), (cS cyI b5 v5)]) (C := [(cM cyI mm mv)]) [0, 2, 3, 4, 5, 6, 7, 8, 9, 10, 11, 12, 13, 14, 15, 16, 17, 18, 19, 20] [1] rfl rfl rfl (by decide) rfl) rfl hl.1 (Nat.le_of_ble_eq_true rfl) dL_law_1028 ⟨by omega, by omega⟩ hS hA (fun r u H locs hw hP hD hS => ?_)
  obtain rfl : r = o3.1 := congrArg Prod.fst hw
  obtain rfl : u = o3.2 := congrArg Prod.snd hw
  clear hw
  have hq := seg_permS (segs := [[cLo cyL qo 1 fo], (cM cyI mm o3.2), (cXo x an tr xv), (cH cyO (x 1) (x 2) 2 fl), (cXk cyI x xv), (cH cyO (x 4) (x 5) 6 fs), (cT cyI x (X_text xv)), (cSo an nv), (cG cyI an (S_green nv)), (cV cyI an (S_score nv)), (cSo tr tv), (cG cyI tr (S_green tv)), (cV cyI tr (S_score tv)), (cS cyI k0 w0), (cS cyI k1 w1), (cS cyI b0 v0), (cS cyI b1 v1), (cS cyI b2 v2), (cS cyI b3 v3), (cS cyI b4 v4), (cS cyI b5 v5)]) (R := [[cLo cyL qo 1 fo], (cXo x an tr xv), (cH cyO (x 1) (x 2) 2 fl), (cXk cyI x xv), (cH cyO (x 4) (x 5) 6 fs), (cT cyI x (X_text xv)), (cSo an nv), (cG cyI an (S_green nv)), (cV cyI an (S_score nv)), (cSo tr tv), (cG cyI tr (S_green tv)), (cV cyI tr (S_score tv)), (cS cyI k0 w0), (cS cyI k1 w1), (cS cyI b0 v0), (cS cyI b1 v1), (cS cyI b2 v2), (cS cyI b3 v3), (cS cyI b4 v4), (cS cyI b5 v5)]) (C := [(cM cyI mm o3.2)]) (n := 21) [0, 2, 3, 4, 5, 6, 7, 8, 9, 10, 11, 12, 13, 14, 15, 16, 17, 18, 19, 20] [1] rfl rfl rfl (by decide)
  have hP : va_P (dC, dI) vwCl (([[cLo cyL qo 1 fo], (cM cyI mm o3.2), (cXo x an tr xv), (cH cyO (x 1) (x 2) 2 fl), (cXk cyI x xv), (cH cyO (x 4) (x 5) 6 fs), (cT cyI x (X_text xv)), (cSo an nv), (cG cyI an (S_green nv)), (cV cyI an (S_score nv)), (cSo tr tv), (cG cyI tr (S_green tv)), (cV cyI tr (S_score tv)), (cS cyI k0 w0), (cS cyI k1 w1), (cS cyI b0 v0), (cS cyI b1 v1), (cS cyI b2 v2), (cS cyI b3 v3), (cS cyI b4 v4), (cS cyI b5 v5)] : List va_W).flatten) H := hP.perm hq
  have hD : va_D A (([[cLo cyL qo 1 fo], (cM cyI mm o3.2), (cXo x an tr xv), (cH cyO (x 1) (x 2) 2 fl), (cXk cyI x xv), (cH cyO (x 4) (x 5) 6 fs), (cT cyI x (X_text xv)), (cSo an nv), (cG cyI an (S_green nv)), (cV cyI an (S_score nv)), (cSo tr tv), (cG cyI tr (S_green tv)), (cV cyI tr (S_score tv)), (cS cyI k0 w0), (cS cyI k1 w1), (cS cyI b0 v0), (cS cyI b1 v1), (cS cyI b2 v2), (cS cyI b3 v3), (cS cyI b4 v4), (cS cyI b5 v5)] : List va_W).flatten) := hD.perm hq
  clear hq
  refine lv_icmp_eq (tgt := 2733) hx hb dL_law_1031 (by decide) (fun c5 => ?_) (fun c5 => ?_)
  · have hF := itp c5 hF
    obtain rfl := Option.some.inj hF
    refine W.widen (k := cells + 4) (n := slots + 24) (by omega) (by omega) ?_
    exact kk _ _ _ hP hD hS (lv_sub hl [0, 1, 2, 3, 4] rfl)
  · have hF := itn c5 hF
    refine lv_iconst (v := 0) hx hb dL_law_1034 (by decide) ?_
    cases hF
theorem dL_law_1036 : decode cL_law 1036 = .ok (.aload_n 1, 1) := by decide +kernel
theorem dL_law_1037 : decode cL_law 1037 = .ok (.invokevirtual 219, 3) := by decide +kernel
theorem dL_law_1040 : decode cL_law 1040 = .ok (.aload_n 2, 1) := by decide +kernel
theorem dL_law_1041 : decode cL_law 1041 = .ok (.invokevirtual 222, 3) := by decide +kernel
theorem dL_law_1044 : decode cL_law 1044 = .ok (.if_icmp .eq 1689, 3) := by decide +kernel
theorem dL_law_1047 : decode cL_law 1047 = .ok (.iconst 0, 1) := by decide +kernel
def f_law21 (N L : Nat) (xs : Nat → Int32) (i : Int32) (fo : (Nat → Int64)) (mv : MV) (xv : XV) (nv : SV) (tv : SV) (w0 : SV) (w1 : SV) (v0 : SV) (v1 : SV) (v2 : SV) (v3 : SV) (v4 : SV) (v5 : SV) : Option ((Nat → Int64) × MV × XV × SV × SV × SV × SV × SV × SV × SV × SV × SV × SV) :=
  (f_X5_bowlsOfSide N xv nv).bind (fun o1 => (f_X6_bowlsOfSide N mv).bind (fun o3 => (if o1 = o3.1 then some (fo, o3.2, xv, nv, tv, w0, w1, v0, v1, v2, v3, v4, v5) else none)))
set_option maxHeartbeats 4000000 in
set_option maxRecDepth 100000 in
theorem law21 (hst : l.stackTraces = false) (hx : p.tables.exec = Jvm.exec) (hb : c.code = code) (hml : c.maxLocals = 9) (hown : s.vm.findClass RL = some m.cls) (hts : ∀ w ∈ wT, w.before args s = true) (hK : wK dC dI cyI cyO cyL s) (hZ : wZ z0 s) (hAz : ∀ q, A q → z0 ≤ q) (hz0 : z0 ≤ s.heap.size) (hA : ∀ q : Nat, s.heap.size ≤ q → A q) (hX : va_X b L xs s s.heap) (hbl : b < s.heap.size) (hbA : ¬ A b) (hRf : 11 ≤ R.frames) (hRl : 398 ≤ R.locals) (qo : Nat) (mm x an tr k0 k1 b0 b1 b2 b3 b4 b5 : Nat → Nat) (fl fs : Nat → Option Nat) (N : Nat) (fo : (Nat → Int64)) (mv : MV) (xv : XV) (nv : SV) (tv : SV) (w0 : SV) (w1 : SV) (v0 : SV) (v1 : SV) (v2 : SV) (v3 : SV) (v4 : SV) (v5 : SV) (i : Int32) (hl0 : fl 0 = some (k0 0)) (hl1 : fl 1 = some (k1 0)) (hs0 : fs 0 = some (b0 0)) (hs1 : fs 1 = some (b1 0)) (hs2 : fs 2 = some (b2 0)) (hs3 : fs 3 = some (b3 0)) (hs4 : fs 4 = some (b4 0)) (hs5 : fs 5 = some (b5 0)) (out : (Nat → Int64) × MV × XV × SV × SV × SV × SV × SV × SV × SV × SV × SV × SV) (hF : f_law21 N L xs i fo mv xv nv tv w0 w1 v0 v1 v2 v3 v4 v5 = some out) (hP : va_P (dC, dI) vwCl (([[cLo cyL qo 1 fo], (cM cyI mm mv), (cXo x an tr xv), (cH cyO (x 1) (x 2) 2 fl), (cXk cyI x xv), (cH cyO (x 4) (x 5) 6 fs), (cT cyI x (X_text xv)), (cSo an nv), (cG cyI an (S_green nv)), (cV cyI an (S_score nv)), (cSo tr tv), (cG cyI tr (S_green tv)), (cV cyI tr (S_score tv)), (cS cyI k0 w0), (cS cyI k1 w1), (cS cyI b0 v0), (cS cyI b1 v1), (cS cyI b2 v2), (cS cyI b3 v3), (cS cyI b4 v4), (cS cyI b5 v5)] : List va_W).flatten) H) (hD : va_D A (([[cLo cyL qo 1 fo], (cM cyI mm mv), (cXo x an tr xv), (cH cyO (x 1) (x 2) 2 fl), (cXk cyI x xv), (cH cyO (x 4) (x 5) 6 fs), (cT cyI x (X_text xv)), (cSo an nv), (cG cyI an (S_green nv)), (cV cyI an (S_score nv)), (cSo tr tv), (cG cyI tr (S_green tv)), (cV cyI tr (S_score tv)), (cS cyI k0 w0), (cS cyI k1 w1), (cS cyI b0 v0), (cS cyI b1 v1), (cS cyI b2 v2), (cS cyI b3 v3), (cS cyI b4 v4), (cS cyI b5 v5)] : List va_W).flatten)) (hS : va_S A s.heap H locs) (hl : lv_has ls 9 [(0, .ref b), (1, .ref (x 0)), (2, .ref (mm 0)), (3, .ref qo), (4, .int i)]) (hRc : cells + 4 ≤ R.cells) (hRs : slots + 24 ≤ R.slots) (kk : ∀ (H : Heap) (locs : List Loc) (ls : Array Slot), va_P (dC, dI) vwCl (([[cLo cyL qo 1 out.1], (cM cyI mm out.2.1), (cXo x an tr out.2.2.1), (cH cyO (x 1) (x 2) 2 fl), (cXk cyI x out.2.2.1), (cH cyO (x 4) (x 5) 6 fs), (cT cyI x (X_text out.2.2.1)), (cSo an out.2.2.2.1), (cG cyI an (S_green out.2.2.2.1)), (cV cyI an (S_score out.2.2.2.1)), (cSo tr out.2.2.2.2.1), (cG cyI tr (S_green out.2.2.2.2.1)), (cV cyI tr (S_score out.2.2.2.2.1)), (cS cyI k0 out.2.2.2.2.2.1), (cS cyI k1 out.2.2.2.2.2.2.1), (cS cyI b0 out.2.2.2.2.2.2.2.1), (cS cyI b1 out.2.2.2.2.2.2.2.2.1), (cS cyI b2 out.2.2.2.2.2.2.2.2.2.1), (cS cyI b3 out.2.2.2.2.2.2.2.2.2.2.1), (cS cyI b4 out.2.2.2.2.2.2.2.2.2.2.2.1), (cS cyI b5 out.2.2.2.2.2.2.2.2.2.2.2.2)] : List va_W).flatten) H → va_D A (([[cLo cyL qo 1 out.1], (cM cyI mm out.2.1), (cXo x an tr out.2.2.1), (cH cyO (x 1) (x 2) 2 fl), (cXk cyI x out.2.2.1), (cH cyO (x 4) (x 5) 6 fs), (cT cyI x (X_text out.2.2.1)), (cSo an out.2.2.2.1), (cG cyI an (S_green out.2.2.2.1)), (cV cyI an (S_score out.2.2.2.1)), (cSo tr out.2.2.2.2.1), (cG cyI tr (S_green out.2.2.2.2.1)), (cV cyI tr (S_score out.2.2.2.2.1)), (cS cyI k0 out.2.2.2.2.2.1), (cS cyI k1 out.2.2.2.2.2.2.1), (cS cyI b0 out.2.2.2.2.2.2.2.1), (cS cyI b1 out.2.2.2.2.2.2.2.2.1), (cS cyI b2 out.2.2.2.2.2.2.2.2.2.1), (cS cyI b3 out.2.2.2.2.2.2.2.2.2.2.1), (cS cyI b4 out.2.2.2.2.2.2.2.2.2.2.2.1), (cS cyI b5 out.2.2.2.2.2.2.2.2.2.2.2.2)] : List va_W).flatten) → va_S A s.heap H locs → lv_has ls 9 [(0, .ref b), (1, .ref (x 0)), (2, .ref (mm 0)), (3, .ref qo), (4, .int i)] → W p l e R s m args below meth c H locs (cells + 4) (slots + 24) Q (F0 m 2733 ls [])) : W p l e R s m args below meth c H locs cells slots Q (F0 m 1036 ls []) := by
  unfold f_law21 at hF
  refine lv_aload_n hx hb dL_law_1036 rfl (lv_at hl 1 rfl) ?_
  obtain ⟨o1, h2, hF⟩ := obd hF
  refine wcRVi (As := []) (rest := []) (b := (x 0)) ⟨hx, hb, hml, hown, hts⟩ (met_X5_bowlsOfSide l dC dI cyI cyO cyL x tr an fl fs N xv nv  o1 h2) (cwV 0 hts (gV w_methodLink_L_219 w_instanceMethod_X5_bowlsOfSide w_selects_X5_bowlsOfSide w_initialized_X5 w_code_X5_bowlsOfSide) rfl rfl rfl (by decide +kernel) ⟨Nat.le_trans (Nat.le_of_ble_eq_true rfl) hRf, Nat.le_trans (Nat.le_of_ble_eq_true rfl) hRl⟩) (va_recv hK.1 hP (ci := 5) (q0 := 9) rfl rfl) hP hK [9, 10, 11, 12, 13, 14, 15, 16, 17, 18, 19, 20, 21, 22, 23, 24, 25, 26, 27, 28, 29] rfl rfl hl.1 (Nat.le_of_ble_eq_true rfl) dL_law_1037 ⟨by omega, by omega⟩ hS (fun r H locs hw hP hS => ?_)
  have hw := hw.symm
  subst hw
  refine lv_aload_n hx hb dL_law_1040 rfl (lv_at hl 2 rfl) ?_
  obtain ⟨o3, h4, hF⟩ := obd hF
  refine wcPVi (As := []) (rest := [.int o1]) (wr := ([[cLo cyL qo 1 fo], (cXo x an tr xv), (cH cyO (x 1) (x 2) 2 fl), (cXk cyI x xv), (cH cyO (x 4) (x 5) 6 fs), (cT cyI x (X_text xv)), (cSo an nv), (cG cyI an (S_green nv)), (cV cyI an (S_score nv)), (cSo tr tv), (cG cyI tr (S_green tv)), (cV cyI tr (S_score tv)), (cS cyI k0 w0), (cS cyI k1 w1), (cS cyI b0 v0), (cS cyI b1 v1), (cS cyI b2 v2), (cS cyI b3 v3), (cS cyI b4 v4), (cS cyI b5 v5)] : List va_W).flatten) (b := (mm 0)) ⟨hx, hb, hml, hown, hts⟩ (met_X6_bowlsOfSide l dC dI cyI cyO cyL mm _ N mv  o3 h4) (cwV 0 hts (gV w_methodLink_L_222 w_instanceMethod_X6_bowlsOfSide w_selects_X6_bowlsOfSide w_initialized_X6 w_code_X6_bowlsOfSide) rfl rfl rfl (by decide +kernel) ⟨Nat.le_trans (Nat.le_of_ble_eq_true rfl) hRf, Nat.le_trans (Nat.le_of_ble_eq_true rfl) hRl⟩) (va_recv hK.1 hP (ci := 6) (q0 := 1) rfl rfl) hP hD hK (seg_perm (n := 21) (R := [[cLo cyL qo 1 fo], (cXo x an tr xv), (cH cyO (x 1) (x 2) 2 fl), (cXk cyI x xv), (cH cyO (x 4) (x 5) 6 fs), (cT cyI x (X_text xv)), (cSo an nv), (cG cyI an (S_green nv)), (cV cyI an (S_score nv)), (cSo tr tv), (cG cyI tr (S_green tv)), (cV cyI tr (S_score tv)), (cS cyI k0 w0), (cS cyI k1 w1), (cS cyI b0 v0), (cS cyI b1 v1), (cS cyI b2 v2), (cS cyI b3 v3), (cS cyI b4 v4), (cS cyI b5 v5)]) (C := [(cM cyI mm mv)]) [0, 2, 3, 4, 5, 6, 7, 8, 9, 10, 11, 12, 13, 14, 15, 16, 17, 18, 19, 20] [1] rfl rfl rfl (by decide) rfl) rfl hl.1 (Nat.le_of_ble_eq_true rfl) dL_law_1041 ⟨by omega, by omega⟩ hS hA (fun r u H locs hw hP hD hS => ?_)
  obtain rfl : r = o3.1 := congrArg Prod.fst hw
  obtain rfl : u = o3.2 := congrArg Prod.snd hw
  clear hw
  have hq := seg_permS (segs := [[cLo cyL qo 1 fo], (cM cyI mm o3.2), (cXo x an tr xv), (cH cyO (x 1) (x 2) 2 fl), (cXk cyI x xv), (cH cyO (x 4) (x 5) 6 fs), (cT cyI x (X_text xv)), (cSo an nv), (cG cyI an (S_green nv)), (cV cyI an (S_score nv)), (cSo tr tv), (cG cyI tr (S_green tv)), (cV cyI tr (S_score tv)), (cS cyI k0 w0), (cS cyI k1 w1), (cS cyI b0 v0), (cS cyI b1 v1), (cS cyI b2 v2), (cS cyI b3 v3), (cS cyI b4 v4), (cS cyI b5 v5)]) (R := [[cLo cyL qo 1 fo], (cXo x an tr xv), (cH cyO (x 1) (x 2) 2 fl), (cXk cyI x xv), (cH cyO (x 4) (x 5) 6 fs), (cT cyI x (X_text xv)), (cSo an nv), (cG cyI an (S_green nv)), (cV cyI an (S_score nv)), (cSo tr tv), (cG cyI tr (S_green tv)), (cV cyI tr (S_score tv)), (cS cyI k0 w0), (cS cyI k1 w1), (cS cyI b0 v0), (cS cyI b1 v1), (cS cyI b2 v2), (cS cyI b3 v3), (cS cyI b4 v4), (cS cyI b5 v5)]) (C := [(cM cyI mm o3.2)]) (n := 21) [0, 2, 3, 4, 5, 6, 7, 8, 9, 10, 11, 12, 13, 14, 15, 16, 17, 18, 19, 20] [1] rfl rfl rfl (by decide)
  have hP : va_P (dC, dI) vwCl (([[cLo cyL qo 1 fo], (cM cyI mm o3.2), (cXo x an tr xv), (cH cyO (x 1) (x 2) 2 fl), (cXk cyI x xv), (cH cyO (x 4) (x 5) 6 fs), (cT cyI x (X_text xv)), (cSo an nv), (cG cyI an (S_green nv)), (cV cyI an (S_score nv)), (cSo tr tv), (cG cyI tr (S_green tv)), (cV cyI tr (S_score tv)), (cS cyI k0 w0), (cS cyI k1 w1), (cS cyI b0 v0), (cS cyI b1 v1), (cS cyI b2 v2), (cS cyI b3 v3), (cS cyI b4 v4), (cS cyI b5 v5)] : List va_W).flatten) H := hP.perm hq
  have hD : va_D A (([[cLo cyL qo 1 fo], (cM cyI mm o3.2), (cXo x an tr xv), (cH cyO (x 1) (x 2) 2 fl), (cXk cyI x xv), (cH cyO (x 4) (x 5) 6 fs), (cT cyI x (X_text xv)), (cSo an nv), (cG cyI an (S_green nv)), (cV cyI an (S_score nv)), (cSo tr tv), (cG cyI tr (S_green tv)), (cV cyI tr (S_score tv)), (cS cyI k0 w0), (cS cyI k1 w1), (cS cyI b0 v0), (cS cyI b1 v1), (cS cyI b2 v2), (cS cyI b3 v3), (cS cyI b4 v4), (cS cyI b5 v5)] : List va_W).flatten) := hD.perm hq
  clear hq
  refine lv_icmp_eq (tgt := 2733) hx hb dL_law_1044 (by decide) (fun c5 => ?_) (fun c5 => ?_)
  · have hF := itp c5 hF
    obtain rfl := Option.some.inj hF
    refine W.widen (k := cells + 4) (n := slots + 24) (by omega) (by omega) ?_
    exact kk _ _ _ hP hD hS (lv_sub hl [0, 1, 2, 3, 4] rfl)
  · have hF := itn c5 hF
    refine lv_iconst (v := 0) hx hb dL_law_1047 (by decide) ?_
    cases hF
theorem dL_law_1049 : decode cL_law 1049 = .ok (.aload_n 1, 1) := by decide +kernel
theorem dL_law_1050 : decode cL_law 1050 = .ok (.aload_n 3, 1) := by decide +kernel
theorem dL_law_1051 : decode cL_law 1051 = .ok (.invokestatic 223, 3) := by decide +kernel
theorem dL_law_1054 : decode cL_law 1054 = .ok (.istore 5, 2) := by decide +kernel
theorem dL_law_1056 : decode cL_law 1056 = .ok (.aload_n 2, 1) := by decide +kernel
theorem dL_law_1057 : decode cL_law 1057 = .ok (.invokevirtual 225, 3) := by decide +kernel
theorem dL_law_1060 : decode cL_law 1060 = .ok (.istore 6, 2) := by decide +kernel
theorem dL_law_1062 : decode cL_law 1062 = .ok (.aload_n 2, 1) := by decide +kernel
theorem dL_law_1063 : decode cL_law 1063 = .ok (.invokevirtual 143, 3) := by decide +kernel
theorem dL_law_1066 : decode cL_law 1066 = .ok (.iload 5, 2) := by decide +kernel
theorem dL_law_1068 : decode cL_law 1068 = .ok (.if_icmp .eq 5, 3) := by decide +kernel
theorem dL_law_1071 : decode cL_law 1071 = .ok (.iconst 0, 1) := by decide +kernel
theorem dL_law_1073 : decode cL_law 1073 = .ok (.iload 5, 2) := by decide +kernel
theorem dL_law_1075 : decode cL_law 1075 = .ok (.ifCond .ne 15, 3) := by decide +kernel
theorem dL_law_1078 : decode cL_law 1078 = .ok (.aload_n 3, 1) := by decide +kernel
theorem dL_law_1079 : decode cL_law 1079 = .ok (.iconst 0, 1) := by decide +kernel
theorem dL_law_1080 : decode cL_law 1080 = .ok (.laload, 1) := by decide +kernel
theorem dL_law_1081 : decode cL_law 1081 = .ok (.iload 6, 2) := by decide +kernel
theorem dL_law_1083 : decode cL_law 1083 = .ok (.i2l, 1) := by decide +kernel
theorem dL_law_1084 : decode cL_law 1084 = .ok (.lcmp, 1) := by decide +kernel
theorem dL_law_1085 : decode cL_law 1085 = .ok (.ifCond .eq 5, 3) := by decide +kernel
theorem dL_law_1088 : decode cL_law 1088 = .ok (.iconst 0, 1) := by decide +kernel
theorem dL_law_1090 : decode cL_law 1090 = .ok (.goto 1643, 3) := by decide +kernel
def f_law22 (N L : Nat) (xs : Nat → Int32) (i : Int32) (fo : (Nat → Int64)) (mv : MV) (xv : XV) (nv : SV) (tv : SV) (w0 : SV) (w1 : SV) (v0 : SV) (v1 : SV) (v2 : SV) (v3 : SV) (v4 : SV) (v5 : SV) : Option ((Nat → Int64) × MV × XV × SV × SV × SV × SV × SV × SV × SV × SV × SV × SV) :=
  (f_L_turn N fo xv nv).bind (fun o1 => (f_X6_turn N mv).bind (fun o3 => (f_X6_thrown N o3.2).bind (fun o5 => (if o5 = o1.1 then jn (fun (s1090 : Unit) => some (o1.2.1, o3.2, o1.2.2.1, o1.2.2.2, tv, w0, w1, v0, v1, v2, v3, v4, v5)) (fun (j1090 : (Unit) → Option ((Nat → Int64) × MV × XV × SV × SV × SV × SV × SV × SV × SV × SV × SV × SV)) => (if o1.1 = 0 then (if (lg_cmp (o1.2.1 (0 : Int32).toNatClampNeg) ((o3.1).toInt64)) = 0 then j1090 () else none) else j1090 ())) else none))))
set_option maxHeartbeats 4000000 in
set_option maxRecDepth 100000 in
theorem law22 (hst : l.stackTraces = false) (hx : p.tables.exec = Jvm.exec) (hb : c.code = code) (hml : c.maxLocals = 9) (hown : s.vm.findClass RL = some m.cls) (hts : ∀ w ∈ wT, w.before args s = true) (hK : wK dC dI cyI cyO cyL s) (hZ : wZ z0 s) (hAz : ∀ q, A q → z0 ≤ q) (hz0 : z0 ≤ s.heap.size) (hA : ∀ q : Nat, s.heap.size ≤ q → A q) (hX : va_X b L xs s s.heap) (hbl : b < s.heap.size) (hbA : ¬ A b) (hRf : 11 ≤ R.frames) (hRl : 398 ≤ R.locals) (qo : Nat) (mm x an tr k0 k1 b0 b1 b2 b3 b4 b5 : Nat → Nat) (fl fs : Nat → Option Nat) (N : Nat) (fo : (Nat → Int64)) (mv : MV) (xv : XV) (nv : SV) (tv : SV) (w0 : SV) (w1 : SV) (v0 : SV) (v1 : SV) (v2 : SV) (v3 : SV) (v4 : SV) (v5 : SV) (i : Int32) (hl0 : fl 0 = some (k0 0)) (hl1 : fl 1 = some (k1 0)) (hs0 : fs 0 = some (b0 0)) (hs1 : fs 1 = some (b1 0)) (hs2 : fs 2 = some (b2 0)) (hs3 : fs 3 = some (b3 0)) (hs4 : fs 4 = some (b4 0)) (hs5 : fs 5 = some (b5 0)) (out : (Nat → Int64) × MV × XV × SV × SV × SV × SV × SV × SV × SV × SV × SV × SV) (hF : f_law22 N L xs i fo mv xv nv tv w0 w1 v0 v1 v2 v3 v4 v5 = some out) (hP : va_P (dC, dI) vwCl (([[cLo cyL qo 1 fo], (cM cyI mm mv), (cXo x an tr xv), (cH cyO (x 1) (x 2) 2 fl), (cXk cyI x xv), (cH cyO (x 4) (x 5) 6 fs), (cT cyI x (X_text xv)), (cSo an nv), (cG cyI an (S_green nv)), (cV cyI an (S_score nv)), (cSo tr tv), (cG cyI tr (S_green tv)), (cV cyI tr (S_score tv)), (cS cyI k0 w0), (cS cyI k1 w1), (cS cyI b0 v0), (cS cyI b1 v1), (cS cyI b2 v2), (cS cyI b3 v3), (cS cyI b4 v4), (cS cyI b5 v5)] : List va_W).flatten) H) (hD : va_D A (([[cLo cyL qo 1 fo], (cM cyI mm mv), (cXo x an tr xv), (cH cyO (x 1) (x 2) 2 fl), (cXk cyI x xv), (cH cyO (x 4) (x 5) 6 fs), (cT cyI x (X_text xv)), (cSo an nv), (cG cyI an (S_green nv)), (cV cyI an (S_score nv)), (cSo tr tv), (cG cyI tr (S_green tv)), (cV cyI tr (S_score tv)), (cS cyI k0 w0), (cS cyI k1 w1), (cS cyI b0 v0), (cS cyI b1 v1), (cS cyI b2 v2), (cS cyI b3 v3), (cS cyI b4 v4), (cS cyI b5 v5)] : List va_W).flatten)) (hS : va_S A s.heap H locs) (hl : lv_has ls 9 [(0, .ref b), (1, .ref (x 0)), (2, .ref (mm 0)), (3, .ref qo), (4, .int i)]) (hRc : cells + 4 ≤ R.cells) (hRs : slots + 24 ≤ R.slots) (kk : ∀ (H : Heap) (locs : List Loc) (ls : Array Slot), va_P (dC, dI) vwCl (([[cLo cyL qo 1 out.1], (cM cyI mm out.2.1), (cXo x an tr out.2.2.1), (cH cyO (x 1) (x 2) 2 fl), (cXk cyI x out.2.2.1), (cH cyO (x 4) (x 5) 6 fs), (cT cyI x (X_text out.2.2.1)), (cSo an out.2.2.2.1), (cG cyI an (S_green out.2.2.2.1)), (cV cyI an (S_score out.2.2.2.1)), (cSo tr out.2.2.2.2.1), (cG cyI tr (S_green out.2.2.2.2.1)), (cV cyI tr (S_score out.2.2.2.2.1)), (cS cyI k0 out.2.2.2.2.2.1), (cS cyI k1 out.2.2.2.2.2.2.1), (cS cyI b0 out.2.2.2.2.2.2.2.1), (cS cyI b1 out.2.2.2.2.2.2.2.2.1), (cS cyI b2 out.2.2.2.2.2.2.2.2.2.1), (cS cyI b3 out.2.2.2.2.2.2.2.2.2.2.1), (cS cyI b4 out.2.2.2.2.2.2.2.2.2.2.2.1), (cS cyI b5 out.2.2.2.2.2.2.2.2.2.2.2.2)] : List va_W).flatten) H → va_D A (([[cLo cyL qo 1 out.1], (cM cyI mm out.2.1), (cXo x an tr out.2.2.1), (cH cyO (x 1) (x 2) 2 fl), (cXk cyI x out.2.2.1), (cH cyO (x 4) (x 5) 6 fs), (cT cyI x (X_text out.2.2.1)), (cSo an out.2.2.2.1), (cG cyI an (S_green out.2.2.2.1)), (cV cyI an (S_score out.2.2.2.1)), (cSo tr out.2.2.2.2.1), (cG cyI tr (S_green out.2.2.2.2.1)), (cV cyI tr (S_score out.2.2.2.2.1)), (cS cyI k0 out.2.2.2.2.2.1), (cS cyI k1 out.2.2.2.2.2.2.1), (cS cyI b0 out.2.2.2.2.2.2.2.1), (cS cyI b1 out.2.2.2.2.2.2.2.2.1), (cS cyI b2 out.2.2.2.2.2.2.2.2.2.1), (cS cyI b3 out.2.2.2.2.2.2.2.2.2.2.1), (cS cyI b4 out.2.2.2.2.2.2.2.2.2.2.2.1), (cS cyI b5 out.2.2.2.2.2.2.2.2.2.2.2.2)] : List va_W).flatten) → va_S A s.heap H locs → lv_has ls 9 [(0, .ref b), (1, .ref (x 0)), (2, .ref (mm 0)), (3, .ref qo), (4, .int i)] → W p l e R s m args below meth c H locs (cells + 4) (slots + 24) Q (F0 m 2733 ls [])) : W p l e R s m args below meth c H locs cells slots Q (F0 m 1049 ls []) := by
  unfold f_law22 at hF
  refine lv_aload_n hx hb dL_law_1049 rfl (lv_at hl 1 rfl) ?_
  refine lv_aload_n hx hb dL_law_1050 rfl (lv_at hl 3 rfl) ?_
  obtain ⟨o1, h2, hF⟩ := obd hF
  refine wcLi (As := [.ref (x 0), .ref qo]) (rest := []) (wr := ([(cM cyI mm mv), (cSo tr tv), (cG cyI tr (S_green tv)), (cV cyI tr (S_score tv)), (cS cyI k0 w0), (cS cyI k1 w1), (cS cyI b0 v0), (cS cyI b1 v1), (cS cyI b2 v2), (cS cyI b3 v3), (cS cyI b4 v4), (cS cyI b5 v5)] : List va_W).flatten) ⟨hx, hb, hml, hown, hts⟩ (met_L_turn l z0 hst dC dI cyI cyO cyL qo x tr an fl fs _ N fo xv nv  o1 h2) (vx_cwSW 2 hts (gS w_methodLink_L_223 w_static_L_turn w_initialized_L w_codeW_L_turn) rfl rfl rfl (by decide +kernel) ⟨Nat.le_trans (Nat.le_of_ble_eq_true rfl) hRf, Nat.le_trans (Nat.le_of_ble_eq_true rfl) hRl⟩) hP hD hK hZ hAz hz0 (seg_perm (n := 21) (R := [(cM cyI mm mv), (cSo tr tv), (cG cyI tr (S_green tv)), (cV cyI tr (S_score tv)), (cS cyI k0 w0), (cS cyI k1 w1), (cS cyI b0 v0), (cS cyI b1 v1), (cS cyI b2 v2), (cS cyI b3 v3), (cS cyI b4 v4), (cS cyI b5 v5)]) (C := [[cLo cyL qo 1 fo], (cXo x an tr xv), (cH cyO (x 1) (x 2) 2 fl), (cXk cyI x xv), (cH cyO (x 4) (x 5) 6 fs), (cT cyI x (X_text xv)), (cSo an nv), (cG cyI an (S_green nv)), (cV cyI an (S_score nv))]) [1, 10, 11, 12, 13, 14, 15, 16, 17, 18, 19, 20] [0, 2, 3, 4, 5, 6, 7, 8, 9] rfl rfl rfl (by decide) rfl) rfl hl.1 (Nat.le_of_ble_eq_true rfl) dL_law_1051 ⟨by omega, by omega⟩ hS hA (fun r u H locs hw hP hD hS => ?_)
  obtain rfl : r = o1.1 := congrArg Prod.fst hw
  obtain rfl : u = o1.2 := congrArg Prod.snd hw
  clear hw
  have hq := seg_permS (segs := [[cLo cyL qo 1 o1.2.1], (cM cyI mm mv), (cXo x an tr o1.2.2.1), (cH cyO (x 1) (x 2) 2 fl), (cXk cyI x o1.2.2.1), (cH cyO (x 4) (x 5) 6 fs), (cT cyI x (X_text o1.2.2.1)), (cSo an o1.2.2.2), (cG cyI an (S_green o1.2.2.2)), (cV cyI an (S_score o1.2.2.2)), (cSo tr tv), (cG cyI tr (S_green tv)), (cV cyI tr (S_score tv)), (cS cyI k0 w0), (cS cyI k1 w1), (cS cyI b0 v0), (cS cyI b1 v1), (cS cyI b2 v2), (cS cyI b3 v3), (cS cyI b4 v4), (cS cyI b5 v5)]) (R := [(cM cyI mm mv), (cSo tr tv), (cG cyI tr (S_green tv)), (cV cyI tr (S_score tv)), (cS cyI k0 w0), (cS cyI k1 w1), (cS cyI b0 v0), (cS cyI b1 v1), (cS cyI b2 v2), (cS cyI b3 v3), (cS cyI b4 v4), (cS cyI b5 v5)]) (C := [[cLo cyL qo 1 o1.2.1], (cXo x an tr o1.2.2.1), (cH cyO (x 1) (x 2) 2 fl), (cXk cyI x o1.2.2.1), (cH cyO (x 4) (x 5) 6 fs), (cT cyI x (X_text o1.2.2.1)), (cSo an o1.2.2.2), (cG cyI an (S_green o1.2.2.2)), (cV cyI an (S_score o1.2.2.2))]) (n := 21) [1, 10, 11, 12, 13, 14, 15, 16, 17, 18, 19, 20] [0, 2, 3, 4, 5, 6, 7, 8, 9] rfl rfl rfl (by decide)
  have hP : va_P (dC, dI) vwCl (([[cLo cyL qo 1 o1.2.1], (cM cyI mm mv), (cXo x an tr o1.2.2.1), (cH cyO (x 1) (x 2) 2 fl), (cXk cyI x o1.2.2.1), (cH cyO (x 4) (x 5) 6 fs), (cT cyI x (X_text o1.2.2.1)), (cSo an o1.2.2.2), (cG cyI an (S_green o1.2.2.2)), (cV cyI an (S_score o1.2.2.2)), (cSo tr tv), (cG cyI tr (S_green tv)), (cV cyI tr (S_score tv)), (cS cyI k0 w0), (cS cyI k1 w1), (cS cyI b0 v0), (cS cyI b1 v1), (cS cyI b2 v2), (cS cyI b3 v3), (cS cyI b4 v4), (cS cyI b5 v5)] : List va_W).flatten) H := hP.perm hq
  have hD : va_D A (([[cLo cyL qo 1 o1.2.1], (cM cyI mm mv), (cXo x an tr o1.2.2.1), (cH cyO (x 1) (x 2) 2 fl), (cXk cyI x o1.2.2.1), (cH cyO (x 4) (x 5) 6 fs), (cT cyI x (X_text o1.2.2.1)), (cSo an o1.2.2.2), (cG cyI an (S_green o1.2.2.2)), (cV cyI an (S_score o1.2.2.2)), (cSo tr tv), (cG cyI tr (S_green tv)), (cV cyI tr (S_score tv)), (cS cyI k0 w0), (cS cyI k1 w1), (cS cyI b0 v0), (cS cyI b1 v1), (cS cyI b2 v2), (cS cyI b3 v3), (cS cyI b4 v4), (cS cyI b5 v5)] : List va_W).flatten) := hD.perm hq
  clear hq
  refine lv_istore (lv' := [(5, .int o1.1), (0, .ref b), (1, .ref (x 0)), (2, .ref (mm 0)), (3, .ref qo), (4, .int i)]) hx hb dL_law_1054 hl (by decide) rfl (fun ls hl => ?_)
  refine lv_aload_n hx hb dL_law_1056 rfl (lv_at hl 3 rfl) ?_
  obtain ⟨o3, h4, hF⟩ := obd hF
  refine wcPVi (As := []) (rest := []) (wr := ([[cLo cyL qo 1 o1.2.1], (cXo x an tr o1.2.2.1), (cH cyO (x 1) (x 2) 2 fl), (cXk cyI x o1.2.2.1), (cH cyO (x 4) (x 5) 6 fs), (cT cyI x (X_text o1.2.2.1)), (cSo an o1.2.2.2), (cG cyI an (S_green o1.2.2.2)), (cV cyI an (S_score o1.2.2.2)), (cSo tr tv), (cG cyI tr (S_green tv)), (cV cyI tr (S_score tv)), (cS cyI k0 w0), (cS cyI k1 w1), (cS cyI b0 v0), (cS cyI b1 v1), (cS cyI b2 v2), (cS cyI b3 v3), (cS cyI b4 v4), (cS cyI b5 v5)] : List va_W).flatten) (b := (mm 0)) ⟨hx, hb, hml, hown, hts⟩ (met_X6_turn l dC dI cyI cyO cyL mm _ N mv  o3 h4) (cwV 0 hts (gV w_methodLink_L_225 w_instanceMethod_X6_turn w_selects_X6_turn w_initialized_X6 w_code_X6_turn) rfl rfl rfl (by decide +kernel) ⟨Nat.le_trans (Nat.le_of_ble_eq_true rfl) hRf, Nat.le_trans (Nat.le_of_ble_eq_true rfl) hRl⟩) (va_recv hK.1 hP (ci := 6) (q0 := 1) rfl rfl) hP hD hK (seg_perm (n := 21) (R := [[cLo cyL qo 1 o1.2.1], (cXo x an tr o1.2.2.1), (cH cyO (x 1) (x 2) 2 fl), (cXk cyI x o1.2.2.1), (cH cyO (x 4) (x 5) 6 fs), (cT cyI x (X_text o1.2.2.1)), (cSo an o1.2.2.2), (cG cyI an (S_green o1.2.2.2)), (cV cyI an (S_score o1.2.2.2)), (cSo tr tv), (cG cyI tr (S_green tv)), (cV cyI tr (S_score tv)), (cS cyI k0 w0), (cS cyI k1 w1), (cS cyI b0 v0), (cS cyI b1 v1), (cS cyI b2 v2), (cS cyI b3 v3), (cS cyI b4 v4), (cS cyI b5 v5)]) (C := [(cM cyI mm mv)]) [0, 2, 3, 4, 5, 6, 7, 8, 9, 10, 11, 12, 13, 14, 15, 16, 17, 18, 19, 20] [1] rfl rfl rfl (by decide) rfl) rfl hl.1 (Nat.le_of_ble_eq_true rfl) dL_law_1057 ⟨by omega, by omega⟩ hS hA (fun r u H locs hw hP hD hS => ?_)
  obtain rfl : r = o3.1 := congrArg Prod.fst hw
  obtain rfl : u = o3.2 := congrArg Prod.snd hw
  clear hw
  have hq := seg_permS (segs := [[cLo cyL qo 1 o1.2.1], (cM cyI mm o3.2), (cXo x an tr o1.2.2.1), (cH cyO (x 1) (x 2) 2 fl), (cXk cyI x o1.2.2.1), (cH cyO (x 4) (x 5) 6 fs), (cT cyI x (X_text o1.2.2.1)), (cSo an o1.2.2.2), (cG cyI an (S_green o1.2.2.2)), (cV cyI an (S_score o1.2.2.2)), (cSo tr tv), (cG cyI tr (S_green tv)), (cV cyI tr (S_score tv)), (cS cyI k0 w0), (cS cyI k1 w1), (cS cyI b0 v0), (cS cyI b1 v1), (cS cyI b2 v2), (cS cyI b3 v3), (cS cyI b4 v4), (cS cyI b5 v5)]) (R := [[cLo cyL qo 1 o1.2.1], (cXo x an tr o1.2.2.1), (cH cyO (x 1) (x 2) 2 fl), (cXk cyI x o1.2.2.1), (cH cyO (x 4) (x 5) 6 fs), (cT cyI x (X_text o1.2.2.1)), (cSo an o1.2.2.2), (cG cyI an (S_green o1.2.2.2)), (cV cyI an (S_score o1.2.2.2)), (cSo tr tv), (cG cyI tr (S_green tv)), (cV cyI tr (S_score tv)), (cS cyI k0 w0), (cS cyI k1 w1), (cS cyI b0 v0), (cS cyI b1 v1), (cS cyI b2 v2), (cS cyI b3 v3), (cS cyI b4 v4), (cS cyI b5 v5)]) (C := [(cM cyI mm o3.2)]) (n := 21) [0, 2, 3, 4, 5, 6, 7, 8, 9, 10, 11, 12, 13, 14, 15, 16, 17, 18, 19, 20] [1] rfl rfl rfl (by decide)
  have hP : va_P (dC, dI) vwCl (([[cLo cyL qo 1 o1.2.1], (cM cyI mm o3.2), (cXo x an tr o1.2.2.1), (cH cyO (x 1) (x 2) 2 fl), (cXk cyI x o1.2.2.1), (cH cyO (x 4) (x 5) 6 fs), (cT cyI x (X_text o1.2.2.1)), (cSo an o1.2.2.2), (cG cyI an (S_green o1.2.2.2)), (cV cyI an (S_score o1.2.2.2)), (cSo tr tv), (cG cyI tr (S_green tv)), (cV cyI tr (S_score tv)), (cS cyI k0 w0), (cS cyI k1 w1), (cS cyI b0 v0), (cS cyI b1 v1), (cS cyI b2 v2), (cS cyI b3 v3), (cS cyI b4 v4), (cS cyI b5 v5)] : List va_W).flatten) H := hP.perm hq
  have hD : va_D A (([[cLo cyL qo 1 o1.2.1], (cM cyI mm o3.2), (cXo x an tr o1.2.2.1), (cH cyO (x 1) (x 2) 2 fl), (cXk cyI x o1.2.2.1), (cH cyO (x 4) (x 5) 6 fs), (cT cyI x (X_text o1.2.2.1)), (cSo an o1.2.2.2), (cG cyI an (S_green o1.2.2.2)), (cV cyI an (S_score o1.2.2.2)), (cSo tr tv), (cG cyI tr (S_green tv)), (cV cyI tr (S_score tv)), (cS cyI k0 w0), (cS cyI k1 w1), (cS cyI b0 v0), (cS cyI b1 v1), (cS cyI b2 v2), (cS cyI b3 v3), (cS cyI b4 v4), (cS cyI b5 v5)] : List va_W).flatten) := hD.perm hq
  clear hq
  refine lv_istore (lv' := [(6, .int o3.1), (5, .int o1.1), (0, .ref b), (1, .ref (x 0)), (2, .ref (mm 0)), (3, .ref qo), (4, .int i)]) hx hb dL_law_1060 hl (by decide) rfl (fun ls hl => ?_)
  refine lv_aload_n hx hb dL_law_1062 rfl (lv_at hl 4 rfl) ?_
  obtain ⟨o5, h6, hF⟩ := obd hF
  refine wcRVi (As := []) (rest := []) (b := (mm 0)) ⟨hx, hb, hml, hown, hts⟩ (met_X6_thrown l dC dI cyI cyO cyL mm N o3.2  o5 h6) (cwV 0 hts (gV w_methodLink_L_143 w_instanceMethod_X6_thrown w_selects_X6_thrown w_initialized_X6 w_code_X6_thrown) rfl rfl rfl (by decide +kernel) ⟨Nat.le_trans (Nat.le_of_ble_eq_true rfl) hRf, Nat.le_trans (Nat.le_of_ble_eq_true rfl) hRl⟩) (va_recv hK.1 hP (ci := 6) (q0 := 1) rfl rfl) hP hK [1, 2, 3, 4, 5, 6, 7, 8] rfl rfl hl.1 (Nat.le_of_ble_eq_true rfl) dL_law_1063 ⟨by omega, by omega⟩ hS (fun r H locs hw hP hS => ?_)
  have hw := hw.symm
  subst hw
  refine lv_iload hx hb dL_law_1066 (lv_at hl 1 rfl) ?_
  refine lv_icmp_eq (tgt := 1073) hx hb dL_law_1068 (by decide) (fun c7 => ?_) (fun c7 => ?_)
  · have hF := itp c7 hF
    refine lv_iload hx hb dL_law_1073 (lv_at hl 1 rfl) ?_
    obtain ⟨j1090, hj1090, hF⟩ := jn_use hF
    have hJ1090 : ∀ (s1090 : Unit) (H : Heap) (locs : List Loc) (ls : Array Slot), va_P (dC, dI) vwCl (([[cLo cyL qo 1 o1.2.1], (cM cyI mm o3.2), (cXo x an tr o1.2.2.1), (cH cyO (x 1) (x 2) 2 fl), (cXk cyI x o1.2.2.1), (cH cyO (x 4) (x 5) 6 fs), (cT cyI x (X_text o1.2.2.1)), (cSo an o1.2.2.2), (cG cyI an (S_green o1.2.2.2)), (cV cyI an (S_score o1.2.2.2)), (cSo tr tv), (cG cyI tr (S_green tv)), (cV cyI tr (S_score tv)), (cS cyI k0 w0), (cS cyI k1 w1), (cS cyI b0 v0), (cS cyI b1 v1), (cS cyI b2 v2), (cS cyI b3 v3), (cS cyI b4 v4), (cS cyI b5 v5)] : List va_W).flatten) H → va_D A (([[cLo cyL qo 1 o1.2.1], (cM cyI mm o3.2), (cXo x an tr o1.2.2.1), (cH cyO (x 1) (x 2) 2 fl), (cXk cyI x o1.2.2.1), (cH cyO (x 4) (x 5) 6 fs), (cT cyI x (X_text o1.2.2.1)), (cSo an o1.2.2.2), (cG cyI an (S_green o1.2.2.2)), (cV cyI an (S_score o1.2.2.2)), (cSo tr tv), (cG cyI tr (S_green tv)), (cV cyI tr (S_score tv)), (cS cyI k0 w0), (cS cyI k1 w1), (cS cyI b0 v0), (cS cyI b1 v1), (cS cyI b2 v2), (cS cyI b3 v3), (cS cyI b4 v4), (cS cyI b5 v5)] : List va_W).flatten) → va_S A s.heap H locs → lv_has ls 9 [(0, .ref b), (1, .ref (x 0)), (2, .ref (mm 0)), (3, .ref qo), (4, .int i)] → j1090 s1090 = some out → W p l e R s m args below meth c H locs (cells + 1) (slots + 6) Q (F0 m 1090 ls []) := by
      intro s1090 H locs ls hP hD hS hl hF
      have hF := (congrFun hj1090 s1090).symm.trans hF
      refine lv_goto (tgt := 2733) hx hb dL_law_1090 (by decide) ?_
      obtain rfl := Option.some.inj hF
      refine W.widen (k := cells + 4) (n := slots + 24) (by omega) (by omega) ?_
      exact kk _ _ _ hP hD hS (lv_sub hl [0, 1, 2, 3, 4] rfl)
    refine lv_if_ne (tgt := 1090) hx hb dL_law_1075 (by decide) (fun c8 => ?_) (fun c8 => ?_)
    · have hF := itn c8 hF
      exact hJ1090 () _ _ _ hP hD hS (lv_sub hl [2, 3, 4, 5, 6] rfl) hF
    · have hF := itp c8 hF
      refine lv_aload_n hx hb dL_law_1078 rfl (lv_at hl 5 rfl) ?_
      refine lv_iconst (v := 0) hx hb dL_law_1079 (by decide) ?_
      refine va_lald hx hb hK.1 hP 0 2 rfl rfl (i := (0 : Int32)) (show ixok (0 : Int32) 1 by decide) dL_law_1080 ?_
      refine lv_iload hx hb dL_law_1081 (lv_at hl 0 rfl) ?_
      refine lv_i2l (v := (o3.1).toInt64) hx hb dL_law_1083 rfl ?_
      refine W.lcmp hx hb dL_law_1084 ?_
      refine lv_if_eq (tgt := 1090) hx hb dL_law_1085 (by decide) (fun c9 => ?_) (fun c9 => ?_)
      · have hF := itp c9 hF
        exact hJ1090 () _ _ _ hP hD hS (lv_sub hl [2, 3, 4, 5, 6] rfl) hF
      · have hF := itn c9 hF
        refine lv_iconst (v := 0) hx hb dL_law_1088 (by decide) ?_
        cases hF
  · have hF := itn c7 hF
    refine lv_iconst (v := 0) hx hb dL_law_1071 (by decide) ?_
    cases hF
theorem dL_law_1093 : decode cL_law 1093 = .ok (.aload_n 1, 1) := by decide +kernel
theorem dL_law_1094 : decode cL_law 1094 = .ok (.aload_n 0, 1) := by decide +kernel
theorem dL_law_1095 : decode cL_law 1095 = .ok (.iload 4, 2) := by decide +kernel
theorem dL_law_1097 : decode cL_law 1097 = .ok (.iconst 1, 1) := by decide +kernel
theorem dL_law_1098 : decode cL_law 1098 = .ok (.iadd, 1) := by decide +kernel
theorem dL_law_1099 : decode cL_law 1099 = .ok (.iaload, 1) := by decide +kernel
theorem dL_law_1100 : decode cL_law 1100 = .ok (.aload_n 3, 1) := by decide +kernel
theorem dL_law_1101 : decode cL_law 1101 = .ok (.invokestatic 226, 3) := by decide +kernel
theorem dL_law_1104 : decode cL_law 1104 = .ok (.istore 5, 2) := by decide +kernel
theorem dL_law_1106 : decode cL_law 1106 = .ok (.aload_n 2, 1) := by decide +kernel
theorem dL_law_1107 : decode cL_law 1107 = .ok (.aload_n 0, 1) := by decide +kernel
theorem dL_law_1108 : decode cL_law 1108 = .ok (.iload 4, 2) := by decide +kernel
theorem dL_law_1110 : decode cL_law 1110 = .ok (.iconst 1, 1) := by decide +kernel
theorem dL_law_1111 : decode cL_law 1111 = .ok (.iadd, 1) := by decide +kernel
theorem dL_law_1112 : decode cL_law 1112 = .ok (.iaload, 1) := by decide +kernel
theorem dL_law_1113 : decode cL_law 1113 = .ok (.invokevirtual 228, 3) := by decide +kernel
theorem dL_law_1116 : decode cL_law 1116 = .ok (.istore 6, 2) := by decide +kernel
theorem dL_law_1118 : decode cL_law 1118 = .ok (.aload_n 2, 1) := by decide +kernel
theorem dL_law_1119 : decode cL_law 1119 = .ok (.invokevirtual 143, 3) := by decide +kernel
theorem dL_law_1122 : decode cL_law 1122 = .ok (.iload 5, 2) := by decide +kernel
theorem dL_law_1124 : decode cL_law 1124 = .ok (.if_icmp .eq 5, 3) := by decide +kernel
theorem dL_law_1127 : decode cL_law 1127 = .ok (.iconst 0, 1) := by decide +kernel
theorem dL_law_1129 : decode cL_law 1129 = .ok (.iload 5, 2) := by decide +kernel
theorem dL_law_1131 : decode cL_law 1131 = .ok (.ifCond .ne 15, 3) := by decide +kernel
theorem dL_law_1134 : decode cL_law 1134 = .ok (.aload_n 3, 1) := by decide +kernel
theorem dL_law_1135 : decode cL_law 1135 = .ok (.iconst 0, 1) := by decide +kernel
theorem dL_law_1136 : decode cL_law 1136 = .ok (.laload, 1) := by decide +kernel
theorem dL_law_1137 : decode cL_law 1137 = .ok (.iload 6, 2) := by decide +kernel
theorem dL_law_1139 : decode cL_law 1139 = .ok (.i2l, 1) := by decide +kernel
theorem dL_law_1140 : decode cL_law 1140 = .ok (.lcmp, 1) := by decide +kernel
theorem dL_law_1141 : decode cL_law 1141 = .ok (.ifCond .eq 5, 3) := by decide +kernel
theorem dL_law_1144 : decode cL_law 1144 = .ok (.iconst 0, 1) := by decide +kernel
theorem dL_law_1146 : decode cL_law 1146 = .ok (.goto 1587, 3) := by decide +kernel
def f_law23 (N L : Nat) (xs : Nat → Int32) (i : Int32) (fo : (Nat → Int64)) (mv : MV) (xv : XV) (nv : SV) (tv : SV) (w0 : SV) (w1 : SV) (v0 : SV) (v1 : SV) (v2 : SV) (v3 : SV) (v4 : SV) (v5 : SV) : Option ((Nat → Int64) × MV × XV × SV × SV × SV × SV × SV × SV × SV × SV × SV × SV) :=
  gd (ixok (i + (1 : Int32)) L) ((f_L_sideOf N fo xv nv (xs (i + (1 : Int32)).toNatClampNeg)).bind (fun o2 => gd (ixok (i + (1 : Int32)) L) ((f_X6_sideOf N mv (xs (i + (1 : Int32)).toNatClampNeg)).bind (fun o5 => (f_X6_thrown N o5.2).bind (fun o7 => (if o7 = o2.1 then jn (fun (s1146 : Unit) => some (o2.2.1, o5.2, o2.2.2.1, o2.2.2.2, tv, w0, w1, v0, v1, v2, v3, v4, v5)) (fun (j1146 : (Unit) → Option ((Nat → Int64) × MV × XV × SV × SV × SV × SV × SV × SV × SV × SV × SV × SV)) => (if o2.1 = 0 then (if (lg_cmp (o2.2.1 (0 : Int32).toNatClampNeg) ((o5.1).toInt64)) = 0 then j1146 () else none) else j1146 ())) else none))))))
set_option maxHeartbeats 4000000 in
set_option maxRecDepth 100000 in
theorem law23 (hst : l.stackTraces = false) (hx : p.tables.exec = Jvm.exec) (hb : c.code = code) (hml : c.maxLocals = 9) (hown : s.vm.findClass RL = some m.cls) (hts : ∀ w ∈ wT, w.before args s = true) (hK : wK dC dI cyI cyO cyL s) (hZ : wZ z0 s) (hAz : ∀ q, A q → z0 ≤ q) (hz0 : z0 ≤ s.heap.size) (hA : ∀ q : Nat, s.heap.size ≤ q → A q) (hX : va_X b L xs s s.heap) (hbl : b < s.heap.size) (hbA : ¬ A b) (hRf : 11 ≤ R.frames) (hRl : 398 ≤ R.locals) (qo : Nat) (mm x an tr k0 k1 b0 b1 b2 b3 b4 b5 : Nat → Nat) (fl fs : Nat → Option Nat) (N : Nat) (fo : (Nat → Int64)) (mv : MV) (xv : XV) (nv : SV) (tv : SV) (w0 : SV) (w1 : SV) (v0 : SV) (v1 : SV) (v2 : SV) (v3 : SV) (v4 : SV) (v5 : SV) (i : Int32) (hl0 : fl 0 = some (k0 0)) (hl1 : fl 1 = some (k1 0)) (hs0 : fs 0 = some (b0 0)) (hs1 : fs 1 = some (b1 0)) (hs2 : fs 2 = some (b2 0)) (hs3 : fs 3 = some (b3 0)) (hs4 : fs 4 = some (b4 0)) (hs5 : fs 5 = some (b5 0)) (out : (Nat → Int64) × MV × XV × SV × SV × SV × SV × SV × SV × SV × SV × SV × SV) (hF : f_law23 N L xs i fo mv xv nv tv w0 w1 v0 v1 v2 v3 v4 v5 = some out) (hP : va_P (dC, dI) vwCl (([[cLo cyL qo 1 fo], (cM cyI mm mv), (cXo x an tr xv), (cH cyO (x 1) (x 2) 2 fl), (cXk cyI x xv), (cH cyO (x 4) (x 5) 6 fs), (cT cyI x (X_text xv)), (cSo an nv), (cG cyI an (S_green nv)), (cV cyI an (S_score nv)), (cSo tr tv), (cG cyI tr (S_green tv)), (cV cyI tr (S_score tv)), (cS cyI k0 w0), (cS cyI k1 w1), (cS cyI b0 v0), (cS cyI b1 v1), (cS cyI b2 v2), (cS cyI b3 v3), (cS cyI b4 v4), (cS cyI b5 v5)] : List va_W).flatten) H) (hD : va_D A (([[cLo cyL qo 1 fo], (cM cyI mm mv), (cXo x an tr xv), (cH cyO (x 1) (x 2) 2 fl), (cXk cyI x xv), (cH cyO (x 4) (x 5) 6 fs), (cT cyI x (X_text xv)), (cSo an nv), (cG cyI an (S_green nv)), (cV cyI an (S_score nv)), (cSo tr tv), (cG cyI tr (S_green tv)), (cV cyI tr (S_score tv)), (cS cyI k0 w0), (cS cyI k1 w1), (cS cyI b0 v0), (cS cyI b1 v1), (cS cyI b2 v2), (cS cyI b3 v3), (cS cyI b4 v4), (cS cyI b5 v5)] : List va_W).flatten)) (hS : va_S A s.heap H locs) (hl : lv_has ls 9 [(0, .ref b), (1, .ref (x 0)), (2, .ref (mm 0)), (3, .ref qo), (4, .int i)]) (hRc : cells + 4 ≤ R.cells) (hRs : slots + 24 ≤ R.slots) (kk : ∀ (H : Heap) (locs : List Loc) (ls : Array Slot), va_P (dC, dI) vwCl (([[cLo cyL qo 1 out.1], (cM cyI mm out.2.1), (cXo x an tr out.2.2.1), (cH cyO (x 1) (x 2) 2 fl), (cXk cyI x out.2.2.1), (cH cyO (x 4) (x 5) 6 fs), (cT cyI x (X_text out.2.2.1)), (cSo an out.2.2.2.1), (cG cyI an (S_green out.2.2.2.1)), (cV cyI an (S_score out.2.2.2.1)), (cSo tr out.2.2.2.2.1), (cG cyI tr (S_green out.2.2.2.2.1)), (cV cyI tr (S_score out.2.2.2.2.1)), (cS cyI k0 out.2.2.2.2.2.1), (cS cyI k1 out.2.2.2.2.2.2.1), (cS cyI b0 out.2.2.2.2.2.2.2.1), (cS cyI b1 out.2.2.2.2.2.2.2.2.1), (cS cyI b2 out.2.2.2.2.2.2.2.2.2.1), (cS cyI b3 out.2.2.2.2.2.2.2.2.2.2.1), (cS cyI b4 out.2.2.2.2.2.2.2.2.2.2.2.1), (cS cyI b5 out.2.2.2.2.2.2.2.2.2.2.2.2)] : List va_W).flatten) H → va_D A (([[cLo cyL qo 1 out.1], (cM cyI mm out.2.1), (cXo x an tr out.2.2.1), (cH cyO (x 1) (x 2) 2 fl), (cXk cyI x out.2.2.1), (cH cyO (x 4) (x 5) 6 fs), (cT cyI x (X_text out.2.2.1)), (cSo an out.2.2.2.1), (cG cyI an (S_green out.2.2.2.1)), (cV cyI an (S_score out.2.2.2.1)), (cSo tr out.2.2.2.2.1), (cG cyI tr (S_green out.2.2.2.2.1)), (cV cyI tr (S_score out.2.2.2.2.1)), (cS cyI k0 out.2.2.2.2.2.1), (cS cyI k1 out.2.2.2.2.2.2.1), (cS cyI b0 out.2.2.2.2.2.2.2.1), (cS cyI b1 out.2.2.2.2.2.2.2.2.1), (cS cyI b2 out.2.2.2.2.2.2.2.2.2.1), (cS cyI b3 out.2.2.2.2.2.2.2.2.2.2.1), (cS cyI b4 out.2.2.2.2.2.2.2.2.2.2.2.1), (cS cyI b5 out.2.2.2.2.2.2.2.2.2.2.2.2)] : List va_W).flatten) → va_S A s.heap H locs → lv_has ls 9 [(0, .ref b), (1, .ref (x 0)), (2, .ref (mm 0)), (3, .ref qo), (4, .int i)] → W p l e R s m args below meth c H locs (cells + 4) (slots + 24) Q (F0 m 2733 ls [])) : W p l e R s m args below meth c H locs cells slots Q (F0 m 1093 ls []) := by
  unfold f_law23 at hF
  refine lv_aload_n hx hb dL_law_1093 rfl (lv_at hl 1 rfl) ?_
  refine lv_aload_n hx hb dL_law_1094 rfl (lv_at hl 0 rfl) ?_
  refine lv_iload hx hb dL_law_1095 (lv_at hl 4 rfl) ?_
  refine lv_iconst (v := 1) hx hb dL_law_1097 (by decide) ?_
  refine lv_iadd hx hb dL_law_1098 ?_
  obtain ⟨hg1, hF⟩ := gd_use hF
  refine va_sld hx hb hX hbl hbA hS hg1 dL_law_1099 ?_
  refine lv_aload_n hx hb dL_law_1100 rfl (lv_at hl 3 rfl) ?_
  obtain ⟨o2, h3, hF⟩ := obd hF
  refine wcLi (As := [.ref (x 0), .int (xs (i + (1 : Int32)).toNatClampNeg), .ref qo]) (rest := []) (wr := ([(cM cyI mm mv), (cSo tr tv), (cG cyI tr (S_green tv)), (cV cyI tr (S_score tv)), (cS cyI k0 w0), (cS cyI k1 w1), (cS cyI b0 v0), (cS cyI b1 v1), (cS cyI b2 v2), (cS cyI b3 v3), (cS cyI b4 v4), (cS cyI b5 v5)] : List va_W).flatten) ⟨hx, hb, hml, hown, hts⟩ (met_L_sideOf l z0 hst dC dI cyI cyO cyL qo x tr an fl fs _ N fo xv nv (xs (i + (1 : Int32)).toNatClampNeg) o2 h3) (vx_cwSW 3 hts (gS w_methodLink_L_226 w_static_L_sideOf w_initialized_L w_codeW_L_sideOf) rfl rfl rfl (by decide +kernel) ⟨Nat.le_trans (Nat.le_of_ble_eq_true rfl) hRf, Nat.le_trans (Nat.le_of_ble_eq_true rfl) hRl⟩) hP hD hK hZ hAz hz0 (seg_perm (n := 21) (R := [(cM cyI mm mv), (cSo tr tv), (cG cyI tr (S_green tv)), (cV cyI tr (S_score tv)), (cS cyI k0 w0), (cS cyI k1 w1), (cS cyI b0 v0), (cS cyI b1 v1), (cS cyI b2 v2), (cS cyI b3 v3), (cS cyI b4 v4), (cS cyI b5 v5)]) (C := [[cLo cyL qo 1 fo], (cXo x an tr xv), (cH cyO (x 1) (x 2) 2 fl), (cXk cyI x xv), (cH cyO (x 4) (x 5) 6 fs), (cT cyI x (X_text xv)), (cSo an nv), (cG cyI an (S_green nv)), (cV cyI an (S_score nv))]) [1, 10, 11, 12, 13, 14, 15, 16, 17, 18, 19, 20] [0, 2, 3, 4, 5, 6, 7, 8, 9] rfl rfl rfl (by decide) rfl) rfl hl.1 (Nat.le_of_ble_eq_true rfl) dL_law_1101 ⟨by omega, by omega⟩ hS hA (fun r u H locs hw hP hD hS => ?_)
  obtain rfl : r = o2.1 := congrArg Prod.fst hw
  obtain rfl : u = o2.2 := congrArg Prod.snd hw
  clear hw
  have hq := seg_permS (segs := [[cLo cyL qo 1 o2.2.1], (cM cyI mm mv), (cXo x an tr o2.2.2.1), (cH cyO (x 1) (x 2) 2 fl), (cXk cyI x o2.2.2.1), (cH cyO (x 4) (x 5) 6 fs), (cT cyI x (X_text o2.2.2.1)), (cSo an o2.2.2.2), (cG cyI an (S_green o2.2.2.2)), (cV cyI an (S_score o2.2.2.2)), (cSo tr tv), (cG cyI tr (S_green tv)), (cV cyI tr (S_score tv)), (cS cyI k0 w0), (cS cyI k1 w1), (cS cyI b0 v0), (cS cyI b1 v1), (cS cyI b2 v2), (cS cyI b3 v3), (cS cyI b4 v4), (cS cyI b5 v5)]) (R := [(cM cyI mm mv), (cSo tr tv), (cG cyI tr (S_green tv)), (cV cyI tr (S_score tv)), (cS cyI k0 w0), (cS cyI k1 w1), (cS cyI b0 v0), (cS cyI b1 v1), (cS cyI b2 v2), (cS cyI b3 v3), (cS cyI b4 v4), (cS cyI b5 v5)]) (C := [[cLo cyL qo 1 o2.2.1], (cXo x an tr o2.2.2.1), (cH cyO (x 1) (x 2) 2 fl), (cXk cyI x o2.2.2.1), (cH cyO (x 4) (x 5) 6 fs), (cT cyI x (X_text o2.2.2.1)), (cSo an o2.2.2.2), (cG cyI an (S_green o2.2.2.2)), (cV cyI an (S_score o2.2.2.2))]) (n := 21) [1, 10, 11, 12, 13, 14, 15, 16, 17, 18, 19, 20] [0, 2, 3, 4, 5, 6, 7, 8, 9] rfl rfl rfl (by decide)
  have hP : va_P (dC, dI) vwCl (([[cLo cyL qo 1 o2.2.1], (cM cyI mm mv), (cXo x an tr o2.2.2.1), (cH cyO (x 1) (x 2) 2 fl), (cXk cyI x o2.2.2.1), (cH cyO (x 4) (x 5) 6 fs), (cT cyI x (X_text o2.2.2.1)), (cSo an o2.2.2.2), (cG cyI an (S_green o2.2.2.2)), (cV cyI an (S_score o2.2.2.2)), (cSo tr tv), (cG cyI tr (S_green tv)), (cV cyI tr (S_score tv)), (cS cyI k0 w0), (cS cyI k1 w1), (cS cyI b0 v0), (cS cyI b1 v1), (cS cyI b2 v2), (cS cyI b3 v3), (cS cyI b4 v4), (cS cyI b5 v5)] : List va_W).flatten) H := hP.perm hq
  have hD : va_D A (([[cLo cyL qo 1 o2.2.1], (cM cyI mm mv), (cXo x an tr o2.2.2.1), (cH cyO (x 1) (x 2) 2 fl), (cXk cyI x o2.2.2.1), (cH cyO (x 4) (x 5) 6 fs), (cT cyI x (X_text o2.2.2.1)), (cSo an o2.2.2.2), (cG cyI an (S_green o2.2.2.2)), (cV cyI an (S_score o2.2.2.2)), (cSo tr tv), (cG cyI tr (S_green tv)), (cV cyI tr (S_score tv)), (cS cyI k0 w0), (cS cyI k1 w1), (cS cyI b0 v0), (cS cyI b1 v1), (cS cyI b2 v2), (cS cyI b3 v3), (cS cyI b4 v4), (cS cyI b5 v5)] : List va_W).flatten) := hD.perm hq
  clear hq
  refine lv_istore (lv' := [(5, .int o2.1), (0, .ref b), (1, .ref (x 0)), (2, .ref (mm 0)), (3, .ref qo), (4, .int i)]) hx hb dL_law_1104 hl (by decide) rfl (fun ls hl => ?_)
  refine lv_aload_n hx hb dL_law_1106 rfl (lv_at hl 3 rfl) ?_
  refine lv_aload_n hx hb dL_law_1107 rfl (lv_at hl 1 rfl) ?_
  refine lv_iload hx hb dL_law_1108 (lv_at hl 5 rfl) ?_
  refine lv_iconst (v := 1) hx hb dL_law_1110 (by decide) ?_
  refine lv_iadd hx hb dL_law_1111 ?_
  obtain ⟨hg4, hF⟩ := gd_use hF
  refine va_sld hx hb hX hbl hbA hS hg4 dL_law_1112 ?_
  obtain ⟨o5, h6, hF⟩ := obd hF
  refine wcPVi (As := [.int (xs (i + (1 : Int32)).toNatClampNeg)]) (rest := []) (wr := ([[cLo cyL qo 1 o2.2.1], (cXo x an tr o2.2.2.1), (cH cyO (x 1) (x 2) 2 fl), (cXk cyI x o2.2.2.1), (cH cyO (x 4) (x 5) 6 fs), (cT cyI x (X_text o2.2.2.1)), (cSo an o2.2.2.2), (cG cyI an (S_green o2.2.2.2)), (cV cyI an (S_score o2.2.2.2)), (cSo tr tv), (cG cyI tr (S_green tv)), (cV cyI tr (S_score tv)), (cS cyI k0 w0), (cS cyI k1 w1), (cS cyI b0 v0), (cS cyI b1 v1), (cS cyI b2 v2), (cS cyI b3 v3), (cS cyI b4 v4), (cS cyI b5 v5)] : List va_W).flatten) (b := (mm 0)) ⟨hx, hb, hml, hown, hts⟩ (met_X6_sideOf l dC dI cyI cyO cyL mm _ N mv (xs (i + (1 : Int32)).toNatClampNeg) o5 h6) (cwV 1 hts (gV w_methodLink_L_228 w_instanceMethod_X6_sideOf w_selects_X6_sideOf w_initialized_X6 w_code_X6_sideOf) rfl rfl rfl (by decide +kernel) ⟨Nat.le_trans (Nat.le_of_ble_eq_true rfl) hRf, Nat.le_trans (Nat.le_of_ble_eq_true rfl) hRl⟩) (va_recv hK.1 hP (ci := 6) (q0 := 1) rfl rfl) hP hD hK (seg_perm (n := 21) (R := [[cLo cyL qo 1 o2.2.1], (cXo x an tr o2.2.2.1), (cH cyO (x 1) (x 2) 2 fl), (cXk cyI x o2.2.2.1), (cH cyO (x 4) (x 5) 6 fs), (cT cyI x (X_text o2.2.2.1)), (cSo an o2.2.2.2), (cG cyI an (S_green o2.2.2.2)), (cV cyI an (S_score o2.2.2.2)), (cSo tr tv), (cG cyI tr (S_green tv)), (cV cyI tr (S_score tv)), (cS cyI k0 w0), (cS cyI k1 w1), (cS cyI b0 v0), (cS cyI b1 v1), (cS cyI b2 v2), (cS cyI b3 v3), (cS cyI b4 v4), (cS cyI b5 v5)]) (C := [(cM cyI mm mv)]) [0, 2, 3, 4, 5, 6, 7, 8, 9, 10, 11, 12, 13, 14, 15, 16, 17, 18, 19, 20] [1] rfl rfl rfl (by decide) rfl) rfl hl.1 (Nat.le_of_ble_eq_true rfl) dL_law_1113 ⟨by omega, by omega⟩ hS hA (fun r u H locs hw hP hD hS => ?_)
  obtain rfl : r = o5.1 := congrArg Prod.fst hw
  obtain rfl : u = o5.2 := congrArg Prod.snd hw
  clear hw
  have hq := seg_permS (segs := [[cLo cyL qo 1 o2.2.1], (cM cyI mm o5.2), (cXo x an tr o2.2.2.1), (cH cyO (x 1) (x 2) 2 fl), (cXk cyI x o2.2.2.1), (cH cyO (x 4) (x 5) 6 fs), (cT cyI x (X_text o2.2.2.1)), (cSo an o2.2.2.2), (cG cyI an (S_green o2.2.2.2)), (cV cyI an (S_score o2.2.2.2)), (cSo tr tv), (cG cyI tr (S_green tv)), (cV cyI tr (S_score tv)), (cS cyI k0 w0), (cS cyI k1 w1), (cS cyI b0 v0), (cS cyI b1 v1), (cS cyI b2 v2), (cS cyI b3 v3), (cS cyI b4 v4), (cS cyI b5 v5)]) (R := [[cLo cyL qo 1 o2.2.1], (cXo x an tr o2.2.2.1), (cH cyO (x 1) (x 2) 2 fl), (cXk cyI x o2.2.2.1), (cH cyO (x 4) (x 5) 6 fs), (cT cyI x (X_text o2.2.2.1)), (cSo an o2.2.2.2), (cG cyI an (S_green o2.2.2.2)), (cV cyI an (S_score o2.2.2.2)), (cSo tr tv), (cG cyI tr (S_green tv)), (cV cyI tr (S_score tv)), (cS cyI k0 w0), (cS cyI k1 w1), (cS cyI b0 v0), (cS cyI b1 v1), (cS cyI b2 v2), (cS cyI b3 v3), (cS cyI b4 v4), (cS cyI b5 v5)]) (C := [(cM cyI mm o5.2)]) (n := 21) [0, 2, 3, 4, 5, 6, 7, 8, 9, 10, 11, 12, 13, 14, 15, 16, 17, 18, 19, 20] [1] rfl rfl rfl (by decide)
  have hP : va_P (dC, dI) vwCl (([[cLo cyL qo 1 o2.2.1], (cM cyI mm o5.2), (cXo x an tr o2.2.2.1), (cH cyO (x 1) (x 2) 2 fl), (cXk cyI x o2.2.2.1), (cH cyO (x 4) (x 5) 6 fs), (cT cyI x (X_text o2.2.2.1)), (cSo an o2.2.2.2), (cG cyI an (S_green o2.2.2.2)), (cV cyI an (S_score o2.2.2.2)), (cSo tr tv), (cG cyI tr (S_green tv)), (cV cyI tr (S_score tv)), (cS cyI k0 w0), (cS cyI k1 w1), (cS cyI b0 v0), (cS cyI b1 v1), (cS cyI b2 v2), (cS cyI b3 v3), (cS cyI b4 v4), (cS cyI b5 v5)] : List va_W).flatten) H := hP.perm hq
  have hD : va_D A (([[cLo cyL qo 1 o2.2.1], (cM cyI mm o5.2), (cXo x an tr o2.2.2.1), (cH cyO (x 1) (x 2) 2 fl), (cXk cyI x o2.2.2.1), (cH cyO (x 4) (x 5) 6 fs), (cT cyI x (X_text o2.2.2.1)), (cSo an o2.2.2.2), (cG cyI an (S_green o2.2.2.2)), (cV cyI an (S_score o2.2.2.2)), (cSo tr tv), (cG cyI tr (S_green tv)), (cV cyI tr (S_score tv)), (cS cyI k0 w0), (cS cyI k1 w1), (cS cyI b0 v0), (cS cyI b1 v1), (cS cyI b2 v2), (cS cyI b3 v3), (cS cyI b4 v4), (cS cyI b5 v5)] : List va_W).flatten) := hD.perm hq
  clear hq
  refine lv_istore (lv' := [(6, .int o5.1), (5, .int o2.1), (0, .ref b), (1, .ref (x 0)), (2, .ref (mm 0)), (3, .ref qo), (4, .int i)]) hx hb dL_law_1116 hl (by decide) rfl (fun ls hl => ?_)
  refine lv_aload_n hx hb dL_law_1118 rfl (lv_at hl 4 rfl) ?_
  obtain ⟨o7, h8, hF⟩ := obd hF
  refine wcRVi (As := []) (rest := []) (b := (mm 0)) ⟨hx, hb, hml, hown, hts⟩ (met_X6_thrown l dC dI cyI cyO cyL mm N o5.2  o7 h8) (cwV 0 hts (gV w_methodLink_L_143 w_instanceMethod_X6_thrown w_selects_X6_thrown w_initialized_X6 w_code_X6_thrown) rfl rfl rfl (by decide +kernel) ⟨Nat.le_trans (Nat.le_of_ble_eq_true rfl) hRf, Nat.le_trans (Nat.le_of_ble_eq_true rfl) hRl⟩) (va_recv hK.1 hP (ci := 6) (q0 := 1) rfl rfl) hP hK [1, 2, 3, 4, 5, 6, 7, 8] rfl rfl hl.1 (Nat.le_of_ble_eq_true rfl) dL_law_1119 ⟨by omega, by omega⟩ hS (fun r H locs hw hP hS => ?_)
  have hw := hw.symm
  subst hw
  refine lv_iload hx hb dL_law_1122 (lv_at hl 1 rfl) ?_
  refine lv_icmp_eq (tgt := 1129) hx hb dL_law_1124 (by decide) (fun c9 => ?_) (fun c9 => ?_)
  · have hF := itp c9 hF
    refine lv_iload hx hb dL_law_1129 (lv_at hl 1 rfl) ?_
    obtain ⟨j1146, hj1146, hF⟩ := jn_use hF
    have hJ1146 : ∀ (s1146 : Unit) (H : Heap) (locs : List Loc) (ls : Array Slot), va_P (dC, dI) vwCl (([[cLo cyL qo 1 o2.2.1], (cM cyI mm o5.2), (cXo x an tr o2.2.2.1), (cH cyO (x 1) (x 2) 2 fl), (cXk cyI x o2.2.2.1), (cH cyO (x 4) (x 5) 6 fs), (cT cyI x (X_text o2.2.2.1)), (cSo an o2.2.2.2), (cG cyI an (S_green o2.2.2.2)), (cV cyI an (S_score o2.2.2.2)), (cSo tr tv), (cG cyI tr (S_green tv)), (cV cyI tr (S_score tv)), (cS cyI k0 w0), (cS cyI k1 w1), (cS cyI b0 v0), (cS cyI b1 v1), (cS cyI b2 v2), (cS cyI b3 v3), (cS cyI b4 v4), (cS cyI b5 v5)] : List va_W).flatten) H → va_D A (([[cLo cyL qo 1 o2.2.1], (cM cyI mm o5.2), (cXo x an tr o2.2.2.1), (cH cyO (x 1) (x 2) 2 fl), (cXk cyI x o2.2.2.1), (cH cyO (x 4) (x 5) 6 fs), (cT cyI x (X_text o2.2.2.1)), (cSo an o2.2.2.2), (cG cyI an (S_green o2.2.2.2)), (cV cyI an (S_score o2.2.2.2)), (cSo tr tv), (cG cyI tr (S_green tv)), (cV cyI tr (S_score tv)), (cS cyI k0 w0), (cS cyI k1 w1), (cS cyI b0 v0), (cS cyI b1 v1), (cS cyI b2 v2), (cS cyI b3 v3), (cS cyI b4 v4), (cS cyI b5 v5)] : List va_W).flatten) → va_S A s.heap H locs → lv_has ls 9 [(0, .ref b), (1, .ref (x 0)), (2, .ref (mm 0)), (3, .ref qo), (4, .int i)] → j1146 s1146 = some out → W p l e R s m args below meth c H locs (cells + 1) (slots + 6) Q (F0 m 1146 ls []) := by
      intro s1146 H locs ls hP hD hS hl hF
      have hF := (congrFun hj1146 s1146).symm.trans hF
      refine lv_goto (tgt := 2733) hx hb dL_law_1146 (by decide) ?_
      obtain rfl := Option.some.inj hF
      refine W.widen (k := cells + 4) (n := slots + 24) (by omega) (by omega) ?_
      exact kk _ _ _ hP hD hS (lv_sub hl [0, 1, 2, 3, 4] rfl)
    refine lv_if_ne (tgt := 1146) hx hb dL_law_1131 (by decide) (fun c10 => ?_) (fun c10 => ?_)
    · have hF := itn c10 hF
      exact hJ1146 () _ _ _ hP hD hS (lv_sub hl [2, 3, 4, 5, 6] rfl) hF
    · have hF := itp c10 hF
      refine lv_aload_n hx hb dL_law_1134 rfl (lv_at hl 5 rfl) ?_
      refine lv_iconst (v := 0) hx hb dL_law_1135 (by decide) ?_
      refine va_lald hx hb hK.1 hP 0 2 rfl rfl (i := (0 : Int32)) (show ixok (0 : Int32) 1 by decide) dL_law_1136 ?_
      refine lv_iload hx hb dL_law_1137 (lv_at hl 0 rfl) ?_
      refine lv_i2l (v := (o5.1).toInt64) hx hb dL_law_1139 rfl ?_
      refine W.lcmp hx hb dL_law_1140 ?_
      refine lv_if_eq (tgt := 1146) hx hb dL_law_1141 (by decide) (fun c11 => ?_) (fun c11 => ?_)
      · have hF := itp c11 hF
        exact hJ1146 () _ _ _ hP hD hS (lv_sub hl [2, 3, 4, 5, 6] rfl) hF
      · have hF := itn c11 hF
        refine lv_iconst (v := 0) hx hb dL_law_1144 (by decide) ?_
        cases hF
  · have hF := itn c9 hF
    refine lv_iconst (v := 0) hx hb dL_law_1127 (by decide) ?_
    cases hF
theorem dL_law_1149 : decode cL_law 1149 = .ok (.aload_n 1, 1) := by decide +kernel
theorem dL_law_1150 : decode cL_law 1150 = .ok (.aload_n 0, 1) := by decide +kernel
theorem dL_law_1151 : decode cL_law 1151 = .ok (.iload 4, 2) := by decide +kernel
theorem dL_law_1153 : decode cL_law 1153 = .ok (.iconst 1, 1) := by decide +kernel
theorem dL_law_1154 : decode cL_law 1154 = .ok (.iadd, 1) := by decide +kernel
theorem dL_law_1155 : decode cL_law 1155 = .ok (.iaload, 1) := by decide +kernel
theorem dL_law_1156 : decode cL_law 1156 = .ok (.aload_n 3, 1) := by decide +kernel
theorem dL_law_1157 : decode cL_law 1157 = .ok (.invokestatic 229, 3) := by decide +kernel
theorem dL_law_1160 : decode cL_law 1160 = .ok (.istore 5, 2) := by decide +kernel
theorem dL_law_1162 : decode cL_law 1162 = .ok (.aload_n 2, 1) := by decide +kernel
theorem dL_law_1163 : decode cL_law 1163 = .ok (.aload_n 0, 1) := by decide +kernel
theorem dL_law_1164 : decode cL_law 1164 = .ok (.iload 4, 2) := by decide +kernel
theorem dL_law_1166 : decode cL_law 1166 = .ok (.iconst 1, 1) := by decide +kernel
theorem dL_law_1167 : decode cL_law 1167 = .ok (.iadd, 1) := by decide +kernel
theorem dL_law_1168 : decode cL_law 1168 = .ok (.iaload, 1) := by decide +kernel
theorem dL_law_1169 : decode cL_law 1169 = .ok (.invokevirtual 231, 3) := by decide +kernel
theorem dL_law_1172 : decode cL_law 1172 = .ok (.istore 6, 2) := by decide +kernel
theorem dL_law_1174 : decode cL_law 1174 = .ok (.aload_n 2, 1) := by decide +kernel
theorem dL_law_1175 : decode cL_law 1175 = .ok (.invokevirtual 143, 3) := by decide +kernel
theorem dL_law_1178 : decode cL_law 1178 = .ok (.iload 5, 2) := by decide +kernel
theorem dL_law_1180 : decode cL_law 1180 = .ok (.if_icmp .eq 5, 3) := by decide +kernel
theorem dL_law_1183 : decode cL_law 1183 = .ok (.iconst 0, 1) := by decide +kernel
theorem dL_law_1185 : decode cL_law 1185 = .ok (.iload 5, 2) := by decide +kernel
theorem dL_law_1187 : decode cL_law 1187 = .ok (.ifCond .ne 15, 3) := by decide +kernel
theorem dL_law_1190 : decode cL_law 1190 = .ok (.aload_n 3, 1) := by decide +kernel
theorem dL_law_1191 : decode cL_law 1191 = .ok (.iconst 0, 1) := by decide +kernel
theorem dL_law_1192 : decode cL_law 1192 = .ok (.laload, 1) := by decide +kernel
theorem dL_law_1193 : decode cL_law 1193 = .ok (.iload 6, 2) := by decide +kernel
theorem dL_law_1195 : decode cL_law 1195 = .ok (.i2l, 1) := by decide +kernel
theorem dL_law_1196 : decode cL_law 1196 = .ok (.lcmp, 1) := by decide +kernel
theorem dL_law_1197 : decode cL_law 1197 = .ok (.ifCond .eq 5, 3) := by decide +kernel
theorem dL_law_1200 : decode cL_law 1200 = .ok (.iconst 0, 1) := by decide +kernel
theorem dL_law_1202 : decode cL_law 1202 = .ok (.goto 1531, 3) := by decide +kernel
def f_law24 (N L : Nat) (xs : Nat → Int32) (i : Int32) (fo : (Nat → Int64)) (mv : MV) (xv : XV) (nv : SV) (tv : SV) (w0 : SV) (w1 : SV) (v0 : SV) (v1 : SV) (v2 : SV) (v3 : SV) (v4 : SV) (v5 : SV) : Option ((Nat → Int64) × MV × XV × SV × SV × SV × SV × SV × SV × SV × SV × SV × SV) :=
  gd (ixok (i + (1 : Int32)) L) ((f_L_stateOf N fo xv nv (xs (i + (1 : Int32)).toNatClampNeg)).bind (fun o2 => gd (ixok (i + (1 : Int32)) L) ((f_X6_stateOf N mv (xs (i + (1 : Int32)).toNatClampNeg)).bind (fun o5 => (f_X6_thrown N o5.2).bind (fun o7 => (if o7 = o2.1 then jn (fun (s1202 : Unit) => some (o2.2.1, o5.2, o2.2.2.1, o2.2.2.2, tv, w0, w1, v0, v1, v2, v3, v4, v5)) (fun (j1202 : (Unit) → Option ((Nat → Int64) × MV × XV × SV × SV × SV × SV × SV × SV × SV × SV × SV × SV)) => (if o2.1 = 0 then (if (lg_cmp (o2.2.1 (0 : Int32).toNatClampNeg) ((o5.1).toInt64)) = 0 then j1202 () else none) else j1202 ())) else none))))))
set_option maxHeartbeats 4000000 in
set_option maxRecDepth 100000 in
theorem law24 (hst : l.stackTraces = false) (hx : p.tables.exec = Jvm.exec) (hb : c.code = code) (hml : c.maxLocals = 9) (hown : s.vm.findClass RL = some m.cls) (hts : ∀ w ∈ wT, w.before args s = true) (hK : wK dC dI cyI cyO cyL s) (hZ : wZ z0 s) (hAz : ∀ q, A q → z0 ≤ q) (hz0 : z0 ≤ s.heap.size) (hA : ∀ q : Nat, s.heap.size ≤ q → A q) (hX : va_X b L xs s s.heap) (hbl : b < s.heap.size) (hbA : ¬ A b) (hRf : 11 ≤ R.frames) (hRl : 398 ≤ R.locals) (qo : Nat) (mm x an tr k0 k1 b0 b1 b2 b3 b4 b5 : Nat → Nat) (fl fs : Nat → Option Nat) (N : Nat) (fo : (Nat → Int64)) (mv : MV) (xv : XV) (nv : SV) (tv : SV) (w0 : SV) (w1 : SV) (v0 : SV) (v1 : SV) (v2 : SV) (v3 : SV) (v4 : SV) (v5 : SV) (i : Int32) (hl0 : fl 0 = some (k0 0)) (hl1 : fl 1 = some (k1 0)) (hs0 : fs 0 = some (b0 0)) (hs1 : fs 1 = some (b1 0)) (hs2 : fs 2 = some (b2 0)) (hs3 : fs 3 = some (b3 0)) (hs4 : fs 4 = some (b4 0)) (hs5 : fs 5 = some (b5 0)) (out : (Nat → Int64) × MV × XV × SV × SV × SV × SV × SV × SV × SV × SV × SV × SV) (hF : f_law24 N L xs i fo mv xv nv tv w0 w1 v0 v1 v2 v3 v4 v5 = some out) (hP : va_P (dC, dI) vwCl (([[cLo cyL qo 1 fo], (cM cyI mm mv), (cXo x an tr xv), (cH cyO (x 1) (x 2) 2 fl), (cXk cyI x xv), (cH cyO (x 4) (x 5) 6 fs), (cT cyI x (X_text xv)), (cSo an nv), (cG cyI an (S_green nv)), (cV cyI an (S_score nv)), (cSo tr tv), (cG cyI tr (S_green tv)), (cV cyI tr (S_score tv)), (cS cyI k0 w0), (cS cyI k1 w1), (cS cyI b0 v0), (cS cyI b1 v1), (cS cyI b2 v2), (cS cyI b3 v3), (cS cyI b4 v4), (cS cyI b5 v5)] : List va_W).flatten) H) (hD : va_D A (([[cLo cyL qo 1 fo], (cM cyI mm mv), (cXo x an tr xv), (cH cyO (x 1) (x 2) 2 fl), (cXk cyI x xv), (cH cyO (x 4) (x 5) 6 fs), (cT cyI x (X_text xv)), (cSo an nv), (cG cyI an (S_green nv)), (cV cyI an (S_score nv)), (cSo tr tv), (cG cyI tr (S_green tv)), (cV cyI tr (S_score tv)), (cS cyI k0 w0), (cS cyI k1 w1), (cS cyI b0 v0), (cS cyI b1 v1), (cS cyI b2 v2), (cS cyI b3 v3), (cS cyI b4 v4), (cS cyI b5 v5)] : List va_W).flatten)) (hS : va_S A s.heap H locs) (hl : lv_has ls 9 [(0, .ref b), (1, .ref (x 0)), (2, .ref (mm 0)), (3, .ref qo), (4, .int i)]) (hRc : cells + 4 ≤ R.cells) (hRs : slots + 24 ≤ R.slots) (kk : ∀ (H : Heap) (locs : List Loc) (ls : Array Slot), va_P (dC, dI) vwCl (([[cLo cyL qo 1 out.1], (cM cyI mm out.2.1), (cXo x an tr out.2.2.1), (cH cyO (x 1) (x 2) 2 fl), (cXk cyI x out.2.2.1), (cH cyO (x 4) (x 5) 6 fs), (cT cyI x (X_text out.2.2.1)), (cSo an out.2.2.2.1), (cG cyI an (S_green out.2.2.2.1)), (cV cyI an (S_score out.2.2.2.1)), (cSo tr out.2.2.2.2.1), (cG cyI tr (S_green out.2.2.2.2.1)), (cV cyI tr (S_score out.2.2.2.2.1)), (cS cyI k0 out.2.2.2.2.2.1), (cS cyI k1 out.2.2.2.2.2.2.1), (cS cyI b0 out.2.2.2.2.2.2.2.1), (cS cyI b1 out.2.2.2.2.2.2.2.2.1), (cS cyI b2 out.2.2.2.2.2.2.2.2.2.1), (cS cyI b3 out.2.2.2.2.2.2.2.2.2.2.1), (cS cyI b4 out.2.2.2.2.2.2.2.2.2.2.2.1), (cS cyI b5 out.2.2.2.2.2.2.2.2.2.2.2.2)] : List va_W).flatten) H → va_D A (([[cLo cyL qo 1 out.1], (cM cyI mm out.2.1), (cXo x an tr out.2.2.1), (cH cyO (x 1) (x 2) 2 fl), (cXk cyI x out.2.2.1), (cH cyO (x 4) (x 5) 6 fs), (cT cyI x (X_text out.2.2.1)), (cSo an out.2.2.2.1), (cG cyI an (S_green out.2.2.2.1)), (cV cyI an (S_score out.2.2.2.1)), (cSo tr out.2.2.2.2.1), (cG cyI tr (S_green out.2.2.2.2.1)), (cV cyI tr (S_score out.2.2.2.2.1)), (cS cyI k0 out.2.2.2.2.2.1), (cS cyI k1 out.2.2.2.2.2.2.1), (cS cyI b0 out.2.2.2.2.2.2.2.1), (cS cyI b1 out.2.2.2.2.2.2.2.2.1), (cS cyI b2 out.2.2.2.2.2.2.2.2.2.1), (cS cyI b3 out.2.2.2.2.2.2.2.2.2.2.1), (cS cyI b4 out.2.2.2.2.2.2.2.2.2.2.2.1), (cS cyI b5 out.2.2.2.2.2.2.2.2.2.2.2.2)] : List va_W).flatten) → va_S A s.heap H locs → lv_has ls 9 [(0, .ref b), (1, .ref (x 0)), (2, .ref (mm 0)), (3, .ref qo), (4, .int i)] → W p l e R s m args below meth c H locs (cells + 4) (slots + 24) Q (F0 m 2733 ls [])) : W p l e R s m args below meth c H locs cells slots Q (F0 m 1149 ls []) := by
  unfold f_law24 at hF
  refine lv_aload_n hx hb dL_law_1149 rfl (lv_at hl 1 rfl) ?_
  refine lv_aload_n hx hb dL_law_1150 rfl (lv_at hl 0 rfl) ?_
  refine lv_iload hx hb dL_law_1151 (lv_at hl 4 rfl) ?_
  refine lv_iconst (v := 1) hx hb dL_law_1153 (by decide) ?_
  refine lv_iadd hx hb dL_law_1154 ?_
  obtain ⟨hg1, hF⟩ := gd_use hF
  refine va_sld hx hb hX hbl hbA hS hg1 dL_law_1155 ?_
  refine lv_aload_n hx hb dL_law_1156 rfl (lv_at hl 3 rfl) ?_
  obtain ⟨o2, h3, hF⟩ := obd hF
  refine wcLi (As := [.ref (x 0), .int (xs (i + (1 : Int32)).toNatClampNeg), .ref qo]) (rest := []) (wr := ([(cM cyI mm mv), (cSo tr tv), (cG cyI tr (S_green tv)), (cV cyI tr (S_score tv)), (cS cyI k0 w0), (cS cyI k1 w1), (cS cyI b0 v0), (cS cyI b1 v1), (cS cyI b2 v2), (cS cyI b3 v3), (cS cyI b4 v4), (cS cyI b5 v5)] : List va_W).flatten) ⟨hx, hb, hml, hown, hts⟩ (met_L_stateOf l z0 hst dC dI cyI cyO cyL qo x tr an fl fs _ N fo xv nv (xs (i + (1 : Int32)).toNatClampNeg) o2 h3) (vx_cwSW 3 hts (gS w_methodLink_L_229 w_static_L_stateOf w_initialized_L w_codeW_L_stateOf) rfl rfl rfl (by decide +kernel) ⟨Nat.le_trans (Nat.le_of_ble_eq_true rfl) hRf, Nat.le_trans (Nat.le_of_ble_eq_true rfl) hRl⟩) hP hD hK hZ hAz hz0 (seg_perm (n := 21) (R := [(cM cyI mm mv), (cSo tr tv), (cG cyI tr (S_green tv)), (cV cyI tr (S_score tv)), (cS cyI k0 w0), (cS cyI k1 w1), (cS cyI b0 v0), (cS cyI b1 v1), (cS cyI b2 v2), (cS cyI b3 v3), (cS cyI b4 v4), (cS cyI b5 v5)]) (C := [[cLo cyL qo 1 fo], (cXo x an tr xv), (cH cyO (x 1) (x 2) 2 fl), (cXk cyI x xv), (cH cyO (x 4) (x 5) 6 fs), (cT cyI x (X_text xv)), (cSo an nv), (cG cyI an (S_green nv)), (cV cyI an (S_score nv))]) [1, 10, 11, 12, 13, 14, 15, 16, 17, 18, 19, 20] [0, 2, 3, 4, 5, 6, 7, 8, 9] rfl rfl rfl (by decide) rfl) rfl hl.1 (Nat.le_of_ble_eq_true rfl) dL_law_1157 ⟨by omega, by omega⟩ hS hA (fun r u H locs hw hP hD hS => ?_)
  obtain rfl : r = o2.1 := congrArg Prod.fst hw
  obtain rfl : u = o2.2 := congrArg Prod.snd hw
  clear hw
  have hq := seg_permS (segs := [[cLo cyL qo 1 o2.2.1], (cM cyI mm mv), (cXo x an tr o2.2.2.1), (cH cyO (x 1) (x 2) 2 fl), (cXk cyI x o2.2.2.1), (cH cyO (x 4) (x 5) 6 fs), (cT cyI x (X_text o2.2.2.1)), (cSo an o2.2.2.2), (cG cyI an (S_green o2.2.2.2)), (cV cyI an (S_score o2.2.2.2)), (cSo tr tv), (cG cyI tr (S_green tv)), (cV cyI tr (S_score tv)), (cS cyI k0 w0), (cS cyI k1 w1), (cS cyI b0 v0), (cS cyI b1 v1), (cS cyI b2 v2), (cS cyI b3 v3), (cS cyI b4 v4), (cS cyI b5 v5)]) (R := [(cM cyI mm mv), (cSo tr tv), (cG cyI tr (S_green tv)), (cV cyI tr (S_score tv)), (cS cyI k0 w0), (cS cyI k1 w1), (cS cyI b0 v0), (cS cyI b1 v1), (cS cyI b2 v2), (cS cyI b3 v3), (cS cyI b4 v4), (cS cyI b5 v5)]) (C := [[cLo cyL qo 1 o2.2.1], (cXo x an tr o2.2.2.1), (cH cyO (x 1) (x 2) 2 fl), (cXk cyI x o2.2.2.1), (cH cyO (x 4) (x 5) 6 fs), (cT cyI x (X_text o2.2.2.1)), (cSo an o2.2.2.2), (cG cyI an (S_green o2.2.2.2)), (cV cyI an (S_score o2.2.2.2))]) (n := 21) [1, 10, 11, 12, 13, 14, 15, 16, 17, 18, 19, 20] [0, 2, 3, 4, 5, 6, 7, 8, 9] rfl rfl rfl (by decide)
  have hP : va_P (dC, dI) vwCl (([[cLo cyL qo 1 o2.2.1], (cM cyI mm mv), (cXo x an tr o2.2.2.1), (cH cyO (x 1) (x 2) 2 fl), (cXk cyI x o2.2.2.1), (cH cyO (x 4) (x 5) 6 fs), (cT cyI x (X_text o2.2.2.1)), (cSo an o2.2.2.2), (cG cyI an (S_green o2.2.2.2)), (cV cyI an (S_score o2.2.2.2)), (cSo tr tv), (cG cyI tr (S_green tv)), (cV cyI tr (S_score tv)), (cS cyI k0 w0), (cS cyI k1 w1), (cS cyI b0 v0), (cS cyI b1 v1), (cS cyI b2 v2), (cS cyI b3 v3), (cS cyI b4 v4), (cS cyI b5 v5)] : List va_W).flatten) H := hP.perm hq
  have hD : va_D A (([[cLo cyL qo 1 o2.2.1], (cM cyI mm mv), (cXo x an tr o2.2.2.1), (cH cyO (x 1) (x 2) 2 fl), (cXk cyI x o2.2.2.1), (cH cyO (x 4) (x 5) 6 fs), (cT cyI x (X_text o2.2.2.1)), (cSo an o2.2.2.2), (cG cyI an (S_green o2.2.2.2)), (cV cyI an (S_score o2.2.2.2)), (cSo tr tv), (cG cyI tr (S_green tv)), (cV cyI tr (S_score tv)), (cS cyI k0 w0), (cS cyI k1 w1), (cS cyI b0 v0), (cS cyI b1 v1), (cS cyI b2 v2), (cS cyI b3 v3), (cS cyI b4 v4), (cS cyI b5 v5)] : List va_W).flatten) := hD.perm hq
  clear hq
  refine lv_istore (lv' := [(5, .int o2.1), (0, .ref b), (1, .ref (x 0)), (2, .ref (mm 0)), (3, .ref qo), (4, .int i)]) hx hb dL_law_1160 hl (by decide) rfl (fun ls hl => ?_)
  refine lv_aload_n hx hb dL_law_1162 rfl (lv_at hl 3 rfl) ?_
  refine lv_aload_n hx hb dL_law_1163 rfl (lv_at hl 1 rfl) ?_
  refine lv_iload hx hb dL_law_1164 (lv_at hl 5 rfl) ?_
  refine lv_iconst (v := 1) hx hb dL_law_1166 (by decide) ?_
  refine lv_iadd hx hb dL_law_1167 ?_
  obtain ⟨hg4, hF⟩ := gd_use hF
  refine va_sld hx hb hX hbl hbA hS hg4 dL_law_1168 ?_
  obtain ⟨o5, h6, hF⟩ := obd hF
  refine wcPVi (As := [.int (xs (i + (1 : Int32)).toNatClampNeg)]) (rest := []) (wr := ([[cLo cyL qo 1 o2.2.1], (cXo x an tr o2.2.2.1), (cH cyO (x 1) (x 2) 2 fl), (cXk cyI x o2.2.2.1), (cH cyO (x 4) (x 5) 6 fs), (cT cyI x (X_text o2.2.2.1)), (cSo an o2.2.2.2), (cG cyI an (S_green o2.2.2.2)), (cV cyI an (S_score o2.2.2.2)), (cSo tr tv), (cG cyI tr (S_green tv)), (cV cyI tr (S_score tv)), (cS cyI k0 w0), (cS cyI k1 w1), (cS cyI b0 v0), (cS cyI b1 v1), (cS cyI b2 v2), (cS cyI b3 v3), (cS cyI b4 v4), (cS cyI b5 v5)] : List va_W).flatten) (b := (mm 0)) ⟨hx, hb, hml, hown, hts⟩ (met_X6_stateOf l dC dI cyI cyO cyL mm _ N mv (xs (i + (1 : Int32)).toNatClampNeg) o5 h6) (cwV 1 hts (gV w_methodLink_L_231 w_instanceMethod_X6_stateOf w_selects_X6_stateOf w_initialized_X6 w_code_X6_stateOf) rfl rfl rfl (by decide +kernel) ⟨Nat.le_trans (Nat.le_of_ble_eq_true rfl) hRf, Nat.le_trans (Nat.le_of_ble_eq_true rfl) hRl⟩) (va_recv hK.1 hP (ci := 6) (q0 := 1) rfl rfl) hP hD hK (seg_perm (n := 21) (R := [[cLo cyL qo 1 o2.2.1], (cXo x an tr o2.2.2.1), (cH cyO (x 1) (x 2) 2 fl), (cXk cyI x o2.2.2.1), (cH cyO (x 4) (x 5) 6 fs), (cT cyI x (X_text o2.2.2.1)), (cSo an o2.2.2.2), (cG cyI an (S_green o2.2.2.2)), (cV cyI an (S_score o2.2.2.2)), (cSo tr tv), (cG cyI tr (S_green tv)), (cV cyI tr (S_score tv)), (cS cyI k0 w0), (cS cyI k1 w1), (cS cyI b0 v0), (cS cyI b1 v1), (cS cyI b2 v2), (cS cyI b3 v3), (cS cyI b4 v4), (cS cyI b5 v5)]) (C := [(cM cyI mm mv)]) [0, 2, 3, 4, 5, 6, 7, 8, 9, 10, 11, 12, 13, 14, 15, 16, 17, 18, 19, 20] [1] rfl rfl rfl (by decide) rfl) rfl hl.1 (Nat.le_of_ble_eq_true rfl) dL_law_1169 ⟨by omega, by omega⟩ hS hA (fun r u H locs hw hP hD hS => ?_)
  obtain rfl : r = o5.1 := congrArg Prod.fst hw
  obtain rfl : u = o5.2 := congrArg Prod.snd hw
  clear hw
  have hq := seg_permS (segs := [[cLo cyL qo 1 o2.2.1], (cM cyI mm o5.2), (cXo x an tr o2.2.2.1), (cH cyO (x 1) (x 2) 2 fl), (cXk cyI x o2.2.2.1), (cH cyO (x 4) (x 5) 6 fs), (cT cyI x (X_text o2.2.2.1)), (cSo an o2.2.2.2), (cG cyI an (S_green o2.2.2.2)), (cV cyI an (S_score o2.2.2.2)), (cSo tr tv), (cG cyI tr (S_green tv)), (cV cyI tr (S_score tv)), (cS cyI k0 w0), (cS cyI k1 w1), (cS cyI b0 v0), (cS cyI b1 v1), (cS cyI b2 v2), (cS cyI b3 v3), (cS cyI b4 v4), (cS cyI b5 v5)]) (R := [[cLo cyL qo 1 o2.2.1], (cXo x an tr o2.2.2.1), (cH cyO (x 1) (x 2) 2 fl), (cXk cyI x o2.2.2.1), (cH cyO (x 4) (x 5) 6 fs), (cT cyI x (X_text o2.2.2.1)), (cSo an o2.2.2.2), (cG cyI an (S_green o2.2.2.2)), (cV cyI an (S_score o2.2.2.2)), (cSo tr tv), (cG cyI tr (S_green tv)), (cV cyI tr (S_score tv)), (cS cyI k0 w0), (cS cyI k1 w1), (cS cyI b0 v0), (cS cyI b1 v1), (cS cyI b2 v2), (cS cyI b3 v3), (cS cyI b4 v4), (cS cyI b5 v5)]) (C := [(cM cyI mm o5.2)]) (n := 21) [0, 2, 3, 4, 5, 6, 7, 8, 9, 10, 11, 12, 13, 14, 15, 16, 17, 18, 19, 20] [1] rfl rfl rfl (by decide)
  have hP : va_P (dC, dI) vwCl (([[cLo cyL qo 1 o2.2.1], (cM cyI mm o5.2), (cXo x an tr o2.2.2.1), (cH cyO (x 1) (x 2) 2 fl), (cXk cyI x o2.2.2.1), (cH cyO (x 4) (x 5) 6 fs), (cT cyI x (X_text o2.2.2.1)), (cSo an o2.2.2.2), (cG cyI an (S_green o2.2.2.2)), (cV cyI an (S_score o2.2.2.2)), (cSo tr tv), (cG cyI tr (S_green tv)), (cV cyI tr (S_score tv)), (cS cyI k0 w0), (cS cyI k1 w1), (cS cyI b0 v0), (cS cyI b1 v1), (cS cyI b2 v2), (cS cyI b3 v3), (cS cyI b4 v4), (cS cyI b5 v5)] : List va_W).flatten) H := hP.perm hq
  have hD : va_D A (([[cLo cyL qo 1 o2.2.1], (cM cyI mm o5.2), (cXo x an tr o2.2.2.1), (cH cyO (x 1) (x 2) 2 fl), (cXk cyI x o2.2.2.1), (cH cyO (x 4) (x 5) 6 fs), (cT cyI x (X_text o2.2.2.1)), (cSo an o2.2.2.2), (cG cyI an (S_green o2.2.2.2)), (cV cyI an (S_score o2.2.2.2)), (cSo tr tv), (cG cyI tr (S_green tv)), (cV cyI tr (S_score tv)), (cS cyI k0 w0), (cS cyI k1 w1), (cS cyI b0 v0), (cS cyI b1 v1), (cS cyI b2 v2), (cS cyI b3 v3), (cS cyI b4 v4), (cS cyI b5 v5)] : List va_W).flatten) := hD.perm hq
  clear hq
  refine lv_istore (lv' := [(6, .int o5.1), (5, .int o2.1), (0, .ref b), (1, .ref (x 0)), (2, .ref (mm 0)), (3, .ref qo), (4, .int i)]) hx hb dL_law_1172 hl (by decide) rfl (fun ls hl => ?_)
  refine lv_aload_n hx hb dL_law_1174 rfl (lv_at hl 4 rfl) ?_
  obtain ⟨o7, h8, hF⟩ := obd hF
  refine wcRVi (As := []) (rest := []) (b := (mm 0)) ⟨hx, hb, hml, hown, hts⟩ (met_X6_thrown l dC dI cyI cyO cyL mm N o5.2  o7 h8) (cwV 0 hts (gV w_methodLink_L_143 w_instanceMethod_X6_thrown w_selects_X6_thrown w_initialized_X6 w_code_X6_thrown) rfl rfl rfl (by decide +kernel) ⟨Nat.le_trans (Nat.le_of_ble_eq_true rfl) hRf, Nat.le_trans (Nat.le_of_ble_eq_true rfl) hRl⟩) (va_recv hK.1 hP (ci := 6) (q0 := 1) rfl rfl) hP hK [1, 2, 3, 4, 5, 6, 7, 8] rfl rfl hl.1 (Nat.le_of_ble_eq_true rfl) dL_law_1175 ⟨by omega, by omega⟩ hS (fun r H locs hw hP hS => ?_)
  have hw := hw.symm
  subst hw
  refine lv_iload hx hb dL_law_1178 (lv_at hl 1 rfl) ?_
  refine lv_icmp_eq (tgt := 1185) hx hb dL_law_1180 (by decide) (fun c9 => ?_) (fun c9 => ?_)
  · have hF := itp c9 hF
    refine lv_iload hx hb dL_law_1185 (lv_at hl 1 rfl) ?_
    obtain ⟨j1202, hj1202, hF⟩ := jn_use hF
    have hJ1202 : ∀ (s1202 : Unit) (H : Heap) (locs : List Loc) (ls : Array Slot), va_P (dC, dI) vwCl (([[cLo cyL qo 1 o2.2.1], (cM cyI mm o5.2), (cXo x an tr o2.2.2.1), (cH cyO (x 1) (x 2) 2 fl), (cXk cyI x o2.2.2.1), (cH cyO (x 4) (x 5) 6 fs), (cT cyI x (X_text o2.2.2.1)), (cSo an o2.2.2.2), (cG cyI an (S_green o2.2.2.2)), (cV cyI an (S_score o2.2.2.2)), (cSo tr tv), (cG cyI tr (S_green tv)), (cV cyI tr (S_score tv)), (cS cyI k0 w0), (cS cyI k1 w1), (cS cyI b0 v0), (cS cyI b1 v1), (cS cyI b2 v2), (cS cyI b3 v3), (cS cyI b4 v4), (cS cyI b5 v5)] : List va_W).flatten) H → va_D A (([[cLo cyL qo 1 o2.2.1], (cM cyI mm o5.2), (cXo x an tr o2.2.2.1), (cH cyO (x 1) (x 2) 2 fl), (cXk cyI x o2.2.2.1), (cH cyO (x 4) (x 5) 6 fs), (cT cyI x (X_text o2.2.2.1)), (cSo an o2.2.2.2), (cG cyI an (S_green o2.2.2.2)), (cV cyI an (S_score o2.2.2.2)), (cSo tr tv), (cG cyI tr (S_green tv)), (cV cyI tr (S_score tv)), (cS cyI k0 w0), (cS cyI k1 w1), (cS cyI b0 v0), (cS cyI b1 v1), (cS cyI b2 v2), (cS cyI b3 v3), (cS cyI b4 v4), (cS cyI b5 v5)] : List va_W).flatten) → va_S A s.heap H locs → lv_has ls 9 [(0, .ref b), (1, .ref (x 0)), (2, .ref (mm 0)), (3, .ref qo), (4, .int i)] → j1202 s1202 = some out → W p l e R s m args below meth c H locs (cells + 1) (slots + 6) Q (F0 m 1202 ls []) := by
      intro s1202 H locs ls hP hD hS hl hF
      have hF := (congrFun hj1202 s1202).symm.trans hF
      refine lv_goto (tgt := 2733) hx hb dL_law_1202 (by decide) ?_
      obtain rfl := Option.some.inj hF
      refine W.widen (k := cells + 4) (n := slots + 24) (by omega) (by omega) ?_
      exact kk _ _ _ hP hD hS (lv_sub hl [0, 1, 2, 3, 4] rfl)
    refine lv_if_ne (tgt := 1202) hx hb dL_law_1187 (by decide) (fun c10 => ?_) (fun c10 => ?_)
    · have hF := itn c10 hF
      exact hJ1202 () _ _ _ hP hD hS (lv_sub hl [2, 3, 4, 5, 6] rfl) hF
    · have hF := itp c10 hF
      refine lv_aload_n hx hb dL_law_1190 rfl (lv_at hl 5 rfl) ?_
      refine lv_iconst (v := 0) hx hb dL_law_1191 (by decide) ?_
      refine va_lald hx hb hK.1 hP 0 2 rfl rfl (i := (0 : Int32)) (show ixok (0 : Int32) 1 by decide) dL_law_1192 ?_
      refine lv_iload hx hb dL_law_1193 (lv_at hl 0 rfl) ?_
      refine lv_i2l (v := (o5.1).toInt64) hx hb dL_law_1195 rfl ?_
      refine W.lcmp hx hb dL_law_1196 ?_
      refine lv_if_eq (tgt := 1202) hx hb dL_law_1197 (by decide) (fun c11 => ?_) (fun c11 => ?_)
      · have hF := itp c11 hF
        exact hJ1202 () _ _ _ hP hD hS (lv_sub hl [2, 3, 4, 5, 6] rfl) hF
      · have hF := itn c11 hF
        refine lv_iconst (v := 0) hx hb dL_law_1200 (by decide) ?_
        cases hF
  · have hF := itn c9 hF
    refine lv_iconst (v := 0) hx hb dL_law_1183 (by decide) ?_
    cases hF
theorem dL_law_1205 : decode cL_law 1205 = .ok (.aload_n 1, 1) := by decide +kernel
theorem dL_law_1206 : decode cL_law 1206 = .ok (.aload_n 0, 1) := by decide +kernel
theorem dL_law_1207 : decode cL_law 1207 = .ok (.iload 4, 2) := by decide +kernel
theorem dL_law_1209 : decode cL_law 1209 = .ok (.iconst 1, 1) := by decide +kernel
theorem dL_law_1210 : decode cL_law 1210 = .ok (.iadd, 1) := by decide +kernel
theorem dL_law_1211 : decode cL_law 1211 = .ok (.iaload, 1) := by decide +kernel
theorem dL_law_1212 : decode cL_law 1212 = .ok (.aload_n 3, 1) := by decide +kernel
theorem dL_law_1213 : decode cL_law 1213 = .ok (.invokestatic 232, 3) := by decide +kernel
theorem dL_law_1216 : decode cL_law 1216 = .ok (.istore 5, 2) := by decide +kernel
theorem dL_law_1218 : decode cL_law 1218 = .ok (.aload_n 2, 1) := by decide +kernel
theorem dL_law_1219 : decode cL_law 1219 = .ok (.aload_n 0, 1) := by decide +kernel
theorem dL_law_1220 : decode cL_law 1220 = .ok (.iload 4, 2) := by decide +kernel
theorem dL_law_1222 : decode cL_law 1222 = .ok (.iconst 1, 1) := by decide +kernel
theorem dL_law_1223 : decode cL_law 1223 = .ok (.iadd, 1) := by decide +kernel
theorem dL_law_1224 : decode cL_law 1224 = .ok (.iaload, 1) := by decide +kernel
theorem dL_law_1225 : decode cL_law 1225 = .ok (.invokevirtual 234, 3) := by decide +kernel
theorem dL_law_1228 : decode cL_law 1228 = .ok (.istore 6, 2) := by decide +kernel
theorem dL_law_1230 : decode cL_law 1230 = .ok (.aload_n 2, 1) := by decide +kernel
theorem dL_law_1231 : decode cL_law 1231 = .ok (.invokevirtual 143, 3) := by decide +kernel
theorem dL_law_1234 : decode cL_law 1234 = .ok (.iload 5, 2) := by decide +kernel
theorem dL_law_1236 : decode cL_law 1236 = .ok (.if_icmp .eq 5, 3) := by decide +kernel
theorem dL_law_1239 : decode cL_law 1239 = .ok (.iconst 0, 1) := by decide +kernel
theorem dL_law_1241 : decode cL_law 1241 = .ok (.iload 5, 2) := by decide +kernel
theorem dL_law_1243 : decode cL_law 1243 = .ok (.ifCond .ne 15, 3) := by decide +kernel
theorem dL_law_1246 : decode cL_law 1246 = .ok (.aload_n 3, 1) := by decide +kernel
theorem dL_law_1247 : decode cL_law 1247 = .ok (.iconst 0, 1) := by decide +kernel
theorem dL_law_1248 : decode cL_law 1248 = .ok (.laload, 1) := by decide +kernel
theorem dL_law_1249 : decode cL_law 1249 = .ok (.iload 6, 2) := by decide +kernel
theorem dL_law_1251 : decode cL_law 1251 = .ok (.i2l, 1) := by decide +kernel
theorem dL_law_1252 : decode cL_law 1252 = .ok (.lcmp, 1) := by decide +kernel
theorem dL_law_1253 : decode cL_law 1253 = .ok (.ifCond .eq 5, 3) := by decide +kernel
theorem dL_law_1256 : decode cL_law 1256 = .ok (.iconst 0, 1) := by decide +kernel
theorem dL_law_1258 : decode cL_law 1258 = .ok (.goto 1475, 3) := by decide +kernel
def f_law25 (N L : Nat) (xs : Nat → Int32) (i : Int32) (fo : (Nat → Int64)) (mv : MV) (xv : XV) (nv : SV) (tv : SV) (w0 : SV) (w1 : SV) (v0 : SV) (v1 : SV) (v2 : SV) (v3 : SV) (v4 : SV) (v5 : SV) : Option ((Nat → Int64) × MV × XV × SV × SV × SV × SV × SV × SV × SV × SV × SV × SV) :=
  gd (ixok (i + (1 : Int32)) L) ((f_L_rowOf N fo xv nv (xs (i + (1 : Int32)).toNatClampNeg)).bind (fun o2 => gd (ixok (i + (1 : Int32)) L) ((f_X6_rowOf N mv (xs (i + (1 : Int32)).toNatClampNeg)).bind (fun o5 => (f_X6_thrown N o5.2).bind (fun o7 => (if o7 = o2.1 then jn (fun (s1258 : Unit) => some (o2.2.1, o5.2, o2.2.2.1, o2.2.2.2, tv, w0, w1, v0, v1, v2, v3, v4, v5)) (fun (j1258 : (Unit) → Option ((Nat → Int64) × MV × XV × SV × SV × SV × SV × SV × SV × SV × SV × SV × SV)) => (if o2.1 = 0 then (if (lg_cmp (o2.2.1 (0 : Int32).toNatClampNeg) ((o5.1).toInt64)) = 0 then j1258 () else none) else j1258 ())) else none))))))
set_option maxHeartbeats 4000000 in
set_option maxRecDepth 100000 in
theorem law25 (hst : l.stackTraces = false) (hx : p.tables.exec = Jvm.exec) (hb : c.code = code) (hml : c.maxLocals = 9) (hown : s.vm.findClass RL = some m.cls) (hts : ∀ w ∈ wT, w.before args s = true) (hK : wK dC dI cyI cyO cyL s) (hZ : wZ z0 s) (hAz : ∀ q, A q → z0 ≤ q) (hz0 : z0 ≤ s.heap.size) (hA : ∀ q : Nat, s.heap.size ≤ q → A q) (hX : va_X b L xs s s.heap) (hbl : b < s.heap.size) (hbA : ¬ A b) (hRf : 11 ≤ R.frames) (hRl : 398 ≤ R.locals) (qo : Nat) (mm x an tr k0 k1 b0 b1 b2 b3 b4 b5 : Nat → Nat) (fl fs : Nat → Option Nat) (N : Nat) (fo : (Nat → Int64)) (mv : MV) (xv : XV) (nv : SV) (tv : SV) (w0 : SV) (w1 : SV) (v0 : SV) (v1 : SV) (v2 : SV) (v3 : SV) (v4 : SV) (v5 : SV) (i : Int32) (hl0 : fl 0 = some (k0 0)) (hl1 : fl 1 = some (k1 0)) (hs0 : fs 0 = some (b0 0)) (hs1 : fs 1 = some (b1 0)) (hs2 : fs 2 = some (b2 0)) (hs3 : fs 3 = some (b3 0)) (hs4 : fs 4 = some (b4 0)) (hs5 : fs 5 = some (b5 0)) (out : (Nat → Int64) × MV × XV × SV × SV × SV × SV × SV × SV × SV × SV × SV × SV) (hF : f_law25 N L xs i fo mv xv nv tv w0 w1 v0 v1 v2 v3 v4 v5 = some out) (hP : va_P (dC, dI) vwCl (([[cLo cyL qo 1 fo], (cM cyI mm mv), (cXo x an tr xv), (cH cyO (x 1) (x 2) 2 fl), (cXk cyI x xv), (cH cyO (x 4) (x 5) 6 fs), (cT cyI x (X_text xv)), (cSo an nv), (cG cyI an (S_green nv)), (cV cyI an (S_score nv)), (cSo tr tv), (cG cyI tr (S_green tv)), (cV cyI tr (S_score tv)), (cS cyI k0 w0), (cS cyI k1 w1), (cS cyI b0 v0), (cS cyI b1 v1), (cS cyI b2 v2), (cS cyI b3 v3), (cS cyI b4 v4), (cS cyI b5 v5)] : List va_W).flatten) H) (hD : va_D A (([[cLo cyL qo 1 fo], (cM cyI mm mv), (cXo x an tr xv), (cH cyO (x 1) (x 2) 2 fl), (cXk cyI x xv), (cH cyO (x 4) (x 5) 6 fs), (cT cyI x (X_text xv)), (cSo an nv), (cG cyI an (S_green nv)), (cV cyI an (S_score nv)), (cSo tr tv), (cG cyI tr (S_green tv)), (cV cyI tr (S_score tv)), (cS cyI k0 w0), (cS cyI k1 w1), (cS cyI b0 v0), (cS cyI b1 v1), (cS cyI b2 v2), (cS cyI b3 v3), (cS cyI b4 v4), (cS cyI b5 v5)] : List va_W).flatten)) (hS : va_S A s.heap H locs) (hl : lv_has ls 9 [(0, .ref b), (1, .ref (x 0)), (2, .ref (mm 0)), (3, .ref qo), (4, .int i)]) (hRc : cells + 4 ≤ R.cells) (hRs : slots + 24 ≤ R.slots) (kk : ∀ (H : Heap) (locs : List Loc) (ls : Array Slot), va_P (dC, dI) vwCl (([[cLo cyL qo 1 out.1], (cM cyI mm out.2.1), (cXo x an tr out.2.2.1), (cH cyO (x 1) (x 2) 2 fl), (cXk cyI x out.2.2.1), (cH cyO (x 4) (x 5) 6 fs), (cT cyI x (X_text out.2.2.1)), (cSo an out.2.2.2.1), (cG cyI an (S_green out.2.2.2.1)), (cV cyI an (S_score out.2.2.2.1)), (cSo tr out.2.2.2.2.1), (cG cyI tr (S_green out.2.2.2.2.1)), (cV cyI tr (S_score out.2.2.2.2.1)), (cS cyI k0 out.2.2.2.2.2.1), (cS cyI k1 out.2.2.2.2.2.2.1), (cS cyI b0 out.2.2.2.2.2.2.2.1), (cS cyI b1 out.2.2.2.2.2.2.2.2.1), (cS cyI b2 out.2.2.2.2.2.2.2.2.2.1), (cS cyI b3 out.2.2.2.2.2.2.2.2.2.2.1), (cS cyI b4 out.2.2.2.2.2.2.2.2.2.2.2.1), (cS cyI b5 out.2.2.2.2.2.2.2.2.2.2.2.2)] : List va_W).flatten) H → va_D A (([[cLo cyL qo 1 out.1], (cM cyI mm out.2.1), (cXo x an tr out.2.2.1), (cH cyO (x 1) (x 2) 2 fl), (cXk cyI x out.2.2.1), (cH cyO (x 4) (x 5) 6 fs), (cT cyI x (X_text out.2.2.1)), (cSo an out.2.2.2.1), (cG cyI an (S_green out.2.2.2.1)), (cV cyI an (S_score out.2.2.2.1)), (cSo tr out.2.2.2.2.1), (cG cyI tr (S_green out.2.2.2.2.1)), (cV cyI tr (S_score out.2.2.2.2.1)), (cS cyI k0 out.2.2.2.2.2.1), (cS cyI k1 out.2.2.2.2.2.2.1), (cS cyI b0 out.2.2.2.2.2.2.2.1), (cS cyI b1 out.2.2.2.2.2.2.2.2.1), (cS cyI b2 out.2.2.2.2.2.2.2.2.2.1), (cS cyI b3 out.2.2.2.2.2.2.2.2.2.2.1), (cS cyI b4 out.2.2.2.2.2.2.2.2.2.2.2.1), (cS cyI b5 out.2.2.2.2.2.2.2.2.2.2.2.2)] : List va_W).flatten) → va_S A s.heap H locs → lv_has ls 9 [(0, .ref b), (1, .ref (x 0)), (2, .ref (mm 0)), (3, .ref qo), (4, .int i)] → W p l e R s m args below meth c H locs (cells + 4) (slots + 24) Q (F0 m 2733 ls [])) : W p l e R s m args below meth c H locs cells slots Q (F0 m 1205 ls []) := by
  unfold f_law25 at hF
  refine lv_aload_n hx hb dL_law_1205 rfl (lv_at hl 1 rfl) ?_
  refine lv_aload_n hx hb dL_law_1206 rfl (lv_at hl 0 rfl) ?_
  refine lv_iload hx hb dL_law_1207 (lv_at hl 4 rfl) ?_
  refine lv_iconst (v := 1) hx hb dL_law_1209 (by decide) ?_
  refine lv_iadd hx hb dL_law_1210 ?_
  obtain ⟨hg1, hF⟩ := gd_use hF
  refine va_sld hx hb hX hbl hbA hS hg1 dL_law_1211 ?_
  refine lv_aload_n hx hb dL_law_1212 rfl (lv_at hl 3 rfl) ?_
  obtain ⟨o2, h3, hF⟩ := obd hF
  refine wcLi (As := [.ref (x 0), .int (xs (i + (1 : Int32)).toNatClampNeg), .ref qo]) (rest := []) (wr := ([(cM cyI mm mv), (cSo tr tv), (cG cyI tr (S_green tv)), (cV cyI tr (S_score tv)), (cS cyI k0 w0), (cS cyI k1 w1), (cS cyI b0 v0), (cS cyI b1 v1), (cS cyI b2 v2), (cS cyI b3 v3), (cS cyI b4 v4), (cS cyI b5 v5)] : List va_W).flatten) ⟨hx, hb, hml, hown, hts⟩ (met_L_rowOf l z0 hst dC dI cyI cyO cyL qo x tr an fl fs _ N fo xv nv (xs (i + (1 : Int32)).toNatClampNeg) o2 h3) (vx_cwSW 3 hts (gS w_methodLink_L_232 w_static_L_rowOf w_initialized_L w_codeW_L_rowOf) rfl rfl rfl (by decide +kernel) ⟨Nat.le_trans (Nat.le_of_ble_eq_true rfl) hRf, Nat.le_trans (Nat.le_of_ble_eq_true rfl) hRl⟩) hP hD hK hZ hAz hz0 (seg_perm (n := 21) (R := [(cM cyI mm mv), (cSo tr tv), (cG cyI tr (S_green tv)), (cV cyI tr (S_score tv)), (cS cyI k0 w0), (cS cyI k1 w1), (cS cyI b0 v0), (cS cyI b1 v1), (cS cyI b2 v2), (cS cyI b3 v3), (cS cyI b4 v4), (cS cyI b5 v5)]) (C := [[cLo cyL qo 1 fo], (cXo x an tr xv), (cH cyO (x 1) (x 2) 2 fl), (cXk cyI x xv), (cH cyO (x 4) (x 5) 6 fs), (cT cyI x (X_text xv)), (cSo an nv), (cG cyI an (S_green nv)), (cV cyI an (S_score nv))]) [1, 10, 11, 12, 13, 14, 15, 16, 17, 18, 19, 20] [0, 2, 3, 4, 5, 6, 7, 8, 9] rfl rfl rfl (by decide) rfl) rfl hl.1 (Nat.le_of_ble_eq_true rfl) dL_law_1213 ⟨by omega, by omega⟩ hS hA (fun r u H locs hw hP hD hS => ?_)
  obtain rfl : r = o2.1 := congrArg Prod.fst hw
  obtain rfl : u = o2.2 := congrArg Prod.snd hw
  clear hw
  have hq := seg_permS (segs := [[cLo cyL qo 1 o2.2.1], (cM cyI mm mv), (cXo x an tr o2.2.2.1), (cH cyO (x 1) (x 2) 2 fl), (cXk cyI x o2.2.2.1), (cH cyO (x 4) (x 5) 6 fs), (cT cyI x (X_text o2.2.2.1)), (cSo an o2.2.2.2), (cG cyI an (S_green o2.2.2.2)), (cV cyI an (S_score o2.2.2.2)), (cSo tr tv), (cG cyI tr (S_green tv)), (cV cyI tr (S_score tv)), (cS cyI k0 w0), (cS cyI k1 w1), (cS cyI b0 v0), (cS cyI b1 v1), (cS cyI b2 v2), (cS cyI b3 v3), (cS cyI b4 v4), (cS cyI b5 v5)]) (R := [(cM cyI mm mv), (cSo tr tv), (cG cyI tr (S_green tv)), (cV cyI tr (S_score tv)), (cS cyI k0 w0), (cS cyI k1 w1), (cS cyI b0 v0), (cS cyI b1 v1), (cS cyI b2 v2), (cS cyI b3 v3), (cS cyI b4 v4), (cS cyI b5 v5)]) (C := [[cLo cyL qo 1 o2.2.1], (cXo x an tr o2.2.2.1), (cH cyO (x 1) (x 2) 2 fl), (cXk cyI x o2.2.2.1), (cH cyO (x 4) (x 5) 6 fs), (cT cyI x (X_text o2.2.2.1)), (cSo an o2.2.2.2), (cG cyI an (S_green o2.2.2.2)), (cV cyI an (S_score o2.2.2.2))]) (n := 21) [1, 10, 11, 12, 13, 14, 15, 16, 17, 18, 19, 20] [0, 2, 3, 4, 5, 6, 7, 8, 9] rfl rfl rfl (by decide)
  have hP : va_P (dC, dI) vwCl (([[cLo cyL qo 1 o2.2.1], (cM cyI mm mv), (cXo x an tr o2.2.2.1), (cH cyO (x 1) (x 2) 2 fl), (cXk cyI x o2.2.2.1), (cH cyO (x 4) (x 5) 6 fs), (cT cyI x (X_text o2.2.2.1)), (cSo an o2.2.2.2), (cG cyI an (S_green o2.2.2.2)), (cV cyI an (S_score o2.2.2.2)), (cSo tr tv), (cG cyI tr (S_green tv)), (cV cyI tr (S_score tv)), (cS cyI k0 w0), (cS cyI k1 w1), (cS cyI b0 v0), (cS cyI b1 v1), (cS cyI b2 v2), (cS cyI b3 v3), (cS cyI b4 v4), (cS cyI b5 v5)] : List va_W).flatten) H := hP.perm hq
  have hD : va_D A (([[cLo cyL qo 1 o2.2.1], (cM cyI mm mv), (cXo x an tr o2.2.2.1), (cH cyO (x 1) (x 2) 2 fl), (cXk cyI x o2.2.2.1), (cH cyO (x 4) (x 5) 6 fs), (cT cyI x (X_text o2.2.2.1)), (cSo an o2.2.2.2), (cG cyI an (S_green o2.2.2.2)), (cV cyI an (S_score o2.2.2.2)), (cSo tr tv), (cG cyI tr (S_green tv)), (cV cyI tr (S_score tv)), (cS cyI k0 w0), (cS cyI k1 w1), (cS cyI b0 v0), (cS cyI b1 v1), (cS cyI b2 v2), (cS cyI b3 v3), (cS cyI b4 v4), (cS cyI b5 v5)] : List va_W).flatten) := hD.perm hq
  clear hq
  refine lv_istore (lv' := [(5, .int o2.1), (0, .ref b), (1, .ref (x 0)), (2, .ref (mm 0)), (3, .ref qo), (4, .int i)]) hx hb dL_law_1216 hl (by decide) rfl (fun ls hl => ?_)
  refine lv_aload_n hx hb dL_law_1218 rfl (lv_at hl 3 rfl) ?_
  refine lv_aload_n hx hb dL_law_1219 rfl (lv_at hl 1 rfl) ?_
  refine lv_iload hx hb dL_law_1220 (lv_at hl 5 rfl) ?_
  refine lv_iconst (v := 1) hx hb dL_law_1222 (by decide) ?_
  refine lv_iadd hx hb dL_law_1223 ?_
  obtain ⟨hg4, hF⟩ := gd_use hF
  refine va_sld hx hb hX hbl hbA hS hg4 dL_law_1224 ?_
  obtain ⟨o5, h6, hF⟩ := obd hF
  refine wcPVi (As := [.int (xs (i + (1 : Int32)).toNatClampNeg)]) (rest := []) (wr := ([[cLo cyL qo 1 o2.2.1], (cXo x an tr o2.2.2.1), (cH cyO (x 1) (x 2) 2 fl), (cXk cyI x o2.2.2.1), (cH cyO (x 4) (x 5) 6 fs), (cT cyI x (X_text o2.2.2.1)), (cSo an o2.2.2.2), (cG cyI an (S_green o2.2.2.2)), (cV cyI an (S_score o2.2.2.2)), (cSo tr tv), (cG cyI tr (S_green tv)), (cV cyI tr (S_score tv)), (cS cyI k0 w0), (cS cyI k1 w1), (cS cyI b0 v0), (cS cyI b1 v1), (cS cyI b2 v2), (cS cyI b3 v3), (cS cyI b4 v4), (cS cyI b5 v5)] : List va_W).flatten) (b := (mm 0)) ⟨hx, hb, hml, hown, hts⟩ (met_X6_rowOf l dC dI cyI cyO cyL mm _ N mv (xs (i + (1 : Int32)).toNatClampNeg) o5 h6) (cwV 1 hts (gV w_methodLink_L_234 w_instanceMethod_X6_rowOf w_selects_X6_rowOf w_initialized_X6 w_code_X6_rowOf) rfl rfl rfl (by decide +kernel) ⟨Nat.le_trans (Nat.le_of_ble_eq_true rfl) hRf, Nat.le_trans (Nat.le_of_ble_eq_true rfl) hRl⟩) (va_recv hK.1 hP (ci := 6) (q0 := 1) rfl rfl) hP hD hK (seg_perm (n := 21) (R := [[cLo cyL qo 1 o2.2.1], (cXo x an tr o2.2.2.1), (cH cyO (x 1) (x 2) 2 fl), (cXk cyI x o2.2.2.1), (cH cyO (x 4) (x 5) 6 fs), (cT cyI x (X_text o2.2.2.1)), (cSo an o2.2.2.2), (cG cyI an (S_green o2.2.2.2)), (cV cyI an (S_score o2.2.2.2)), (cSo tr tv), (cG cyI tr (S_green tv)), (cV cyI tr (S_score tv)), (cS cyI k0 w0), (cS cyI k1 w1), (cS cyI b0 v0), (cS cyI b1 v1), (cS cyI b2 v2), (cS cyI b3 v3), (cS cyI b4 v4), (cS cyI b5 v5)]) (C := [(cM cyI mm mv)]) [0, 2, 3, 4, 5, 6, 7, 8, 9, 10, 11, 12, 13, 14, 15, 16, 17, 18, 19, 20] [1] rfl rfl rfl (by decide) rfl) rfl hl.1 (Nat.le_of_ble_eq_true rfl) dL_law_1225 ⟨by omega, by omega⟩ hS hA (fun r u H locs hw hP hD hS => ?_)
  obtain rfl : r = o5.1 := congrArg Prod.fst hw
  obtain rfl : u = o5.2 := congrArg Prod.snd hw
  clear hw
  have hq := seg_permS (segs := [[cLo cyL qo 1 o2.2.1], (cM cyI mm o5.2), (cXo x an tr o2.2.2.1), (cH cyO (x 1) (x 2) 2 fl), (cXk cyI x o2.2.2.1), (cH cyO (x 4) (x 5) 6 fs), (cT cyI x (X_text o2.2.2.1)), (cSo an o2.2.2.2), (cG cyI an (S_green o2.2.2.2)), (cV cyI an (S_score o2.2.2.2)), (cSo tr tv), (cG cyI tr (S_green tv)), (cV cyI tr (S_score tv)), (cS cyI k0 w0), (cS cyI k1 w1), (cS cyI b0 v0), (cS cyI b1 v1), (cS cyI b2 v2), (cS cyI b3 v3), (cS cyI b4 v4), (cS cyI b5 v5)]) (R := [[cLo cyL qo 1 o2.2.1], (cXo x an tr o2.2.2.1), (cH cyO (x 1) (x 2) 2 fl), (cXk cyI x o2.2.2.1), (cH cyO (x 4) (x 5) 6 fs), (cT cyI x (X_text o2.2.2.1)), (cSo an o2.2.2.2), (cG cyI an (S_green o2.2.2.2)), (cV cyI an (S_score o2.2.2.2)), (cSo tr tv), (cG cyI tr (S_green tv)), (cV cyI tr (S_score tv)), (cS cyI k0 w0), (cS cyI k1 w1), (cS cyI b0 v0), (cS cyI b1 v1), (cS cyI b2 v2), (cS cyI b3 v3), (cS cyI b4 v4), (cS cyI b5 v5)]) (C := [(cM cyI mm o5.2)]) (n := 21) [0, 2, 3, 4, 5, 6, 7, 8, 9, 10, 11, 12, 13, 14, 15, 16, 17, 18, 19, 20] [1] rfl rfl rfl (by decide)
  have hP : va_P (dC, dI) vwCl (([[cLo cyL qo 1 o2.2.1], (cM cyI mm o5.2), (cXo x an tr o2.2.2.1), (cH cyO (x 1) (x 2) 2 fl), (cXk cyI x o2.2.2.1), (cH cyO (x 4) (x 5) 6 fs), (cT cyI x (X_text o2.2.2.1)), (cSo an o2.2.2.2), (cG cyI an (S_green o2.2.2.2)), (cV cyI an (S_score o2.2.2.2)), (cSo tr tv), (cG cyI tr (S_green tv)), (cV cyI tr (S_score tv)), (cS cyI k0 w0), (cS cyI k1 w1), (cS cyI b0 v0), (cS cyI b1 v1), (cS cyI b2 v2), (cS cyI b3 v3), (cS cyI b4 v4), (cS cyI b5 v5)] : List va_W).flatten) H := hP.perm hq
  have hD : va_D A (([[cLo cyL qo 1 o2.2.1], (cM cyI mm o5.2), (cXo x an tr o2.2.2.1), (cH cyO (x 1) (x 2) 2 fl), (cXk cyI x o2.2.2.1), (cH cyO (x 4) (x 5) 6 fs), (cT cyI x (X_text o2.2.2.1)), (cSo an o2.2.2.2), (cG cyI an (S_green o2.2.2.2)), (cV cyI an (S_score o2.2.2.2)), (cSo tr tv), (cG cyI tr (S_green tv)), (cV cyI tr (S_score tv)), (cS cyI k0 w0), (cS cyI k1 w1), (cS cyI b0 v0), (cS cyI b1 v1), (cS cyI b2 v2), (cS cyI b3 v3), (cS cyI b4 v4), (cS cyI b5 v5)] : List va_W).flatten) := hD.perm hq
  clear hq
  refine lv_istore (lv' := [(6, .int o5.1), (5, .int o2.1), (0, .ref b), (1, .ref (x 0)), (2, .ref (mm 0)), (3, .ref qo), (4, .int i)]) hx hb dL_law_1228 hl (by decide) rfl (fun ls hl => ?_)
  refine lv_aload_n hx hb dL_law_1230 rfl (lv_at hl 4 rfl) ?_
  obtain ⟨o7, h8, hF⟩ := obd hF
  refine wcRVi (As := []) (rest := []) (b := (mm 0)) ⟨hx, hb, hml, hown, hts⟩ (met_X6_thrown l dC dI cyI cyO cyL mm N o5.2  o7 h8) (cwV 0 hts (gV w_methodLink_L_143 w_instanceMethod_X6_thrown w_selects_X6_thrown w_initialized_X6 w_code_X6_thrown) rfl rfl rfl (by decide +kernel) ⟨Nat.le_trans (Nat.le_of_ble_eq_true rfl) hRf, Nat.le_trans (Nat.le_of_ble_eq_true rfl) hRl⟩) (va_recv hK.1 hP (ci := 6) (q0 := 1) rfl rfl) hP hK [1, 2, 3, 4, 5, 6, 7, 8] rfl rfl hl.1 (Nat.le_of_ble_eq_true rfl) dL_law_1231 ⟨by omega, by omega⟩ hS (fun r H locs hw hP hS => ?_)
  have hw := hw.symm
  subst hw
  refine lv_iload hx hb dL_law_1234 (lv_at hl 1 rfl) ?_
  refine lv_icmp_eq (tgt := 1241) hx hb dL_law_1236 (by decide) (fun c9 => ?_) (fun c9 => ?_)
  · have hF := itp c9 hF
    refine lv_iload hx hb dL_law_1241 (lv_at hl 1 rfl) ?_
    obtain ⟨j1258, hj1258, hF⟩ := jn_use hF
    have hJ1258 : ∀ (s1258 : Unit) (H : Heap) (locs : List Loc) (ls : Array Slot), va_P (dC, dI) vwCl (([[cLo cyL qo 1 o2.2.1], (cM cyI mm o5.2), (cXo x an tr o2.2.2.1), (cH cyO (x 1) (x 2) 2 fl), (cXk cyI x o2.2.2.1), (cH cyO (x 4) (x 5) 6 fs), (cT cyI x (X_text o2.2.2.1)), (cSo an o2.2.2.2), (cG cyI an (S_green o2.2.2.2)), (cV cyI an (S_score o2.2.2.2)), (cSo tr tv), (cG cyI tr (S_green tv)), (cV cyI tr (S_score tv)), (cS cyI k0 w0), (cS cyI k1 w1), (cS cyI b0 v0), (cS cyI b1 v1), (cS cyI b2 v2), (cS cyI b3 v3), (cS cyI b4 v4), (cS cyI b5 v5)] : List va_W).flatten) H → va_D A (([[cLo cyL qo 1 o2.2.1], (cM cyI mm o5.2), (cXo x an tr o2.2.2.1), (cH cyO (x 1) (x 2) 2 fl), (cXk cyI x o2.2.2.1), (cH cyO (x 4) (x 5) 6 fs), (cT cyI x (X_text o2.2.2.1)), (cSo an o2.2.2.2), (cG cyI an (S_green o2.2.2.2)), (cV cyI an (S_score o2.2.2.2)), (cSo tr tv), (cG cyI tr (S_green tv)), (cV cyI tr (S_score tv)), (cS cyI k0 w0), (cS cyI k1 w1), (cS cyI b0 v0), (cS cyI b1 v1), (cS cyI b2 v2), (cS cyI b3 v3), (cS cyI b4 v4), (cS cyI b5 v5)] : List va_W).flatten) → va_S A s.heap H locs → lv_has ls 9 [(0, .ref b), (1, .ref (x 0)), (2, .ref (mm 0)), (3, .ref qo), (4, .int i)] → j1258 s1258 = some out → W p l e R s m args below meth c H locs (cells + 2) (slots + 12) Q (F0 m 1258 ls []) := by
      intro s1258 H locs ls hP hD hS hl hF
      have hF := (congrFun hj1258 s1258).symm.trans hF
      refine lv_goto (tgt := 2733) hx hb dL_law_1258 (by decide) ?_
      obtain rfl := Option.some.inj hF
      refine W.widen (k := cells + 4) (n := slots + 24) (by omega) (by omega) ?_
      exact kk _ _ _ hP hD hS (lv_sub hl [0, 1, 2, 3, 4] rfl)
    refine lv_if_ne (tgt := 1258) hx hb dL_law_1243 (by decide) (fun c10 => ?_) (fun c10 => ?_)
    · have hF := itn c10 hF
      exact hJ1258 () _ _ _ hP hD hS (lv_sub hl [2, 3, 4, 5, 6] rfl) hF
    · have hF := itp c10 hF
      refine lv_aload_n hx hb dL_law_1246 rfl (lv_at hl 5 rfl) ?_
      refine lv_iconst (v := 0) hx hb dL_law_1247 (by decide) ?_
      refine va_lald hx hb hK.1 hP 0 2 rfl rfl (i := (0 : Int32)) (show ixok (0 : Int32) 1 by decide) dL_law_1248 ?_
      refine lv_iload hx hb dL_law_1249 (lv_at hl 0 rfl) ?_
      refine lv_i2l (v := (o5.1).toInt64) hx hb dL_law_1251 rfl ?_
      refine W.lcmp hx hb dL_law_1252 ?_
      refine lv_if_eq (tgt := 1258) hx hb dL_law_1253 (by decide) (fun c11 => ?_) (fun c11 => ?_)
      · have hF := itp c11 hF
        exact hJ1258 () _ _ _ hP hD hS (lv_sub hl [2, 3, 4, 5, 6] rfl) hF
      · have hF := itn c11 hF
        refine lv_iconst (v := 0) hx hb dL_law_1256 (by decide) ?_
        cases hF
  · have hF := itn c9 hF
    refine lv_iconst (v := 0) hx hb dL_law_1239 (by decide) ?_
    cases hF
theorem dL_law_1261 : decode cL_law 1261 = .ok (.aload_n 1, 1) := by decide +kernel
theorem dL_law_1262 : decode cL_law 1262 = .ok (.aload_n 0, 1) := by decide +kernel
theorem dL_law_1263 : decode cL_law 1263 = .ok (.iload 4, 2) := by decide +kernel
theorem dL_law_1265 : decode cL_law 1265 = .ok (.iconst 1, 1) := by decide +kernel
theorem dL_law_1266 : decode cL_law 1266 = .ok (.iadd, 1) := by decide +kernel
theorem dL_law_1267 : decode cL_law 1267 = .ok (.iaload, 1) := by decide +kernel
theorem dL_law_1268 : decode cL_law 1268 = .ok (.aload_n 3, 1) := by decide +kernel
theorem dL_law_1269 : decode cL_law 1269 = .ok (.invokestatic 235, 3) := by decide +kernel
theorem dL_law_1272 : decode cL_law 1272 = .ok (.istore 5, 2) := by decide +kernel
theorem dL_law_1274 : decode cL_law 1274 = .ok (.aload_n 2, 1) := by decide +kernel
theorem dL_law_1275 : decode cL_law 1275 = .ok (.aload_n 0, 1) := by decide +kernel
theorem dL_law_1276 : decode cL_law 1276 = .ok (.iload 4, 2) := by decide +kernel
theorem dL_law_1278 : decode cL_law 1278 = .ok (.iconst 1, 1) := by decide +kernel
theorem dL_law_1279 : decode cL_law 1279 = .ok (.iadd, 1) := by decide +kernel
theorem dL_law_1280 : decode cL_law 1280 = .ok (.iaload, 1) := by decide +kernel
theorem dL_law_1281 : decode cL_law 1281 = .ok (.invokevirtual 237, 3) := by decide +kernel
theorem dL_law_1284 : decode cL_law 1284 = .ok (.istore 6, 2) := by decide +kernel
theorem dL_law_1286 : decode cL_law 1286 = .ok (.aload_n 2, 1) := by decide +kernel
theorem dL_law_1287 : decode cL_law 1287 = .ok (.invokevirtual 143, 3) := by decide +kernel
theorem dL_law_1290 : decode cL_law 1290 = .ok (.iload 5, 2) := by decide +kernel
theorem dL_law_1292 : decode cL_law 1292 = .ok (.if_icmp .eq 5, 3) := by decide +kernel
theorem dL_law_1295 : decode cL_law 1295 = .ok (.iconst 0, 1) := by decide +kernel
theorem dL_law_1297 : decode cL_law 1297 = .ok (.iload 5, 2) := by decide +kernel
theorem dL_law_1299 : decode cL_law 1299 = .ok (.ifCond .ne 15, 3) := by decide +kernel
theorem dL_law_1302 : decode cL_law 1302 = .ok (.aload_n 3, 1) := by decide +kernel
theorem dL_law_1303 : decode cL_law 1303 = .ok (.iconst 0, 1) := by decide +kernel
theorem dL_law_1304 : decode cL_law 1304 = .ok (.laload, 1) := by decide +kernel
theorem dL_law_1305 : decode cL_law 1305 = .ok (.iload 6, 2) := by decide +kernel
theorem dL_law_1307 : decode cL_law 1307 = .ok (.i2l, 1) := by decide +kernel
theorem dL_law_1308 : decode cL_law 1308 = .ok (.lcmp, 1) := by decide +kernel
theorem dL_law_1309 : decode cL_law 1309 = .ok (.ifCond .eq 5, 3) := by decide +kernel
theorem dL_law_1312 : decode cL_law 1312 = .ok (.iconst 0, 1) := by decide +kernel
theorem dL_law_1314 : decode cL_law 1314 = .ok (.goto 1419, 3) := by decide +kernel
def f_law26 (N L : Nat) (xs : Nat → Int32) (i : Int32) (fo : (Nat → Int64)) (mv : MV) (xv : XV) (nv : SV) (tv : SV) (w0 : SV) (w1 : SV) (v0 : SV) (v1 : SV) (v2 : SV) (v3 : SV) (v4 : SV) (v5 : SV) : Option ((Nat → Int64) × MV × XV × SV × SV × SV × SV × SV × SV × SV × SV × SV × SV) :=
  gd (ixok (i + (1 : Int32)) L) ((f_L_columnOf N fo xv nv (xs (i + (1 : Int32)).toNatClampNeg)).bind (fun o2 => gd (ixok (i + (1 : Int32)) L) ((f_X6_columnOf N mv (xs (i + (1 : Int32)).toNatClampNeg)).bind (fun o5 => (f_X6_thrown N o5.2).bind (fun o7 => (if o7 = o2.1 then jn (fun (s1314 : Unit) => some (o2.2.1, o5.2, o2.2.2.1, o2.2.2.2, tv, w0, w1, v0, v1, v2, v3, v4, v5)) (fun (j1314 : (Unit) → Option ((Nat → Int64) × MV × XV × SV × SV × SV × SV × SV × SV × SV × SV × SV × SV)) => (if o2.1 = 0 then (if (lg_cmp (o2.2.1 (0 : Int32).toNatClampNeg) ((o5.1).toInt64)) = 0 then j1314 () else none) else j1314 ())) else none))))))
set_option maxHeartbeats 4000000 in
set_option maxRecDepth 100000 in
theorem law26 (hst : l.stackTraces = false) (hx : p.tables.exec = Jvm.exec) (hb : c.code = code) (hml : c.maxLocals = 9) (hown : s.vm.findClass RL = some m.cls) (hts : ∀ w ∈ wT, w.before args s = true) (hK : wK dC dI cyI cyO cyL s) (hZ : wZ z0 s) (hAz : ∀ q, A q → z0 ≤ q) (hz0 : z0 ≤ s.heap.size) (hA : ∀ q : Nat, s.heap.size ≤ q → A q) (hX : va_X b L xs s s.heap) (hbl : b < s.heap.size) (hbA : ¬ A b) (hRf : 11 ≤ R.frames) (hRl : 398 ≤ R.locals) (qo : Nat) (mm x an tr k0 k1 b0 b1 b2 b3 b4 b5 : Nat → Nat) (fl fs : Nat → Option Nat) (N : Nat) (fo : (Nat → Int64)) (mv : MV) (xv : XV) (nv : SV) (tv : SV) (w0 : SV) (w1 : SV) (v0 : SV) (v1 : SV) (v2 : SV) (v3 : SV) (v4 : SV) (v5 : SV) (i : Int32) (hl0 : fl 0 = some (k0 0)) (hl1 : fl 1 = some (k1 0)) (hs0 : fs 0 = some (b0 0)) (hs1 : fs 1 = some (b1 0)) (hs2 : fs 2 = some (b2 0)) (hs3 : fs 3 = some (b3 0)) (hs4 : fs 4 = some (b4 0)) (hs5 : fs 5 = some (b5 0)) (out : (Nat → Int64) × MV × XV × SV × SV × SV × SV × SV × SV × SV × SV × SV × SV) (hF : f_law26 N L xs i fo mv xv nv tv w0 w1 v0 v1 v2 v3 v4 v5 = some out) (hP : va_P (dC, dI) vwCl (([[cLo cyL qo 1 fo], (cM cyI mm mv), (cXo x an tr xv), (cH cyO (x 1) (x 2) 2 fl), (cXk cyI x xv), (cH cyO (x 4) (x 5) 6 fs), (cT cyI x (X_text xv)), (cSo an nv), (cG cyI an (S_green nv)), (cV cyI an (S_score nv)), (cSo tr tv), (cG cyI tr (S_green tv)), (cV cyI tr (S_score tv)), (cS cyI k0 w0), (cS cyI k1 w1), (cS cyI b0 v0), (cS cyI b1 v1), (cS cyI b2 v2), (cS cyI b3 v3), (cS cyI b4 v4), (cS cyI b5 v5)] : List va_W).flatten) H) (hD : va_D A (([[cLo cyL qo 1 fo], (cM cyI mm mv), (cXo x an tr xv), (cH cyO (x 1) (x 2) 2 fl), (cXk cyI x xv), (cH cyO (x 4) (x 5) 6 fs), (cT cyI x (X_text xv)), (cSo an nv), (cG cyI an (S_green nv)), (cV cyI an (S_score nv)), (cSo tr tv), (cG cyI tr (S_green tv)), (cV cyI tr (S_score tv)), (cS cyI k0 w0), (cS cyI k1 w1), (cS cyI b0 v0), (cS cyI b1 v1), (cS cyI b2 v2), (cS cyI b3 v3), (cS cyI b4 v4), (cS cyI b5 v5)] : List va_W).flatten)) (hS : va_S A s.heap H locs) (hl : lv_has ls 9 [(0, .ref b), (1, .ref (x 0)), (2, .ref (mm 0)), (3, .ref qo), (4, .int i)]) (hRc : cells + 4 ≤ R.cells) (hRs : slots + 24 ≤ R.slots) (kk : ∀ (H : Heap) (locs : List Loc) (ls : Array Slot), va_P (dC, dI) vwCl (([[cLo cyL qo 1 out.1], (cM cyI mm out.2.1), (cXo x an tr out.2.2.1), (cH cyO (x 1) (x 2) 2 fl), (cXk cyI x out.2.2.1), (cH cyO (x 4) (x 5) 6 fs), (cT cyI x (X_text out.2.2.1)), (cSo an out.2.2.2.1), (cG cyI an (S_green out.2.2.2.1)), (cV cyI an (S_score out.2.2.2.1)), (cSo tr out.2.2.2.2.1), (cG cyI tr (S_green out.2.2.2.2.1)), (cV cyI tr (S_score out.2.2.2.2.1)), (cS cyI k0 out.2.2.2.2.2.1), (cS cyI k1 out.2.2.2.2.2.2.1), (cS cyI b0 out.2.2.2.2.2.2.2.1), (cS cyI b1 out.2.2.2.2.2.2.2.2.1), (cS cyI b2 out.2.2.2.2.2.2.2.2.2.1), (cS cyI b3 out.2.2.2.2.2.2.2.2.2.2.1), (cS cyI b4 out.2.2.2.2.2.2.2.2.2.2.2.1), (cS cyI b5 out.2.2.2.2.2.2.2.2.2.2.2.2)] : List va_W).flatten) H → va_D A (([[cLo cyL qo 1 out.1], (cM cyI mm out.2.1), (cXo x an tr out.2.2.1), (cH cyO (x 1) (x 2) 2 fl), (cXk cyI x out.2.2.1), (cH cyO (x 4) (x 5) 6 fs), (cT cyI x (X_text out.2.2.1)), (cSo an out.2.2.2.1), (cG cyI an (S_green out.2.2.2.1)), (cV cyI an (S_score out.2.2.2.1)), (cSo tr out.2.2.2.2.1), (cG cyI tr (S_green out.2.2.2.2.1)), (cV cyI tr (S_score out.2.2.2.2.1)), (cS cyI k0 out.2.2.2.2.2.1), (cS cyI k1 out.2.2.2.2.2.2.1), (cS cyI b0 out.2.2.2.2.2.2.2.1), (cS cyI b1 out.2.2.2.2.2.2.2.2.1), (cS cyI b2 out.2.2.2.2.2.2.2.2.2.1), (cS cyI b3 out.2.2.2.2.2.2.2.2.2.2.1), (cS cyI b4 out.2.2.2.2.2.2.2.2.2.2.2.1), (cS cyI b5 out.2.2.2.2.2.2.2.2.2.2.2.2)] : List va_W).flatten) → va_S A s.heap H locs → lv_has ls 9 [(0, .ref b), (1, .ref (x 0)), (2, .ref (mm 0)), (3, .ref qo), (4, .int i)] → W p l e R s m args below meth c H locs (cells + 4) (slots + 24) Q (F0 m 2733 ls [])) : W p l e R s m args below meth c H locs cells slots Q (F0 m 1261 ls []) := by
  unfold f_law26 at hF
  refine lv_aload_n hx hb dL_law_1261 rfl (lv_at hl 1 rfl) ?_
  refine lv_aload_n hx hb dL_law_1262 rfl (lv_at hl 0 rfl) ?_
  refine lv_iload hx hb dL_law_1263 (lv_at hl 4 rfl) ?_
  refine lv_iconst (v := 1) hx hb dL_law_1265 (by decide) ?_
  refine lv_iadd hx hb dL_law_1266 ?_
  obtain ⟨hg1, hF⟩ := gd_use hF
  refine va_sld hx hb hX hbl hbA hS hg1 dL_law_1267 ?_
  refine lv_aload_n hx hb dL_law_1268 rfl (lv_at hl 3 rfl) ?_
  obtain ⟨o2, h3, hF⟩ := obd hF
  refine wcLi (As := [.ref (x 0), .int (xs (i + (1 : Int32)).toNatClampNeg), .ref qo]) (rest := []) (wr := ([(cM cyI mm mv), (cSo tr tv), (cG cyI tr (S_green tv)), (cV cyI tr (S_score tv)), (cS cyI k0 w0), (cS cyI k1 w1), (cS cyI b0 v0), (cS cyI b1 v1), (cS cyI b2 v2), (cS cyI b3 v3), (cS cyI b4 v4), (cS cyI b5 v5)] : List va_W).flatten) ⟨hx, hb, hml, hown, hts⟩ (met_L_columnOf l z0 hst dC dI cyI cyO cyL qo x tr an fl fs _ N fo xv nv (xs (i + (1 : Int32)).toNatClampNeg) o2 h3) (vx_cwSW 3 hts (gS w_methodLink_L_235 w_static_L_columnOf w_initialized_L w_codeW_L_columnOf) rfl rfl rfl (by decide +kernel) ⟨Nat.le_trans (Nat.le_of_ble_eq_true rfl) hRf, Nat.le_trans (Nat.le_of_ble_eq_true rfl) hRl⟩) hP hD hK hZ hAz hz0 (seg_perm (n := 21) (R := [(cM cyI mm mv), (cSo tr tv), (cG cyI tr (S_green tv)), (cV cyI tr (S_score tv)), (cS cyI k0 w0), (cS cyI k1 w1), (cS cyI b0 v0), (cS cyI b1 v1), (cS cyI b2 v2), (cS cyI b3 v3), (cS cyI b4 v4), (cS cyI b5 v5)]) (C := [[cLo cyL qo 1 fo], (cXo x an tr xv), (cH cyO (x 1) (x 2) 2 fl), (cXk cyI x xv), (cH cyO (x 4) (x 5) 6 fs), (cT cyI x (X_text xv)), (cSo an nv), (cG cyI an (S_green nv)), (cV cyI an (S_score nv))]) [1, 10, 11, 12, 13, 14, 15, 16, 17, 18, 19, 20] [0, 2, 3, 4, 5, 6, 7, 8, 9] rfl rfl rfl (by decide) rfl) rfl hl.1 (Nat.le_of_ble_eq_true rfl) dL_law_1269 ⟨by omega, by omega⟩ hS hA (fun r u H locs hw hP hD hS => ?_)
  obtain rfl : r = o2.1 := congrArg Prod.fst hw
  obtain rfl : u = o2.2 := congrArg Prod.snd hw
  clear hw
  have hq := seg_permS (segs := [[cLo cyL qo 1 o2.2.1], (cM cyI mm mv), (cXo x an tr o2.2.2.1), (cH cyO (x 1) (x 2) 2 fl), (cXk cyI x o2.2.2.1), (cH cyO (x 4) (x 5) 6 fs), (cT cyI x (X_text o2.2.2.1)), (cSo an o2.2.2.2), (cG cyI an (S_green o2.2.2.2)), (cV cyI an (S_score o2.2.2.2)), (cSo tr tv), (cG cyI tr (S_green tv)), (cV cyI tr (S_score tv)), (cS cyI k0 w0), (cS cyI k1 w1), (cS cyI b0 v0), (cS cyI b1 v1), (cS cyI b2 v2), (cS cyI b3 v3), (cS cyI b4 v4), (cS cyI b5 v5)]) (R := [(cM cyI mm mv), (cSo tr tv), (cG cyI tr (S_green tv)), (cV cyI tr (S_score tv)), (cS cyI k0 w0), (cS cyI k1 w1), (cS cyI b0 v0), (cS cyI b1 v1), (cS cyI b2 v2), (cS cyI b3 v3), (cS cyI b4 v4), (cS cyI b5 v5)]) (C := [[cLo cyL qo 1 o2.2.1], (cXo x an tr o2.2.2.1), (cH cyO (x 1) (x 2) 2 fl), (cXk cyI x o2.2.2.1), (cH cyO (x 4) (x 5) 6 fs), (cT cyI x (X_text o2.2.2.1)), (cSo an o2.2.2.2), (cG cyI an (S_green o2.2.2.2)), (cV cyI an (S_score o2.2.2.2))]) (n := 21) [1, 10, 11, 12, 13, 14, 15, 16, 17, 18, 19, 20] [0, 2, 3, 4, 5, 6, 7, 8, 9] rfl rfl rfl (by decide)
  have hP : va_P (dC, dI) vwCl (([[cLo cyL qo 1 o2.2.1], (cM cyI mm mv), (cXo x an tr o2.2.2.1), (cH cyO (x 1) (x 2) 2 fl), (cXk cyI x o2.2.2.1), (cH cyO (x 4) (x 5) 6 fs), (cT cyI x (X_text o2.2.2.1)), (cSo an o2.2.2.2), (cG cyI an (S_green o2.2.2.2)), (cV cyI an (S_score o2.2.2.2)), (cSo tr tv), (cG cyI tr (S_green tv)), (cV cyI tr (S_score tv)), (cS cyI k0 w0), (cS cyI k1 w1), (cS cyI b0 v0), (cS cyI b1 v1), (cS cyI b2 v2), (cS cyI b3 v3), (cS cyI b4 v4), (cS cyI b5 v5)] : List va_W).flatten) H := hP.perm hq
  have hD : va_D A (([[cLo cyL qo 1 o2.2.1], (cM cyI mm mv), (cXo x an tr o2.2.2.1), (cH cyO (x 1) (x 2) 2 fl), (cXk cyI x o2.2.2.1), (cH cyO (x 4) (x 5) 6 fs), (cT cyI x (X_text o2.2.2.1)), (cSo an o2.2.2.2), (cG cyI an (S_green o2.2.2.2)), (cV cyI an (S_score o2.2.2.2)), (cSo tr tv), (cG cyI tr (S_green tv)), (cV cyI tr (S_score tv)), (cS cyI k0 w0), (cS cyI k1 w1), (cS cyI b0 v0), (cS cyI b1 v1), (cS cyI b2 v2), (cS cyI b3 v3), (cS cyI b4 v4), (cS cyI b5 v5)] : List va_W).flatten) := hD.perm hq
  clear hq
  refine lv_istore (lv' := [(5, .int o2.1), (0, .ref b), (1, .ref (x 0)), (2, .ref (mm 0)), (3, .ref qo), (4, .int i)]) hx hb dL_law_1272 hl (by decide) rfl (fun ls hl => ?_)
  refine lv_aload_n hx hb dL_law_1274 rfl (lv_at hl 3 rfl) ?_
  refine lv_aload_n hx hb dL_law_1275 rfl (lv_at hl 1 rfl) ?_
  refine lv_iload hx hb dL_law_1276 (lv_at hl 5 rfl) ?_
  refine lv_iconst (v := 1) hx hb dL_law_1278 (by decide) ?_
  refine lv_iadd hx hb dL_law_1279 ?_
  obtain ⟨hg4, hF⟩ := gd_use hF
  refine va_sld hx hb hX hbl hbA hS hg4 dL_law_1280 ?_
  obtain ⟨o5, h6, hF⟩ := obd hF
  refine wcPVi (As := [.int (xs (i + (1 : Int32)).toNatClampNeg)]) (rest := []) (wr := ([[cLo cyL qo 1 o2.2.1], (cXo x an tr o2.2.2.1), (cH cyO (x 1) (x 2) 2 fl), (cXk cyI x o2.2.2.1), (cH cyO (x 4) (x 5) 6 fs), (cT cyI x (X_text o2.2.2.1)), (cSo an o2.2.2.2), (cG cyI an (S_green o2.2.2.2)), (cV cyI an (S_score o2.2.2.2)), (cSo tr tv), (cG cyI tr (S_green tv)), (cV cyI tr (S_score tv)), (cS cyI k0 w0), (cS cyI k1 w1), (cS cyI b0 v0), (cS cyI b1 v1), (cS cyI b2 v2), (cS cyI b3 v3), (cS cyI b4 v4), (cS cyI b5 v5)] : List va_W).flatten) (b := (mm 0)) ⟨hx, hb, hml, hown, hts⟩ (met_X6_columnOf l dC dI cyI cyO cyL mm _ N mv (xs (i + (1 : Int32)).toNatClampNeg) o5 h6) (cwV 1 hts (gV w_methodLink_L_237 w_instanceMethod_X6_columnOf w_selects_X6_columnOf w_initialized_X6 w_code_X6_columnOf) rfl rfl rfl (by decide +kernel) ⟨Nat.le_trans (Nat.le_of_ble_eq_true rfl) hRf, Nat.le_trans (Nat.le_of_ble_eq_true rfl) hRl⟩) (va_recv hK.1 hP (ci := 6) (q0 := 1) rfl rfl) hP hD hK (seg_perm (n := 21) (R := [[cLo cyL qo 1 o2.2.1], (cXo x an tr o2.2.2.1), (cH cyO (x 1) (x 2) 2 fl), (cXk cyI x o2.2.2.1), (cH cyO (x 4) (x 5) 6 fs), (cT cyI x (X_text o2.2.2.1)), (cSo an o2.2.2.2), (cG cyI an (S_green o2.2.2.2)), (cV cyI an (S_score o2.2.2.2)), (cSo tr tv), (cG cyI tr (S_green tv)), (cV cyI tr (S_score tv)), (cS cyI k0 w0), (cS cyI k1 w1), (cS cyI b0 v0), (cS cyI b1 v1), (cS cyI b2 v2), (cS cyI b3 v3), (cS cyI b4 v4), (cS cyI b5 v5)]) (C := [(cM cyI mm mv)]) [0, 2, 3, 4, 5, 6, 7, 8, 9, 10, 11, 12, 13, 14, 15, 16, 17, 18, 19, 20] [1] rfl rfl rfl (by decide) rfl) rfl hl.1 (Nat.le_of_ble_eq_true rfl) dL_law_1281 ⟨by omega, by omega⟩ hS hA (fun r u H locs hw hP hD hS => ?_)
  obtain rfl : r = o5.1 := congrArg Prod.fst hw
  obtain rfl : u = o5.2 := congrArg Prod.snd hw
  clear hw
  have hq := seg_permS (segs := [[cLo cyL qo 1 o2.2.1], (cM cyI mm o5.2), (cXo x an tr o2.2.2.1), (cH cyO (x 1) (x 2) 2 fl), (cXk cyI x o2.2.2.1), (cH cyO (x 4) (x 5) 6 fs), (cT cyI x (X_text o2.2.2.1)), (cSo an o2.2.2.2), (cG cyI an (S_green o2.2.2.2)), (cV cyI an (S_score o2.2.2.2)), (cSo tr tv), (cG cyI tr (S_green tv)), (cV cyI tr (S_score tv)), (cS cyI k0 w0), (cS cyI k1 w1), (cS cyI b0 v0), (cS cyI b1 v1), (cS cyI b2 v2), (cS cyI b3 v3), (cS cyI b4 v4), (cS cyI b5 v5)]) (R := [[cLo cyL qo 1 o2.2.1], (cXo x an tr o2.2.2.1), (cH cyO (x 1) (x 2) 2 fl), (cXk cyI x o2.2.2.1), (cH cyO (x 4) (x 5) 6 fs), (cT cyI x (X_text o2.2.2.1)), (cSo an o2.2.2.2), (cG cyI an (S_green o2.2.2.2)), (cV cyI an (S_score o2.2.2.2)), (cSo tr tv), (cG cyI tr (S_green tv)), (cV cyI tr (S_score tv)), (cS cyI k0 w0), (cS cyI k1 w1), (cS cyI b0 v0), (cS cyI b1 v1), (cS cyI b2 v2), (cS cyI b3 v3), (cS cyI b4 v4), (cS cyI b5 v5)]) (C := [(cM cyI mm o5.2)]) (n := 21) [0, 2, 3, 4, 5, 6, 7, 8, 9, 10, 11, 12, 13, 14, 15, 16, 17, 18, 19, 20] [1] rfl rfl rfl (by decide)
  have hP : va_P (dC, dI) vwCl (([[cLo cyL qo 1 o2.2.1], (cM cyI mm o5.2), (cXo x an tr o2.2.2.1), (cH cyO (x 1) (x 2) 2 fl), (cXk cyI x o2.2.2.1), (cH cyO (x 4) (x 5) 6 fs), (cT cyI x (X_text o2.2.2.1)), (cSo an o2.2.2.2), (cG cyI an (S_green o2.2.2.2)), (cV cyI an (S_score o2.2.2.2)), (cSo tr tv), (cG cyI tr (S_green tv)), (cV cyI tr (S_score tv)), (cS cyI k0 w0), (cS cyI k1 w1), (cS cyI b0 v0), (cS cyI b1 v1), (cS cyI b2 v2), (cS cyI b3 v3), (cS cyI b4 v4), (cS cyI b5 v5)] : List va_W).flatten) H := hP.perm hq
  have hD : va_D A (([[cLo cyL qo 1 o2.2.1], (cM cyI mm o5.2), (cXo x an tr o2.2.2.1), (cH cyO (x 1) (x 2) 2 fl), (cXk cyI x o2.2.2.1), (cH cyO (x 4) (x 5) 6 fs), (cT cyI x (X_text o2.2.2.1)), (cSo an o2.2.2.2), (cG cyI an (S_green o2.2.2.2)), (cV cyI an (S_score o2.2.2.2)), (cSo tr tv), (cG cyI tr (S_green tv)), (cV cyI tr (S_score tv)), (cS cyI k0 w0), (cS cyI k1 w1), (cS cyI b0 v0), (cS cyI b1 v1), (cS cyI b2 v2), (cS cyI b3 v3), (cS cyI b4 v4), (cS cyI b5 v5)] : List va_W).flatten) := hD.perm hq
  clear hq
  refine lv_istore (lv' := [(6, .int o5.1), (5, .int o2.1), (0, .ref b), (1, .ref (x 0)), (2, .ref (mm 0)), (3, .ref qo), (4, .int i)]) hx hb dL_law_1284 hl (by decide) rfl (fun ls hl => ?_)
  refine lv_aload_n hx hb dL_law_1286 rfl (lv_at hl 4 rfl) ?_
  obtain ⟨o7, h8, hF⟩ := obd hF
  refine wcRVi (As := []) (rest := []) (b := (mm 0)) ⟨hx, hb, hml, hown, hts⟩ (met_X6_thrown l dC dI cyI cyO cyL mm N o5.2  o7 h8) (cwV 0 hts (gV w_methodLink_L_143 w_instanceMethod_X6_thrown w_selects_X6_thrown w_initialized_X6 w_code_X6_thrown) rfl rfl rfl (by decide +kernel) ⟨Nat.le_trans (Nat.le_of_ble_eq_true rfl) hRf, Nat.le_trans (Nat.le_of_ble_eq_true rfl) hRl⟩) (va_recv hK.1 hP (ci := 6) (q0 := 1) rfl rfl) hP hK [1, 2, 3, 4, 5, 6, 7, 8] rfl rfl hl.1 (Nat.le_of_ble_eq_true rfl) dL_law_1287 ⟨by omega, by omega⟩ hS (fun r H locs hw hP hS => ?_)
  have hw := hw.symm
  subst hw
  refine lv_iload hx hb dL_law_1290 (lv_at hl 1 rfl) ?_
  refine lv_icmp_eq (tgt := 1297) hx hb dL_law_1292 (by decide) (fun c9 => ?_) (fun c9 => ?_)
  · have hF := itp c9 hF
    refine lv_iload hx hb dL_law_1297 (lv_at hl 1 rfl) ?_
    obtain ⟨j1314, hj1314, hF⟩ := jn_use hF
    have hJ1314 : ∀ (s1314 : Unit) (H : Heap) (locs : List Loc) (ls : Array Slot), va_P (dC, dI) vwCl (([[cLo cyL qo 1 o2.2.1], (cM cyI mm o5.2), (cXo x an tr o2.2.2.1), (cH cyO (x 1) (x 2) 2 fl), (cXk cyI x o2.2.2.1), (cH cyO (x 4) (x 5) 6 fs), (cT cyI x (X_text o2.2.2.1)), (cSo an o2.2.2.2), (cG cyI an (S_green o2.2.2.2)), (cV cyI an (S_score o2.2.2.2)), (cSo tr tv), (cG cyI tr (S_green tv)), (cV cyI tr (S_score tv)), (cS cyI k0 w0), (cS cyI k1 w1), (cS cyI b0 v0), (cS cyI b1 v1), (cS cyI b2 v2), (cS cyI b3 v3), (cS cyI b4 v4), (cS cyI b5 v5)] : List va_W).flatten) H → va_D A (([[cLo cyL qo 1 o2.2.1], (cM cyI mm o5.2), (cXo x an tr o2.2.2.1), (cH cyO (x 1) (x 2) 2 fl), (cXk cyI x o2.2.2.1), (cH cyO (x 4) (x 5) 6 fs), (cT cyI x (X_text o2.2.2.1)), (cSo an o2.2.2.2), (cG cyI an (S_green o2.2.2.2)), (cV cyI an (S_score o2.2.2.2)), (cSo tr tv), (cG cyI tr (S_green tv)), (cV cyI tr (S_score tv)), (cS cyI k0 w0), (cS cyI k1 w1), (cS cyI b0 v0), (cS cyI b1 v1), (cS cyI b2 v2), (cS cyI b3 v3), (cS cyI b4 v4), (cS cyI b5 v5)] : List va_W).flatten) → va_S A s.heap H locs → lv_has ls 9 [(0, .ref b), (1, .ref (x 0)), (2, .ref (mm 0)), (3, .ref qo), (4, .int i)] → j1314 s1314 = some out → W p l e R s m args below meth c H locs (cells + 2) (slots + 12) Q (F0 m 1314 ls []) := by
      intro s1314 H locs ls hP hD hS hl hF
      have hF := (congrFun hj1314 s1314).symm.trans hF
      refine lv_goto (tgt := 2733) hx hb dL_law_1314 (by decide) ?_
      obtain rfl := Option.some.inj hF
      refine W.widen (k := cells + 4) (n := slots + 24) (by omega) (by omega) ?_
      exact kk _ _ _ hP hD hS (lv_sub hl [0, 1, 2, 3, 4] rfl)
    refine lv_if_ne (tgt := 1314) hx hb dL_law_1299 (by decide) (fun c10 => ?_) (fun c10 => ?_)
    · have hF := itn c10 hF
      exact hJ1314 () _ _ _ hP hD hS (lv_sub hl [2, 3, 4, 5, 6] rfl) hF
    · have hF := itp c10 hF
      refine lv_aload_n hx hb dL_law_1302 rfl (lv_at hl 5 rfl) ?_
      refine lv_iconst (v := 0) hx hb dL_law_1303 (by decide) ?_
      refine va_lald hx hb hK.1 hP 0 2 rfl rfl (i := (0 : Int32)) (show ixok (0 : Int32) 1 by decide) dL_law_1304 ?_
      refine lv_iload hx hb dL_law_1305 (lv_at hl 0 rfl) ?_
      refine lv_i2l (v := (o5.1).toInt64) hx hb dL_law_1307 rfl ?_
      refine W.lcmp hx hb dL_law_1308 ?_
      refine lv_if_eq (tgt := 1314) hx hb dL_law_1309 (by decide) (fun c11 => ?_) (fun c11 => ?_)
      · have hF := itp c11 hF
        exact hJ1314 () _ _ _ hP hD hS (lv_sub hl [2, 3, 4, 5, 6] rfl) hF
      · have hF := itn c11 hF
        refine lv_iconst (v := 0) hx hb dL_law_1312 (by decide) ?_
        cases hF
  · have hF := itn c9 hF
    refine lv_iconst (v := 0) hx hb dL_law_1295 (by decide) ?_
    cases hF
theorem dL_law_1317 : decode cL_law 1317 = .ok (.aload_n 1, 1) := by decide +kernel
theorem dL_law_1318 : decode cL_law 1318 = .ok (.aload_n 0, 1) := by decide +kernel
theorem dL_law_1319 : decode cL_law 1319 = .ok (.iload 4, 2) := by decide +kernel
theorem dL_law_1321 : decode cL_law 1321 = .ok (.iconst 1, 1) := by decide +kernel
theorem dL_law_1322 : decode cL_law 1322 = .ok (.iadd, 1) := by decide +kernel
theorem dL_law_1323 : decode cL_law 1323 = .ok (.iaload, 1) := by decide +kernel
theorem dL_law_1324 : decode cL_law 1324 = .ok (.aload_n 3, 1) := by decide +kernel
theorem dL_law_1325 : decode cL_law 1325 = .ok (.invokestatic 238, 3) := by decide +kernel
theorem dL_law_1328 : decode cL_law 1328 = .ok (.istore 5, 2) := by decide +kernel
theorem dL_law_1330 : decode cL_law 1330 = .ok (.aload_n 2, 1) := by decide +kernel
theorem dL_law_1331 : decode cL_law 1331 = .ok (.aload_n 0, 1) := by decide +kernel
theorem dL_law_1332 : decode cL_law 1332 = .ok (.iload 4, 2) := by decide +kernel
theorem dL_law_1334 : decode cL_law 1334 = .ok (.iconst 1, 1) := by decide +kernel
theorem dL_law_1335 : decode cL_law 1335 = .ok (.iadd, 1) := by decide +kernel
theorem dL_law_1336 : decode cL_law 1336 = .ok (.iaload, 1) := by decide +kernel
theorem dL_law_1337 : decode cL_law 1337 = .ok (.invokevirtual 240, 3) := by decide +kernel
theorem dL_law_1340 : decode cL_law 1340 = .ok (.istore 6, 2) := by decide +kernel
theorem dL_law_1342 : decode cL_law 1342 = .ok (.aload_n 2, 1) := by decide +kernel
theorem dL_law_1343 : decode cL_law 1343 = .ok (.invokevirtual 143, 3) := by decide +kernel
theorem dL_law_1346 : decode cL_law 1346 = .ok (.iload 5, 2) := by decide +kernel
theorem dL_law_1348 : decode cL_law 1348 = .ok (.if_icmp .eq 5, 3) := by decide +kernel
theorem dL_law_1351 : decode cL_law 1351 = .ok (.iconst 0, 1) := by decide +kernel
theorem dL_law_1353 : decode cL_law 1353 = .ok (.iload 5, 2) := by decide +kernel
theorem dL_law_1355 : decode cL_law 1355 = .ok (.ifCond .ne 22, 3) := by decide +kernel
theorem dL_law_1358 : decode cL_law 1358 = .ok (.aload_n 3, 1) := by decide +kernel
theorem dL_law_1359 : decode cL_law 1359 = .ok (.iconst 0, 1) := by decide +kernel
theorem dL_law_1360 : decode cL_law 1360 = .ok (.laload, 1) := by decide +kernel
theorem dL_law_1361 : decode cL_law 1361 = .ok (.iload 6, 2) := by decide +kernel
theorem dL_law_1363 : decode cL_law 1363 = .ok (.ifCond .eq 7, 3) := by decide +kernel
theorem dL_law_1366 : decode cL_law 1366 = .ok (.lconst 1, 1) := by decide +kernel
theorem dL_law_1367 : decode cL_law 1367 = .ok (.goto 4, 3) := by decide +kernel
theorem dL_law_1370 : decode cL_law 1370 = .ok (.lconst 0, 1) := by decide +kernel
theorem dL_law_1371 : decode cL_law 1371 = .ok (.lcmp, 1) := by decide +kernel
theorem dL_law_1372 : decode cL_law 1372 = .ok (.ifCond .eq 5, 3) := by decide +kernel
theorem dL_law_1375 : decode cL_law 1375 = .ok (.iconst 0, 1) := by decide +kernel
theorem dL_law_1377 : decode cL_law 1377 = .ok (.goto 1356, 3) := by decide +kernel
def f_law27 (N L : Nat) (xs : Nat → Int32) (i : Int32) (fo : (Nat → Int64)) (mv : MV) (xv : XV) (nv : SV) (tv : SV) (w0 : SV) (w1 : SV) (v0 : SV) (v1 : SV) (v2 : SV) (v3 : SV) (v4 : SV) (v5 : SV) : Option ((Nat → Int64) × MV × XV × SV × SV × SV × SV × SV × SV × SV × SV × SV × SV) :=
  gd (ixok (i + (1 : Int32)) L) ((f_L_isToucher N fo xv nv (xs (i + (1 : Int32)).toNatClampNeg)).bind (fun o2 => gd (ixok (i + (1 : Int32)) L) ((f_X6_isToucher N mv (xs (i + (1 : Int32)).toNatClampNeg)).bind (fun o5 => (f_X6_thrown N o5.2).bind (fun o8 => (if o8 = o2.1 then jn (fun (s1377 : Unit) => some (o2.2.1, o5.2, o2.2.2.1, o2.2.2.2, tv, w0, w1, v0, v1, v2, v3, v4, v5)) (fun (j1377 : (Unit) → Option ((Nat → Int64) × MV × XV × SV × SV × SV × SV × SV × SV × SV × SV × SV × SV)) => (if o2.1 = 0 then jn (fun (s1371 : Int64) => (if (lg_cmp (o2.2.1 (0 : Int32).toNatClampNeg) s1371) = 0 then j1377 () else none)) (fun (j1371 : (Int64) → Option ((Nat → Int64) × MV × XV × SV × SV × SV × SV × SV × SV × SV × SV × SV × SV)) => (if o5.1 = 0 then j1371 (0 : Int64) else j1371 (1 : Int64))) else j1377 ())) else none))))))
set_option maxHeartbeats 4000000 in
set_option maxRecDepth 100000 in
theorem law27 (hst : l.stackTraces = false) (hx : p.tables.exec = Jvm.exec) (hb : c.code = code) (hml : c.maxLocals = 9) (hown : s.vm.findClass RL = some m.cls) (hts : ∀ w ∈ wT, w.before args s = true) (hK : wK dC dI cyI cyO cyL s) (hZ : wZ z0 s) (hAz : ∀ q, A q → z0 ≤ q) (hz0 : z0 ≤ s.heap.size) (hA : ∀ q : Nat, s.heap.size ≤ q → A q) (hX : va_X b L xs s s.heap) (hbl : b < s.heap.size) (hbA : ¬ A b) (hRf : 11 ≤ R.frames) (hRl : 398 ≤ R.locals) (qo : Nat) (mm x an tr k0 k1 b0 b1 b2 b3 b4 b5 : Nat → Nat) (fl fs : Nat → Option Nat) (N : Nat) (fo : (Nat → Int64)) (mv : MV) (xv : XV) (nv : SV) (tv : SV) (w0 : SV) (w1 : SV) (v0 : SV) (v1 : SV) (v2 : SV) (v3 : SV) (v4 : SV) (v5 : SV) (i : Int32) (hl0 : fl 0 = some (k0 0)) (hl1 : fl 1 = some (k1 0)) (hs0 : fs 0 = some (b0 0)) (hs1 : fs 1 = some (b1 0)) (hs2 : fs 2 = some (b2 0)) (hs3 : fs 3 = some (b3 0)) (hs4 : fs 4 = some (b4 0)) (hs5 : fs 5 = some (b5 0)) (out : (Nat → Int64) × MV × XV × SV × SV × SV × SV × SV × SV × SV × SV × SV × SV) (hF : f_law27 N L xs i fo mv xv nv tv w0 w1 v0 v1 v2 v3 v4 v5 = some out) (hP : va_P (dC, dI) vwCl (([[cLo cyL qo 1 fo], (cM cyI mm mv), (cXo x an tr xv), (cH cyO (x 1) (x 2) 2 fl), (cXk cyI x xv), (cH cyO (x 4) (x 5) 6 fs), (cT cyI x (X_text xv)), (cSo an nv), (cG cyI an (S_green nv)), (cV cyI an (S_score nv)), (cSo tr tv), (cG cyI tr (S_green tv)), (cV cyI tr (S_score tv)), (cS cyI k0 w0), (cS cyI k1 w1), (cS cyI b0 v0), (cS cyI b1 v1), (cS cyI b2 v2), (cS cyI b3 v3), (cS cyI b4 v4), (cS cyI b5 v5)] : List va_W).flatten) H) (hD : va_D A (([[cLo cyL qo 1 fo], (cM cyI mm mv), (cXo x an tr xv), (cH cyO (x 1) (x 2) 2 fl), (cXk cyI x xv), (cH cyO (x 4) (x 5) 6 fs), (cT cyI x (X_text xv)), (cSo an nv), (cG cyI an (S_green nv)), (cV cyI an (S_score nv)), (cSo tr tv), (cG cyI tr (S_green tv)), (cV cyI tr (S_score tv)), (cS cyI k0 w0), (cS cyI k1 w1), (cS cyI b0 v0), (cS cyI b1 v1), (cS cyI b2 v2), (cS cyI b3 v3), (cS cyI b4 v4), (cS cyI b5 v5)] : List va_W).flatten)) (hS : va_S A s.heap H locs) (hl : lv_has ls 9 [(0, .ref b), (1, .ref (x 0)), (2, .ref (mm 0)), (3, .ref qo), (4, .int i)]) (hRc : cells + 4 ≤ R.cells) (hRs : slots + 24 ≤ R.slots) (kk : ∀ (H : Heap) (locs : List Loc) (ls : Array Slot), va_P (dC, dI) vwCl (([[cLo cyL qo 1 out.1], (cM cyI mm out.2.1), (cXo x an tr out.2.2.1), (cH cyO (x 1) (x 2) 2 fl), (cXk cyI x out.2.2.1), (cH cyO (x 4) (x 5) 6 fs), (cT cyI x (X_text out.2.2.1)), (cSo an out.2.2.2.1), (cG cyI an (S_green out.2.2.2.1)), (cV cyI an (S_score out.2.2.2.1)), (cSo tr out.2.2.2.2.1), (cG cyI tr (S_green out.2.2.2.2.1)), (cV cyI tr (S_score out.2.2.2.2.1)), (cS cyI k0 out.2.2.2.2.2.1), (cS cyI k1 out.2.2.2.2.2.2.1), (cS cyI b0 out.2.2.2.2.2.2.2.1), (cS cyI b1 out.2.2.2.2.2.2.2.2.1), (cS cyI b2 out.2.2.2.2.2.2.2.2.2.1), (cS cyI b3 out.2.2.2.2.2.2.2.2.2.2.1), (cS cyI b4 out.2.2.2.2.2.2.2.2.2.2.2.1), (cS cyI b5 out.2.2.2.2.2.2.2.2.2.2.2.2)] : List va_W).flatten) H → va_D A (([[cLo cyL qo 1 out.1], (cM cyI mm out.2.1), (cXo x an tr out.2.2.1), (cH cyO (x 1) (x 2) 2 fl), (cXk cyI x out.2.2.1), (cH cyO (x 4) (x 5) 6 fs), (cT cyI x (X_text out.2.2.1)), (cSo an out.2.2.2.1), (cG cyI an (S_green out.2.2.2.1)), (cV cyI an (S_score out.2.2.2.1)), (cSo tr out.2.2.2.2.1), (cG cyI tr (S_green out.2.2.2.2.1)), (cV cyI tr (S_score out.2.2.2.2.1)), (cS cyI k0 out.2.2.2.2.2.1), (cS cyI k1 out.2.2.2.2.2.2.1), (cS cyI b0 out.2.2.2.2.2.2.2.1), (cS cyI b1 out.2.2.2.2.2.2.2.2.1), (cS cyI b2 out.2.2.2.2.2.2.2.2.2.1), (cS cyI b3 out.2.2.2.2.2.2.2.2.2.2.1), (cS cyI b4 out.2.2.2.2.2.2.2.2.2.2.2.1), (cS cyI b5 out.2.2.2.2.2.2.2.2.2.2.2.2)] : List va_W).flatten) → va_S A s.heap H locs → lv_has ls 9 [(0, .ref b), (1, .ref (x 0)), (2, .ref (mm 0)), (3, .ref qo), (4, .int i)] → W p l e R s m args below meth c H locs (cells + 4) (slots + 24) Q (F0 m 2733 ls [])) : W p l e R s m args below meth c H locs cells slots Q (F0 m 1317 ls []) := by
  unfold f_law27 at hF
  refine lv_aload_n hx hb dL_law_1317 rfl (lv_at hl 1 rfl) ?_
  refine lv_aload_n hx hb dL_law_1318 rfl (lv_at hl 0 rfl) ?_
  refine lv_iload hx hb dL_law_1319 (lv_at hl 4 rfl) ?_
  refine lv_iconst (v := 1) hx hb dL_law_1321 (by decide) ?_
  refine lv_iadd hx hb dL_law_1322 ?_
  obtain ⟨hg1, hF⟩ := gd_use hF
  refine va_sld hx hb hX hbl hbA hS hg1 dL_law_1323 ?_
  refine lv_aload_n hx hb dL_law_1324 rfl (lv_at hl 3 rfl) ?_
  obtain ⟨o2, h3, hF⟩ := obd hF
  refine wcLi (As := [.ref (x 0), .int (xs (i + (1 : Int32)).toNatClampNeg), .ref qo]) (rest := []) (wr := ([(cM cyI mm mv), (cSo tr tv), (cG cyI tr (S_green tv)), (cV cyI tr (S_score tv)), (cS cyI k0 w0), (cS cyI k1 w1), (cS cyI b0 v0), (cS cyI b1 v1), (cS cyI b2 v2), (cS cyI b3 v3), (cS cyI b4 v4), (cS cyI b5 v5)] : List va_W).flatten) ⟨hx, hb, hml, hown, hts⟩ (met_L_isToucher l z0 hst dC dI cyI cyO cyL qo x tr an fl fs _ N fo xv nv (xs (i + (1 : Int32)).toNatClampNeg) o2 h3) (vx_cwSW 3 hts (gS w_methodLink_L_238 w_static_L_isToucher w_initialized_L w_codeW_L_isToucher) rfl rfl rfl (by decide +kernel) ⟨Nat.le_trans (Nat.le_of_ble_eq_true rfl) hRf, Nat.le_trans (Nat.le_of_ble_eq_true rfl) hRl⟩) hP hD hK hZ hAz hz0 (seg_perm (n := 21) (R := [(cM cyI mm mv), (cSo tr tv), (cG cyI tr (S_green tv)), (cV cyI tr (S_score tv)), (cS cyI k0 w0), (cS cyI k1 w1), (cS cyI b0 v0), (cS cyI b1 v1), (cS cyI b2 v2), (cS cyI b3 v3), (cS cyI b4 v4), (cS cyI b5 v5)]) (C := [[cLo cyL qo 1 fo], (cXo x an tr xv), (cH cyO (x 1) (x 2) 2 fl), (cXk cyI x xv), (cH cyO (x 4) (x 5) 6 fs), (cT cyI x (X_text xv)), (cSo an nv), (cG cyI an (S_green nv)), (cV cyI an (S_score nv))]) [1, 10, 11, 12, 13, 14, 15, 16, 17, 18, 19, 20] [0, 2, 3, 4, 5, 6, 7, 8, 9] rfl rfl rfl (by decide) rfl) rfl hl.1 (Nat.le_of_ble_eq_true rfl) dL_law_1325 ⟨by omega, by omega⟩ hS hA (fun r u H locs hw hP hD hS => ?_)
  obtain rfl : r = o2.1 := congrArg Prod.fst hw
  obtain rfl : u = o2.2 := congrArg Prod.snd hw
  clear hw
  have hq := seg_permS (segs := [[cLo cyL qo 1 o2.2.1], (cM cyI mm mv), (cXo x an tr o2.2.2.1), (cH cyO (x 1) (x 2) 2 fl), (cXk cyI x o2.2.2.1), (cH cyO (x 4) (x 5) 6 fs), (cT cyI x (X_text o2.2.2.1)), (cSo an o2.2.2.2), (cG cyI an (S_green o2.2.2.2)), (cV cyI an (S_score o2.2.2.2)), (cSo tr tv), (cG cyI tr (S_green tv)), (cV cyI tr (S_score tv)), (cS cyI k0 w0), (cS cyI k1 w1), (cS cyI b0 v0), (cS cyI b1 v1), (cS cyI b2 v2), (cS cyI b3 v3), (cS cyI b4 v4), (cS cyI b5 v5)]) (R := [(cM cyI mm mv), (cSo tr tv), (cG cyI tr (S_green tv)), (cV cyI tr (S_score tv)), (cS cyI k0 w0), (cS cyI k1 w1), (cS cyI b0 v0), (cS cyI b1 v1), (cS cyI b2 v2), (cS cyI b3 v3), (cS cyI b4 v4), (cS cyI b5 v5)]) (C := [[cLo cyL qo 1 o2.2.1], (cXo x an tr o2.2.2.1), (cH cyO (x 1) (x 2) 2 fl), (cXk cyI x o2.2.2.1), (cH cyO (x 4) (x 5) 6 fs), (cT cyI x (X_text o2.2.2.1)), (cSo an o2.2.2.2), (cG cyI an (S_green o2.2.2.2)), (cV cyI an (S_score o2.2.2.2))]) (n := 21) [1, 10, 11, 12, 13, 14, 15, 16, 17, 18, 19, 20] [0, 2, 3, 4, 5, 6, 7, 8, 9] rfl rfl rfl (by decide)
  have hP : va_P (dC, dI) vwCl (([[cLo cyL qo 1 o2.2.1], (cM cyI mm mv), (cXo x an tr o2.2.2.1), (cH cyO (x 1) (x 2) 2 fl), (cXk cyI x o2.2.2.1), (cH cyO (x 4) (x 5) 6 fs), (cT cyI x (X_text o2.2.2.1)), (cSo an o2.2.2.2), (cG cyI an (S_green o2.2.2.2)), (cV cyI an (S_score o2.2.2.2)), (cSo tr tv), (cG cyI tr (S_green tv)), (cV cyI tr (S_score tv)), (cS cyI k0 w0), (cS cyI k1 w1), (cS cyI b0 v0), (cS cyI b1 v1), (cS cyI b2 v2), (cS cyI b3 v3), (cS cyI b4 v4), (cS cyI b5 v5)] : List va_W).flatten) H := hP.perm hq
  have hD : va_D A (([[cLo cyL qo 1 o2.2.1], (cM cyI mm mv), (cXo x an tr o2.2.2.1), (cH cyO (x 1) (x 2) 2 fl), (cXk cyI x o2.2.2.1), (cH cyO (x 4) (x 5) 6 fs), (cT cyI x (X_text o2.2.2.1)), (cSo an o2.2.2.2), (cG cyI an (S_green o2.2.2.2)), (cV cyI an (S_score o2.2.2.2)), (cSo tr tv), (cG cyI tr (S_green tv)), (cV cyI tr (S_score tv)), (cS cyI k0 w0), (cS cyI k1 w1), (cS cyI b0 v0), (cS cyI b1 v1), (cS cyI b2 v2), (cS cyI b3 v3), (cS cyI b4 v4), (cS cyI b5 v5)] : List va_W).flatten) := hD.perm hq
  clear hq
  refine lv_istore (lv' := [(5, .int o2.1), (0, .ref b), (1, .ref (x 0)), (2, .ref (mm 0)), (3, .ref qo), (4, .int i)]) hx hb dL_law_1328 hl (by decide) rfl (fun ls hl => ?_)
  refine lv_aload_n hx hb dL_law_1330 rfl (lv_at hl 3 rfl) ?_
  refine lv_aload_n hx hb dL_law_1331 rfl (lv_at hl 1 rfl) ?_
  refine lv_iload hx hb dL_law_1332 (lv_at hl 5 rfl) ?_
  refine lv_iconst (v := 1) hx hb dL_law_1334 (by decide) ?_
  refine lv_iadd hx hb dL_law_1335 ?_
  obtain ⟨hg4, hF⟩ := gd_use hF
  refine va_sld hx hb hX hbl hbA hS hg4 dL_law_1336 ?_
  obtain ⟨o5, h6, hF⟩ := obd hF
  refine wcPVi (As := [.int (xs (i + (1 : Int32)).toNatClampNeg)]) (rest := []) (wr := ([[cLo cyL qo 1 o2.2.1], (cXo x an tr o2.2.2.1), (cH cyO (x 1) (x 2) 2 fl), (cXk cyI x o2.2.2.1), (cH cyO (x 4) (x 5) 6 fs), (cT cyI x (X_text o2.2.2.1)), (cSo an o2.2.2.2), (cG cyI an (S_green o2.2.2.2)), (cV cyI an (S_score o2.2.2.2)), (cSo tr tv), (cG cyI tr (S_green tv)), (cV cyI tr (S_score tv)), (cS cyI k0 w0), (cS cyI k1 w1), (cS cyI b0 v0), (cS cyI b1 v1), (cS cyI b2 v2), (cS cyI b3 v3), (cS cyI b4 v4), (cS cyI b5 v5)] : List va_W).flatten) (b := (mm 0)) ⟨hx, hb, hml, hown, hts⟩ (met_X6_isToucher l dC dI cyI cyO cyL mm _ N mv (xs (i + (1 : Int32)).toNatClampNeg) o5 h6) (cwV 1 hts (gV w_methodLink_L_240 w_instanceMethod_X6_isToucher w_selects_X6_isToucher w_initialized_X6 w_code_X6_isToucher) rfl rfl rfl (by decide +kernel) ⟨Nat.le_trans (Nat.le_of_ble_eq_true rfl) hRf, Nat.le_trans (Nat.le_of_ble_eq_true rfl) hRl⟩) (va_recv hK.1 hP (ci := 6) (q0 := 1) rfl rfl) hP hD hK (seg_perm (n := 21) (R := [[cLo cyL qo 1 o2.2.1], (cXo x an tr o2.2.2.1), (cH cyO (x 1) (x 2) 2 fl), (cXk cyI x o2.2.2.1), (cH cyO (x 4) (x 5) 6 fs), (cT cyI x (X_text o2.2.2.1)), (cSo an o2.2.2.2), (cG cyI an (S_green o2.2.2.2)), (cV cyI an (S_score o2.2.2.2)), (cSo tr tv), (cG cyI tr (S_green tv)), (cV cyI tr (S_score tv)), (cS cyI k0 w0), (cS cyI k1 w1), (cS cyI b0 v0), (cS cyI b1 v1), (cS cyI b2 v2), (cS cyI b3 v3), (cS cyI b4 v4), (cS cyI b5 v5)]) (C := [(cM cyI mm mv)]) [0, 2, 3, 4, 5, 6, 7, 8, 9, 10, 11, 12, 13, 14, 15, 16, 17, 18, 19, 20] [1] rfl rfl rfl (by decide) rfl) rfl hl.1 (Nat.le_of_ble_eq_true rfl) dL_law_1337 ⟨by omega, by omega⟩ hS hA (fun r u H locs hw hP hD hS => ?_)
  obtain ⟨hw, hz7⟩ := hw
  obtain rfl : r = o5.1 := congrArg Prod.fst hw
  obtain rfl : u = o5.2 := congrArg Prod.snd hw
  clear hw
  have hq := seg_permS (segs := [[cLo cyL qo 1 o2.2.1], (cM cyI mm o5.2), (cXo x an tr o2.2.2.1), (cH cyO (x 1) (x 2) 2 fl), (cXk cyI x o2.2.2.1), (cH cyO (x 4) (x 5) 6 fs), (cT cyI x (X_text o2.2.2.1)), (cSo an o2.2.2.2), (cG cyI an (S_green o2.2.2.2)), (cV cyI an (S_score o2.2.2.2)), (cSo tr tv), (cG cyI tr (S_green tv)), (cV cyI tr (S_score tv)), (cS cyI k0 w0), (cS cyI k1 w1), (cS cyI b0 v0), (cS cyI b1 v1), (cS cyI b2 v2), (cS cyI b3 v3), (cS cyI b4 v4), (cS cyI b5 v5)]) (R := [[cLo cyL qo 1 o2.2.1], (cXo x an tr o2.2.2.1), (cH cyO (x 1) (x 2) 2 fl), (cXk cyI x o2.2.2.1), (cH cyO (x 4) (x 5) 6 fs), (cT cyI x (X_text o2.2.2.1)), (cSo an o2.2.2.2), (cG cyI an (S_green o2.2.2.2)), (cV cyI an (S_score o2.2.2.2)), (cSo tr tv), (cG cyI tr (S_green tv)), (cV cyI tr (S_score tv)), (cS cyI k0 w0), (cS cyI k1 w1), (cS cyI b0 v0), (cS cyI b1 v1), (cS cyI b2 v2), (cS cyI b3 v3), (cS cyI b4 v4), (cS cyI b5 v5)]) (C := [(cM cyI mm o5.2)]) (n := 21) [0, 2, 3, 4, 5, 6, 7, 8, 9, 10, 11, 12, 13, 14, 15, 16, 17, 18, 19, 20] [1] rfl rfl rfl (by decide)
  have hP : va_P (dC, dI) vwCl (([[cLo cyL qo 1 o2.2.1], (cM cyI mm o5.2), (cXo x an tr o2.2.2.1), (cH cyO (x 1) (x 2) 2 fl), (cXk cyI x o2.2.2.1), (cH cyO (x 4) (x 5) 6 fs), (cT cyI x (X_text o2.2.2.1)), (cSo an o2.2.2.2), (cG cyI an (S_green o2.2.2.2)), (cV cyI an (S_score o2.2.2.2)), (cSo tr tv), (cG cyI tr (S_green tv)), (cV cyI tr (S_score tv)), (cS cyI k0 w0), (cS cyI k1 w1), (cS cyI b0 v0), (cS cyI b1 v1), (cS cyI b2 v2), (cS cyI b3 v3), (cS cyI b4 v4), (cS cyI b5 v5)] : List va_W).flatten) H := hP.perm hq
  have hD : va_D A (([[cLo cyL qo 1 o2.2.1], (cM cyI mm o5.2), (cXo x an tr o2.2.2.1), (cH cyO (x 1) (x 2) 2 fl), (cXk cyI x o2.2.2.1), (cH cyO (x 4) (x 5) 6 fs), (cT cyI x (X_text o2.2.2.1)), (cSo an o2.2.2.2), (cG cyI an (S_green o2.2.2.2)), (cV cyI an (S_score o2.2.2.2)), (cSo tr tv), (cG cyI tr (S_green tv)), (cV cyI tr (S_score tv)), (cS cyI k0 w0), (cS cyI k1 w1), (cS cyI b0 v0), (cS cyI b1 v1), (cS cyI b2 v2), (cS cyI b3 v3), (cS cyI b4 v4), (cS cyI b5 v5)] : List va_W).flatten) := hD.perm hq
  clear hq
  refine lv_istore (lv' := [(6, .int o5.1), (5, .int o2.1), (0, .ref b), (1, .ref (x 0)), (2, .ref (mm 0)), (3, .ref qo), (4, .int i)]) hx hb dL_law_1340 hl (by decide) rfl (fun ls hl => ?_)
  refine lv_aload_n hx hb dL_law_1342 rfl (lv_at hl 4 rfl) ?_
  obtain ⟨o8, h9, hF⟩ := obd hF
  refine wcRVi (As := []) (rest := []) (b := (mm 0)) ⟨hx, hb, hml, hown, hts⟩ (met_X6_thrown l dC dI cyI cyO cyL mm N o5.2  o8 h9) (cwV 0 hts (gV w_methodLink_L_143 w_instanceMethod_X6_thrown w_selects_X6_thrown w_initialized_X6 w_code_X6_thrown) rfl rfl rfl (by decide +kernel) ⟨Nat.le_trans (Nat.le_of_ble_eq_true rfl) hRf, Nat.le_trans (Nat.le_of_ble_eq_true rfl) hRl⟩) (va_recv hK.1 hP (ci := 6) (q0 := 1) rfl rfl) hP hK [1, 2, 3, 4, 5, 6, 7, 8] rfl rfl hl.1 (Nat.le_of_ble_eq_true rfl) dL_law_1343 ⟨by omega, by omega⟩ hS (fun r H locs hw hP hS => ?_)
  have hw := hw.symm
  subst hw
  refine lv_iload hx hb dL_law_1346 (lv_at hl 1 rfl) ?_
  refine lv_icmp_eq (tgt := 1353) hx hb dL_law_1348 (by decide) (fun c10 => ?_) (fun c10 => ?_)
  · have hF := itp c10 hF
    refine lv_iload hx hb dL_law_1353 (lv_at hl 1 rfl) ?_
    obtain ⟨j1377, hj1377, hF⟩ := jn_use hF
    have hJ1377 : ∀ (s1377 : Unit) (H : Heap) (locs : List Loc) (ls : Array Slot), va_P (dC, dI) vwCl (([[cLo cyL qo 1 o2.2.1], (cM cyI mm o5.2), (cXo x an tr o2.2.2.1), (cH cyO (x 1) (x 2) 2 fl), (cXk cyI x o2.2.2.1), (cH cyO (x 4) (x 5) 6 fs), (cT cyI x (X_text o2.2.2.1)), (cSo an o2.2.2.2), (cG cyI an (S_green o2.2.2.2)), (cV cyI an (S_score o2.2.2.2)), (cSo tr tv), (cG cyI tr (S_green tv)), (cV cyI tr (S_score tv)), (cS cyI k0 w0), (cS cyI k1 w1), (cS cyI b0 v0), (cS cyI b1 v1), (cS cyI b2 v2), (cS cyI b3 v3), (cS cyI b4 v4), (cS cyI b5 v5)] : List va_W).flatten) H → va_D A (([[cLo cyL qo 1 o2.2.1], (cM cyI mm o5.2), (cXo x an tr o2.2.2.1), (cH cyO (x 1) (x 2) 2 fl), (cXk cyI x o2.2.2.1), (cH cyO (x 4) (x 5) 6 fs), (cT cyI x (X_text o2.2.2.1)), (cSo an o2.2.2.2), (cG cyI an (S_green o2.2.2.2)), (cV cyI an (S_score o2.2.2.2)), (cSo tr tv), (cG cyI tr (S_green tv)), (cV cyI tr (S_score tv)), (cS cyI k0 w0), (cS cyI k1 w1), (cS cyI b0 v0), (cS cyI b1 v1), (cS cyI b2 v2), (cS cyI b3 v3), (cS cyI b4 v4), (cS cyI b5 v5)] : List va_W).flatten) → va_S A s.heap H locs → lv_has ls 9 [(0, .ref b), (1, .ref (x 0)), (2, .ref (mm 0)), (3, .ref qo), (4, .int i)] → j1377 s1377 = some out → W p l e R s m args below meth c H locs (cells + 1) (slots + 6) Q (F0 m 1377 ls []) := by
      intro s1377 H locs ls hP hD hS hl hF
      have hF := (congrFun hj1377 s1377).symm.trans hF
      refine lv_goto (tgt := 2733) hx hb dL_law_1377 (by decide) ?_
      obtain rfl := Option.some.inj hF
      refine W.widen (k := cells + 4) (n := slots + 24) (by omega) (by omega) ?_
      exact kk _ _ _ hP hD hS (lv_sub hl [0, 1, 2, 3, 4] rfl)
    refine lv_if_ne (tgt := 1377) hx hb dL_law_1355 (by decide) (fun c11 => ?_) (fun c11 => ?_)
    · have hF := itn c11 hF
      exact hJ1377 () _ _ _ hP hD hS (lv_sub hl [2, 3, 4, 5, 6] rfl) hF
    · have hF := itp c11 hF
      refine lv_aload_n hx hb dL_law_1358 rfl (lv_at hl 5 rfl) ?_
      refine lv_iconst (v := 0) hx hb dL_law_1359 (by decide) ?_
      refine va_lald hx hb hK.1 hP 0 2 rfl rfl (i := (0 : Int32)) (show ixok (0 : Int32) 1 by decide) dL_law_1360 ?_
      refine lv_iload hx hb dL_law_1361 (lv_at hl 0 rfl) ?_
      obtain ⟨j1371, hj1371, hF⟩ := jn_use hF
      have hJ1371 : ∀ (s1371 : Int64) (H : Heap) (locs : List Loc) (ls : Array Slot), va_P (dC, dI) vwCl (([[cLo cyL qo 1 o2.2.1], (cM cyI mm o5.2), (cXo x an tr o2.2.2.1), (cH cyO (x 1) (x 2) 2 fl), (cXk cyI x o2.2.2.1), (cH cyO (x 4) (x 5) 6 fs), (cT cyI x (X_text o2.2.2.1)), (cSo an o2.2.2.2), (cG cyI an (S_green o2.2.2.2)), (cV cyI an (S_score o2.2.2.2)), (cSo tr tv), (cG cyI tr (S_green tv)), (cV cyI tr (S_score tv)), (cS cyI k0 w0), (cS cyI k1 w1), (cS cyI b0 v0), (cS cyI b1 v1), (cS cyI b2 v2), (cS cyI b3 v3), (cS cyI b4 v4), (cS cyI b5 v5)] : List va_W).flatten) H → va_D A (([[cLo cyL qo 1 o2.2.1], (cM cyI mm o5.2), (cXo x an tr o2.2.2.1), (cH cyO (x 1) (x 2) 2 fl), (cXk cyI x o2.2.2.1), (cH cyO (x 4) (x 5) 6 fs), (cT cyI x (X_text o2.2.2.1)), (cSo an o2.2.2.2), (cG cyI an (S_green o2.2.2.2)), (cV cyI an (S_score o2.2.2.2)), (cSo tr tv), (cG cyI tr (S_green tv)), (cV cyI tr (S_score tv)), (cS cyI k0 w0), (cS cyI k1 w1), (cS cyI b0 v0), (cS cyI b1 v1), (cS cyI b2 v2), (cS cyI b3 v3), (cS cyI b4 v4), (cS cyI b5 v5)] : List va_W).flatten) → va_S A s.heap H locs → lv_has ls 9 [(0, .ref b), (1, .ref (x 0)), (2, .ref (mm 0)), (3, .ref qo), (4, .int i)] → j1371 s1371 = some out → W p l e R s m args below meth c H locs (cells + 1) (slots + 6) Q (F0 m 1371 ls [.long s1371, .long (o2.2.1 (0 : Int32).toNatClampNeg)]) := by
        intro s1371 H locs ls hP hD hS hl hF
        have hF := (congrFun hj1371 s1371).symm.trans hF
        refine W.lcmp hx hb dL_law_1371 ?_
        refine lv_if_eq (tgt := 1377) hx hb dL_law_1372 (by decide) (fun c12 => ?_) (fun c12 => ?_)
        · have hF := itp c12 hF
          exact hJ1377 () _ _ _ hP hD hS (lv_sub hl [0, 1, 2, 3, 4] rfl) hF
        · have hF := itn c12 hF
          refine lv_iconst (v := 0) hx hb dL_law_1375 (by decide) ?_
          cases hF
      refine lv_if_eq (tgt := 1370) hx hb dL_law_1363 (by decide) (fun c13 => ?_) (fun c13 => ?_)
      · have hF := itp c13 hF
        refine lv_lconst (v := 0) hx hb dL_law_1370 (by decide) ?_
        exact hJ1371 (0 : Int64) _ _ _ hP hD hS (lv_sub hl [2, 3, 4, 5, 6] rfl) hF
      · have hF := itn c13 hF
        refine lv_lconst (v := 1) hx hb dL_law_1366 (by decide) ?_
        refine lv_goto (tgt := 1371) hx hb dL_law_1367 (by decide) ?_
        exact hJ1371 (1 : Int64) _ _ _ hP hD hS (lv_sub hl [2, 3, 4, 5, 6] rfl) hF
  · have hF := itn c10 hF
    refine lv_iconst (v := 0) hx hb dL_law_1351 (by decide) ?_
    cases hF
theorem dL_law_1380 : decode cL_law 1380 = .ok (.aload_n 1, 1) := by decide +kernel
theorem dL_law_1381 : decode cL_law 1381 = .ok (.aload_n 0, 1) := by decide +kernel
theorem dL_law_1382 : decode cL_law 1382 = .ok (.iload 4, 2) := by decide +kernel
theorem dL_law_1384 : decode cL_law 1384 = .ok (.iconst 1, 1) := by decide +kernel
theorem dL_law_1385 : decode cL_law 1385 = .ok (.iadd, 1) := by decide +kernel
theorem dL_law_1386 : decode cL_law 1386 = .ok (.iaload, 1) := by decide +kernel
theorem dL_law_1387 : decode cL_law 1387 = .ok (.aload_n 3, 1) := by decide +kernel
theorem dL_law_1388 : decode cL_law 1388 = .ok (.invokestatic 241, 3) := by decide +kernel
theorem dL_law_1391 : decode cL_law 1391 = .ok (.istore 5, 2) := by decide +kernel
theorem dL_law_1393 : decode cL_law 1393 = .ok (.aload_n 2, 1) := by decide +kernel
theorem dL_law_1394 : decode cL_law 1394 = .ok (.aload_n 0, 1) := by decide +kernel
theorem dL_law_1395 : decode cL_law 1395 = .ok (.iload 4, 2) := by decide +kernel
theorem dL_law_1397 : decode cL_law 1397 = .ok (.iconst 1, 1) := by decide +kernel
theorem dL_law_1398 : decode cL_law 1398 = .ok (.iadd, 1) := by decide +kernel
theorem dL_law_1399 : decode cL_law 1399 = .ok (.iaload, 1) := by decide +kernel
theorem dL_law_1400 : decode cL_law 1400 = .ok (.invokevirtual 243, 3) := by decide +kernel
theorem dL_law_1403 : decode cL_law 1403 = .ok (.istore 6, 2) := by decide +kernel
theorem dL_law_1405 : decode cL_law 1405 = .ok (.aload_n 2, 1) := by decide +kernel
theorem dL_law_1406 : decode cL_law 1406 = .ok (.invokevirtual 143, 3) := by decide +kernel
theorem dL_law_1409 : decode cL_law 1409 = .ok (.iload 5, 2) := by decide +kernel
theorem dL_law_1411 : decode cL_law 1411 = .ok (.if_icmp .eq 5, 3) := by decide +kernel
theorem dL_law_1414 : decode cL_law 1414 = .ok (.iconst 0, 1) := by decide +kernel
theorem dL_law_1416 : decode cL_law 1416 = .ok (.iload 5, 2) := by decide +kernel
theorem dL_law_1418 : decode cL_law 1418 = .ok (.ifCond .ne 15, 3) := by decide +kernel
theorem dL_law_1421 : decode cL_law 1421 = .ok (.aload_n 3, 1) := by decide +kernel
theorem dL_law_1422 : decode cL_law 1422 = .ok (.iconst 0, 1) := by decide +kernel
theorem dL_law_1423 : decode cL_law 1423 = .ok (.laload, 1) := by decide +kernel
theorem dL_law_1424 : decode cL_law 1424 = .ok (.iload 6, 2) := by decide +kernel
theorem dL_law_1426 : decode cL_law 1426 = .ok (.i2l, 1) := by decide +kernel
theorem dL_law_1427 : decode cL_law 1427 = .ok (.lcmp, 1) := by decide +kernel
theorem dL_law_1428 : decode cL_law 1428 = .ok (.ifCond .eq 5, 3) := by decide +kernel
theorem dL_law_1431 : decode cL_law 1431 = .ok (.iconst 0, 1) := by decide +kernel
theorem dL_law_1433 : decode cL_law 1433 = .ok (.goto 1300, 3) := by decide +kernel
def f_law28 (N L : Nat) (xs : Nat → Int32) (i : Int32) (fo : (Nat → Int64)) (mv : MV) (xv : XV) (nv : SV) (tv : SV) (w0 : SV) (w1 : SV) (v0 : SV) (v1 : SV) (v2 : SV) (v3 : SV) (v4 : SV) (v5 : SV) : Option ((Nat → Int64) × MV × XV × SV × SV × SV × SV × SV × SV × SV × SV × SV × SV) :=
  gd (ixok (i + (1 : Int32)) L) ((f_L_distanceOf N fo xv nv (xs (i + (1 : Int32)).toNatClampNeg)).bind (fun o2 => gd (ixok (i + (1 : Int32)) L) ((f_X6_distanceOf N mv (xs (i + (1 : Int32)).toNatClampNeg)).bind (fun o5 => (f_X6_thrown N o5.2).bind (fun o7 => (if o7 = o2.1 then jn (fun (s1433 : Unit) => some (o2.2.1, o5.2, o2.2.2.1, o2.2.2.2, tv, w0, w1, v0, v1, v2, v3, v4, v5)) (fun (j1433 : (Unit) → Option ((Nat → Int64) × MV × XV × SV × SV × SV × SV × SV × SV × SV × SV × SV × SV)) => (if o2.1 = 0 then (if (lg_cmp (o2.2.1 (0 : Int32).toNatClampNeg) ((o5.1).toInt64)) = 0 then j1433 () else none) else j1433 ())) else none))))))
set_option maxHeartbeats 4000000 in
set_option maxRecDepth 100000 in
theorem law28 (hst : l.stackTraces = false) (hx : p.tables.exec = Jvm.exec) (hb : c.code = code) (hml : c.maxLocals = 9) (hown : s.vm.findClass RL = some m.cls) (hts : ∀ w ∈ wT, w.before args s = true) (hK : wK dC dI cyI cyO cyL s) (hZ : wZ z0 s) (hAz : ∀ q, A q → z0 ≤ q) (hz0 : z0 ≤ s.heap.size) (hA : ∀ q : Nat, s.heap.size ≤ q → A q) (hX : va_X b L xs s s.heap) (hbl : b < s.heap.size) (hbA : ¬ A b) (hRf : 11 ≤ R.frames) (hRl : 398 ≤ R.locals) (qo : Nat) (mm x an tr k0 k1 b0 b1 b2 b3 b4 b5 : Nat → Nat) (fl fs : Nat → Option Nat) (N : Nat) (fo : (Nat → Int64)) (mv : MV) (xv : XV) (nv : SV) (tv : SV) (w0 : SV) (w1 : SV) (v0 : SV) (v1 : SV) (v2 : SV) (v3 : SV) (v4 : SV) (v5 : SV) (i : Int32) (hl0 : fl 0 = some (k0 0)) (hl1 : fl 1 = some (k1 0)) (hs0 : fs 0 = some (b0 0)) (hs1 : fs 1 = some (b1 0)) (hs2 : fs 2 = some (b2 0)) (hs3 : fs 3 = some (b3 0)) (hs4 : fs 4 = some (b4 0)) (hs5 : fs 5 = some (b5 0)) (out : (Nat → Int64) × MV × XV × SV × SV × SV × SV × SV × SV × SV × SV × SV × SV) (hF : f_law28 N L xs i fo mv xv nv tv w0 w1 v0 v1 v2 v3 v4 v5 = some out) (hP : va_P (dC, dI) vwCl (([[cLo cyL qo 1 fo], (cM cyI mm mv), (cXo x an tr xv), (cH cyO (x 1) (x 2) 2 fl), (cXk cyI x xv), (cH cyO (x 4) (x 5) 6 fs), (cT cyI x (X_text xv)), (cSo an nv), (cG cyI an (S_green nv)), (cV cyI an (S_score nv)), (cSo tr tv), (cG cyI tr (S_green tv)), (cV cyI tr (S_score tv)), (cS cyI k0 w0), (cS cyI k1 w1), (cS cyI b0 v0), (cS cyI b1 v1), (cS cyI b2 v2), (cS cyI b3 v3), (cS cyI b4 v4), (cS cyI b5 v5)] : List va_W).flatten) H) (hD : va_D A (([[cLo cyL qo 1 fo], (cM cyI mm mv), (cXo x an tr xv), (cH cyO (x 1) (x 2) 2 fl), (cXk cyI x xv), (cH cyO (x 4) (x 5) 6 fs), (cT cyI x (X_text xv)), (cSo an nv), (cG cyI an (S_green nv)), (cV cyI an (S_score nv)), (cSo tr tv), (cG cyI tr (S_green tv)), (cV cyI tr (S_score tv)), (cS cyI k0 w0), (cS cyI k1 w1), (cS cyI b0 v0), (cS cyI b1 v1), (cS cyI b2 v2), (cS cyI b3 v3), (cS cyI b4 v4), (cS cyI b5 v5)] : List va_W).flatten)) (hS : va_S A s.heap H locs) (hl : lv_has ls 9 [(0, .ref b), (1, .ref (x 0)), (2, .ref (mm 0)), (3, .ref qo), (4, .int i)]) (hRc : cells + 4 ≤ R.cells) (hRs : slots + 24 ≤ R.slots) (kk : ∀ (H : Heap) (locs : List Loc) (ls : Array Slot), va_P (dC, dI) vwCl (([[cLo cyL qo 1 out.1], (cM cyI mm out.2.1), (cXo x an tr out.2.2.1), (cH cyO (x 1) (x 2) 2 fl), (cXk cyI x out.2.2.1), (cH cyO (x 4) (x 5) 6 fs), (cT cyI x (X_text out.2.2.1)), (cSo an out.2.2.2.1), (cG cyI an (S_green out.2.2.2.1)), (cV cyI an (S_score out.2.2.2.1)), (cSo tr out.2.2.2.2.1), (cG cyI tr (S_green out.2.2.2.2.1)), (cV cyI tr (S_score out.2.2.2.2.1)), (cS cyI k0 out.2.2.2.2.2.1), (cS cyI k1 out.2.2.2.2.2.2.1), (cS cyI b0 out.2.2.2.2.2.2.2.1), (cS cyI b1 out.2.2.2.2.2.2.2.2.1), (cS cyI b2 out.2.2.2.2.2.2.2.2.2.1), (cS cyI b3 out.2.2.2.2.2.2.2.2.2.2.1), (cS cyI b4 out.2.2.2.2.2.2.2.2.2.2.2.1), (cS cyI b5 out.2.2.2.2.2.2.2.2.2.2.2.2)] : List va_W).flatten) H → va_D A (([[cLo cyL qo 1 out.1], (cM cyI mm out.2.1), (cXo x an tr out.2.2.1), (cH cyO (x 1) (x 2) 2 fl), (cXk cyI x out.2.2.1), (cH cyO (x 4) (x 5) 6 fs), (cT cyI x (X_text out.2.2.1)), (cSo an out.2.2.2.1), (cG cyI an (S_green out.2.2.2.1)), (cV cyI an (S_score out.2.2.2.1)), (cSo tr out.2.2.2.2.1), (cG cyI tr (S_green out.2.2.2.2.1)), (cV cyI tr (S_score out.2.2.2.2.1)), (cS cyI k0 out.2.2.2.2.2.1), (cS cyI k1 out.2.2.2.2.2.2.1), (cS cyI b0 out.2.2.2.2.2.2.2.1), (cS cyI b1 out.2.2.2.2.2.2.2.2.1), (cS cyI b2 out.2.2.2.2.2.2.2.2.2.1), (cS cyI b3 out.2.2.2.2.2.2.2.2.2.2.1), (cS cyI b4 out.2.2.2.2.2.2.2.2.2.2.2.1), (cS cyI b5 out.2.2.2.2.2.2.2.2.2.2.2.2)] : List va_W).flatten) → va_S A s.heap H locs → lv_has ls 9 [(0, .ref b), (1, .ref (x 0)), (2, .ref (mm 0)), (3, .ref qo), (4, .int i)] → W p l e R s m args below meth c H locs (cells + 4) (slots + 24) Q (F0 m 2733 ls [])) : W p l e R s m args below meth c H locs cells slots Q (F0 m 1380 ls []) := by
  unfold f_law28 at hF
  refine lv_aload_n hx hb dL_law_1380 rfl (lv_at hl 1 rfl) ?_
  refine lv_aload_n hx hb dL_law_1381 rfl (lv_at hl 0 rfl) ?_
  refine lv_iload hx hb dL_law_1382 (lv_at hl 4 rfl) ?_
  refine lv_iconst (v := 1) hx hb dL_law_1384 (by decide) ?_
  refine lv_iadd hx hb dL_law_1385 ?_
  obtain ⟨hg1, hF⟩ := gd_use hF
  refine va_sld hx hb hX hbl hbA hS hg1 dL_law_1386 ?_
  refine lv_aload_n hx hb dL_law_1387 rfl (lv_at hl 3 rfl) ?_
  obtain ⟨o2, h3, hF⟩ := obd hF
  refine wcLi (As := [.ref (x 0), .int (xs (i + (1 : Int32)).toNatClampNeg), .ref qo]) (rest := []) (wr := ([(cM cyI mm mv), (cSo tr tv), (cG cyI tr (S_green tv)), (cV cyI tr (S_score tv)), (cS cyI k0 w0), (cS cyI k1 w1), (cS cyI b0 v0), (cS cyI b1 v1), (cS cyI b2 v2), (cS cyI b3 v3), (cS cyI b4 v4), (cS cyI b5 v5)] : List va_W).flatten) ⟨hx, hb, hml, hown, hts⟩ (met_L_distanceOf l z0 hst dC dI cyI cyO cyL qo x tr an fl fs _ N fo xv nv (xs (i + (1 : Int32)).toNatClampNeg) o2 h3) (vx_cwSW 3 hts (gS w_methodLink_L_241 w_static_L_distanceOf w_initialized_L w_codeW_L_distanceOf) rfl rfl rfl (by decide +kernel) ⟨Nat.le_trans (Nat.le_of_ble_eq_true rfl) hRf, Nat.le_trans (Nat.le_of_ble_eq_true rfl) hRl⟩) hP hD hK hZ hAz hz0 (seg_perm (n := 21) (R := [(cM cyI mm mv), (cSo tr tv), (cG cyI tr (S_green tv)), (cV cyI tr (S_score tv)), (cS cyI k0 w0), (cS cyI k1 w1), (cS cyI b0 v0), (cS cyI b1 v1), (cS cyI b2 v2), (cS cyI b3 v3), (cS cyI b4 v4), (cS cyI b5 v5)]) (C := [[cLo cyL qo 1 fo], (cXo x an tr xv), (cH cyO (x 1) (x 2) 2 fl), (cXk cyI x xv), (cH cyO (x 4) (x 5) 6 fs), (cT cyI x (X_text xv)), (cSo an nv), (cG cyI an (S_green nv)), (cV cyI an (S_score nv))]) [1, 10, 11, 12, 13, 14, 15, 16, 17, 18, 19, 20] [0, 2, 3, 4, 5, 6, 7, 8, 9] rfl rfl rfl (by decide) rfl) rfl hl.1 (Nat.le_of_ble_eq_true rfl) dL_law_1388 ⟨by omega, by omega⟩ hS hA (fun r u H locs hw hP hD hS => ?_)
  obtain rfl : r = o2.1 := congrArg Prod.fst hw
  obtain rfl : u = o2.2 := congrArg Prod.snd hw
  clear hw
  have hq := seg_permS (segs := [[cLo cyL qo 1 o2.2.1], (cM cyI mm mv), (cXo x an tr o2.2.2.1), (cH cyO (x 1) (x 2) 2 fl), (cXk cyI x o2.2.2.1), (cH cyO (x 4) (x 5) 6 fs), (cT cyI x (X_text o2.2.2.1)), (cSo an o2.2.2.2), (cG cyI an (S_green o2.2.2.2)), (cV cyI an (S_score o2.2.2.2)), (cSo tr tv), (cG cyI tr (S_green tv)), (cV cyI tr (S_score tv)), (cS cyI k0 w0), (cS cyI k1 w1), (cS cyI b0 v0), (cS cyI b1 v1), (cS cyI b2 v2), (cS cyI b3 v3), (cS cyI b4 v4), (cS cyI b5 v5)]) (R := [(cM cyI mm mv), (cSo tr tv), (cG cyI tr (S_green tv)), (cV cyI tr (S_score tv)), (cS cyI k0 w0), (cS cyI k1 w1), (cS cyI b0 v0), (cS cyI b1 v1), (cS cyI b2 v2), (cS cyI b3 v3), (cS cyI b4 v4), (cS cyI b5 v5)]) (C := [[cLo cyL qo 1 o2.2.1], (cXo x an tr o2.2.2.1), (cH cyO (x 1) (x 2) 2 fl), (cXk cyI x o2.2.2.1), (cH cyO (x 4) (x 5) 6 fs), (cT cyI x (X_text o2.2.2.1)), (cSo an o2.2.2.2), (cG cyI an (S_green o2.2.2.2)), (cV cyI an (S_score o2.2.2.2))]) (n := 21) [1, 10, 11, 12, 13, 14, 15, 16, 17, 18, 19, 20] [0, 2, 3, 4, 5, 6, 7, 8, 9] rfl rfl rfl (by decide)
  have hP : va_P (dC, dI) vwCl (([[cLo cyL qo 1 o2.2.1], (cM cyI mm mv), (cXo x an tr o2.2.2.1), (cH cyO (x 1) (x 2) 2 fl), (cXk cyI x o2.2.2.1), (cH cyO (x 4) (x 5) 6 fs), (cT cyI x (X_text o2.2.2.1)), (cSo an o2.2.2.2), (cG cyI an (S_green o2.2.2.2)), (cV cyI an (S_score o2.2.2.2)), (cSo tr tv), (cG cyI tr (S_green tv)), (cV cyI tr (S_score tv)), (cS cyI k0 w0), (cS cyI k1 w1), (cS cyI b0 v0), (cS cyI b1 v1), (cS cyI b2 v2), (cS cyI b3 v3), (cS cyI b4 v4), (cS cyI b5 v5)] : List va_W).flatten) H := hP.perm hq
  have hD : va_D A (([[cLo cyL qo 1 o2.2.1], (cM cyI mm mv), (cXo x an tr o2.2.2.1), (cH cyO (x 1) (x 2) 2 fl), (cXk cyI x o2.2.2.1), (cH cyO (x 4) (x 5) 6 fs), (cT cyI x (X_text o2.2.2.1)), (cSo an o2.2.2.2), (cG cyI an (S_green o2.2.2.2)), (cV cyI an (S_score o2.2.2.2)), (cSo tr tv), (cG cyI tr (S_green tv)), (cV cyI tr (S_score tv)), (cS cyI k0 w0), (cS cyI k1 w1), (cS cyI b0 v0), (cS cyI b1 v1), (cS cyI b2 v2), (cS cyI b3 v3), (cS cyI b4 v4), (cS cyI b5 v5)] : List va_W).flatten) := hD.perm hq
  clear hq
  refine lv_istore (lv' := [(5, .int o2.1), (0, .ref b), (1, .ref (x 0)), (2, .ref (mm 0)), (3, .ref qo), (4, .int i)]) hx hb dL_law_1391 hl (by decide) rfl (fun ls hl => ?_)
  refine lv_aload_n hx hb dL_law_1393 rfl (lv_at hl 3 rfl) ?_
  refine lv_aload_n hx hb dL_law_1394 rfl (lv_at hl 1 rfl) ?_
  refine lv_iload hx hb dL_law_1395 (lv_at hl 5 rfl) ?_
  refine lv_iconst (v := 1) hx hb dL_law_1397 (by decide) ?_
  refine lv_iadd hx hb dL_law_1398 ?_
  obtain ⟨hg4, hF⟩ := gd_use hF
  refine va_sld hx hb hX hbl hbA hS hg4 dL_law_1399 ?_
  obtain ⟨o5, h6, hF⟩ := obd hF
  refine wcPVi (As := [.int (xs (i + (1 : Int32)).toNatClampNeg)]) (rest := []) (wr := ([[cLo cyL qo 1 o2.2.1], (cXo x an tr o2.2.2.1), (cH cyO (x 1) (x 2) 2 fl), (cXk cyI x o2.2.2.1), (cH cyO (x 4) (x 5) 6 fs), (cT cyI x (X_text o2.2.2.1)), (cSo an o2.2.2.2), (cG cyI an (S_green o2.2.2.2)), (cV cyI an (S_score o2.2.2.2)), (cSo tr tv), (cG cyI tr (S_green tv)), (cV cyI tr (S_score tv)), (cS cyI k0 w0), (cS cyI k1 w1), (cS cyI b0 v0), (cS cyI b1 v1), (cS cyI b2 v2), (cS cyI b3 v3), (cS cyI b4 v4), (cS cyI b5 v5)] : List va_W).flatten) (b := (mm 0)) ⟨hx, hb, hml, hown, hts⟩ (met_X6_distanceOf l dC dI cyI cyO cyL mm _ N mv (xs (i + (1 : Int32)).toNatClampNeg) o5 h6) (cwV 1 hts (gV w_methodLink_L_243 w_instanceMethod_X6_distanceOf w_selects_X6_distanceOf w_initialized_X6 w_code_X6_distanceOf) rfl rfl rfl (by decide +kernel) ⟨Nat.le_trans (Nat.le_of_ble_eq_true rfl) hRf, Nat.le_trans (Nat.le_of_ble_eq_true rfl) hRl⟩) (va_recv hK.1 hP (ci := 6) (q0 := 1) rfl rfl) hP hD hK (seg_perm (n := 21) (R := [[cLo cyL qo 1 o2.2.1], (cXo x an tr o2.2.2.1), (cH cyO (x 1) (x 2) 2 fl), (cXk cyI x o2.2.2.1), (cH cyO (x 4) (x 5) 6 fs), (cT cyI x (X_text o2.2.2.1)), (cSo an o2.2.2.2), (cG cyI an (S_green o2.2.2.2)), (cV cyI an (S_score o2.2.2.2)), (cSo tr tv), (cG cyI tr (S_green tv)), (cV cyI tr (S_score tv)), (cS cyI k0 w0), (cS cyI k1 w1), (cS cyI b0 v0), (cS cyI b1 v1), (cS cyI b2 v2), (cS cyI b3 v3), (cS cyI b4 v4), (cS cyI b5 v5)]) (C := [(cM cyI mm mv)]) [0, 2, 3, 4, 5, 6, 7, 8, 9, 10, 11, 12, 13, 14, 15, 16, 17, 18, 19, 20] [1] rfl rfl rfl (by decide) rfl) rfl hl.1 (Nat.le_of_ble_eq_true rfl) dL_law_1400 ⟨by omega, by omega⟩ hS hA (fun r u H locs hw hP hD hS => ?_)
  obtain rfl : r = o5.1 := congrArg Prod.fst hw
  obtain rfl : u = o5.2 := congrArg Prod.snd hw
  clear hw
  have hq := seg_permS (segs := [[cLo cyL qo 1 o2.2.1], (cM cyI mm o5.2), (cXo x an tr o2.2.2.1), (cH cyO (x 1) (x 2) 2 fl), (cXk cyI x o2.2.2.1), (cH cyO (x 4) (x 5) 6 fs), (cT cyI x (X_text o2.2.2.1)), (cSo an o2.2.2.2), (cG cyI an (S_green o2.2.2.2)), (cV cyI an (S_score o2.2.2.2)), (cSo tr tv), (cG cyI tr (S_green tv)), (cV cyI tr (S_score tv)), (cS cyI k0 w0), (cS cyI k1 w1), (cS cyI b0 v0), (cS cyI b1 v1), (cS cyI b2 v2), (cS cyI b3 v3), (cS cyI b4 v4), (cS cyI b5 v5)]) (R := [[cLo cyL qo 1 o2.2.1], (cXo x an tr o2.2.2.1), (cH cyO (x 1) (x 2) 2 fl), (cXk cyI x o2.2.2.1), (cH cyO (x 4) (x 5) 6 fs), (cT cyI x (X_text o2.2.2.1)), (cSo an o2.2.2.2), (cG cyI an (S_green o2.2.2.2)), (cV cyI an (S_score o2.2.2.2)), (cSo tr tv), (cG cyI tr (S_green tv)), (cV cyI tr (S_score tv)), (cS cyI k0 w0), (cS cyI k1 w1), (cS cyI b0 v0), (cS cyI b1 v1), (cS cyI b2 v2), (cS cyI b3 v3), (cS cyI b4 v4), (cS cyI b5 v5)]) (C := [(cM cyI mm o5.2)]) (n := 21) [0, 2, 3, 4, 5, 6, 7, 8, 9, 10, 11, 12, 13, 14, 15, 16, 17, 18, 19, 20] [1] rfl rfl rfl (by decide)
  have hP : va_P (dC, dI) vwCl (([[cLo cyL qo 1 o2.2.1], (cM cyI mm o5.2), (cXo x an tr o2.2.2.1), (cH cyO (x 1) (x 2) 2 fl), (cXk cyI x o2.2.2.1), (cH cyO (x 4) (x 5) 6 fs), (cT cyI x (X_text o2.2.2.1)), (cSo an o2.2.2.2), (cG cyI an (S_green o2.2.2.2)), (cV cyI an (S_score o2.2.2.2)), (cSo tr tv), (cG cyI tr (S_green tv)), (cV cyI tr (S_score tv)), (cS cyI k0 w0), (cS cyI k1 w1), (cS cyI b0 v0), (cS cyI b1 v1), (cS cyI b2 v2), (cS cyI b3 v3), (cS cyI b4 v4), (cS cyI b5 v5)] : List va_W).flatten) H := hP.perm hq
  have hD : va_D A (([[cLo cyL qo 1 o2.2.1], (cM cyI mm o5.2), (cXo x an tr o2.2.2.1), (cH cyO (x 1) (x 2) 2 fl), (cXk cyI x o2.2.2.1), (cH cyO (x 4) (x 5) 6 fs), (cT cyI x (X_text o2.2.2.1)), (cSo an o2.2.2.2), (cG cyI an (S_green o2.2.2.2)), (cV cyI an (S_score o2.2.2.2)), (cSo tr tv), (cG cyI tr (S_green tv)), (cV cyI tr (S_score tv)), (cS cyI k0 w0), (cS cyI k1 w1), (cS cyI b0 v0), (cS cyI b1 v1), (cS cyI b2 v2), (cS cyI b3 v3), (cS cyI b4 v4), (cS cyI b5 v5)] : List va_W).flatten) := hD.perm hq
  clear hq
  refine lv_istore (lv' := [(6, .int o5.1), (5, .int o2.1), (0, .ref b), (1, .ref (x 0)), (2, .ref (mm 0)), (3, .ref qo), (4, .int i)]) hx hb dL_law_1403 hl (by decide) rfl (fun ls hl => ?_)
  refine lv_aload_n hx hb dL_law_1405 rfl (lv_at hl 4 rfl) ?_
  obtain ⟨o7, h8, hF⟩ := obd hF
  refine wcRVi (As := []) (rest := []) (b := (mm 0)) ⟨hx, hb, hml, hown, hts⟩ (met_X6_thrown l dC dI cyI cyO cyL mm N o5.2  o7 h8) (cwV 0 hts (gV w_methodLink_L_143 w_instanceMethod_X6_thrown w_selects_X6_thrown w_initialized_X6 w_code_X6_thrown) rfl rfl rfl (by decide +kernel) ⟨Nat.le_trans (Nat.le_of_ble_eq_true rfl) hRf, Nat.le_trans (Nat.le_of_ble_eq_true rfl) hRl⟩) (va_recv hK.1 hP (ci := 6) (q0 := 1) rfl rfl) hP hK [1, 2, 3, 4, 5, 6, 7, 8] rfl rfl hl.1 (Nat.le_of_ble_eq_true rfl) dL_law_1406 ⟨by omega, by omega⟩ hS (fun r H locs hw hP hS => ?_)
  have hw := hw.symm
  subst hw
  refine lv_iload hx hb dL_law_1409 (lv_at hl 1 rfl) ?_
  refine lv_icmp_eq (tgt := 1416) hx hb dL_law_1411 (by decide) (fun c9 => ?_) (fun c9 => ?_)
  · have hF := itp c9 hF
    refine lv_iload hx hb dL_law_1416 (lv_at hl 1 rfl) ?_
    obtain ⟨j1433, hj1433, hF⟩ := jn_use hF
    have hJ1433 : ∀ (s1433 : Unit) (H : Heap) (locs : List Loc) (ls : Array Slot), va_P (dC, dI) vwCl (([[cLo cyL qo 1 o2.2.1], (cM cyI mm o5.2), (cXo x an tr o2.2.2.1), (cH cyO (x 1) (x 2) 2 fl), (cXk cyI x o2.2.2.1), (cH cyO (x 4) (x 5) 6 fs), (cT cyI x (X_text o2.2.2.1)), (cSo an o2.2.2.2), (cG cyI an (S_green o2.2.2.2)), (cV cyI an (S_score o2.2.2.2)), (cSo tr tv), (cG cyI tr (S_green tv)), (cV cyI tr (S_score tv)), (cS cyI k0 w0), (cS cyI k1 w1), (cS cyI b0 v0), (cS cyI b1 v1), (cS cyI b2 v2), (cS cyI b3 v3), (cS cyI b4 v4), (cS cyI b5 v5)] : List va_W).flatten) H → va_D A (([[cLo cyL qo 1 o2.2.1], (cM cyI mm o5.2), (cXo x an tr o2.2.2.1), (cH cyO (x 1) (x 2) 2 fl), (cXk cyI x o2.2.2.1), (cH cyO (x 4) (x 5) 6 fs), (cT cyI x (X_text o2.2.2.1)), (cSo an o2.2.2.2), (cG cyI an (S_green o2.2.2.2)), (cV cyI an (S_score o2.2.2.2)), (cSo tr tv), (cG cyI tr (S_green tv)), (cV cyI tr (S_score tv)), (cS cyI k0 w0), (cS cyI k1 w1), (cS cyI b0 v0), (cS cyI b1 v1), (cS cyI b2 v2), (cS cyI b3 v3), (cS cyI b4 v4), (cS cyI b5 v5)] : List va_W).flatten) → va_S A s.heap H locs → lv_has ls 9 [(0, .ref b), (1, .ref (x 0)), (2, .ref (mm 0)), (3, .ref qo), (4, .int i)] → j1433 s1433 = some out → W p l e R s m args below meth c H locs (cells + 3) (slots + 18) Q (F0 m 1433 ls []) := by
      intro s1433 H locs ls hP hD hS hl hF
      have hF := (congrFun hj1433 s1433).symm.trans hF
      refine lv_goto (tgt := 2733) hx hb dL_law_1433 (by decide) ?_
      obtain rfl := Option.some.inj hF
      refine W.widen (k := cells + 4) (n := slots + 24) (by omega) (by omega) ?_
      exact kk _ _ _ hP hD hS (lv_sub hl [0, 1, 2, 3, 4] rfl)
    refine lv_if_ne (tgt := 1433) hx hb dL_law_1418 (by decide) (fun c10 => ?_) (fun c10 => ?_)
    · have hF := itn c10 hF
      exact hJ1433 () _ _ _ hP hD hS (lv_sub hl [2, 3, 4, 5, 6] rfl) hF
    · have hF := itp c10 hF
      refine lv_aload_n hx hb dL_law_1421 rfl (lv_at hl 5 rfl) ?_
      refine lv_iconst (v := 0) hx hb dL_law_1422 (by decide) ?_
      refine va_lald hx hb hK.1 hP 0 2 rfl rfl (i := (0 : Int32)) (show ixok (0 : Int32) 1 by decide) dL_law_1423 ?_
      refine lv_iload hx hb dL_law_1424 (lv_at hl 0 rfl) ?_
      refine lv_i2l (v := (o5.1).toInt64) hx hb dL_law_1426 rfl ?_
      refine W.lcmp hx hb dL_law_1427 ?_
      refine lv_if_eq (tgt := 1433) hx hb dL_law_1428 (by decide) (fun c11 => ?_) (fun c11 => ?_)
      · have hF := itp c11 hF
        exact hJ1433 () _ _ _ hP hD hS (lv_sub hl [2, 3, 4, 5, 6] rfl) hF
      · have hF := itn c11 hF
        refine lv_iconst (v := 0) hx hb dL_law_1431 (by decide) ?_
        cases hF
  · have hF := itn c9 hF
    refine lv_iconst (v := 0) hx hb dL_law_1414 (by decide) ?_
    cases hF
theorem dL_law_1436 : decode cL_law 1436 = .ok (.aload_n 1, 1) := by decide +kernel
theorem dL_law_1437 : decode cL_law 1437 = .ok (.aload_n 0, 1) := by decide +kernel
theorem dL_law_1438 : decode cL_law 1438 = .ok (.iload 4, 2) := by decide +kernel
theorem dL_law_1440 : decode cL_law 1440 = .ok (.iconst 1, 1) := by decide +kernel
theorem dL_law_1441 : decode cL_law 1441 = .ok (.iadd, 1) := by decide +kernel
theorem dL_law_1442 : decode cL_law 1442 = .ok (.iaload, 1) := by decide +kernel
theorem dL_law_1443 : decode cL_law 1443 = .ok (.aload_n 0, 1) := by decide +kernel
theorem dL_law_1444 : decode cL_law 1444 = .ok (.iload 4, 2) := by decide +kernel
theorem dL_law_1446 : decode cL_law 1446 = .ok (.iconst 2, 1) := by decide +kernel
theorem dL_law_1447 : decode cL_law 1447 = .ok (.iadd, 1) := by decide +kernel
theorem dL_law_1448 : decode cL_law 1448 = .ok (.iaload, 1) := by decide +kernel
theorem dL_law_1449 : decode cL_law 1449 = .ok (.aload_n 3, 1) := by decide +kernel
theorem dL_law_1450 : decode cL_law 1450 = .ok (.invokestatic 244, 3) := by decide +kernel
theorem dL_law_1453 : decode cL_law 1453 = .ok (.istore 5, 2) := by decide +kernel
theorem dL_law_1455 : decode cL_law 1455 = .ok (.aload_n 2, 1) := by decide +kernel
theorem dL_law_1456 : decode cL_law 1456 = .ok (.aload_n 0, 1) := by decide +kernel
theorem dL_law_1457 : decode cL_law 1457 = .ok (.iload 4, 2) := by decide +kernel
theorem dL_law_1459 : decode cL_law 1459 = .ok (.iconst 1, 1) := by decide +kernel
theorem dL_law_1460 : decode cL_law 1460 = .ok (.iadd, 1) := by decide +kernel
theorem dL_law_1461 : decode cL_law 1461 = .ok (.iaload, 1) := by decide +kernel
theorem dL_law_1462 : decode cL_law 1462 = .ok (.aload_n 0, 1) := by decide +kernel
theorem dL_law_1463 : decode cL_law 1463 = .ok (.iload 4, 2) := by decide +kernel
theorem dL_law_1465 : decode cL_law 1465 = .ok (.iconst 2, 1) := by decide +kernel
theorem dL_law_1466 : decode cL_law 1466 = .ok (.iadd, 1) := by decide +kernel
theorem dL_law_1467 : decode cL_law 1467 = .ok (.iaload, 1) := by decide +kernel
theorem dL_law_1468 : decode cL_law 1468 = .ok (.invokevirtual 247, 3) := by decide +kernel
theorem dL_law_1471 : decode cL_law 1471 = .ok (.istore 6, 2) := by decide +kernel
theorem dL_law_1473 : decode cL_law 1473 = .ok (.aload_n 2, 1) := by decide +kernel
theorem dL_law_1474 : decode cL_law 1474 = .ok (.invokevirtual 143, 3) := by decide +kernel
theorem dL_law_1477 : decode cL_law 1477 = .ok (.iload 5, 2) := by decide +kernel
theorem dL_law_1479 : decode cL_law 1479 = .ok (.if_icmp .eq 5, 3) := by decide +kernel
theorem dL_law_1482 : decode cL_law 1482 = .ok (.iconst 0, 1) := by decide +kernel
theorem dL_law_1484 : decode cL_law 1484 = .ok (.iload 5, 2) := by decide +kernel
theorem dL_law_1486 : decode cL_law 1486 = .ok (.ifCond .ne 15, 3) := by decide +kernel
theorem dL_law_1489 : decode cL_law 1489 = .ok (.aload_n 3, 1) := by decide +kernel
theorem dL_law_1490 : decode cL_law 1490 = .ok (.iconst 0, 1) := by decide +kernel
theorem dL_law_1491 : decode cL_law 1491 = .ok (.laload, 1) := by decide +kernel
theorem dL_law_1492 : decode cL_law 1492 = .ok (.iload 6, 2) := by decide +kernel
theorem dL_law_1494 : decode cL_law 1494 = .ok (.i2l, 1) := by decide +kernel
theorem dL_law_1495 : decode cL_law 1495 = .ok (.lcmp, 1) := by decide +kernel
theorem dL_law_1496 : decode cL_law 1496 = .ok (.ifCond .eq 5, 3) := by decide +kernel
theorem dL_law_1499 : decode cL_law 1499 = .ok (.iconst 0, 1) := by decide +kernel
theorem dL_law_1501 : decode cL_law 1501 = .ok (.goto 1232, 3) := by decide +kernel
def f_law29 (N L : Nat) (xs : Nat → Int32) (i : Int32) (fo : (Nat → Int64)) (mv : MV) (xv : XV) (nv : SV) (tv : SV) (w0 : SV) (w1 : SV) (v0 : SV) (v1 : SV) (v2 : SV) (v3 : SV) (v4 : SV) (v5 : SV) : Option ((Nat → Int64) × MV × XV × SV × SV × SV × SV × SV × SV × SV × SV × SV × SV) :=
  gd (ixok (i + (1 : Int32)) L) (gd (ixok (i + (2 : Int32)) L) ((f_L_bowlAt N fo xv nv (xs (i + (1 : Int32)).toNatClampNeg) (xs (i + (2 : Int32)).toNatClampNeg)).bind (fun o3 => gd (ixok (i + (1 : Int32)) L) (gd (ixok (i + (2 : Int32)) L) ((f_X6_bowlAt N mv (xs (i + (1 : Int32)).toNatClampNeg) (xs (i + (2 : Int32)).toNatClampNeg)).bind (fun o7 => (f_X6_thrown N o7.2).bind (fun o9 => (if o9 = o3.1 then jn (fun (s1501 : Unit) => some (o3.2.1, o7.2, o3.2.2.1, o3.2.2.2, tv, w0, w1, v0, v1, v2, v3, v4, v5)) (fun (j1501 : (Unit) → Option ((Nat → Int64) × MV × XV × SV × SV × SV × SV × SV × SV × SV × SV × SV × SV)) => (if o3.1 = 0 then (if (lg_cmp (o3.2.1 (0 : Int32).toNatClampNeg) ((o7.1).toInt64)) = 0 then j1501 () else none) else j1501 ())) else none))))))))
set_option maxHeartbeats 4000000 in
set_option maxRecDepth 100000 in
theorem law29 (hst : l.stackTraces = false) (hx : p.tables.exec = Jvm.exec) (hb : c.code = code) (hml : c.maxLocals = 9) (hown : s.vm.findClass RL = some m.cls) (hts : ∀ w ∈ wT, w.before args s = true) (hK : wK dC dI cyI cyO cyL s) (hZ : wZ z0 s) (hAz : ∀ q, A q → z0 ≤ q) (hz0 : z0 ≤ s.heap.size) (hA : ∀ q : Nat, s.heap.size ≤ q → A q) (hX : va_X b L xs s s.heap) (hbl : b < s.heap.size) (hbA : ¬ A b) (hRf : 11 ≤ R.frames) (hRl : 398 ≤ R.locals) (qo : Nat) (mm x an tr k0 k1 b0 b1 b2 b3 b4 b5 : Nat → Nat) (fl fs : Nat → Option Nat) (N : Nat) (fo : (Nat → Int64)) (mv : MV) (xv : XV) (nv : SV) (tv : SV) (w0 : SV) (w1 : SV) (v0 : SV) (v1 : SV) (v2 : SV) (v3 : SV) (v4 : SV) (v5 : SV) (i : Int32) (hl0 : fl 0 = some (k0 0)) (hl1 : fl 1 = some (k1 0)) (hs0 : fs 0 = some (b0 0)) (hs1 : fs 1 = some (b1 0)) (hs2 : fs 2 = some (b2 0)) (hs3 : fs 3 = some (b3 0)) (hs4 : fs 4 = some (b4 0)) (hs5 : fs 5 = some (b5 0)) (out : (Nat → Int64) × MV × XV × SV × SV × SV × SV × SV × SV × SV × SV × SV × SV) (hF : f_law29 N L xs i fo mv xv nv tv w0 w1 v0 v1 v2 v3 v4 v5 = some out) (hP : va_P (dC, dI) vwCl (([[cLo cyL qo 1 fo], (cM cyI mm mv), (cXo x an tr xv), (cH cyO (x 1) (x 2) 2 fl), (cXk cyI x xv), (cH cyO (x 4) (x 5) 6 fs), (cT cyI x (X_text xv)), (cSo an nv), (cG cyI an (S_green nv)), (cV cyI an (S_score nv)), (cSo tr tv), (cG cyI tr (S_green tv)), (cV cyI tr (S_score tv)), (cS cyI k0 w0), (cS cyI k1 w1), (cS cyI b0 v0), (cS cyI b1 v1), (cS cyI b2 v2), (cS cyI b3 v3), (cS cyI b4 v4), (cS cyI b5 v5)] : List va_W).flatten) H) (hD : va_D A (([[cLo cyL qo 1 fo], (cM cyI mm mv), (cXo x an tr xv), (cH cyO (x 1) (x 2) 2 fl), (cXk cyI x xv), (cH cyO (x 4) (x 5) 6 fs), (cT cyI x (X_text xv)), (cSo an nv), (cG cyI an (S_green nv)), (cV cyI an (S_score nv)), (cSo tr tv), (cG cyI tr (S_green tv)), (cV cyI tr (S_score tv)), (cS cyI k0 w0), (cS cyI k1 w1), (cS cyI b0 v0), (cS cyI b1 v1), (cS cyI b2 v2), (cS cyI b3 v3), (cS cyI b4 v4), (cS cyI b5 v5)] : List va_W).flatten)) (hS : va_S A s.heap H locs) (hl : lv_has ls 9 [(0, .ref b), (1, .ref (x 0)), (2, .ref (mm 0)), (3, .ref qo), (4, .int i)]) (hRc : cells + 4 ≤ R.cells) (hRs : slots + 24 ≤ R.slots) (kk : ∀ (H : Heap) (locs : List Loc) (ls : Array Slot), va_P (dC, dI) vwCl (([[cLo cyL qo 1 out.1], (cM cyI mm out.2.1), (cXo x an tr out.2.2.1), (cH cyO (x 1) (x 2) 2 fl), (cXk cyI x out.2.2.1), (cH cyO (x 4) (x 5) 6 fs), (cT cyI x (X_text out.2.2.1)), (cSo an out.2.2.2.1), (cG cyI an (S_green out.2.2.2.1)), (cV cyI an (S_score out.2.2.2.1)), (cSo tr out.2.2.2.2.1), (cG cyI tr (S_green out.2.2.2.2.1)), (cV cyI tr (S_score out.2.2.2.2.1)), (cS cyI k0 out.2.2.2.2.2.1), (cS cyI k1 out.2.2.2.2.2.2.1), (cS cyI b0 out.2.2.2.2.2.2.2.1), (cS cyI b1 out.2.2.2.2.2.2.2.2.1), (cS cyI b2 out.2.2.2.2.2.2.2.2.2.1), (cS cyI b3 out.2.2.2.2.2.2.2.2.2.2.1), (cS cyI b4 out.2.2.2.2.2.2.2.2.2.2.2.1), (cS cyI b5 out.2.2.2.2.2.2.2.2.2.2.2.2)] : List va_W).flatten) H → va_D A (([[cLo cyL qo 1 out.1], (cM cyI mm out.2.1), (cXo x an tr out.2.2.1), (cH cyO (x 1) (x 2) 2 fl), (cXk cyI x out.2.2.1), (cH cyO (x 4) (x 5) 6 fs), (cT cyI x (X_text out.2.2.1)), (cSo an out.2.2.2.1), (cG cyI an (S_green out.2.2.2.1)), (cV cyI an (S_score out.2.2.2.1)), (cSo tr out.2.2.2.2.1), (cG cyI tr (S_green out.2.2.2.2.1)), (cV cyI tr (S_score out.2.2.2.2.1)), (cS cyI k0 out.2.2.2.2.2.1), (cS cyI k1 out.2.2.2.2.2.2.1), (cS cyI b0 out.2.2.2.2.2.2.2.1), (cS cyI b1 out.2.2.2.2.2.2.2.2.1), (cS cyI b2 out.2.2.2.2.2.2.2.2.2.1), (cS cyI b3 out.2.2.2.2.2.2.2.2.2.2.1), (cS cyI b4 out.2.2.2.2.2.2.2.2.2.2.2.1), (cS cyI b5 out.2.2.2.2.2.2.2.2.2.2.2.2)] : List va_W).flatten) → va_S A s.heap H locs → lv_has ls 9 [(0, .ref b), (1, .ref (x 0)), (2, .ref (mm 0)), (3, .ref qo), (4, .int i)] → W p l e R s m args below meth c H locs (cells + 4) (slots + 24) Q (F0 m 2733 ls [])) : W p l e R s m args below meth c H locs cells slots Q (F0 m 1436 ls []) := by
  unfold f_law29 at hF
  refine lv_aload_n hx hb dL_law_1436 rfl (lv_at hl 1 rfl) ?_
  refine lv_aload_n hx hb dL_law_1437 rfl (lv_at hl 0 rfl) ?_
  refine lv_iload hx hb dL_law_1438 (lv_at hl 4 rfl) ?_
  refine lv_iconst (v := 1) hx hb dL_law_1440 (by decide) ?_
  refine lv_iadd hx hb dL_law_1441 ?_
  obtain ⟨hg1, hF⟩ := gd_use hF
  refine va_sld hx hb hX hbl hbA hS hg1 dL_law_1442 ?_
  refine lv_aload_n hx hb dL_law_1443 rfl (lv_at hl 0 rfl) ?_
  refine lv_iload hx hb dL_law_1444 (lv_at hl 4 rfl) ?_
  refine lv_iconst (v := 2) hx hb dL_law_1446 (by decide) ?_
  refine lv_iadd hx hb dL_law_1447 ?_
  obtain ⟨hg2, hF⟩ := gd_use hF
  refine va_sld hx hb hX hbl hbA hS hg2 dL_law_1448 ?_
  refine lv_aload_n hx hb dL_law_1449 rfl (lv_at hl 3 rfl) ?_
  obtain ⟨o3, h4, hF⟩ := obd hF
  refine wcLi (As := [.ref (x 0), .int (xs (i + (1 : Int32)).toNatClampNeg), .int (xs (i + (2 : Int32)).toNatClampNeg), .ref qo]) (rest := []) (wr := ([(cM cyI mm mv), (cSo tr tv), (cG cyI tr (S_green tv)), (cV cyI tr (S_score tv)), (cS cyI k0 w0), (cS cyI k1 w1), (cS cyI b0 v0), (cS cyI b1 v1), (cS cyI b2 v2), (cS cyI b3 v3), (cS cyI b4 v4), (cS cyI b5 v5)] : List va_W).flatten) ⟨hx, hb, hml, hown, hts⟩ (met_L_bowlAt l z0 hst dC dI cyI cyO cyL qo x tr an fl fs _ N fo xv nv (xs (i + (1 : Int32)).toNatClampNeg) (xs (i + (2 : Int32)).toNatClampNeg) o3 h4) (vx_cwSW 4 hts (gS w_methodLink_L_244 w_static_L_bowlAt w_initialized_L w_codeW_L_bowlAt) rfl rfl rfl (by decide +kernel) ⟨Nat.le_trans (Nat.le_of_ble_eq_true rfl) hRf, Nat.le_trans (Nat.le_of_ble_eq_true rfl) hRl⟩) hP hD hK hZ hAz hz0 (seg_perm (n := 21) (R := [(cM cyI mm mv), (cSo tr tv), (cG cyI tr (S_green tv)), (cV cyI tr (S_score tv)), (cS cyI k0 w0), (cS cyI k1 w1), (cS cyI b0 v0), (cS cyI b1 v1), (cS cyI b2 v2), (cS cyI b3 v3), (cS cyI b4 v4), (cS cyI b5 v5)]) (C := [[cLo cyL qo 1 fo], (cXo x an tr xv), (cH cyO (x 1) (x 2) 2 fl), (cXk cyI x xv), (cH cyO (x 4) (x 5) 6 fs), (cT cyI x (X_text xv)), (cSo an nv), (cG cyI an (S_green nv)), (cV cyI an (S_score nv))]) [1, 10, 11, 12, 13, 14, 15, 16, 17, 18, 19, 20] [0, 2, 3, 4, 5, 6, 7, 8, 9] rfl rfl rfl (by decide) rfl) rfl hl.1 (Nat.le_of_ble_eq_true rfl) dL_law_1450 ⟨by omega, by omega⟩ hS hA (fun r u H locs hw hP hD hS => ?_)
  obtain rfl : r = o3.1 := congrArg Prod.fst hw
  obtain rfl : u = o3.2 := congrArg Prod.snd hw
  clear hw
  have hq := seg_permS (segs := [[cLo cyL qo 1 o3.2.1], (cM cyI mm mv), (cXo x an tr o3.2.2.1), (cH cyO (x 1) (x 2) 2 fl), (cXk cyI x o3.2.2.1), (cH cyO (x 4) (x 5) 6 fs), (cT cyI x (X_text o3.2.2.1)), (cSo an o3.2.2.2), (cG cyI an (S_green o3.2.2.2)), (cV cyI an (S_score o3.2.2.2)), (cSo tr tv), (cG cyI tr (S_green tv)), (cV cyI tr (S_score tv)), (cS cyI k0 w0), (cS cyI k1 w1), (cS cyI b0 v0), (cS cyI b1 v1), (cS cyI b2 v2), (cS cyI b3 v3), (cS cyI b4 v4), (cS cyI b5 v5)]) (R := [(cM cyI mm mv), (cSo tr tv), (cG cyI tr (S_green tv)), (cV cyI tr (S_score tv)), (cS cyI k0 w0), (cS cyI k1 w1), (cS cyI b0 v0), (cS cyI b1 v1), (cS cyI b2 v2), (cS cyI b3 v3), (cS cyI b4 v4), (cS cyI b5 v5)]) (C := [[cLo cyL qo 1 o3.2.1], (cXo x an tr o3.2.2.1), (cH cyO (x 1) (x 2) 2 fl), (cXk cyI x o3.2.2.1), (cH cyO (x 4) (x 5) 6 fs), (cT cyI x (X_text o3.2.2.1)), (cSo an o3.2.2.2), (cG cyI an (S_green o3.2.2.2)), (cV cyI an (S_score o3.2.2.2))]) (n := 21) [1, 10, 11, 12, 13, 14, 15, 16, 17, 18, 19, 20] [0, 2, 3, 4, 5, 6, 7, 8, 9] rfl rfl rfl (by decide)
  have hP : va_P (dC, dI) vwCl (([[cLo cyL qo 1 o3.2.1], (cM cyI mm mv), (cXo x an tr o3.2.2.1), (cH cyO (x 1) (x 2) 2 fl), (cXk cyI x o3.2.2.1), (cH cyO (x 4) (x 5) 6 fs), (cT cyI x (X_text o3.2.2.1)), (cSo an o3.2.2.2), (cG cyI an (S_green o3.2.2.2)), (cV cyI an (S_score o3.2.2.2)), (cSo tr tv), (cG cyI tr (S_green tv)), (cV cyI tr (S_score tv)), (cS cyI k0 w0), (cS cyI k1 w1), (cS cyI b0 v0), (cS cyI b1 v1), (cS cyI b2 v2), (cS cyI b3 v3), (cS cyI b4 v4), (cS cyI b5 v5)] : List va_W).flatten) H := hP.perm hq
  have hD : va_D A (([[cLo cyL qo 1 o3.2.1], (cM cyI mm mv), (cXo x an tr o3.2.2.1), (cH cyO (x 1) (x 2) 2 fl), (cXk cyI x o3.2.2.1), (cH cyO (x 4) (x 5) 6 fs), (cT cyI x (X_text o3.2.2.1)), (cSo an o3.2.2.2), (cG cyI an (S_green o3.2.2.2)), (cV cyI an (S_score o3.2.2.2)), (cSo tr tv), (cG cyI tr (S_green tv)), (cV cyI tr (S_score tv)), (cS cyI k0 w0), (cS cyI k1 w1), (cS cyI b0 v0), (cS cyI b1 v1), (cS cyI b2 v2), (cS cyI b3 v3), (cS cyI b4 v4), (cS cyI b5 v5)] : List va_W).flatten) := hD.perm hq
  clear hq
  refine lv_istore (lv' := [(5, .int o3.1), (0, .ref b), (1, .ref (x 0)), (2, .ref (mm 0)), (3, .ref qo), (4, .int i)]) hx hb dL_law_1453 hl (by decide) rfl (fun ls hl => ?_)
  refine lv_aload_n hx hb dL_law_1455 rfl (lv_at hl 3 rfl) ?_
  refine lv_aload_n hx hb dL_law_1456 rfl (lv_at hl 1 rfl) ?_
  refine lv_iload hx hb dL_law_1457 (lv_at hl 5 rfl) ?_
  refine lv_iconst (v := 1) hx hb dL_law_1459 (by decide) ?_
  refine lv_iadd hx hb dL_law_1460 ?_
  obtain ⟨hg5, hF⟩ := gd_use hF
  refine va_sld hx hb hX hbl hbA hS hg5 dL_law_1461 ?_
  refine lv_aload_n hx hb dL_law_1462 rfl (lv_at hl 1 rfl) ?_
  refine lv_iload hx hb dL_law_1463 (lv_at hl 5 rfl) ?_
  refine lv_iconst (v := 2) hx hb dL_law_1465 (by decide) ?_
  refine lv_iadd hx hb dL_law_1466 ?_
  obtain ⟨hg6, hF⟩ := gd_use hF
  refine va_sld hx hb hX hbl hbA hS hg6 dL_law_1467 ?_
  obtain ⟨o7, h8, hF⟩ := obd hF
  refine wcPVi (As := [.int (xs (i + (1 : Int32)).toNatClampNeg), .int (xs (i + (2 : Int32)).toNatClampNeg)]) (rest := []) (wr := ([[cLo cyL qo 1 o3.2.1], (cXo x an tr o3.2.2.1), (cH cyO (x 1) (x 2) 2 fl), (cXk cyI x o3.2.2.1), (cH cyO (x 4) (x 5) 6 fs), (cT cyI x (X_text o3.2.2.1)), (cSo an o3.2.2.2), (cG cyI an (S_green o3.2.2.2)), (cV cyI an (S_score o3.2.2.2)), (cSo tr tv), (cG cyI tr (S_green tv)), (cV cyI tr (S_score tv)), (cS cyI k0 w0), (cS cyI k1 w1), (cS cyI b0 v0), (cS cyI b1 v1), (cS cyI b2 v2), (cS cyI b3 v3), (cS cyI b4 v4), (cS cyI b5 v5)] : List va_W).flatten) (b := (mm 0)) ⟨hx, hb, hml, hown, hts⟩ (met_X6_bowlAt l dC dI cyI cyO cyL mm _ N mv (xs (i + (1 : Int32)).toNatClampNeg) (xs (i + (2 : Int32)).toNatClampNeg) o7 h8) (cwV 2 hts (gV w_methodLink_L_247 w_instanceMethod_X6_bowlAt w_selects_X6_bowlAt w_initialized_X6 w_code_X6_bowlAt) rfl rfl rfl (by decide +kernel) ⟨Nat.le_trans (Nat.le_of_ble_eq_true rfl) hRf, Nat.le_trans (Nat.le_of_ble_eq_true rfl) hRl⟩) (va_recv hK.1 hP (ci := 6) (q0 := 1) rfl rfl) hP hD hK (seg_perm (n := 21) (R := [[cLo cyL qo 1 o3.2.1], (cXo x an tr o3.2.2.1), (cH cyO (x 1) (x 2) 2 fl), (cXk cyI x o3.2.2.1), (cH cyO (x 4) (x 5) 6 fs), (cT cyI x (X_text o3.2.2.1)), (cSo an o3.2.2.2), (cG cyI an (S_green o3.2.2.2)), (cV cyI an (S_score o3.2.2.2)), (cSo tr tv), (cG cyI tr (S_green tv)), (cV cyI tr (S_score tv)), (cS cyI k0 w0), (cS cyI k1 w1), (cS cyI b0 v0), (cS cyI b1 v1), (cS cyI b2 v2), (cS cyI b3 v3), (cS cyI b4 v4), (cS cyI b5 v5)]) (C := [(cM cyI mm mv)]) [0, 2, 3, 4, 5, 6, 7, 8, 9, 10, 11, 12, 13, 14, 15, 16, 17, 18, 19, 20] [1] rfl rfl rfl (by decide) rfl) rfl hl.1 (Nat.le_of_ble_eq_true rfl) dL_law_1468 ⟨by omega, by omega⟩ hS hA (fun r u H locs hw hP hD hS => ?_)
  obtain rfl : r = o7.1 := congrArg Prod.fst hw
  obtain rfl : u = o7.2 := congrArg Prod.snd hw
  clear hw
  have hq := seg_permS (segs := [[cLo cyL qo 1 o3.2.1], (cM cyI mm o7.2), (cXo x an tr o3.2.2.1), (cH cyO (x 1) (x 2) 2 fl), (cXk cyI x o3.2.2.1), (cH cyO (x 4) (x 5) 6 fs), (cT cyI x (X_text o3.2.2.1)), (cSo an o3.2.2.2), (cG cyI an (S_green o3.2.2.2)), (cV cyI an (S_score o3.2.2.2)), (cSo tr tv), (cG cyI tr (S_green tv)), (cV cyI tr (S_score tv)), (cS cyI k0 w0), (cS cyI k1 w1), (cS cyI b0 v0), (cS cyI b1 v1), (cS cyI b2 v2), (cS cyI b3 v3), (cS cyI b4 v4), (cS cyI b5 v5)]) (R := [[cLo cyL qo 1 o3.2.1], (cXo x an tr o3.2.2.1), (cH cyO (x 1) (x 2) 2 fl), (cXk cyI x o3.2.2.1), (cH cyO (x 4) (x 5) 6 fs), (cT cyI x (X_text o3.2.2.1)), (cSo an o3.2.2.2), (cG cyI an (S_green o3.2.2.2)), (cV cyI an (S_score o3.2.2.2)), (cSo tr tv), (cG cyI tr (S_green tv)), (cV cyI tr (S_score tv)), (cS cyI k0 w0), (cS cyI k1 w1), (cS cyI b0 v0), (cS cyI b1 v1), (cS cyI b2 v2), (cS cyI b3 v3), (cS cyI b4 v4), (cS cyI b5 v5)]) (C := [(cM cyI mm o7.2)]) (n := 21) [0, 2, 3, 4, 5, 6, 7, 8, 9, 10, 11, 12, 13, 14, 15, 16, 17, 18, 19, 20] [1] rfl rfl rfl (by decide)
  have hP : va_P (dC, dI) vwCl (([[cLo cyL qo 1 o3.2.1], (cM cyI mm o7.2), (cXo x an tr o3.2.2.1), (cH cyO (x 1) (x 2) 2 fl), (cXk cyI x o3.2.2.1), (cH cyO (x 4) (x 5) 6 fs), (cT cyI x (X_text o3.2.2.1)), (cSo an o3.2.2.2), (cG cyI an (S_green o3.2.2.2)), (cV cyI an (S_score o3.2.2.2)), (cSo tr tv), (cG cyI tr (S_green tv)), (cV cyI tr (S_score tv)), (cS cyI k0 w0), (cS cyI k1 w1), (cS cyI b0 v0), (cS cyI b1 v1), (cS cyI b2 v2), (cS cyI b3 v3), (cS cyI b4 v4), (cS cyI b5 v5)] : List va_W).flatten) H := hP.perm hq
  have hD : va_D A (([[cLo cyL qo 1 o3.2.1], (cM cyI mm o7.2), (cXo x an tr o3.2.2.1), (cH cyO (x 1) (x 2) 2 fl), (cXk cyI x o3.2.2.1), (cH cyO (x 4) (x 5) 6 fs), (cT cyI x (X_text o3.2.2.1)), (cSo an o3.2.2.2), (cG cyI an (S_green o3.2.2.2)), (cV cyI an (S_score o3.2.2.2)), (cSo tr tv), (cG cyI tr (S_green tv)), (cV cyI tr (S_score tv)), (cS cyI k0 w0), (cS cyI k1 w1), (cS cyI b0 v0), (cS cyI b1 v1), (cS cyI b2 v2), (cS cyI b3 v3), (cS cyI b4 v4), (cS cyI b5 v5)] : List va_W).flatten) := hD.perm hq
  clear hq
  refine lv_istore (lv' := [(6, .int o7.1), (5, .int o3.1), (0, .ref b), (1, .ref (x 0)), (2, .ref (mm 0)), (3, .ref qo), (4, .int i)]) hx hb dL_law_1471 hl (by decide) rfl (fun ls hl => ?_)
  refine lv_aload_n hx hb dL_law_1473 rfl (lv_at hl 4 rfl) ?_
  obtain ⟨o9, h10, hF⟩ := obd hF
  refine wcRVi (As := []) (rest := []) (b := (mm 0)) ⟨hx, hb, hml, hown, hts⟩ (met_X6_thrown l dC dI cyI cyO cyL mm N o7.2  o9 h10) (cwV 0 hts (gV w_methodLink_L_143 w_instanceMethod_X6_thrown w_selects_X6_thrown w_initialized_X6 w_code_X6_thrown) rfl rfl rfl (by decide +kernel) ⟨Nat.le_trans (Nat.le_of_ble_eq_true rfl) hRf, Nat.le_trans (Nat.le_of_ble_eq_true rfl) hRl⟩) (va_recv hK.1 hP (ci := 6) (q0 := 1) rfl rfl) hP hK [1, 2, 3, 4, 5, 6, 7, 8] rfl rfl hl.1 (Nat.le_of_ble_eq_true rfl) dL_law_1474 ⟨by omega, by omega⟩ hS (fun r H locs hw hP hS => ?_)
  have hw := hw.symm
  subst hw
  refine lv_iload hx hb dL_law_1477 (lv_at hl 1 rfl) ?_
  refine lv_icmp_eq (tgt := 1484) hx hb dL_law_1479 (by decide) (fun c11 => ?_) (fun c11 => ?_)
  · have hF := itp c11 hF
    refine lv_iload hx hb dL_law_1484 (lv_at hl 1 rfl) ?_
    obtain ⟨j1501, hj1501, hF⟩ := jn_use hF
    have hJ1501 : ∀ (s1501 : Unit) (H : Heap) (locs : List Loc) (ls : Array Slot), va_P (dC, dI) vwCl (([[cLo cyL qo 1 o3.2.1], (cM cyI mm o7.2), (cXo x an tr o3.2.2.1), (cH cyO (x 1) (x 2) 2 fl), (cXk cyI x o3.2.2.1), (cH cyO (x 4) (x 5) 6 fs), (cT cyI x (X_text o3.2.2.1)), (cSo an o3.2.2.2), (cG cyI an (S_green o3.2.2.2)), (cV cyI an (S_score o3.2.2.2)), (cSo tr tv), (cG cyI tr (S_green tv)), (cV cyI tr (S_score tv)), (cS cyI k0 w0), (cS cyI k1 w1), (cS cyI b0 v0), (cS cyI b1 v1), (cS cyI b2 v2), (cS cyI b3 v3), (cS cyI b4 v4), (cS cyI b5 v5)] : List va_W).flatten) H → va_D A (([[cLo cyL qo 1 o3.2.1], (cM cyI mm o7.2), (cXo x an tr o3.2.2.1), (cH cyO (x 1) (x 2) 2 fl), (cXk cyI x o3.2.2.1), (cH cyO (x 4) (x 5) 6 fs), (cT cyI x (X_text o3.2.2.1)), (cSo an o3.2.2.2), (cG cyI an (S_green o3.2.2.2)), (cV cyI an (S_score o3.2.2.2)), (cSo tr tv), (cG cyI tr (S_green tv)), (cV cyI tr (S_score tv)), (cS cyI k0 w0), (cS cyI k1 w1), (cS cyI b0 v0), (cS cyI b1 v1), (cS cyI b2 v2), (cS cyI b3 v3), (cS cyI b4 v4), (cS cyI b5 v5)] : List va_W).flatten) → va_S A s.heap H locs → lv_has ls 9 [(0, .ref b), (1, .ref (x 0)), (2, .ref (mm 0)), (3, .ref qo), (4, .int i)] → j1501 s1501 = some out → W p l e R s m args below meth c H locs (cells + 1) (slots + 6) Q (F0 m 1501 ls []) := by
      intro s1501 H locs ls hP hD hS hl hF
      have hF := (congrFun hj1501 s1501).symm.trans hF
      refine lv_goto (tgt := 2733) hx hb dL_law_1501 (by decide) ?_
      obtain rfl := Option.some.inj hF
      refine W.widen (k := cells + 4) (n := slots + 24) (by omega) (by omega) ?_
      exact kk _ _ _ hP hD hS (lv_sub hl [0, 1, 2, 3, 4] rfl)
    refine lv_if_ne (tgt := 1501) hx hb dL_law_1486 (by decide) (fun c12 => ?_) (fun c12 => ?_)
    · have hF := itn c12 hF
      exact hJ1501 () _ _ _ hP hD hS (lv_sub hl [2, 3, 4, 5, 6] rfl) hF
    · have hF := itp c12 hF
      refine lv_aload_n hx hb dL_law_1489 rfl (lv_at hl 5 rfl) ?_
      refine lv_iconst (v := 0) hx hb dL_law_1490 (by decide) ?_
      refine va_lald hx hb hK.1 hP 0 2 rfl rfl (i := (0 : Int32)) (show ixok (0 : Int32) 1 by decide) dL_law_1491 ?_
      refine lv_iload hx hb dL_law_1492 (lv_at hl 0 rfl) ?_
      refine lv_i2l (v := (o7.1).toInt64) hx hb dL_law_1494 rfl ?_
      refine W.lcmp hx hb dL_law_1495 ?_
      refine lv_if_eq (tgt := 1501) hx hb dL_law_1496 (by decide) (fun c13 => ?_) (fun c13 => ?_)
      · have hF := itp c13 hF
        exact hJ1501 () _ _ _ hP hD hS (lv_sub hl [2, 3, 4, 5, 6] rfl) hF
      · have hF := itn c13 hF
        refine lv_iconst (v := 0) hx hb dL_law_1499 (by decide) ?_
        cases hF
  · have hF := itn c11 hF
    refine lv_iconst (v := 0) hx hb dL_law_1482 (by decide) ?_
    cases hF
theorem dL_law_1504 : decode cL_law 1504 = .ok (.aload_n 1, 1) := by decide +kernel
theorem dL_law_1505 : decode cL_law 1505 = .ok (.aload_n 0, 1) := by decide +kernel
theorem dL_law_1506 : decode cL_law 1506 = .ok (.iload 4, 2) := by decide +kernel
theorem dL_law_1508 : decode cL_law 1508 = .ok (.iconst 1, 1) := by decide +kernel
theorem dL_law_1509 : decode cL_law 1509 = .ok (.iadd, 1) := by decide +kernel
theorem dL_law_1510 : decode cL_law 1510 = .ok (.iaload, 1) := by decide +kernel
theorem dL_law_1511 : decode cL_law 1511 = .ok (.aload_n 3, 1) := by decide +kernel
theorem dL_law_1512 : decode cL_law 1512 = .ok (.invokestatic 248, 3) := by decide +kernel
theorem dL_law_1515 : decode cL_law 1515 = .ok (.istore 5, 2) := by decide +kernel
theorem dL_law_1517 : decode cL_law 1517 = .ok (.aload_n 2, 1) := by decide +kernel
theorem dL_law_1518 : decode cL_law 1518 = .ok (.aload_n 0, 1) := by decide +kernel
theorem dL_law_1519 : decode cL_law 1519 = .ok (.iload 4, 2) := by decide +kernel
theorem dL_law_1521 : decode cL_law 1521 = .ok (.iconst 1, 1) := by decide +kernel
theorem dL_law_1522 : decode cL_law 1522 = .ok (.iadd, 1) := by decide +kernel
theorem dL_law_1523 : decode cL_law 1523 = .ok (.iaload, 1) := by decide +kernel
theorem dL_law_1524 : decode cL_law 1524 = .ok (.invokevirtual 250, 3) := by decide +kernel
theorem dL_law_1527 : decode cL_law 1527 = .ok (.istore 6, 2) := by decide +kernel
theorem dL_law_1529 : decode cL_law 1529 = .ok (.aload_n 2, 1) := by decide +kernel
theorem dL_law_1530 : decode cL_law 1530 = .ok (.invokevirtual 143, 3) := by decide +kernel
theorem dL_law_1533 : decode cL_law 1533 = .ok (.iload 5, 2) := by decide +kernel
theorem dL_law_1535 : decode cL_law 1535 = .ok (.if_icmp .eq 5, 3) := by decide +kernel
theorem dL_law_1538 : decode cL_law 1538 = .ok (.iconst 0, 1) := by decide +kernel
theorem dL_law_1540 : decode cL_law 1540 = .ok (.iload 5, 2) := by decide +kernel
theorem dL_law_1542 : decode cL_law 1542 = .ok (.ifCond .ne 15, 3) := by decide +kernel
theorem dL_law_1545 : decode cL_law 1545 = .ok (.aload_n 3, 1) := by decide +kernel
theorem dL_law_1546 : decode cL_law 1546 = .ok (.iconst 0, 1) := by decide +kernel
theorem dL_law_1547 : decode cL_law 1547 = .ok (.laload, 1) := by decide +kernel
theorem dL_law_1548 : decode cL_law 1548 = .ok (.iload 6, 2) := by decide +kernel
theorem dL_law_1550 : decode cL_law 1550 = .ok (.i2l, 1) := by decide +kernel
theorem dL_law_1551 : decode cL_law 1551 = .ok (.lcmp, 1) := by decide +kernel
theorem dL_law_1552 : decode cL_law 1552 = .ok (.ifCond .eq 5, 3) := by decide +kernel
theorem dL_law_1555 : decode cL_law 1555 = .ok (.iconst 0, 1) := by decide +kernel
theorem dL_law_1557 : decode cL_law 1557 = .ok (.goto 1176, 3) := by decide +kernel
def f_law30 (N L : Nat) (xs : Nat → Int32) (i : Int32) (fo : (Nat → Int64)) (mv : MV) (xv : XV) (nv : SV) (tv : SV) (w0 : SV) (w1 : SV) (v0 : SV) (v1 : SV) (v2 : SV) (v3 : SV) (v4 : SV) (v5 : SV) : Option ((Nat → Int64) × MV × XV × SV × SV × SV × SV × SV × SV × SV × SV × SV × SV) :=
  gd (ixok (i + (1 : Int32)) L) ((f_L_aimOf N fo xv nv (xs (i + (1 : Int32)).toNatClampNeg)).bind (fun o2 => gd (ixok (i + (1 : Int32)) L) ((f_X6_aimOf N mv (xs (i + (1 : Int32)).toNatClampNeg)).bind (fun o5 => (f_X6_thrown N o5.2).bind (fun o7 => (if o7 = o2.1 then jn (fun (s1557 : Unit) => some (o2.2.1, o5.2, o2.2.2.1, o2.2.2.2, tv, w0, w1, v0, v1, v2, v3, v4, v5)) (fun (j1557 : (Unit) → Option ((Nat → Int64) × MV × XV × SV × SV × SV × SV × SV × SV × SV × SV × SV × SV)) => (if o2.1 = 0 then (if (lg_cmp (o2.2.1 (0 : Int32).toNatClampNeg) ((o5.1).toInt64)) = 0 then j1557 () else none) else j1557 ())) else none))))))
set_option maxHeartbeats 4000000 in
set_option maxRecDepth 100000 in
theorem law30 (hst : l.stackTraces = false) (hx : p.tables.exec = Jvm.exec) (hb : c.code = code) (hml : c.maxLocals = 9) (hown : s.vm.findClass RL = some m.cls) (hts : ∀ w ∈ wT, w.before args s = true) (hK : wK dC dI cyI cyO cyL s) (hZ : wZ z0 s) (hAz : ∀ q, A q → z0 ≤ q) (hz0 : z0 ≤ s.heap.size) (hA : ∀ q : Nat, s.heap.size ≤ q → A q) (hX : va_X b L xs s s.heap) (hbl : b < s.heap.size) (hbA : ¬ A b) (hRf : 11 ≤ R.frames) (hRl : 398 ≤ R.locals) (qo : Nat) (mm x an tr k0 k1 b0 b1 b2 b3 b4 b5 : Nat → Nat) (fl fs : Nat → Option Nat) (N : Nat) (fo : (Nat → Int64)) (mv : MV) (xv : XV) (nv : SV) (tv : SV) (w0 : SV) (w1 : SV) (v0 : SV) (v1 : SV) (v2 : SV) (v3 : SV) (v4 : SV) (v5 : SV) (i : Int32) (hl0 : fl 0 = some (k0 0)) (hl1 : fl 1 = some (k1 0)) (hs0 : fs 0 = some (b0 0)) (hs1 : fs 1 = some (b1 0)) (hs2 : fs 2 = some (b2 0)) (hs3 : fs 3 = some (b3 0)) (hs4 : fs 4 = some (b4 0)) (hs5 : fs 5 = some (b5 0)) (out : (Nat → Int64) × MV × XV × SV × SV × SV × SV × SV × SV × SV × SV × SV × SV) (hF : f_law30 N L xs i fo mv xv nv tv w0 w1 v0 v1 v2 v3 v4 v5 = some out) (hP : va_P (dC, dI) vwCl (([[cLo cyL qo 1 fo], (cM cyI mm mv), (cXo x an tr xv), (cH cyO (x 1) (x 2) 2 fl), (cXk cyI x xv), (cH cyO (x 4) (x 5) 6 fs), (cT cyI x (X_text xv)), (cSo an nv), (cG cyI an (S_green nv)), (cV cyI an (S_score nv)), (cSo tr tv), (cG cyI tr (S_green tv)), (cV cyI tr (S_score tv)), (cS cyI k0 w0), (cS cyI k1 w1), (cS cyI b0 v0), (cS cyI b1 v1), (cS cyI b2 v2), (cS cyI b3 v3), (cS cyI b4 v4), (cS cyI b5 v5)] : List va_W).flatten) H) (hD : va_D A (([[cLo cyL qo 1 fo], (cM cyI mm mv), (cXo x an tr xv), (cH cyO (x 1) (x 2) 2 fl), (cXk cyI x xv), (cH cyO (x 4) (x 5) 6 fs), (cT cyI x (X_text xv)), (cSo an nv), (cG cyI an (S_green nv)), (cV cyI an (S_score nv)), (cSo tr tv), (cG cyI tr (S_green tv)), (cV cyI tr (S_score tv)), (cS cyI k0 w0), (cS cyI k1 w1), (cS cyI b0 v0), (cS cyI b1 v1), (cS cyI b2 v2), (cS cyI b3 v3), (cS cyI b4 v4), (cS cyI b5 v5)] : List va_W).flatten)) (hS : va_S A s.heap H locs) (hl : lv_has ls 9 [(0, .ref b), (1, .ref (x 0)), (2, .ref (mm 0)), (3, .ref qo), (4, .int i)]) (hRc : cells + 4 ≤ R.cells) (hRs : slots + 24 ≤ R.slots) (kk : ∀ (H : Heap) (locs : List Loc) (ls : Array Slot), va_P (dC, dI) vwCl (([[cLo cyL qo 1 out.1], (cM cyI mm out.2.1), (cXo x an tr out.2.2.1), (cH cyO (x 1) (x 2) 2 fl), (cXk cyI x out.2.2.1), (cH cyO (x 4) (x 5) 6 fs), (cT cyI x (X_text out.2.2.1)), (cSo an out.2.2.2.1), (cG cyI an (S_green out.2.2.2.1)), (cV cyI an (S_score out.2.2.2.1)), (cSo tr out.2.2.2.2.1), (cG cyI tr (S_green out.2.2.2.2.1)), (cV cyI tr (S_score out.2.2.2.2.1)), (cS cyI k0 out.2.2.2.2.2.1), (cS cyI k1 out.2.2.2.2.2.2.1), (cS cyI b0 out.2.2.2.2.2.2.2.1), (cS cyI b1 out.2.2.2.2.2.2.2.2.1), (cS cyI b2 out.2.2.2.2.2.2.2.2.2.1), (cS cyI b3 out.2.2.2.2.2.2.2.2.2.2.1), (cS cyI b4 out.2.2.2.2.2.2.2.2.2.2.2.1), (cS cyI b5 out.2.2.2.2.2.2.2.2.2.2.2.2)] : List va_W).flatten) H → va_D A (([[cLo cyL qo 1 out.1], (cM cyI mm out.2.1), (cXo x an tr out.2.2.1), (cH cyO (x 1) (x 2) 2 fl), (cXk cyI x out.2.2.1), (cH cyO (x 4) (x 5) 6 fs), (cT cyI x (X_text out.2.2.1)), (cSo an out.2.2.2.1), (cG cyI an (S_green out.2.2.2.1)), (cV cyI an (S_score out.2.2.2.1)), (cSo tr out.2.2.2.2.1), (cG cyI tr (S_green out.2.2.2.2.1)), (cV cyI tr (S_score out.2.2.2.2.1)), (cS cyI k0 out.2.2.2.2.2.1), (cS cyI k1 out.2.2.2.2.2.2.1), (cS cyI b0 out.2.2.2.2.2.2.2.1), (cS cyI b1 out.2.2.2.2.2.2.2.2.1), (cS cyI b2 out.2.2.2.2.2.2.2.2.2.1), (cS cyI b3 out.2.2.2.2.2.2.2.2.2.2.1), (cS cyI b4 out.2.2.2.2.2.2.2.2.2.2.2.1), (cS cyI b5 out.2.2.2.2.2.2.2.2.2.2.2.2)] : List va_W).flatten) → va_S A s.heap H locs → lv_has ls 9 [(0, .ref b), (1, .ref (x 0)), (2, .ref (mm 0)), (3, .ref qo), (4, .int i)] → W p l e R s m args below meth c H locs (cells + 4) (slots + 24) Q (F0 m 2733 ls [])) : W p l e R s m args below meth c H locs cells slots Q (F0 m 1504 ls []) := by
  unfold f_law30 at hF
  refine lv_aload_n hx hb dL_law_1504 rfl (lv_at hl 1 rfl) ?_
  refine lv_aload_n hx hb dL_law_1505 rfl (lv_at hl 0 rfl) ?_
  refine lv_iload hx hb dL_law_1506 (lv_at hl 4 rfl) ?_
  refine lv_iconst (v := 1) hx hb dL_law_1508 (by decide) ?_
  refine lv_iadd hx hb dL_law_1509 ?_
  obtain ⟨hg1, hF⟩ := gd_use hF
  refine va_sld hx hb hX hbl hbA hS hg1 dL_law_1510 ?_
  refine lv_aload_n hx hb dL_law_1511 rfl (lv_at hl 3 rfl) ?_
  obtain ⟨o2, h3, hF⟩ := obd hF
  refine wcLi (As := [.ref (x 0), .int (xs (i + (1 : Int32)).toNatClampNeg), .ref qo]) (rest := []) (wr := ([(cM cyI mm mv), (cSo tr tv), (cG cyI tr (S_green tv)), (cV cyI tr (S_score tv)), (cS cyI k0 w0), (cS cyI k1 w1), (cS cyI b0 v0), (cS cyI b1 v1), (cS cyI b2 v2), (cS cyI b3 v3), (cS cyI b4 v4), (cS cyI b5 v5)] : List va_W).flatten) ⟨hx, hb, hml, hown, hts⟩ (met_L_aimOf l z0 hst dC dI cyI cyO cyL qo x tr an fl fs _ N fo xv nv (xs (i + (1 : Int32)).toNatClampNeg) o2 h3) (vx_cwSW 3 hts (gS w_methodLink_L_248 w_static_L_aimOf w_initialized_L w_codeW_L_aimOf) rfl rfl rfl (by decide +kernel) ⟨Nat.le_trans (Nat.le_of_ble_eq_true rfl) hRf, Nat.le_trans (Nat.le_of_ble_eq_true rfl) hRl⟩) hP hD hK hZ hAz hz0 (seg_perm (n := 21) (R := [(cM cyI mm mv), (cSo tr tv), (cG cyI tr (S_green tv)), (cV cyI tr (S_score tv)), (cS cyI k0 w0), (cS cyI k1 w1), (cS cyI b0 v0), (cS cyI b1 v1), (cS cyI b2 v2), (cS cyI b3 v3), (cS cyI b4 v4), (cS cyI b5 v5)]) (C := [[cLo cyL qo 1 fo], (cXo x an tr xv), (cH cyO (x 1) (x 2) 2 fl), (cXk cyI x xv), (cH cyO (x 4) (x 5) 6 fs), (cT cyI x (X_text xv)), (cSo an nv), (cG cyI an (S_green nv)), (cV cyI an (S_score nv))]) [1, 10, 11, 12, 13, 14, 15, 16, 17, 18, 19, 20] [0, 2, 3, 4, 5, 6, 7, 8, 9] rfl rfl rfl (by decide) rfl) rfl hl.1 (Nat.le_of_ble_eq_true rfl) dL_law_1512 ⟨by omega, by omega⟩ hS hA (fun r u H locs hw hP hD hS => ?_)
  obtain rfl : r = o2.1 := congrArg Prod.fst hw
  obtain rfl : u = o2.2 := congrArg Prod.snd hw
  clear hw
  have hq := seg_permS (segs := [[cLo cyL qo 1 o2.2.1], (cM cyI mm mv), (cXo x an tr o2.2.2.1), (cH cyO (x 1) (x 2) 2 fl), (cXk cyI x o2.2.2.1), (cH cyO (x 4) (x 5) 6 fs), (cT cyI x (X_text o2.2.2.1)), (cSo an o2.2.2.2), (cG cyI an (S_green o2.2.2.2)), (cV cyI an (S_score o2.2.2.2)), (cSo tr tv), (cG cyI tr (S_green tv)), (cV cyI tr (S_score tv)), (cS cyI k0 w0), (cS cyI k1 w1), (cS cyI b0 v0), (cS cyI b1 v1), (cS cyI b2 v2), (cS cyI b3 v3), (cS cyI b4 v4), (cS cyI b5 v5)]) (R := [(cM cyI mm mv), (cSo tr tv), (cG cyI tr (S_green tv)), (cV cyI tr (S_score tv)), (cS cyI k0 w0), (cS cyI k1 w1), (cS cyI b0 v0), (cS cyI b1 v1), (cS cyI b2 v2), (cS cyI b3 v3), (cS cyI b4 v4), (cS cyI b5 v5)]) (C := [[cLo cyL qo 1 o2.2.1], (cXo x an tr o2.2.2.1), (cH cyO (x 1) (x 2) 2 fl), (cXk cyI x o2.2.2.1), (cH cyO (x 4) (x 5) 6 fs), (cT cyI x (X_text o2.2.2.1)), (cSo an o2.2.2.2), (cG cyI an (S_green o2.2.2.2)), (cV cyI an (S_score o2.2.2.2))]) (n := 21) [1, 10, 11, 12, 13, 14, 15, 16, 17, 18, 19, 20] [0, 2, 3, 4, 5, 6, 7, 8, 9] rfl rfl rfl (by decide)
  have hP : va_P (dC, dI) vwCl (([[cLo cyL qo 1 o2.2.1], (cM cyI mm mv), (cXo x an tr o2.2.2.1), (cH cyO (x 1) (x 2) 2 fl), (cXk cyI x o2.2.2.1), (cH cyO (x 4) (x 5) 6 fs), (cT cyI x (X_text o2.2.2.1)), (cSo an o2.2.2.2), (cG cyI an (S_green o2.2.2.2)), (cV cyI an (S_score o2.2.2.2)), (cSo tr tv), (cG cyI tr (S_green tv)), (cV cyI tr (S_score tv)), (cS cyI k0 w0), (cS cyI k1 w1), (cS cyI b0 v0), (cS cyI b1 v1), (cS cyI b2 v2), (cS cyI b3 v3), (cS cyI b4 v4), (cS cyI b5 v5)] : List va_W).flatten) H := hP.perm hq
  have hD : va_D A (([[cLo cyL qo 1 o2.2.1], (cM cyI mm mv), (cXo x an tr o2.2.2.1), (cH cyO (x 1) (x 2) 2 fl), (cXk cyI x o2.2.2.1), (cH cyO (x 4) (x 5) 6 fs), (cT cyI x (X_text o2.2.2.1)), (cSo an o2.2.2.2), (cG cyI an (S_green o2.2.2.2)), (cV cyI an (S_score o2.2.2.2)), (cSo tr tv), (cG cyI tr (S_green tv)), (cV cyI tr (S_score tv)), (cS cyI k0 w0), (cS cyI k1 w1), (cS cyI b0 v0), (cS cyI b1 v1), (cS cyI b2 v2), (cS cyI b3 v3), (cS cyI b4 v4), (cS cyI b5 v5)] : List va_W).flatten) := hD.perm hq
  clear hq
  refine lv_istore (lv' := [(5, .int o2.1), (0, .ref b), (1, .ref (x 0)), (2, .ref (mm 0)), (3, .ref qo), (4, .int i)]) hx hb dL_law_1515 hl (by decide) rfl (fun ls hl => ?_)
  refine lv_aload_n hx hb dL_law_1517 rfl (lv_at hl 3 rfl) ?_
  refine lv_aload_n hx hb dL_law_1518 rfl (lv_at hl 1 rfl) ?_
  refine lv_iload hx hb dL_law_1519 (lv_at hl 5 rfl) ?_
  refine lv_iconst (v := 1) hx hb dL_law_1521 (by decide) ?_
  refine lv_iadd hx hb dL_law_1522 ?_
  obtain ⟨hg4, hF⟩ := gd_use hF
  refine va_sld hx hb hX hbl hbA hS hg4 dL_law_1523 ?_
  obtain ⟨o5, h6, hF⟩ := obd hF
  refine wcPVi (As := [.int (xs (i + (1 : Int32)).toNatClampNeg)]) (rest := []) (wr := ([[cLo cyL qo 1 o2.2.1], (cXo x an tr o2.2.2.1), (cH cyO (x 1) (x 2) 2 fl), (cXk cyI x o2.2.2.1), (cH cyO (x 4) (x 5) 6 fs), (cT cyI x (X_text o2.2.2.1)), (cSo an o2.2.2.2), (cG cyI an (S_green o2.2.2.2)), (cV cyI an (S_score o2.2.2.2)), (cSo tr tv), (cG cyI tr (S_green tv)), (cV cyI tr (S_score tv)), (cS cyI k0 w0), (cS cyI k1 w1), (cS cyI b0 v0), (cS cyI b1 v1), (cS cyI b2 v2), (cS cyI b3 v3), (cS cyI b4 v4), (cS cyI b5 v5)] : List va_W).flatten) (b := (mm 0)) ⟨hx, hb, hml, hown, hts⟩ (met_X6_aimOf l dC dI cyI cyO cyL mm _ N mv (xs (i + (1 : Int32)).toNatClampNeg) o5 h6) (cwV 1 hts (gV w_methodLink_L_250 w_instanceMethod_X6_aimOf w_selects_X6_aimOf w_initialized_X6 w_code_X6_aimOf) rfl rfl rfl (by decide +kernel) ⟨Nat.le_trans (Nat.le_of_ble_eq_true rfl) hRf, Nat.le_trans (Nat.le_of_ble_eq_true rfl) hRl⟩) (va_recv hK.1 hP (ci := 6) (q0 := 1) rfl rfl) hP hD hK (seg_perm (n := 21) (R := [[cLo cyL qo 1 o2.2.1], (cXo x an tr o2.2.2.1), (cH cyO (x 1) (x 2) 2 fl), (cXk cyI x o2.2.2.1), (cH cyO (x 4) (x 5) 6 fs), (cT cyI x (X_text o2.2.2.1)), (cSo an o2.2.2.2), (cG cyI an (S_green o2.2.2.2)), (cV cyI an (S_score o2.2.2.2)), (cSo tr tv), (cG cyI tr (S_green tv)), (cV cyI tr (S_score tv)), (cS cyI k0 w0), (cS cyI k1 w1), (cS cyI b0 v0), (cS cyI b1 v1), (cS cyI b2 v2), (cS cyI b3 v3), (cS cyI b4 v4), (cS cyI b5 v5)]) (C := [(cM cyI mm mv)]) [0, 2, 3, 4, 5, 6, 7, 8, 9, 10, 11, 12, 13, 14, 15, 16, 17, 18, 19, 20] [1] rfl rfl rfl (by decide) rfl) rfl hl.1 (Nat.le_of_ble_eq_true rfl) dL_law_1524 ⟨by omega, by omega⟩ hS hA (fun r u H locs hw hP hD hS => ?_)
  obtain rfl : r = o5.1 := congrArg Prod.fst hw
  obtain rfl : u = o5.2 := congrArg Prod.snd hw
  clear hw
  have hq := seg_permS (segs := [[cLo cyL qo 1 o2.2.1], (cM cyI mm o5.2), (cXo x an tr o2.2.2.1), (cH cyO (x 1) (x 2) 2 fl), (cXk cyI x o2.2.2.1), (cH cyO (x 4) (x 5) 6 fs), (cT cyI x (X_text o2.2.2.1)), (cSo an o2.2.2.2), (cG cyI an (S_green o2.2.2.2)), (cV cyI an (S_score o2.2.2.2)), (cSo tr tv), (cG cyI tr (S_green tv)), (cV cyI tr (S_score tv)), (cS cyI k0 w0), (cS cyI k1 w1), (cS cyI b0 v0), (cS cyI b1 v1), (cS cyI b2 v2), (cS cyI b3 v3), (cS cyI b4 v4), (cS cyI b5 v5)]) (R := [[cLo cyL qo 1 o2.2.1], (cXo x an tr o2.2.2.1), (cH cyO (x 1) (x 2) 2 fl), (cXk cyI x o2.2.2.1), (cH cyO (x 4) (x 5) 6 fs), (cT cyI x (X_text o2.2.2.1)), (cSo an o2.2.2.2), (cG cyI an (S_green o2.2.2.2)), (cV cyI an (S_score o2.2.2.2)), (cSo tr tv), (cG cyI tr (S_green tv)), (cV cyI tr (S_score tv)), (cS cyI k0 w0), (cS cyI k1 w1), (cS cyI b0 v0), (cS cyI b1 v1), (cS cyI b2 v2), (cS cyI b3 v3), (cS cyI b4 v4), (cS cyI b5 v5)]) (C := [(cM cyI mm o5.2)]) (n := 21) [0, 2, 3, 4, 5, 6, 7, 8, 9, 10, 11, 12, 13, 14, 15, 16, 17, 18, 19, 20] [1] rfl rfl rfl (by decide)
  have hP : va_P (dC, dI) vwCl (([[cLo cyL qo 1 o2.2.1], (cM cyI mm o5.2), (cXo x an tr o2.2.2.1), (cH cyO (x 1) (x 2) 2 fl), (cXk cyI x o2.2.2.1), (cH cyO (x 4) (x 5) 6 fs), (cT cyI x (X_text o2.2.2.1)), (cSo an o2.2.2.2), (cG cyI an (S_green o2.2.2.2)), (cV cyI an (S_score o2.2.2.2)), (cSo tr tv), (cG cyI tr (S_green tv)), (cV cyI tr (S_score tv)), (cS cyI k0 w0), (cS cyI k1 w1), (cS cyI b0 v0), (cS cyI b1 v1), (cS cyI b2 v2), (cS cyI b3 v3), (cS cyI b4 v4), (cS cyI b5 v5)] : List va_W).flatten) H := hP.perm hq
  have hD : va_D A (([[cLo cyL qo 1 o2.2.1], (cM cyI mm o5.2), (cXo x an tr o2.2.2.1), (cH cyO (x 1) (x 2) 2 fl), (cXk cyI x o2.2.2.1), (cH cyO (x 4) (x 5) 6 fs), (cT cyI x (X_text o2.2.2.1)), (cSo an o2.2.2.2), (cG cyI an (S_green o2.2.2.2)), (cV cyI an (S_score o2.2.2.2)), (cSo tr tv), (cG cyI tr (S_green tv)), (cV cyI tr (S_score tv)), (cS cyI k0 w0), (cS cyI k1 w1), (cS cyI b0 v0), (cS cyI b1 v1), (cS cyI b2 v2), (cS cyI b3 v3), (cS cyI b4 v4), (cS cyI b5 v5)] : List va_W).flatten) := hD.perm hq
  clear hq
  refine lv_istore (lv' := [(6, .int o5.1), (5, .int o2.1), (0, .ref b), (1, .ref (x 0)), (2, .ref (mm 0)), (3, .ref qo), (4, .int i)]) hx hb dL_law_1527 hl (by decide) rfl (fun ls hl => ?_)
  refine lv_aload_n hx hb dL_law_1529 rfl (lv_at hl 4 rfl) ?_
  obtain ⟨o7, h8, hF⟩ := obd hF
  refine wcRVi (As := []) (rest := []) (b := (mm 0)) ⟨hx, hb, hml, hown, hts⟩ (met_X6_thrown l dC dI cyI cyO cyL mm N o5.2  o7 h8) (cwV 0 hts (gV w_methodLink_L_143 w_instanceMethod_X6_thrown w_selects_X6_thrown w_initialized_X6 w_code_X6_thrown) rfl rfl rfl (by decide +kernel) ⟨Nat.le_trans (Nat.le_of_ble_eq_true rfl) hRf, Nat.le_trans (Nat.le_of_ble_eq_true rfl) hRl⟩) (va_recv hK.1 hP (ci := 6) (q0 := 1) rfl rfl) hP hK [1, 2, 3, 4, 5, 6, 7, 8] rfl rfl hl.1 (Nat.le_of_ble_eq_true rfl) dL_law_1530 ⟨by omega, by omega⟩ hS (fun r H locs hw hP hS => ?_)
  have hw := hw.symm
  subst hw
  refine lv_iload hx hb dL_law_1533 (lv_at hl 1 rfl) ?_
  refine lv_icmp_eq (tgt := 1540) hx hb dL_law_1535 (by decide) (fun c9 => ?_) (fun c9 => ?_)
  · have hF := itp c9 hF
    refine lv_iload hx hb dL_law_1540 (lv_at hl 1 rfl) ?_
    obtain ⟨j1557, hj1557, hF⟩ := jn_use hF
    have hJ1557 : ∀ (s1557 : Unit) (H : Heap) (locs : List Loc) (ls : Array Slot), va_P (dC, dI) vwCl (([[cLo cyL qo 1 o2.2.1], (cM cyI mm o5.2), (cXo x an tr o2.2.2.1), (cH cyO (x 1) (x 2) 2 fl), (cXk cyI x o2.2.2.1), (cH cyO (x 4) (x 5) 6 fs), (cT cyI x (X_text o2.2.2.1)), (cSo an o2.2.2.2), (cG cyI an (S_green o2.2.2.2)), (cV cyI an (S_score o2.2.2.2)), (cSo tr tv), (cG cyI tr (S_green tv)), (cV cyI tr (S_score tv)), (cS cyI k0 w0), (cS cyI k1 w1), (cS cyI b0 v0), (cS cyI b1 v1), (cS cyI b2 v2), (cS cyI b3 v3), (cS cyI b4 v4), (cS cyI b5 v5)] : List va_W).flatten) H → va_D A (([[cLo cyL qo 1 o2.2.1], (cM cyI mm o5.2), (cXo x an tr o2.2.2.1), (cH cyO (x 1) (x 2) 2 fl), (cXk cyI x o2.2.2.1), (cH cyO (x 4) (x 5) 6 fs), (cT cyI x (X_text o2.2.2.1)), (cSo an o2.2.2.2), (cG cyI an (S_green o2.2.2.2)), (cV cyI an (S_score o2.2.2.2)), (cSo tr tv), (cG cyI tr (S_green tv)), (cV cyI tr (S_score tv)), (cS cyI k0 w0), (cS cyI k1 w1), (cS cyI b0 v0), (cS cyI b1 v1), (cS cyI b2 v2), (cS cyI b3 v3), (cS cyI b4 v4), (cS cyI b5 v5)] : List va_W).flatten) → va_S A s.heap H locs → lv_has ls 9 [(0, .ref b), (1, .ref (x 0)), (2, .ref (mm 0)), (3, .ref qo), (4, .int i)] → j1557 s1557 = some out → W p l e R s m args below meth c H locs (cells + 1) (slots + 6) Q (F0 m 1557 ls []) := by
      intro s1557 H locs ls hP hD hS hl hF
      have hF := (congrFun hj1557 s1557).symm.trans hF
      refine lv_goto (tgt := 2733) hx hb dL_law_1557 (by decide) ?_
      obtain rfl := Option.some.inj hF
      refine W.widen (k := cells + 4) (n := slots + 24) (by omega) (by omega) ?_
      exact kk _ _ _ hP hD hS (lv_sub hl [0, 1, 2, 3, 4] rfl)
    refine lv_if_ne (tgt := 1557) hx hb dL_law_1542 (by decide) (fun c10 => ?_) (fun c10 => ?_)
    · have hF := itn c10 hF
      exact hJ1557 () _ _ _ hP hD hS (lv_sub hl [2, 3, 4, 5, 6] rfl) hF
    · have hF := itp c10 hF
      refine lv_aload_n hx hb dL_law_1545 rfl (lv_at hl 5 rfl) ?_
      refine lv_iconst (v := 0) hx hb dL_law_1546 (by decide) ?_
      refine va_lald hx hb hK.1 hP 0 2 rfl rfl (i := (0 : Int32)) (show ixok (0 : Int32) 1 by decide) dL_law_1547 ?_
      refine lv_iload hx hb dL_law_1548 (lv_at hl 0 rfl) ?_
      refine lv_i2l (v := (o5.1).toInt64) hx hb dL_law_1550 rfl ?_
      refine W.lcmp hx hb dL_law_1551 ?_
      refine lv_if_eq (tgt := 1557) hx hb dL_law_1552 (by decide) (fun c11 => ?_) (fun c11 => ?_)
      · have hF := itp c11 hF
        exact hJ1557 () _ _ _ hP hD hS (lv_sub hl [2, 3, 4, 5, 6] rfl) hF
      · have hF := itn c11 hF
        refine lv_iconst (v := 0) hx hb dL_law_1555 (by decide) ?_
        cases hF
  · have hF := itn c9 hF
    refine lv_iconst (v := 0) hx hb dL_law_1538 (by decide) ?_
    cases hF
end LAW1
