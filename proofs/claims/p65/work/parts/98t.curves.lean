/-! areCurvesSo answers 1 -/
def stU (N : Nat) (fo : Nat → Int32) (xv : XV) (nv tv v0 v1 v2 v3 v4 v5 : SV) (o1 o3 o5 : Int32) : Int32 × Int32 × Int32 → (Int32 × Int32 × Int32 → Option (Int32 × ((Nat → Int32) × XV × SV × SV × SV × SV × SV × SV × SV × SV))) → Option (Int32 × ((Nat → Int32) × XV × SV × SV × SV × SV × SV × SV × SV × SV)) := (fun (s45 : Int32 × Int32 × Int32) (k45 : (Int32 × Int32 × Int32) → Option (Int32 × ((Nat → Int32) × XV × SV × SV × SV × SV × SV × SV × SV × SV))) => jn (fun (s137 : Unit) => (f_L_looks N xv nv (4 : Int32) (0 : Int32)).bind (fun o7 => jn (fun (s157 : Unit) => some (s45.2.1, (fo, o7.2.1, o7.2.2, tv, v0, v1, v2, v3, v4, v5))) (fun (j157 : (Unit) → Option (Int32 × ((Nat → Int32) × XV × SV × SV × SV × SV × SV × SV × SV × SV))) => (if o7.1 = (-9 : Int32) then j157 () else (if s45.2.1 = 0 then j157 () else (f_X5_wouldStrike N o7.2.1 o7.2.2 tv (o1 - (9 : Int32)) ((15 : Int32) + o5) (o3 - (3 : Int32))).bind (fun o11 => exc o11.1 (fun k => none) (fun (ro11 : Int32) => (f_X5_wouldCount N o11.2.1 o11.2.2.1 o11.2.2.2 (o1 - (9 : Int32)) ((15 : Int32) + o5) (o3 - (3 : Int32))).bind (fun o13 => exc o13.1 (fun k => none) (fun (ro13 : Int32) => (f_X5_bowls N o13.2.1 o13.2.2.1).bind (fun o15 => (f_X5_putBack N o13.2.1 o13.2.2.1).bind (fun o17 => (f_L_changes N fo o13.2.1 o13.2.2.1 v0 v1 v2 v3 v4 v5 (1 : Int32) (o1 - (9 : Int32)) ((15 : Int32) + o5) (o3 - (3 : Int32))).bind (fun o19 => (f_X5_pointsByOrder N o19.2.2.1 o19.2.2.2.1).bind (fun o21 => jn (fun (s356 : Int32) => jn (fun (s395 : Int32 × (Nat → Int32) × XV × SV × SV × SV × SV × SV × SV × SV × SV) => some (s395.1, (s395.2.1, s395.2.2.1, s395.2.2.2.1, s395.2.2.2.2.1, s395.2.2.2.2.2.1, s395.2.2.2.2.2.2.1, s395.2.2.2.2.2.2.2.1, s395.2.2.2.2.2.2.2.2.1, s395.2.2.2.2.2.2.2.2.2.1, s395.2.2.2.2.2.2.2.2.2.2))) (fun (j395 : (Int32 × (Nat → Int32) × XV × SV × SV × SV × SV × SV × SV × SV × SV) → Option (Int32 × ((Nat → Int32) × XV × SV × SV × SV × SV × SV × SV × SV × SV))) => jn (fun (s394 : (Nat → Int32) × XV × SV × SV × SV × SV × SV × SV × SV × SV) => j395 ((0 : Int32), s394.1, s394.2.1, s394.2.2.1, s394.2.2.2.1, s394.2.2.2.2.1, s394.2.2.2.2.2.1, s394.2.2.2.2.2.2.1, s394.2.2.2.2.2.2.2.1, s394.2.2.2.2.2.2.2.2.1, s394.2.2.2.2.2.2.2.2.2)) (fun (j394 : ((Nat → Int32) × XV × SV × SV × SV × SV × SV × SV × SV × SV) → Option (Int32 × ((Nat → Int32) × XV × SV × SV × SV × SV × SV × SV × SV × SV))) => (if s356 = 0 then j394 (o19.2.1, o21.2.1, o21.2.2, o13.2.2.2, o19.2.2.2.2.1, o19.2.2.2.2.2.1, o19.2.2.2.2.2.2.1, o19.2.2.2.2.2.2.2.1, o19.2.2.2.2.2.2.2.2.1, o19.2.2.2.2.2.2.2.2.2) else (f_L_undoes N o21.2.1 o21.2.2 o19.2.2.2.2.1 o19.2.2.2.2.2.1 o19.2.2.2.2.2.2.1 o19.2.2.2.2.2.2.2.1 o19.2.2.2.2.2.2.2.2.1 o19.2.2.2.2.2.2.2.2.2).bind (fun o24 => (if o24.1 < 0 then j394 (o19.2.1, o24.2.1, o24.2.2.1, o13.2.2.2, o24.2.2.2.1, o24.2.2.2.2.1, o24.2.2.2.2.2.1, o24.2.2.2.2.2.2.1, o24.2.2.2.2.2.2.2.1, o24.2.2.2.2.2.2.2.2) else (f_X5_bowls N o24.2.1 o24.2.2.1).bind (fun o27 => (if o27 = o15 then (f_L_looks N o24.2.1 o24.2.2.1 (4 : Int32) (0 : Int32)).bind (fun o30 => (if o30.1 = o7.1 then j395 ((1 : Int32), o19.2.1, o30.2.1, o30.2.2, o13.2.2.2, o24.2.2.2.1, o24.2.2.2.2.1, o24.2.2.2.2.2.1, o24.2.2.2.2.2.2.1, o24.2.2.2.2.2.2.2.1, o24.2.2.2.2.2.2.2.2) else j394 (o19.2.1, o30.2.1, o30.2.2, o13.2.2.2, o24.2.2.2.1, o24.2.2.2.2.1, o24.2.2.2.2.2.1, o24.2.2.2.2.2.2.1, o24.2.2.2.2.2.2.2.1, o24.2.2.2.2.2.2.2.2))) else j394 (o19.2.1, o24.2.1, o24.2.2.1, o13.2.2.2, o24.2.2.2.1, o24.2.2.2.2.1, o24.2.2.2.2.2.1, o24.2.2.2.2.2.2.1, o24.2.2.2.2.2.2.2.1, o24.2.2.2.2.2.2.2.2))))))))) (fun (j356 : (Int32) → Option (Int32 × ((Nat → Int32) × XV × SV × SV × SV × SV × SV × SV × SV × SV))) => jn (fun (s355 : Unit) => j356 (0 : Int32)) (fun (j355 : (Unit) → Option (Int32 × ((Nat → Int32) × XV × SV × SV × SV × SV × SV × SV × SV × SV))) => (if o19.1 = 0 then (f_X5_bowls N o21.2.1 o21.2.2).bind (fun o34 => (if o34 = (o15 + (1 : Int32)) then jn (fun (s257 : Int32) => (if ro13 = s257 then jn (fun (s316 : Unit) => (if ro11 < 0 then j355 () else (if (9 : Int32) < ro11 then j355 () else (f_X5_isToucher N o21.2.1 o21.2.2 o15).bind (fun o40 => exc o40 (fun k => none) (fun (ro40 : Int32) => jn (fun (s342 : Unit) => (f_X5_putBack N o21.2.1 o21.2.2).bind (fun o43 => (if o43 < o17 then j355 () else j356 (1 : Int32)))) (fun (j342 : (Unit) → Option (Int32 × ((Nat → Int32) × XV × SV × SV × SV × SV × SV × SV × SV × SV))) => (if ro40 = 0 then j342 () else (if ro11 ≤ 0 then j355 () else j342 ())))))))) (fun (j316 : (Unit) → Option (Int32 × ((Nat → Int32) × XV × SV × SV × SV × SV × SV × SV × SV × SV))) => (if 0 < ro11 then j316 () else (if s45.1 = 0 then (if (o19.2.1 (0 : Int32).toNatClampNeg) = 0 then (f_X5_rowOf N o21.2.1 o21.2.2 o15).bind (fun o52 => exc o52 (fun k => none) (fun (ro52 : Int32) => (f_X5_columnOf N o21.2.1 o21.2.2 o15).bind (fun o54 => exc o54 (fun k => none) (fun (ro54 : Int32) => (f_X5_curveBySteps N o21.2.1 o21.2.2 (o1 - (9 : Int32)) ((15 : Int32) + o5) (o3 - (3 : Int32)) ((15 : Int32) + o5)).bind (fun o56 => exc o56 (fun k => none) (fun (ro56 : Int32) => (if (((21 : Int32) * ro52) + ro54) = ro56 then j316 () else j355 ()))))))) else j355 ()) else (if (o19.2.1 (0 : Int32).toNatClampNeg) = (2 : Int32) then j316 () else j355 ())))) else j355 ())) (fun (j257 : (Int32) → Option (Int32 × ((Nat → Int32) × XV × SV × SV × SV × SV × SV × SV × SV × SV))) => (if o21.1 = 0 then j257 (0 : Int32) else (f_X5_leader N o21.2.1 o21.2.2).bind (fun o62 => exc o62 (fun k => none) (fun (ro62 : Int32) => (if ro62 = o7.1 then j257 o21.1 else j257 (-o21.1)))))) else j355 ())) else j355 ())))))))))))))))) (fun (j137 : (Unit) → Option (Int32 × ((Nat → Int32) × XV × SV × SV × SV × SV × SV × SV × SV × SV))) => (if ((15 : Int32) + o5) < s45.2.2 then j137 () else (if s45.2.1 = 0 then j137 () else (f_X5_curveBySteps N xv nv (o1 - (9 : Int32)) ((15 : Int32) + o5) (o3 - (3 : Int32)) s45.2.2).bind (fun o67 => exc o67 (fun k => none) (fun (ro67 : Int32) => (f_X5_curveByFormula N xv nv (o1 - (9 : Int32)) ((15 : Int32) + o5) (o3 - (3 : Int32)) s45.2.2).bind (fun o69 => exc o69 (fun k => none) (fun (ro69 : Int32) => jn (fun (s117 : Int32) => jn (fun (s129 : Int32) => k45 (s129, s117, (s45.2.2 + (1 : Int32)))) (fun (j129 : (Int32) → Option (Int32 × ((Nat → Int32) × XV × SV × SV × SV × SV × SV × SV × SV × SV))) => (if 0 ≤ ro67 then j129 (0 : Int32) else j129 (1 : Int32)))) (fun (j117 : (Int32) → Option (Int32 × ((Nat → Int32) × XV × SV × SV × SV × SV × SV × SV × SV × SV))) => jn (fun (s116 : Unit) => j117 (0 : Int32)) (fun (j116 : (Unit) → Option (Int32 × ((Nat → Int32) × XV × SV × SV × SV × SV × SV × SV × SV × SV))) => (if ro67 = ro69 then jn (fun (s97 : Unit) => jn (fun (s112 : Unit) => j117 (1 : Int32)) (fun (j112 : (Unit) → Option (Int32 × ((Nat → Int32) × XV × SV × SV × SV × SV × SV × SV × SV × SV))) => (if ro67 < 0 then j112 () else (if (ro67 / (21 : Int32)) = s45.2.2 then j112 () else j116 ())))) (fun (j97 : (Unit) → Option (Int32 × ((Nat → Int32) × XV × SV × SV × SV × SV × SV × SV × SV × SV))) => (if s45.1 = 0 then j97 () else (if ro67 = (-1 : Int32) then j97 () else j116 ()))) else j116 ())))))))))))
set_option maxHeartbeats 8000000 in
theorem curves_end {N n : Nat} {B z sm ra rb rw W : Int} {s : Int → Int} {S T : SV} {xv : XV} {v0 v1 v2 v3 v4 v5 : SV} {fo : Nat → Int32} (hN : 1500 < N) (h : INV B n s) (hB : B + 1000 ≤ 1000000) (x : EX s n) (hS : shows s n z S) (R : RG B sm xv v0 v1 v2 v3 v4 v5) (ha : 0 ≤ ra ∧ ra < 19) (hb : 0 ≤ rb ∧ rb < 7) (hw : 0 ≤ rw ∧ rw < 56) (hW : W = 15 + rw) : ∃ (fo2 : Nat → Int32) (xv2 : XV) (S2 T2 u0 u1 u2 u3 u4 u5 : SV) (z2 sm2 : Int), (∀ k, stU N fo xv S T v0 v1 v2 v3 v4 v5 (i32 ra) (i32 rb) (i32 rw) (i32 (b2i (crv (ra - 9 + s 62) (rb - 3) W < 0)), (1 : Int32), i32 (W + 1)) k = some (1, (fo2, xv2, S2, T2, u0, u1, u2, u3, u4, u5))) ∧ shows s n z2 S2 ∧ RG B sm2 xv2 u0 u1 u2 u3 u4 u5 := by
  have eA : i32 ra - (9 : Int32) = i32 (ra - 9) := by rw [l32_9, i32_sub]
  have eB : i32 rb - (3 : Int32) = i32 (rb - 3) := by rw [l32_3, i32_sub]
  have eW : (15 : Int32) + i32 rw = i32 W := by rw [l32_15, i32_add, hW]
  have out : ((15 : Int32) + i32 rw) < i32 (W + 1) := by
    rw [eW, i32_lt (by omega) (by omega) (by omega) (by omega)]; omega
  by_cases c : CanPlay s n
  · obtain ⟨s2, z2, S2, r1, r3, r4, r5, r6, r7, ws, wc⟩ := would_x (N := N) (a := ra - 9) (w := W) (b := rb - 3) hN h hB hS c (by omega) (by omega) (by omega)
    obtain ⟨T1, w1⟩ := ws T xv
    obtain ⟨T2, w2⟩ := wc T1 xv
    obtain ⟨xv2, u0, u1, u2, u3, u4, u5, e1, e2⟩ := rg_save (N := N) (by omega) h hS R
    obtain ⟨S3, p1, hS3⟩ := q_pointsByOrder (xv := xv2) hN r3 r4
    obtain ⟨xv3, S4, y, t1, t2, t3⟩ := top_undoes (N := N) (S := S3) hN h e2
    have hn := h.2.1
    have h62 := h.2.2.2.2.2.1
    have sm0 := rg_sm R
    have sm1 := rg_sm t3
    have i1 := isPlay_ok (N := N) (a := ra - 9) (w := W) (b := rb - 3) (by omega) (by omega) (by omega)
    rw [b2i_p (by omega)] at i1
    have c1 := canPlay_x (N := N) (by omega) h hS
    rw [b2i_p c] at c1
    have fx : f_X0_fateOf N (S_green S2) (i32 (n : Int)) = some (i32 (s2 (4 + 7 * (n : Int) + 0))) := by
      have hn := r3.2.1
      obtain ⟨-, -, -, ef⟩ := bowl_pl r3 (k := (n : Int)) (by omega) (by omega)
      obtain ⟨p, sd, ai, we, bi, to, orr, po, la, eb, rfl, rG, rV⟩ := r4
      obtain ⟨f1, -, -, -, -, -⟩ := rel_facts r3 rG
      have g := rG.1 (n : Int) (by omega) (by omega)
      simp only [S_green_k, S_score_k, S_bowlsEach_k, S_blowing_k, S_jackGoesBack_k, S_touchersTwice_k, S_set_green_k, S_set_score_k, S_set_bowlsEach_k, S_set_blowing_k, S_set_jackGoesBack_k, S_set_touchersTwice_k]
      rw [x0_fateOf (by omega) (by omega) f1, g, ef]
    have ch : f_L_changes N fo xv S v0 v1 v2 v3 v4 v5 (1 : Int32) (i32 (ra - 9)) (i32 W) (i32 (rb - 3)) = some ((0 : Int32), (upd fo (0 : Int32).toNatClampNeg (i32 (s2 (4 + 7 * (n : Int) + 0))), xv2, S2, u0, u1, u2, u3, u4, u5)) := cok_play (fun xv v0 v1 v2 v3 v4 v5 xv2 u0 u1 u2 u3 u4 u5 e => by
      unfold f_X5_play
      exact bdS i1 (ifN (by decide) (bdS c1 (ifN (by decide) (bdS e (bdS r1 (bdS fx rfl))))))) fo xv v0 v1 v2 v3 v4 v5 xv2 u0 u1 u2 u3 u4 u5 e1
    have st := st012 r3 n (by omega) (by omega)
    have tt := inv_tou r3 n (by omega) (by omega)
    have pb := pts_b r3
    obtain ⟨-, y2, -, -, -, -, y7, y8, y9⟩ := r7
    have s62 : s2 62 = s 62 := r5 62 (by omega) (by omega) (by omega) (by omega)
    have hC := h.2.2.2.2.2.2.2.2.2.2.2.1
    have hB9 := h.2.2.2.2.2.2.2.2.2.2.2.2
    have hC2 := r3.2.2.2.2.2.2.2.2.2.2.2.1
    have c100 := hC 100 (by omega)
    have d100 := hC2 100 (by omega)
    have sd01 : sdS s n = 0 ∨ sdS s n = 1 := by
      show (s 61 + (n : Int)) % 2 = 0 ∨ (s 61 + (n : Int)) % 2 = 1
      omega
    have up0 : (upd fo (0 : Int32).toNatClampNeg (i32 (s2 (4 + 7 * (n : Int) + 0)))) (0 : Int32).toNatClampNeg = i32 (s2 (4 + 7 * (n : Int) + 0)) := if_pos rfl
    refine ⟨(upd fo (0 : Int32).toNatClampNeg (i32 (s2 (4 + 7 * (n : Int) + 0)))), xv3, S4, T2, u0, u1, u2, u3, u4, u5, y, smN sm - 1, fun k => ?_, t2, t3⟩
    unfold stU
    refine jnU (fun g => ifS out rfl) (bdS (lk_turn_p hN h hS c) (jnS (ifN ?_ (ifN (show ¬ (1 : Int32) = 0 by decide) ?_))))
    · show ¬ i32 (sdS s n) = (-9 : Int32)
      rw [show (-9 : Int32) = i32 (-9) from rfl, i32_eq (by omega) (by omega) (by omega) (by omega)]; omega
    rw [eA, eB, eW]
    refine bdS w1 (excS (bdS w2 (excS (bdS (q_bowls hN h hS) (bdS (q_putBack hN h hS) (bdS ch (bdS p1 (jnV (x := (1 : Int32)) (fun g => ?_) ?_))))))))
    · refine jnS (ifS rfl (bdS (q_bowls hN r3 hS3) (ifS ?_ (jnV (x := i32 (if scV s2 (n + 1) = sdS s n then pts s2 (n + 1) else -pts s2 (n + 1))) (fun g => ?_) (ifS rfl (jnU (fun g => ?_) ?_))))))
      · rw [l32_1, i32_add, ncS]
      · by_cases q : pts s2 (n + 1) = 0
        · refine ifS (by show i32 (pts s2 (n + 1)) = 0; rw [q]; rfl) ?_
          rw [q]
          by_cases u : scV s2 (n + 1) = sdS s n
          · rw [if_pos u]; rfl
          · rw [if_neg u]; rfl
        · have ab := sc_abs s2 (n + 1)
          have le := q_leader (xv := xv2) hN r3 hS3
          rw [if_neg (by omega)] at le
          have sv : scV s2 (n + 1) = if 0 < sc s2 (n + 1) then 0 else 1 := if_neg (by omega)
          have s01 : (if 0 < sc s2 (n + 1) then 0 else 1 : Int) = 0 ∨ (if 0 < sc s2 (n + 1) then 0 else 1 : Int) = 1 := by
            by_cases u : 0 < sc s2 (n + 1)
            · rw [if_pos u]; exact Or.inl rfl
            · rw [if_neg u]; exact Or.inr rfl
          rw [sv]
          generalize (if 0 < sc s2 (n + 1) then 0 else 1 : Int) = L at le s01
          refine ifN (by show ¬ i32 (pts s2 (n + 1)) = 0; rw [l32_0, i32_eq (by omega) (by omega) (by omega) (by omega)]; exact q) (bdX le ?_)
          by_cases u : L = sdS s n
          · rw [if_pos u]
            exact ifS (by rw [u]) rfl
          · rw [if_neg u]
            refine ifN (by rw [i32_eq (by omega) (by omega) (by omega) (by omega)]; exact u) ?_
            show g (-(i32 (pts s2 (n + 1)))) = _
            rw [i32_neg]
      · by_cases q : 0 < z2
        · exact ifS (by rw [l32_0, i32_lt (by omega) (by omega) (by omega) (by omega)]; exact q) rfl
        · refine ifN (by rw [l32_0, i32_lt (by omega) (by omega) (by omega) (by omega)]; exact q) ?_
          rcases y9 (by omega) with ⟨a1, a2, a3, a4⟩ | ⟨a1, j, j1, j2, j3⟩
          · have cp := crv_p a4
            have cb : 0 ≤ colAt (ra - 9 + s 62) (rb - 3) W ∧ colAt (ra - 9 + s 62) (rb - 3) W < 21 := by
              have := a4 W (by omega) (by omega)
              rw [colAt_s (by omega)]
              exact this.1
            have ro := q_rowOf (xv := xv2) (k := (n : Int)) hN r3 hS3 (by omega) (by omega)
            have co := q_columnOf (xv := xv2) (k := (n : Int)) hN r3 hS3 (by omega) (by omega)
            rw [if_neg (by omega), a2] at ro
            rw [if_neg (by omega), a3] at co
            obtain ⟨Wn, hWn⟩ : ∃ Wn : Nat, W = Wn := ⟨W.toNat, by omega⟩
            have cs := q_curveBySteps (xv := xv2) (a := ra - 9) (w := W) (b := rb - 3) (q := Wn) hN r3 hS3 (by omega) (by omega) (by omega) (by omega)
            rw [s62, ← hWn, cp] at cs
            refine ifS (by show i32 _ = 0; rw [b2i_n (by omega)]; rfl) (ifS (up0.trans (by rw [a1]; rfl)) (bdX ro (bdX co (bdX cs (ifS ?_ rfl)))))
            rw [l32_21, i32_mul, i32_add]
          · have cn := crv_n j1 j2 j3
            exact ifN (by show ¬ i32 _ = 0; rw [b2i_p (by omega)]; decide) (ifS (up0.trans (by rw [a1]; rfl)) rfl)
      refine ifN (by rw [l32_0, i32_lt (by omega) (by omega) (by omega) (by omega)]; omega) (ifN (by rw [l32_9, i32_lt (by omega) (by omega) (by omega) (by omega)]; omega) (bdX (q_isToucher (k := (n : Int)) hN r3 hS3 (by omega) (by omega)) (jnU (fun g => ?_) (bdS (q_putBack hN r3 hS3) (ifN ?_ rfl)))))
      · rcases tt with q | q
        · exact ifS (by rw [q]; rfl) rfl
        · exact ifN (by rw [q]; decide) (ifN (by rw [l32_0, i32_le (by omega) (by omega) (by omega) (by omega)]; have := (y8 q).1; omega) rfl)
      · rw [i32_lt (by omega) (by omega) (by omega) (by omega)]; omega
    refine jnS (jnS (ifN (show ¬ (1 : Int32) = 0 by decide) (bdS t1 (ifN ?_ (bdS (q_bowls hN h t2) (ifS rfl (bdS (lk_turn_p hN h t2 c) (ifS rfl rfl))))))))
    show ¬ i32 (smN sm - 1) < 0
    rw [l32_0, i32_lt (by omega) (by omega) (by omega) (by omega)]; omega
  · refine ⟨fo, xv, S, T, v0, v1, v2, v3, v4, v5, z, sm, fun k => ?_, hS, R⟩
    unfold stU
    exact jnU (fun g => ifS out rfl) (bdS (lk_turn_n hN h hS c) (jnS (ifS rfl rfl)))
set_option maxHeartbeats 8000000 in
theorem curves_ok {N n : Nat} {B z sm : Int} {s : Int → Int} {S T v0 v1 v2 v3 v4 v5 : SV} {xv : XV} {fo : Nat → Int32} (hN : 1500 < N) (h : INV B n s) (hB : B + 1000 ≤ 1000000) (x : EX s n) (hS : shows s n z S) (R : RG B sm xv v0 v1 v2 v3 v4 v5) (p : Int32) : ∃ (fo2 : Nat → Int32) (xv2 : XV) (S2 T2 u0 u1 u2 u3 u4 u5 : SV) (z2 sm2 : Int), f_L_areCurvesSo N fo xv S T v0 v1 v2 v3 v4 v5 p = some (1, (fo2, xv2, S2, T2, u0, u1, u2, u3, u4, u5)) ∧ shows s n z2 S2 ∧ RG B sm2 xv2 u0 u1 u2 u3 u4 u5 := by
  obtain ⟨ra, e1, a0, a1⟩ := low_rng p (m := 19) (by decide) (by decide)
  obtain ⟨rb, e3, b0, b1⟩ := low_rng (p >>> ((3 : Int32) &&& 31)) (m := 7) (by decide) (by decide)
  obtain ⟨r5, e5, w0, w1⟩ := low_rng (p >>> ((6 : Int32) &&& 31)) (m := 56) (by decide) (by decide)
  obtain ⟨fo2, xv2, S2, T2, u0, u1, u2, u3, u4, u5, z2, sm2, en, q1, q2⟩ := curves_end (W := 15 + r5) (T := T) (fo := fo) hN h hB x hS R ⟨a0, a1⟩ ⟨b0, b1⟩ ⟨w0, w1⟩ rfl
  refine ⟨fo2, xv2, S2, T2, u0, u1, u2, u3, u4, u5, z2, sm2, ?_, q1, q2⟩
  unfold f_L_areCurvesSo
  refine bdS ((low_ok (by decide)).trans (congrArg some e1)) (bdS ((low_ok (by decide)).trans (congrArg some e3)) (bdS ((low_ok (by decide)).trans (congrArg some e5)) ?_))
  have eA : i32 ra - (9 : Int32) = i32 (ra - 9) := by rw [l32_9, i32_sub]
  have eB : i32 rb - (3 : Int32) = i32 (rb - 3) := by rw [l32_3, i32_sub]
  have eW : (15 : Int32) + i32 r5 = i32 (15 + r5) := by rw [l32_15, i32_add]
  obtain ⟨rn, hr⟩ : ∃ rn : Nat, r5 = rn := ⟨r5.toNat, by omega⟩
  show lpN (stU N fo xv S T v0 v1 v2 v3 v4 v5 (i32 ra) (i32 rb) (i32 r5)) 72 ((0 : Int32), (1 : Int32), (0 : Int32)) = _
  refine lp_for0 (fun j => (i32 (if j = 0 then 0 else b2i (crv (ra - 9 + s 62) (rb - 3) ((j : Int) - 1) < 0)), (1 : Int32), i32 (j : Int))) (16 + rn) 72 ?_ (by omega) (fun j hj k => ?_) (fun k => ?_)
  · show _ = (i32 (if (0 : Nat) = 0 then 0 else _), (1 : Int32), i32 ((0 : Nat) : Int))
    rw [if_pos rfl]; rfl
  · have f1 : i32 (j : Int) + (1 : Int32) = i32 ((j + 1 : Nat) : Int) := by
      rw [l32_1, i32_add]; rfl
    have f2 : (if j + 1 = 0 then (0 : Int) else b2i (crv (ra - 9 + s 62) (rb - 3) (((j + 1 : Nat) : Int) - 1) < 0)) = b2i (crv (ra - 9 + s 62) (rb - 3) (j : Int) < 0) := by
      rw [if_neg (by omega), show ((j + 1 : Nat) : Int) - 1 = (j : Int) by omega]
    have cs : f_X5_curveBySteps N xv S (i32 ra - (9 : Int32)) ((15 : Int32) + i32 r5) (i32 rb - (3 : Int32)) (i32 (j : Int)) = some (Sum.inr (i32 (crv (ra - 9 + s 62) (rb - 3) (j : Int)))) := by
      rw [eA, eB, eW]
      exact q_curveBySteps hN h hS (by omega) (by omega) (by omega) (by omega)
    have cf : f_X5_curveByFormula N xv S (i32 ra - (9 : Int32)) ((15 : Int32) + i32 r5) (i32 rb - (3 : Int32)) (i32 (j : Int)) = some (Sum.inr (i32 (crv (ra - 9 + s 62) (rb - 3) (j : Int)))) := by
      rw [eA, eB, eW]
      exact q_curveByFormula hN h hS (by omega) (by omega) (by omega) (by omega)
    have cn : crv (ra - 9 + s 62) (rb - 3) (j : Int) < 0 → crv (ra - 9 + s 62) (rb - 3) (j : Int) = -1 := fun u => (crv_neg (by omega) u).1
    have cd : ¬ crv (ra - 9 + s 62) (rb - 3) (j : Int) < 0 → crv (ra - 9 + s 62) (rb - 3) (j : Int) / 21 = (j : Int) ∧ crv (ra - 9 + s 62) (rb - 3) (j : Int) ≤ 3000 := fun u => ⟨(crv_div (by omega) (by omega) u).1, (crv_div (by omega) (by omega) u).2.1⟩
    have cp : 0 < j → crv (ra - 9 + s 62) (rb - 3) ((j : Int) - 1) < 0 → crv (ra - 9 + s 62) (rb - 3) (j : Int) = -1 := fun j0 u => by
      have := (crv_neg (by omega) u).2
      rw [show (j : Int) - 1 + 1 = (j : Int) by omega] at this
      exact this
    unfold stU
    refine jnS (ifN ?_ (ifN (show ¬ (1 : Int32) = 0 by decide) (bdX cs (bdX cf (jnV (x := (1 : Int32)) (fun g => ?_) (jnV (x := i32 (b2i (crv (ra - 9 + s 62) (rb - 3) (j : Int) < 0))) (fun g => ?_) ?_))))))
    · show ¬ (15 : Int32) + i32 r5 < i32 (j : Int)
      rw [eW, i32_lt (by omega) (by omega) (by omega) (by omega)]; omega
    · refine jnS (ifS rfl (jnU (fun g' => ?_) (jnU (fun g' => ?_) rfl)))
      · by_cases j0 : j = 0
        · exact ifS (by show i32 (if j = 0 then 0 else _) = 0; rw [if_pos j0]; rfl) rfl
        · by_cases u : crv (ra - 9 + s 62) (rb - 3) ((j : Int) - 1) < 0
          · exact ifN (by show ¬ i32 (if j = 0 then 0 else _) = 0; rw [if_neg j0, b2i_p u]; decide) (ifS (by rw [cp (by omega) u]; rfl) rfl)
          · exact ifS (by show i32 (if j = 0 then 0 else _) = 0; rw [if_neg j0, b2i_n u]; rfl) rfl
      · by_cases u : crv (ra - 9 + s 62) (rb - 3) (j : Int) < 0
        · exact ifS (by rw [cn u]; decide) rfl
        · have := cd u
          refine ifN (by rw [l32_0, i32_lt (by omega) (by omega) (by omega) (by omega)]; exact u) (ifS ?_ rfl)
          show i32 _ / (21 : Int32) = i32 (j : Int)
          rw [l32_21, i32_div (by omega) (by omega) (by omega) (by omega), this.1]
    · by_cases u : crv (ra - 9 + s 62) (rb - 3) (j : Int) < 0
      · rw [b2i_p u]
        exact ifN (by rw [cn u]; decide) rfl
      · have := cd u
        rw [b2i_n u]
        exact ifS (by rw [l32_0, i32_le (by omega) (by omega) (by omega) (by omega)]; omega) rfl
    · show k (i32 (b2i (crv (ra - 9 + s 62) (rb - 3) (j : Int) < 0)), (1 : Int32), i32 (j : Int) + (1 : Int32)) = k (i32 (if j + 1 = 0 then (0 : Int) else b2i (crv (ra - 9 + s 62) (rb - 3) (((j + 1 : Nat) : Int) - 1) < 0)), (1 : Int32), i32 ((j + 1 : Nat) : Int))
      rw [f1, f2]
  · have f2 : (if 16 + rn = 0 then (0 : Int) else b2i (crv (ra - 9 + s 62) (rb - 3) (((16 + rn : Nat) : Int) - 1) < 0)) = b2i (crv (ra - 9 + s 62) (rb - 3) (15 + r5) < 0) := by
      rw [if_neg (by omega), show ((16 + rn : Nat) : Int) - 1 = 15 + r5 by omega]
    have f1 : ((16 + rn : Nat) : Int) = 15 + r5 + 1 := by omega
    show stU N fo xv S T v0 v1 v2 v3 v4 v5 (i32 ra) (i32 rb) (i32 r5) (i32 (if 16 + rn = 0 then (0 : Int) else b2i (crv (ra - 9 + s 62) (rb - 3) (((16 + rn : Nat) : Int) - 1) < 0)), (1 : Int32), i32 ((16 + rn : Nat) : Int)) k = _
    rw [f2, f1]
    exact en k
