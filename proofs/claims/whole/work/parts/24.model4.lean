/-! written by program from the bytecode: what each method computes, and its contract -/

theorem dX6_row_0 : decode cX6_row 0 = .ok (.iconst 0, 1) := by decide +kernel
theorem dX6_row_1 : decode cX6_row 1 = .ok (.istore_n 1, 1) := by decide +kernel
theorem dX6_row_2 : decode cX6_row 2 = .ok (.aload_n 0, 1) := by decide +kernel
theorem dX6_row_3 : decode cX6_row 3 = .ok (.getfield 7, 3) := by decide +kernel
theorem dX6_row_6 : decode cX6_row 6 = .ok (.bipush 70, 2) := by decide +kernel
theorem dX6_row_8 : decode cX6_row 8 = .ok (.iaload, 1) := by decide +kernel
theorem dX6_row_9 : decode cX6_row 9 = .ok (.ifCond .ne 7, 3) := by decide +kernel
theorem dX6_row_12 : decode cX6_row 12 = .ok (.iconst 0, 1) := by decide +kernel
theorem dX6_row_13 : decode cX6_row 13 = .ok (.goto 20, 3) := by decide +kernel
theorem dX6_row_16 : decode cX6_row 16 = .ok (.aload_n 0, 1) := by decide +kernel
theorem dX6_row_17 : decode cX6_row 17 = .ok (.getfield 7, 3) := by decide +kernel
theorem dX6_row_20 : decode cX6_row 20 = .ok (.bipush 71, 2) := by decide +kernel
theorem dX6_row_22 : decode cX6_row 22 = .ok (.aload_n 0, 1) := by decide +kernel
theorem dX6_row_23 : decode cX6_row 23 = .ok (.getfield 7, 3) := by decide +kernel
theorem dX6_row_26 : decode cX6_row 26 = .ok (.bipush 70, 2) := by decide +kernel
theorem dX6_row_28 : decode cX6_row 28 = .ok (.iaload, 1) := by decide +kernel
theorem dX6_row_29 : decode cX6_row 29 = .ok (.iadd, 1) := by decide +kernel
theorem dX6_row_30 : decode cX6_row 30 = .ok (.iconst 1, 1) := by decide +kernel
theorem dX6_row_31 : decode cX6_row 31 = .ok (.isub, 1) := by decide +kernel
theorem dX6_row_32 : decode cX6_row 32 = .ok (.iaload, 1) := by decide +kernel
theorem dX6_row_33 : decode cX6_row 33 = .ok (.istore_n 2, 1) := by decide +kernel
theorem dX6_row_34 : decode cX6_row 34 = .ok (.aload_n 0, 1) := by decide +kernel
theorem dX6_row_35 : decode cX6_row 35 = .ok (.getfield 7, 3) := by decide +kernel
theorem dX6_row_38 : decode cX6_row 38 = .ok (.bipush 70, 2) := by decide +kernel
theorem dX6_row_40 : decode cX6_row 40 = .ok (.iaload, 1) := by decide +kernel
theorem dX6_row_41 : decode cX6_row 41 = .ok (.iconst 1, 1) := by decide +kernel
theorem dX6_row_42 : decode cX6_row 42 = .ok (.isub, 1) := by decide +kernel
theorem dX6_row_43 : decode cX6_row 43 = .ok (.istore_n 3, 1) := by decide +kernel
theorem dX6_row_44 : decode cX6_row 44 = .ok (.iload_n 3, 1) := by decide +kernel
theorem dX6_row_45 : decode cX6_row 45 = .ok (.ifCond .lt 57, 3) := by decide +kernel
theorem dX6_row_48 : decode cX6_row 48 = .ok (.iload_n 2, 1) := by decide +kernel
theorem dX6_row_49 : decode cX6_row 49 = .ok (.ifCond .eq 53, 3) := by decide +kernel
theorem dX6_row_52 : decode cX6_row 52 = .ok (.aload_n 0, 1) := by decide +kernel
theorem dX6_row_53 : decode cX6_row 53 = .ok (.getfield 7, 3) := by decide +kernel
theorem dX6_row_56 : decode cX6_row 56 = .ok (.bipush 71, 2) := by decide +kernel
theorem dX6_row_58 : decode cX6_row 58 = .ok (.iload_n 3, 1) := by decide +kernel
theorem dX6_row_59 : decode cX6_row 59 = .ok (.iadd, 1) := by decide +kernel
theorem dX6_row_60 : decode cX6_row 60 = .ok (.iaload, 1) := by decide +kernel
theorem dX6_row_61 : decode cX6_row 61 = .ok (.ifCond .eq 41, 3) := by decide +kernel
theorem dX6_row_64 : decode cX6_row 64 = .ok (.aload_n 0, 1) := by decide +kernel
theorem dX6_row_65 : decode cX6_row 65 = .ok (.getfield 7, 3) := by decide +kernel
theorem dX6_row_68 : decode cX6_row 68 = .ok (.bipush 71, 2) := by decide +kernel
theorem dX6_row_70 : decode cX6_row 70 = .ok (.iload_n 3, 1) := by decide +kernel
theorem dX6_row_71 : decode cX6_row 71 = .ok (.iadd, 1) := by decide +kernel
theorem dX6_row_72 : decode cX6_row 72 = .ok (.iaload, 1) := by decide +kernel
theorem dX6_row_73 : decode cX6_row 73 = .ok (.ifCond .le 7, 3) := by decide +kernel
theorem dX6_row_76 : decode cX6_row 76 = .ok (.iconst 1, 1) := by decide +kernel
theorem dX6_row_77 : decode cX6_row 77 = .ok (.goto 4, 3) := by decide +kernel
theorem dX6_row_80 : decode cX6_row 80 = .ok (.iconst 0, 1) := by decide +kernel
theorem dX6_row_81 : decode cX6_row 81 = .ok (.iload_n 2, 1) := by decide +kernel
theorem dX6_row_82 : decode cX6_row 82 = .ok (.ifCond .le 7, 3) := by decide +kernel
theorem dX6_row_85 : decode cX6_row 85 = .ok (.iconst 1, 1) := by decide +kernel
theorem dX6_row_86 : decode cX6_row 86 = .ok (.goto 4, 3) := by decide +kernel
theorem dX6_row_89 : decode cX6_row 89 = .ok (.iconst 0, 1) := by decide +kernel
theorem dX6_row_90 : decode cX6_row 90 = .ok (.if_icmp .ne 12, 3) := by decide +kernel
theorem dX6_row_93 : decode cX6_row 93 = .ok (.iinc 1 1, 3) := by decide +kernel
theorem dX6_row_96 : decode cX6_row 96 = .ok (.iinc 3 (-1), 3) := by decide +kernel
theorem dX6_row_99 : decode cX6_row 99 = .ok (.goto (-55), 3) := by decide +kernel
theorem dX6_row_102 : decode cX6_row 102 = .ok (.iload_n 1, 1) := by decide +kernel
theorem dX6_row_103 : decode cX6_row 103 = .ok (.ireturn, 1) := by decide +kernel
def f_X6_row (N : Nat) (v : MV) : Option (Int32) :=
  jn (fun (s33 : Int32) => lpN (fun (s44 : Int32 × Int32) (k44 : (Int32 × Int32) → Option (Int32)) => jn (fun (s102 : Unit) => some s44.1) (fun (j102 : (Unit) → Option (Int32)) => (if s44.2 < 0 then j102 () else (if s33 = 0 then j102 () else gd (ixok ((71 : Int32) + s44.2) 103) ((if ((M_s v) ((71 : Int32) + s44.2).toNatClampNeg) = 0 then j102 () else gd (ixok ((71 : Int32) + s44.2) 103) (jn (fun (s81 : Int32) => jn (fun (s90 : Int32) => (if s81 = s90 then k44 ((s44.1 + (1 : Int32)), (s44.2 + (-1 : Int32))) else j102 ())) (fun (j90 : (Int32) → Option (Int32)) => (if s33 ≤ 0 then j90 (0 : Int32) else j90 (1 : Int32)))) (fun (j81 : (Int32) → Option (Int32)) => (if ((M_s v) ((71 : Int32) + s44.2).toNatClampNeg) ≤ 0 then j81 (0 : Int32) else j81 (1 : Int32)))))))))) N ((0 : Int32), (((M_s v) (70 : Int32).toNatClampNeg) - (1 : Int32)))) (fun (j33 : (Int32) → Option (Int32)) => (if ((M_s v) (70 : Int32).toNatClampNeg) = 0 then j33 (0 : Int32) else gd (ixok (((71 : Int32) + ((M_s v) (70 : Int32).toNatClampNeg)) - (1 : Int32)) 103) (j33 ((M_s v) (((71 : Int32) + ((M_s v) (70 : Int32).toNatClampNeg)) - (1 : Int32)).toNatClampNeg))))
set_option maxHeartbeats 4000000 in
set_option maxRecDepth 100000 in
theorem met_X6_row (l : Launch) (dC : Nat → ClassId) (dI : Nat → Nat → Nat) (cyI cyO cyL : ClassId) (a : Nat → Nat) (N : Nat) (v : MV) (out : Int32) (hF : f_X6_row N v = some out) : Met l yX6_row (Cond.code yX6_row cX6_row 4 (some .int) :: wT) ({ frames := 0, cells := 0, slots := 0, locals := 0 } : Room) (wRd dC dI cyI cyO cyL [.ref (a 0)] (cM cyI a v)) (va_Qi (fun (r : Int32) (_ : Unit) => r = out) (fun _ _ => True) wN0) 0 0 wN0 := by
  refine Met.ofW (cc := cX6_row) (maxL := 4) (ret := (some .int)) (by decide) rfl ?_
  intro p e s m args below meth c s₁ B hml hv
  obtain ⟨rfl, hP, hK⟩ := hv
  have hx := B.exec
  have hb := B.bytes
  have hr := B.returns
  have hts0 := atoms_spec (ws := (Cond.code yX6_row cX6_row 4 (some .int) :: wT)) B.pre
  have hts := fun w h => hts0 w (List.mem_cons_of_mem _ h)
  clear hts0
  have hown : s.vm.findClass RX6 = some m.cls := findClass_of_methodNamed B.named
  have hlocks := B.notSynchronized
  have hS : va_S wN0 s.heap s.heap [] := va_S.rf
  have hl := lv_entry [.ref (a 0)] (n := 4) (Nat.le_of_ble_eq_true rfl)
  rw [lg_entry_eq]
  generalize (lg_sl [.ref (a 0)] ++ List.replicate (4 - (lg_sl [.ref (a 0)]).length) Slot.unset).toArray = ls at hl ⊢
  have hl : lv_has ls 4 [(0, .ref (a 0))] := hl
  unfold f_X6_row at hF
  refine lv_iconst (v := 0) hx hb dX6_row_0 (by decide) ?_
  refine lv_istore_n (lv' := [(1, .int (0 : Int32)), (0, .ref (a 0))]) hx hb dX6_row_1 rfl hl (by decide) rfl (fun ls hl => ?_)
  refine lv_aload_n hx hb dX6_row_2 rfl (lv_at hl 1 rfl) ?_
  refine va_get (D := (dC, dI)) (ci := 6) (v := .ref (a 1)) (C := RX6) (T := TX6) (N := 23) hx hb hts inX6 hown hK.1 hP 0 rfl rfl 1 (by decide) (hts _ w_fieldLink_X6_7) (fun _ h9 => h9) rfl dX6_row_3 ?_
  refine lv_bipush (v := 70) hx hb dX6_row_6 (by decide) ?_
  refine va_iald hx hb hK.1 hP 1 0 rfl rfl (i := (70 : Int32)) (show ixok (70 : Int32) 103 by decide) dX6_row_8 ?_
  obtain ⟨j33, hj33, hF⟩ := jn_use hF
  have hJ33 : ∀ (s33 : Int32) (H : Heap) (locs : List Loc) (ls : Array Slot), va_P (dC, dI) vwCl (cM cyI a v) H → va_S wN0 s.heap H locs → lv_has ls 4 [(0, .ref (a 0)), (1, .int (0 : Int32))] → j33 s33 = some out → W p l e (headSpec (Cond.code yX6_row cX6_row 4 (some .int) :: wT) ({ frames := 0, cells := 0, slots := 0, locals := 0 } : Room)).room s m ([.ref (a 0)] : List Value).toArray below meth c H locs 0 0 (MQ below (va_Qi (fun (r : Int32) (_ : Unit) => r = out) (fun _ _ => True) wN0) ([.ref (a 0)] : List Value).toArray s 0 0 wN0) (F0 m 33 ls [.int s33]) := by
    intro s33 H locs ls hP hS hl hF
    have hF := (congrFun hj33 s33).symm.trans hF
    refine lv_istore_n (lv' := [(2, .int s33), (0, .ref (a 0)), (1, .int (0 : Int32))]) hx hb dX6_row_33 rfl hl (by decide) rfl (fun ls hl => ?_)
    refine lv_aload_n hx hb dX6_row_34 rfl (lv_at hl 1 rfl) ?_
    refine va_get (D := (dC, dI)) (ci := 6) (v := .ref (a 1)) (C := RX6) (T := TX6) (N := 23) hx hb hts inX6 hown hK.1 hP 0 rfl rfl 1 (by decide) (hts _ w_fieldLink_X6_7) (fun _ h9 => h9) rfl dX6_row_35 ?_
    refine lv_bipush (v := 70) hx hb dX6_row_38 (by decide) ?_
    refine va_iald hx hb hK.1 hP 1 0 rfl rfl (i := (70 : Int32)) (show ixok (70 : Int32) 103 by decide) dX6_row_40 ?_
    refine lv_iconst (v := 1) hx hb dX6_row_41 (by decide) ?_
    refine lv_isub hx hb dX6_row_42 ?_
    refine lv_istore_n (lv' := [(3, .int (((M_s v) (70 : Int32).toNatClampNeg) - (1 : Int32))), (2, .int s33), (0, .ref (a 0)), (1, .int (0 : Int32))]) hx hb dX6_row_43 rfl hl (by decide) rfl (fun ls hl => ?_)
    obtain ⟨st44, hst44, hF⟩ := lpN_use hF
    have hL44 : ∀ (n : Nat) (s44 : Int32 × Int32) (H : Heap) (locs : List Loc) (ls : Array Slot), va_P (dC, dI) vwCl (cM cyI a v) H → va_S wN0 s.heap H locs → lv_has ls 4 [(0, .ref (a 0)), (1, .int s44.1), (2, .int s33), (3, .int s44.2)] → lpN st44 n s44 = some out → W p l e (headSpec (Cond.code yX6_row cX6_row 4 (some .int) :: wT) ({ frames := 0, cells := 0, slots := 0, locals := 0 } : Room)).room s m ([.ref (a 0)] : List Value).toArray below meth c H locs 0 0 (MQ below (va_Qi (fun (r : Int32) (_ : Unit) => r = out) (fun _ _ => True) wN0) ([.ref (a 0)] : List Value).toArray s 0 0 wN0) (F0 m 44 ls []) := by
      intro n
      induction n with
      | zero => intro s44 H locs ls hP hS hl hF; exact lpN_0 hF
      | succ n ih44 =>
        intro s44 H locs ls hP hS hl hF
        have hF := (congrFun (congrFun hst44 s44) (lpN st44 n)).symm.trans (lpN_s hF)
        refine lv_iload_n hx hb dX6_row_44 rfl (lv_at hl 3 rfl) ?_
        obtain ⟨j102, hj102, hF⟩ := jn_use hF
        have hJ102 : ∀ (s102 : Unit) (H : Heap) (locs : List Loc) (ls : Array Slot), va_P (dC, dI) vwCl (cM cyI a v) H → va_S wN0 s.heap H locs → lv_has ls 4 [(1, .int s44.1)] → j102 s102 = some out → W p l e (headSpec (Cond.code yX6_row cX6_row 4 (some .int) :: wT) ({ frames := 0, cells := 0, slots := 0, locals := 0 } : Room)).room s m ([.ref (a 0)] : List Value).toArray below meth c H locs 0 0 (MQ below (va_Qi (fun (r : Int32) (_ : Unit) => r = out) (fun _ _ => True) wN0) ([.ref (a 0)] : List Value).toArray s 0 0 wN0) (F0 m 102 ls []) := by
          intro s102 H locs ls hP hS hl hF
          have hF := (congrFun hj102 s102).symm.trans hF
          refine lv_iload_n hx hb dX6_row_102 rfl (lv_at hl 0 rfl) ?_
          exact W.iret (v := s44.1) hx hb hr (fun t ht hW => ⟨⟨_, (), rfl, Option.some.inj hF, trivial⟩, hS.F ht⟩) hS.2.2 dX6_row_103
        refine lv_if_lt (tgt := 102) hx hb dX6_row_45 (by decide) (fun c3 => ?_) (fun c3 => ?_)
        · have hF := itp c3 hF
          exact hJ102 () _ _ _ hP hS (lv_sub hl [1] rfl) hF
        · have hF := itn c3 hF
          refine lv_iload_n hx hb dX6_row_48 rfl (lv_at hl 2 rfl) ?_
          refine lv_if_eq (tgt := 102) hx hb dX6_row_49 (by decide) (fun c4 => ?_) (fun c4 => ?_)
          · have hF := itp c4 hF
            exact hJ102 () _ _ _ hP hS (lv_sub hl [1] rfl) hF
          · have hF := itn c4 hF
            refine lv_aload_n hx hb dX6_row_52 rfl (lv_at hl 0 rfl) ?_
            refine va_get (D := (dC, dI)) (ci := 6) (v := .ref (a 1)) (C := RX6) (T := TX6) (N := 23) hx hb hts inX6 hown hK.1 hP 0 rfl rfl 1 (by decide) (hts _ w_fieldLink_X6_7) (fun _ h9 => h9) rfl dX6_row_53 ?_
            refine lv_bipush (v := 71) hx hb dX6_row_56 (by decide) ?_
            refine lv_iload_n hx hb dX6_row_58 rfl (lv_at hl 3 rfl) ?_
            refine lv_iadd hx hb dX6_row_59 ?_
            obtain ⟨hg5, hF⟩ := gd_use hF
            refine va_iald hx hb hK.1 hP 1 0 rfl rfl (i := ((71 : Int32) + s44.2)) hg5 dX6_row_60 ?_
            refine lv_if_eq (tgt := 102) hx hb dX6_row_61 (by decide) (fun c6 => ?_) (fun c6 => ?_)
            · have hF := itp c6 hF
              exact hJ102 () _ _ _ hP hS (lv_sub hl [1] rfl) hF
            · have hF := itn c6 hF
              refine lv_aload_n hx hb dX6_row_64 rfl (lv_at hl 0 rfl) ?_
              refine va_get (D := (dC, dI)) (ci := 6) (v := .ref (a 1)) (C := RX6) (T := TX6) (N := 23) hx hb hts inX6 hown hK.1 hP 0 rfl rfl 1 (by decide) (hts _ w_fieldLink_X6_7) (fun _ h9 => h9) rfl dX6_row_65 ?_
              refine lv_bipush (v := 71) hx hb dX6_row_68 (by decide) ?_
              refine lv_iload_n hx hb dX6_row_70 rfl (lv_at hl 3 rfl) ?_
              refine lv_iadd hx hb dX6_row_71 ?_
              obtain ⟨hg7, hF⟩ := gd_use hF
              refine va_iald hx hb hK.1 hP 1 0 rfl rfl (i := ((71 : Int32) + s44.2)) hg7 dX6_row_72 ?_
              obtain ⟨j81, hj81, hF⟩ := jn_use hF
              have hJ81 : ∀ (s81 : Int32) (H : Heap) (locs : List Loc) (ls : Array Slot) (hz_81_s0 : b01 s81), va_P (dC, dI) vwCl (cM cyI a v) H → va_S wN0 s.heap H locs → lv_has ls 4 [(0, .ref (a 0)), (1, .int s44.1), (2, .int s33), (3, .int s44.2)] → j81 s81 = some out → W p l e (headSpec (Cond.code yX6_row cX6_row 4 (some .int) :: wT) ({ frames := 0, cells := 0, slots := 0, locals := 0 } : Room)).room s m ([.ref (a 0)] : List Value).toArray below meth c H locs 0 0 (MQ below (va_Qi (fun (r : Int32) (_ : Unit) => r = out) (fun _ _ => True) wN0) ([.ref (a 0)] : List Value).toArray s 0 0 wN0) (F0 m 81 ls [.int s81]) := by
                intro s81 H locs ls hz_81_s0 hP hS hl hF
                have hF := (congrFun hj81 s81).symm.trans hF
                refine lv_iload_n hx hb dX6_row_81 rfl (lv_at hl 2 rfl) ?_
                obtain ⟨j90, hj90, hF⟩ := jn_use hF
                have hJ90 : ∀ (s90 : Int32) (H : Heap) (locs : List Loc) (ls : Array Slot) (hz_90_s1 : b01 s90), va_P (dC, dI) vwCl (cM cyI a v) H → va_S wN0 s.heap H locs → lv_has ls 4 [(0, .ref (a 0)), (1, .int s44.1), (2, .int s33), (3, .int s44.2)] → j90 s90 = some out → W p l e (headSpec (Cond.code yX6_row cX6_row 4 (some .int) :: wT) ({ frames := 0, cells := 0, slots := 0, locals := 0 } : Room)).room s m ([.ref (a 0)] : List Value).toArray below meth c H locs 0 0 (MQ below (va_Qi (fun (r : Int32) (_ : Unit) => r = out) (fun _ _ => True) wN0) ([.ref (a 0)] : List Value).toArray s 0 0 wN0) (F0 m 90 ls [.int s90, .int s81]) := by
                  intro s90 H locs ls hz_90_s1 hP hS hl hF
                  have hF := (congrFun hj90 s90).symm.trans hF
                  refine lv_icmp_ne (tgt := 102) hx hb dX6_row_90 (by decide) (fun c8 => ?_) (fun c8 => ?_)
                  · have hF := itn c8 hF
                    exact hJ102 () _ _ _ hP hS (lv_sub hl [1] rfl) hF
                  · have hF := itp c8 hF
                    refine lv_iinc (v := (s44.1 + (1 : Int32))) (lv' := [(1, .int (s44.1 + (1 : Int32))), (0, .ref (a 0)), (2, .int s33), (3, .int s44.2)]) hx hb dX6_row_93 hl (k := 1) rfl rfl (by decide) rfl (fun ls hl => ?_)
                    refine lv_iinc (v := (s44.2 + (-1 : Int32))) (lv' := [(3, .int (s44.2 + (-1 : Int32))), (1, .int (s44.1 + (1 : Int32))), (0, .ref (a 0)), (2, .int s33)]) hx hb dX6_row_96 hl (k := 3) rfl rfl (by decide) rfl (fun ls hl => ?_)
                    refine lv_goto (tgt := 44) hx hb dX6_row_99 (by decide) ?_
                    exact ih44 ((s44.1 + (1 : Int32)), (s44.2 + (-1 : Int32))) _ _ _ hP hS (lv_sub hl [2, 1, 3, 0] rfl) hF
                refine lv_if_le (tgt := 89) hx hb dX6_row_82 (by decide) (fun c9 => ?_) (fun c9 => ?_)
                · have hF := itp c9 hF
                  refine lv_iconst (v := 0) hx hb dX6_row_89 (by decide) ?_
                  exact hJ90 (0 : Int32) _ _ _ b01_0 hP hS (lv_sub hl [0, 1, 2, 3] rfl) hF
                · have hF := itn c9 hF
                  refine lv_iconst (v := 1) hx hb dX6_row_85 (by decide) ?_
                  refine lv_goto (tgt := 90) hx hb dX6_row_86 (by decide) ?_
                  exact hJ90 (1 : Int32) _ _ _ b01_1 hP hS (lv_sub hl [0, 1, 2, 3] rfl) hF
              refine lv_if_le (tgt := 80) hx hb dX6_row_73 (by decide) (fun c10 => ?_) (fun c10 => ?_)
              · have hF := itp c10 hF
                refine lv_iconst (v := 0) hx hb dX6_row_80 (by decide) ?_
                exact hJ81 (0 : Int32) _ _ _ b01_0 hP hS (lv_sub hl [0, 1, 2, 3] rfl) hF
              · have hF := itn c10 hF
                refine lv_iconst (v := 1) hx hb dX6_row_76 (by decide) ?_
                refine lv_goto (tgt := 81) hx hb dX6_row_77 (by decide) ?_
                exact hJ81 (1 : Int32) _ _ _ b01_1 hP hS (lv_sub hl [0, 1, 2, 3] rfl) hF
    exact hL44 N ((0 : Int32), (((M_s v) (70 : Int32).toNatClampNeg) - (1 : Int32))) _ _ _ hP hS (lv_sub hl [2, 3, 1, 0] rfl) hF
  refine lv_if_ne (tgt := 16) hx hb dX6_row_9 (by decide) (fun c11 => ?_) (fun c11 => ?_)
  · have hF := itn c11 hF
    refine lv_aload_n hx hb dX6_row_16 rfl (lv_at hl 1 rfl) ?_
    refine va_get (D := (dC, dI)) (ci := 6) (v := .ref (a 1)) (C := RX6) (T := TX6) (N := 23) hx hb hts inX6 hown hK.1 hP 0 rfl rfl 1 (by decide) (hts _ w_fieldLink_X6_7) (fun _ h9 => h9) rfl dX6_row_17 ?_
    refine lv_bipush (v := 71) hx hb dX6_row_20 (by decide) ?_
    refine lv_aload_n hx hb dX6_row_22 rfl (lv_at hl 1 rfl) ?_
    refine va_get (D := (dC, dI)) (ci := 6) (v := .ref (a 1)) (C := RX6) (T := TX6) (N := 23) hx hb hts inX6 hown hK.1 hP 0 rfl rfl 1 (by decide) (hts _ w_fieldLink_X6_7) (fun _ h9 => h9) rfl dX6_row_23 ?_
    refine lv_bipush (v := 70) hx hb dX6_row_26 (by decide) ?_
    refine va_iald hx hb hK.1 hP 1 0 rfl rfl (i := (70 : Int32)) (show ixok (70 : Int32) 103 by decide) dX6_row_28 ?_
    refine lv_iadd hx hb dX6_row_29 ?_
    refine lv_iconst (v := 1) hx hb dX6_row_30 (by decide) ?_
    refine lv_isub hx hb dX6_row_31 ?_
    obtain ⟨hg13, hF⟩ := gd_use hF
    refine va_iald hx hb hK.1 hP 1 0 rfl rfl (i := (((71 : Int32) + ((M_s v) (70 : Int32).toNatClampNeg)) - (1 : Int32))) hg13 dX6_row_32 ?_
    exact hJ33 ((M_s v) (((71 : Int32) + ((M_s v) (70 : Int32).toNatClampNeg)) - (1 : Int32)).toNatClampNeg) _ _ _ hP hS (lv_sub hl [1, 0] rfl) hF
  · have hF := itp c11 hF
    refine lv_iconst (v := 0) hx hb dX6_row_12 (by decide) ?_
    refine lv_goto (tgt := 33) hx hb dX6_row_13 (by decide) ?_
    exact hJ33 (0 : Int32) _ _ _ hP hS (lv_sub hl [1, 0] rfl) hF
theorem dX6_streak_0 : decode cX6_streak 0 = .ok (.aload_n 0, 1) := by decide +kernel
theorem dX6_streak_1 : decode cX6_streak 1 = .ok (.iconst 0, 1) := by decide +kernel
theorem dX6_streak_2 : decode cX6_streak 2 = .ok (.putfield 31, 3) := by decide +kernel
theorem dX6_streak_5 : decode cX6_streak 5 = .ok (.aload_n 0, 1) := by decide +kernel
theorem dX6_streak_6 : decode cX6_streak 6 = .ok (.invokevirtual 232, 3) := by decide +kernel
theorem dX6_streak_9 : decode cX6_streak 9 = .ok (.ireturn, 1) := by decide +kernel
def f_X6_streak (N : Nat) (v : MV) : Option (Int32 × MV) :=
  (f_X6_row N (M_set_thrown v (0 : Int32))).bind (fun o1 => some (o1, (M_set_thrown v (0 : Int32))))
set_option maxHeartbeats 4000000 in
set_option maxRecDepth 100000 in
theorem met_X6_streak (l : Launch) (dC : Nat → ClassId) (dI : Nat → Nat → Nat) (cyI cyO cyL : ClassId) (a : Nat → Nat) (sz : Nat) (N : Nat) (v : MV) (out : Int32 × MV) (hF : f_X6_streak N v = some out) : Met l yX6_streak (Cond.code yX6_streak cX6_streak 1 (some .int) :: wT) ({ frames := 1, cells := 0, slots := 0, locals := 23 } : Room) (wWr dC dI cyI cyO cyL [.ref (a 0)] (cM cyI a v) sz) (va_Qi (fun (r : Int32) (u : MV) => (r, u) = out) (fun u t => va_P (dC, dI) vwCl (cM cyI a u) t.heap ∧ va_D (va_A (cM cyI a v) sz) (cM cyI a u)) (va_A (cM cyI a v) sz)) 0 0 (va_A (cM cyI a v) sz) := by
  refine Met.ofW (cc := cX6_streak) (maxL := 1) (ret := (some .int)) (by decide) rfl ?_
  intro p e s m args below meth c s₁ B hml hv
  obtain ⟨rfl, hsz, hP, hK, hD0⟩ := hv
  have hx := B.exec
  have hb := B.bytes
  have hr := B.returns
  have hts0 := atoms_spec (ws := (Cond.code yX6_streak cX6_streak 1 (some .int) :: wT)) B.pre
  have hts := fun w h => hts0 w (List.mem_cons_of_mem _ h)
  clear hts0
  have hown : s.vm.findClass RX6 = some m.cls := findClass_of_methodNamed B.named
  have hlocks := B.notSynchronized
  subst hsz
  have hD := hD0.self (sz := s.heap.size)
  generalize hAe : va_A (cM cyI a v) s.heap.size = A at hD ⊢
  have hA : ∀ q : Nat, s.heap.size ≤ q → A q := fun q h => by rw [← hAe]; exact Or.inr h
  clear hD0
  have hS : va_S A s.heap s.heap [] := va_S.rf
  have hl := lv_entry [.ref (a 0)] (n := 1) (Nat.le_of_ble_eq_true rfl)
  rw [lg_entry_eq]
  generalize (lg_sl [.ref (a 0)] ++ List.replicate (1 - (lg_sl [.ref (a 0)]).length) Slot.unset).toArray = ls at hl ⊢
  have hl : lv_has ls 1 [(0, .ref (a 0))] := hl
  unfold f_X6_streak at hF
  refine lv_aload_n hx hb dX6_streak_0 rfl (lv_at hl 0 rfl) ?_
  refine lv_iconst (v := 0) hx hb dX6_streak_1 (by decide) ?_
  refine va_put (D := (dC, dI)) (ci := 6) (v := .int (0 : Int32)) (ty := .int) (C := RX6) (T := TX6) (N := 23) hx hb hts inX6 tyX6 tyX6_ok nmX6 hown hK.1 hP hD hS 0 rfl rfl 0 (by decide) (hts _ w_fieldLink_X6_31) (fun _ h9 => h9) rfl (by decide +kernel) rfl rfl (Nat.le_of_ble_eq_true rfl) dX6_streak_2 (fun H locs hP hD hS => ?_)
  have hP : va_P (dC, dI) vwCl (cM cyI a (M_set_thrown v (0 : Int32))) H := hP
  have hD : va_D A (cM cyI a (M_set_thrown v (0 : Int32))) := hD
  refine lv_aload_n hx hb dX6_streak_5 rfl (lv_at hl 0 rfl) ?_
  obtain ⟨o1, h2, hF⟩ := obd hF
  refine wcRVi (As := []) (rest := []) (b := (a 0)) ⟨hx, hb, hml, hown, hts⟩ (met_X6_row l dC dI cyI cyO cyL a N (M_set_thrown v (0 : Int32))  o1 h2) (cwV 0 hts (gV w_methodLink_X6_232 w_instanceMethod_X6_row w_selects_X6_row w_initialized_X6 w_code_X6_row) rfl rfl rfl (by decide +kernel) ⟨Nat.le_of_ble_eq_true rfl, Nat.le_of_ble_eq_true rfl⟩) (va_recv hK.1 hP (ci := 6) (q0 := 0) rfl rfl) hP hK [0, 1, 2, 3, 4, 5, 6, 7] rfl rfl hl.1 (Nat.le_of_ble_eq_true rfl) dX6_streak_6 ⟨Nat.le_of_ble_eq_true rfl, Nat.le_of_ble_eq_true rfl⟩ hS (fun r H locs hw hP hS => ?_)
  have hw := hw.symm
  subst hw
  exact W.iret (v := o1) hx hb hr (fun t ht hW => ⟨⟨_, (M_set_thrown v (0 : Int32)), rfl, Option.some.inj hF, by rw [ht]; exact hP, hD⟩, hS.F ht⟩) hS.2.2 dX6_streak_9
theorem dX6_putBack_0 : decode cX6_putBack 0 = .ok (.aload_n 0, 1) := by decide +kernel
theorem dX6_putBack_1 : decode cX6_putBack 1 = .ok (.iconst 0, 1) := by decide +kernel
theorem dX6_putBack_2 : decode cX6_putBack 2 = .ok (.putfield 31, 3) := by decide +kernel
theorem dX6_putBack_5 : decode cX6_putBack 5 = .ok (.aload_n 0, 1) := by decide +kernel
theorem dX6_putBack_6 : decode cX6_putBack 6 = .ok (.getfield 7, 3) := by decide +kernel
theorem dX6_putBack_9 : decode cX6_putBack 9 = .ok (.bipush 100, 2) := by decide +kernel
theorem dX6_putBack_11 : decode cX6_putBack 11 = .ok (.iaload, 1) := by decide +kernel
theorem dX6_putBack_12 : decode cX6_putBack 12 = .ok (.ireturn, 1) := by decide +kernel
def f_X6_putBack (N : Nat) (v : MV) : Option (Int32 × MV) :=
  some (((M_s v) (100 : Int32).toNatClampNeg), (M_set_thrown v (0 : Int32)))
set_option maxHeartbeats 4000000 in
set_option maxRecDepth 100000 in
theorem met_X6_putBack (l : Launch) (dC : Nat → ClassId) (dI : Nat → Nat → Nat) (cyI cyO cyL : ClassId) (a : Nat → Nat) (sz : Nat) (N : Nat) (v : MV) (out : Int32 × MV) (hF : f_X6_putBack N v = some out) : Met l yX6_putBack (Cond.code yX6_putBack cX6_putBack 1 (some .int) :: wT) ({ frames := 0, cells := 0, slots := 0, locals := 0 } : Room) (wWr dC dI cyI cyO cyL [.ref (a 0)] (cM cyI a v) sz) (va_Qi (fun (r : Int32) (u : MV) => (r, u) = out) (fun u t => va_P (dC, dI) vwCl (cM cyI a u) t.heap ∧ va_D (va_A (cM cyI a v) sz) (cM cyI a u)) (va_A (cM cyI a v) sz)) 0 0 (va_A (cM cyI a v) sz) := by
  refine Met.ofW (cc := cX6_putBack) (maxL := 1) (ret := (some .int)) (by decide) rfl ?_
  intro p e s m args below meth c s₁ B hml hv
  obtain ⟨rfl, hsz, hP, hK, hD0⟩ := hv
  have hx := B.exec
  have hb := B.bytes
  have hr := B.returns
  have hts0 := atoms_spec (ws := (Cond.code yX6_putBack cX6_putBack 1 (some .int) :: wT)) B.pre
  have hts := fun w h => hts0 w (List.mem_cons_of_mem _ h)
  clear hts0
  have hown : s.vm.findClass RX6 = some m.cls := findClass_of_methodNamed B.named
  have hlocks := B.notSynchronized
  subst hsz
  have hD := hD0.self (sz := s.heap.size)
  generalize hAe : va_A (cM cyI a v) s.heap.size = A at hD ⊢
  have hA : ∀ q : Nat, s.heap.size ≤ q → A q := fun q h => by rw [← hAe]; exact Or.inr h
  clear hD0
  have hS : va_S A s.heap s.heap [] := va_S.rf
  have hl := lv_entry [.ref (a 0)] (n := 1) (Nat.le_of_ble_eq_true rfl)
  rw [lg_entry_eq]
  generalize (lg_sl [.ref (a 0)] ++ List.replicate (1 - (lg_sl [.ref (a 0)]).length) Slot.unset).toArray = ls at hl ⊢
  have hl : lv_has ls 1 [(0, .ref (a 0))] := hl
  unfold f_X6_putBack at hF
  refine lv_aload_n hx hb dX6_putBack_0 rfl (lv_at hl 0 rfl) ?_
  refine lv_iconst (v := 0) hx hb dX6_putBack_1 (by decide) ?_
  refine va_put (D := (dC, dI)) (ci := 6) (v := .int (0 : Int32)) (ty := .int) (C := RX6) (T := TX6) (N := 23) hx hb hts inX6 tyX6 tyX6_ok nmX6 hown hK.1 hP hD hS 0 rfl rfl 0 (by decide) (hts _ w_fieldLink_X6_31) (fun _ h9 => h9) rfl (by decide +kernel) rfl rfl (Nat.le_of_ble_eq_true rfl) dX6_putBack_2 (fun H locs hP hD hS => ?_)
  have hP : va_P (dC, dI) vwCl (cM cyI a (M_set_thrown v (0 : Int32))) H := hP
  have hD : va_D A (cM cyI a (M_set_thrown v (0 : Int32))) := hD
  refine lv_aload_n hx hb dX6_putBack_5 rfl (lv_at hl 0 rfl) ?_
  refine va_get (D := (dC, dI)) (ci := 6) (v := .ref (a 1)) (C := RX6) (T := TX6) (N := 23) hx hb hts inX6 hown hK.1 hP 0 rfl rfl 1 (by decide) (hts _ w_fieldLink_X6_7) (fun _ h9 => h9) rfl dX6_putBack_6 ?_
  refine lv_bipush (v := 100) hx hb dX6_putBack_9 (by decide) ?_
  refine va_iald hx hb hK.1 hP 1 0 rfl rfl (i := (100 : Int32)) (show ixok (100 : Int32) 103 by decide) dX6_putBack_11 ?_
  exact W.iret (v := ((M_s v) (100 : Int32).toNatClampNeg)) hx hb hr (fun t ht hW => ⟨⟨_, (M_set_thrown v (0 : Int32)), rfl, Option.some.inj hF, by rw [ht]; exact hP, hD⟩, hS.F ht⟩) hS.2.2 dX6_putBack_12
theorem dX6_played_0 : decode cX6_played 0 = .ok (.aload_n 0, 1) := by decide +kernel
theorem dX6_played_1 : decode cX6_played 1 = .ok (.iconst 0, 1) := by decide +kernel
theorem dX6_played_2 : decode cX6_played 2 = .ok (.putfield 31, 3) := by decide +kernel
theorem dX6_played_5 : decode cX6_played 5 = .ok (.aload_n 0, 1) := by decide +kernel
theorem dX6_played_6 : decode cX6_played 6 = .ok (.getfield 7, 3) := by decide +kernel
theorem dX6_played_9 : decode cX6_played 9 = .ok (.bipush 101, 2) := by decide +kernel
theorem dX6_played_11 : decode cX6_played 11 = .ok (.iaload, 1) := by decide +kernel
theorem dX6_played_12 : decode cX6_played 12 = .ok (.ireturn, 1) := by decide +kernel
def f_X6_played (N : Nat) (v : MV) : Option (Int32 × MV) :=
  some (((M_s v) (101 : Int32).toNatClampNeg), (M_set_thrown v (0 : Int32)))
set_option maxHeartbeats 4000000 in
set_option maxRecDepth 100000 in
theorem met_X6_played (l : Launch) (dC : Nat → ClassId) (dI : Nat → Nat → Nat) (cyI cyO cyL : ClassId) (a : Nat → Nat) (sz : Nat) (N : Nat) (v : MV) (out : Int32 × MV) (hF : f_X6_played N v = some out) : Met l yX6_played (Cond.code yX6_played cX6_played 1 (some .int) :: wT) ({ frames := 0, cells := 0, slots := 0, locals := 0 } : Room) (wWr dC dI cyI cyO cyL [.ref (a 0)] (cM cyI a v) sz) (va_Qi (fun (r : Int32) (u : MV) => (r, u) = out) (fun u t => va_P (dC, dI) vwCl (cM cyI a u) t.heap ∧ va_D (va_A (cM cyI a v) sz) (cM cyI a u)) (va_A (cM cyI a v) sz)) 0 0 (va_A (cM cyI a v) sz) := by
  refine Met.ofW (cc := cX6_played) (maxL := 1) (ret := (some .int)) (by decide) rfl ?_
  intro p e s m args below meth c s₁ B hml hv
  obtain ⟨rfl, hsz, hP, hK, hD0⟩ := hv
  have hx := B.exec
  have hb := B.bytes
  have hr := B.returns
  have hts0 := atoms_spec (ws := (Cond.code yX6_played cX6_played 1 (some .int) :: wT)) B.pre
  have hts := fun w h => hts0 w (List.mem_cons_of_mem _ h)
  clear hts0
  have hown : s.vm.findClass RX6 = some m.cls := findClass_of_methodNamed B.named
  have hlocks := B.notSynchronized
  subst hsz
  have hD := hD0.self (sz := s.heap.size)
  generalize hAe : va_A (cM cyI a v) s.heap.size = A at hD ⊢
  have hA : ∀ q : Nat, s.heap.size ≤ q → A q := fun q h => by rw [← hAe]; exact Or.inr h
  clear hD0
  have hS : va_S A s.heap s.heap [] := va_S.rf
  have hl := lv_entry [.ref (a 0)] (n := 1) (Nat.le_of_ble_eq_true rfl)
  rw [lg_entry_eq]
  generalize (lg_sl [.ref (a 0)] ++ List.replicate (1 - (lg_sl [.ref (a 0)]).length) Slot.unset).toArray = ls at hl ⊢
  have hl : lv_has ls 1 [(0, .ref (a 0))] := hl
  unfold f_X6_played at hF
  refine lv_aload_n hx hb dX6_played_0 rfl (lv_at hl 0 rfl) ?_
  refine lv_iconst (v := 0) hx hb dX6_played_1 (by decide) ?_
  refine va_put (D := (dC, dI)) (ci := 6) (v := .int (0 : Int32)) (ty := .int) (C := RX6) (T := TX6) (N := 23) hx hb hts inX6 tyX6 tyX6_ok nmX6 hown hK.1 hP hD hS 0 rfl rfl 0 (by decide) (hts _ w_fieldLink_X6_31) (fun _ h9 => h9) rfl (by decide +kernel) rfl rfl (Nat.le_of_ble_eq_true rfl) dX6_played_2 (fun H locs hP hD hS => ?_)
  have hP : va_P (dC, dI) vwCl (cM cyI a (M_set_thrown v (0 : Int32))) H := hP
  have hD : va_D A (cM cyI a (M_set_thrown v (0 : Int32))) := hD
  refine lv_aload_n hx hb dX6_played_5 rfl (lv_at hl 0 rfl) ?_
  refine va_get (D := (dC, dI)) (ci := 6) (v := .ref (a 1)) (C := RX6) (T := TX6) (N := 23) hx hb hts inX6 hown hK.1 hP 0 rfl rfl 1 (by decide) (hts _ w_fieldLink_X6_7) (fun _ h9 => h9) rfl dX6_played_6 ?_
  refine lv_bipush (v := 101) hx hb dX6_played_9 (by decide) ?_
  refine va_iald hx hb hK.1 hP 1 0 rfl rfl (i := (101 : Int32)) (show ixok (101 : Int32) 103 by decide) dX6_played_11 ?_
  exact W.iret (v := ((M_s v) (101 : Int32).toNatClampNeg)) hx hb hr (fun t ht hW => ⟨⟨_, (M_set_thrown v (0 : Int32)), rfl, Option.some.inj hF, by rw [ht]; exact hP, hD⟩, hS.F ht⟩) hS.2.2 dX6_played_12
theorem dX6_touchers_0 : decode cX6_touchers 0 = .ok (.aload_n 0, 1) := by decide +kernel
theorem dX6_touchers_1 : decode cX6_touchers 1 = .ok (.iconst 0, 1) := by decide +kernel
theorem dX6_touchers_2 : decode cX6_touchers 2 = .ok (.putfield 31, 3) := by decide +kernel
theorem dX6_touchers_5 : decode cX6_touchers 5 = .ok (.aload_n 0, 1) := by decide +kernel
theorem dX6_touchers_6 : decode cX6_touchers 6 = .ok (.getfield 7, 3) := by decide +kernel
theorem dX6_touchers_9 : decode cX6_touchers 9 = .ok (.bipush 102, 2) := by decide +kernel
theorem dX6_touchers_11 : decode cX6_touchers 11 = .ok (.iaload, 1) := by decide +kernel
theorem dX6_touchers_12 : decode cX6_touchers 12 = .ok (.ireturn, 1) := by decide +kernel
def f_X6_touchers (N : Nat) (v : MV) : Option (Int32 × MV) :=
  some (((M_s v) (102 : Int32).toNatClampNeg), (M_set_thrown v (0 : Int32)))
set_option maxHeartbeats 4000000 in
set_option maxRecDepth 100000 in
theorem met_X6_touchers (l : Launch) (dC : Nat → ClassId) (dI : Nat → Nat → Nat) (cyI cyO cyL : ClassId) (a : Nat → Nat) (sz : Nat) (N : Nat) (v : MV) (out : Int32 × MV) (hF : f_X6_touchers N v = some out) : Met l yX6_touchers (Cond.code yX6_touchers cX6_touchers 1 (some .int) :: wT) ({ frames := 0, cells := 0, slots := 0, locals := 0 } : Room) (wWr dC dI cyI cyO cyL [.ref (a 0)] (cM cyI a v) sz) (va_Qi (fun (r : Int32) (u : MV) => (r, u) = out) (fun u t => va_P (dC, dI) vwCl (cM cyI a u) t.heap ∧ va_D (va_A (cM cyI a v) sz) (cM cyI a u)) (va_A (cM cyI a v) sz)) 0 0 (va_A (cM cyI a v) sz) := by
  refine Met.ofW (cc := cX6_touchers) (maxL := 1) (ret := (some .int)) (by decide) rfl ?_
  intro p e s m args below meth c s₁ B hml hv
  obtain ⟨rfl, hsz, hP, hK, hD0⟩ := hv
  have hx := B.exec
  have hb := B.bytes
  have hr := B.returns
  have hts0 := atoms_spec (ws := (Cond.code yX6_touchers cX6_touchers 1 (some .int) :: wT)) B.pre
  have hts := fun w h => hts0 w (List.mem_cons_of_mem _ h)
  clear hts0
  have hown : s.vm.findClass RX6 = some m.cls := findClass_of_methodNamed B.named
  have hlocks := B.notSynchronized
  subst hsz
  have hD := hD0.self (sz := s.heap.size)
  generalize hAe : va_A (cM cyI a v) s.heap.size = A at hD ⊢
  have hA : ∀ q : Nat, s.heap.size ≤ q → A q := fun q h => by rw [← hAe]; exact Or.inr h
  clear hD0
  have hS : va_S A s.heap s.heap [] := va_S.rf
  have hl := lv_entry [.ref (a 0)] (n := 1) (Nat.le_of_ble_eq_true rfl)
  rw [lg_entry_eq]
  generalize (lg_sl [.ref (a 0)] ++ List.replicate (1 - (lg_sl [.ref (a 0)]).length) Slot.unset).toArray = ls at hl ⊢
  have hl : lv_has ls 1 [(0, .ref (a 0))] := hl
  unfold f_X6_touchers at hF
  refine lv_aload_n hx hb dX6_touchers_0 rfl (lv_at hl 0 rfl) ?_
  refine lv_iconst (v := 0) hx hb dX6_touchers_1 (by decide) ?_
  refine va_put (D := (dC, dI)) (ci := 6) (v := .int (0 : Int32)) (ty := .int) (C := RX6) (T := TX6) (N := 23) hx hb hts inX6 tyX6 tyX6_ok nmX6 hown hK.1 hP hD hS 0 rfl rfl 0 (by decide) (hts _ w_fieldLink_X6_31) (fun _ h9 => h9) rfl (by decide +kernel) rfl rfl (Nat.le_of_ble_eq_true rfl) dX6_touchers_2 (fun H locs hP hD hS => ?_)
  have hP : va_P (dC, dI) vwCl (cM cyI a (M_set_thrown v (0 : Int32))) H := hP
  have hD : va_D A (cM cyI a (M_set_thrown v (0 : Int32))) := hD
  refine lv_aload_n hx hb dX6_touchers_5 rfl (lv_at hl 0 rfl) ?_
  refine va_get (D := (dC, dI)) (ci := 6) (v := .ref (a 1)) (C := RX6) (T := TX6) (N := 23) hx hb hts inX6 hown hK.1 hP 0 rfl rfl 1 (by decide) (hts _ w_fieldLink_X6_7) (fun _ h9 => h9) rfl dX6_touchers_6 ?_
  refine lv_bipush (v := 102) hx hb dX6_touchers_9 (by decide) ?_
  refine va_iald hx hb hK.1 hP 1 0 rfl rfl (i := (102 : Int32)) (show ixok (102 : Int32) 103 by decide) dX6_touchers_11 ?_
  exact W.iret (v := ((M_s v) (102 : Int32).toNatClampNeg)) hx hb hr (fun t ht hW => ⟨⟨_, (M_set_thrown v (0 : Int32)), rfl, Option.some.inj hF, by rw [ht]; exact hP, hD⟩, hS.F ht⟩) hS.2.2 dX6_touchers_12
theorem dX6_first_0 : decode cX6_first 0 = .ok (.aload_n 0, 1) := by decide +kernel
theorem dX6_first_1 : decode cX6_first 1 = .ok (.iconst 0, 1) := by decide +kernel
theorem dX6_first_2 : decode cX6_first 2 = .ok (.putfield 31, 3) := by decide +kernel
theorem dX6_first_5 : decode cX6_first 5 = .ok (.aload_n 0, 1) := by decide +kernel
theorem dX6_first_6 : decode cX6_first 6 = .ok (.getfield 7, 3) := by decide +kernel
theorem dX6_first_9 : decode cX6_first 9 = .ok (.bipush 61, 2) := by decide +kernel
theorem dX6_first_11 : decode cX6_first 11 = .ok (.iaload, 1) := by decide +kernel
theorem dX6_first_12 : decode cX6_first 12 = .ok (.ireturn, 1) := by decide +kernel
def f_X6_first (N : Nat) (v : MV) : Option (Int32 × MV) :=
  some (((M_s v) (61 : Int32).toNatClampNeg), (M_set_thrown v (0 : Int32)))
set_option maxHeartbeats 4000000 in
set_option maxRecDepth 100000 in
theorem met_X6_first (l : Launch) (dC : Nat → ClassId) (dI : Nat → Nat → Nat) (cyI cyO cyL : ClassId) (a : Nat → Nat) (sz : Nat) (N : Nat) (v : MV) (out : Int32 × MV) (hF : f_X6_first N v = some out) : Met l yX6_first (Cond.code yX6_first cX6_first 1 (some .int) :: wT) ({ frames := 0, cells := 0, slots := 0, locals := 0 } : Room) (wWr dC dI cyI cyO cyL [.ref (a 0)] (cM cyI a v) sz) (va_Qi (fun (r : Int32) (u : MV) => (r, u) = out) (fun u t => va_P (dC, dI) vwCl (cM cyI a u) t.heap ∧ va_D (va_A (cM cyI a v) sz) (cM cyI a u)) (va_A (cM cyI a v) sz)) 0 0 (va_A (cM cyI a v) sz) := by
  refine Met.ofW (cc := cX6_first) (maxL := 1) (ret := (some .int)) (by decide) rfl ?_
  intro p e s m args below meth c s₁ B hml hv
  obtain ⟨rfl, hsz, hP, hK, hD0⟩ := hv
  have hx := B.exec
  have hb := B.bytes
  have hr := B.returns
  have hts0 := atoms_spec (ws := (Cond.code yX6_first cX6_first 1 (some .int) :: wT)) B.pre
  have hts := fun w h => hts0 w (List.mem_cons_of_mem _ h)
  clear hts0
  have hown : s.vm.findClass RX6 = some m.cls := findClass_of_methodNamed B.named
  have hlocks := B.notSynchronized
  subst hsz
  have hD := hD0.self (sz := s.heap.size)
  generalize hAe : va_A (cM cyI a v) s.heap.size = A at hD ⊢
  have hA : ∀ q : Nat, s.heap.size ≤ q → A q := fun q h => by rw [← hAe]; exact Or.inr h
  clear hD0
  have hS : va_S A s.heap s.heap [] := va_S.rf
  have hl := lv_entry [.ref (a 0)] (n := 1) (Nat.le_of_ble_eq_true rfl)
  rw [lg_entry_eq]
  generalize (lg_sl [.ref (a 0)] ++ List.replicate (1 - (lg_sl [.ref (a 0)]).length) Slot.unset).toArray = ls at hl ⊢
  have hl : lv_has ls 1 [(0, .ref (a 0))] := hl
  unfold f_X6_first at hF
  refine lv_aload_n hx hb dX6_first_0 rfl (lv_at hl 0 rfl) ?_
  refine lv_iconst (v := 0) hx hb dX6_first_1 (by decide) ?_
  refine va_put (D := (dC, dI)) (ci := 6) (v := .int (0 : Int32)) (ty := .int) (C := RX6) (T := TX6) (N := 23) hx hb hts inX6 tyX6 tyX6_ok nmX6 hown hK.1 hP hD hS 0 rfl rfl 0 (by decide) (hts _ w_fieldLink_X6_31) (fun _ h9 => h9) rfl (by decide +kernel) rfl rfl (Nat.le_of_ble_eq_true rfl) dX6_first_2 (fun H locs hP hD hS => ?_)
  have hP : va_P (dC, dI) vwCl (cM cyI a (M_set_thrown v (0 : Int32))) H := hP
  have hD : va_D A (cM cyI a (M_set_thrown v (0 : Int32))) := hD
  refine lv_aload_n hx hb dX6_first_5 rfl (lv_at hl 0 rfl) ?_
  refine va_get (D := (dC, dI)) (ci := 6) (v := .ref (a 1)) (C := RX6) (T := TX6) (N := 23) hx hb hts inX6 hown hK.1 hP 0 rfl rfl 1 (by decide) (hts _ w_fieldLink_X6_7) (fun _ h9 => h9) rfl dX6_first_6 ?_
  refine lv_bipush (v := 61) hx hb dX6_first_9 (by decide) ?_
  refine va_iald hx hb hK.1 hP 1 0 rfl rfl (i := (61 : Int32)) (show ixok (61 : Int32) 103 by decide) dX6_first_11 ?_
  exact W.iret (v := ((M_s v) (61 : Int32).toNatClampNeg)) hx hb hr (fun t ht hW => ⟨⟨_, (M_set_thrown v (0 : Int32)), rfl, Option.some.inj hF, by rw [ht]; exact hP, hD⟩, hS.F ht⟩) hS.2.2 dX6_first_12
theorem dX6_wind_0 : decode cX6_wind 0 = .ok (.aload_n 0, 1) := by decide +kernel
theorem dX6_wind_1 : decode cX6_wind 1 = .ok (.iconst 0, 1) := by decide +kernel
theorem dX6_wind_2 : decode cX6_wind 2 = .ok (.putfield 31, 3) := by decide +kernel
theorem dX6_wind_5 : decode cX6_wind 5 = .ok (.aload_n 0, 1) := by decide +kernel
theorem dX6_wind_6 : decode cX6_wind 6 = .ok (.getfield 7, 3) := by decide +kernel
theorem dX6_wind_9 : decode cX6_wind 9 = .ok (.bipush 62, 2) := by decide +kernel
theorem dX6_wind_11 : decode cX6_wind 11 = .ok (.iaload, 1) := by decide +kernel
theorem dX6_wind_12 : decode cX6_wind 12 = .ok (.ireturn, 1) := by decide +kernel
def f_X6_wind (N : Nat) (v : MV) : Option (Int32 × MV) :=
  some (((M_s v) (62 : Int32).toNatClampNeg), (M_set_thrown v (0 : Int32)))
set_option maxHeartbeats 4000000 in
set_option maxRecDepth 100000 in
theorem met_X6_wind (l : Launch) (dC : Nat → ClassId) (dI : Nat → Nat → Nat) (cyI cyO cyL : ClassId) (a : Nat → Nat) (sz : Nat) (N : Nat) (v : MV) (out : Int32 × MV) (hF : f_X6_wind N v = some out) : Met l yX6_wind (Cond.code yX6_wind cX6_wind 1 (some .int) :: wT) ({ frames := 0, cells := 0, slots := 0, locals := 0 } : Room) (wWr dC dI cyI cyO cyL [.ref (a 0)] (cM cyI a v) sz) (va_Qi (fun (r : Int32) (u : MV) => (r, u) = out) (fun u t => va_P (dC, dI) vwCl (cM cyI a u) t.heap ∧ va_D (va_A (cM cyI a v) sz) (cM cyI a u)) (va_A (cM cyI a v) sz)) 0 0 (va_A (cM cyI a v) sz) := by
  refine Met.ofW (cc := cX6_wind) (maxL := 1) (ret := (some .int)) (by decide) rfl ?_
  intro p e s m args below meth c s₁ B hml hv
  obtain ⟨rfl, hsz, hP, hK, hD0⟩ := hv
  have hx := B.exec
  have hb := B.bytes
  have hr := B.returns
  have hts0 := atoms_spec (ws := (Cond.code yX6_wind cX6_wind 1 (some .int) :: wT)) B.pre
  have hts := fun w h => hts0 w (List.mem_cons_of_mem _ h)
  clear hts0
  have hown : s.vm.findClass RX6 = some m.cls := findClass_of_methodNamed B.named
  have hlocks := B.notSynchronized
  subst hsz
  have hD := hD0.self (sz := s.heap.size)
  generalize hAe : va_A (cM cyI a v) s.heap.size = A at hD ⊢
  have hA : ∀ q : Nat, s.heap.size ≤ q → A q := fun q h => by rw [← hAe]; exact Or.inr h
  clear hD0
  have hS : va_S A s.heap s.heap [] := va_S.rf
  have hl := lv_entry [.ref (a 0)] (n := 1) (Nat.le_of_ble_eq_true rfl)
  rw [lg_entry_eq]
  generalize (lg_sl [.ref (a 0)] ++ List.replicate (1 - (lg_sl [.ref (a 0)]).length) Slot.unset).toArray = ls at hl ⊢
  have hl : lv_has ls 1 [(0, .ref (a 0))] := hl
  unfold f_X6_wind at hF
  refine lv_aload_n hx hb dX6_wind_0 rfl (lv_at hl 0 rfl) ?_
  refine lv_iconst (v := 0) hx hb dX6_wind_1 (by decide) ?_
  refine va_put (D := (dC, dI)) (ci := 6) (v := .int (0 : Int32)) (ty := .int) (C := RX6) (T := TX6) (N := 23) hx hb hts inX6 tyX6 tyX6_ok nmX6 hown hK.1 hP hD hS 0 rfl rfl 0 (by decide) (hts _ w_fieldLink_X6_31) (fun _ h9 => h9) rfl (by decide +kernel) rfl rfl (Nat.le_of_ble_eq_true rfl) dX6_wind_2 (fun H locs hP hD hS => ?_)
  have hP : va_P (dC, dI) vwCl (cM cyI a (M_set_thrown v (0 : Int32))) H := hP
  have hD : va_D A (cM cyI a (M_set_thrown v (0 : Int32))) := hD
  refine lv_aload_n hx hb dX6_wind_5 rfl (lv_at hl 0 rfl) ?_
  refine va_get (D := (dC, dI)) (ci := 6) (v := .ref (a 1)) (C := RX6) (T := TX6) (N := 23) hx hb hts inX6 hown hK.1 hP 0 rfl rfl 1 (by decide) (hts _ w_fieldLink_X6_7) (fun _ h9 => h9) rfl dX6_wind_6 ?_
  refine lv_bipush (v := 62) hx hb dX6_wind_9 (by decide) ?_
  refine va_iald hx hb hK.1 hP 1 0 rfl rfl (i := (62 : Int32)) (show ixok (62 : Int32) 103 by decide) dX6_wind_11 ?_
  exact W.iret (v := ((M_s v) (62 : Int32).toNatClampNeg)) hx hb hr (fun t ht hW => ⟨⟨_, (M_set_thrown v (0 : Int32)), rfl, Option.some.inj hF, by rw [ht]; exact hP, hD⟩, hS.F ht⟩) hS.2.2 dX6_wind_12
theorem dX6_mean_0 : decode cX6_mean 0 = .ok (.aload_n 0, 1) := by decide +kernel
theorem dX6_mean_1 : decode cX6_mean 1 = .ok (.getfield 7, 3) := by decide +kernel
theorem dX6_mean_4 : decode cX6_mean 4 = .ok (.bipush 68, 2) := by decide +kernel
theorem dX6_mean_6 : decode cX6_mean 6 = .ok (.iaload, 1) := by decide +kernel
theorem dX6_mean_7 : decode cX6_mean 7 = .ok (.ifCond .ne 7, 3) := by decide +kernel
theorem dX6_mean_10 : decode cX6_mean 10 = .ok (.dconst 0, 1) := by decide +kernel
theorem dX6_mean_11 : decode cX6_mean 11 = .ok (.goto 28, 3) := by decide +kernel
theorem dX6_mean_14 : decode cX6_mean 14 = .ok (.aload_n 0, 1) := by decide +kernel
theorem dX6_mean_15 : decode cX6_mean 15 = .ok (.getfield 7, 3) := by decide +kernel
theorem dX6_mean_18 : decode cX6_mean 18 = .ok (.bipush 65, 2) := by decide +kernel
theorem dX6_mean_20 : decode cX6_mean 20 = .ok (.iaload, 1) := by decide +kernel
theorem dX6_mean_21 : decode cX6_mean 21 = .ok (.aload_n 0, 1) := by decide +kernel
theorem dX6_mean_22 : decode cX6_mean 22 = .ok (.getfield 7, 3) := by decide +kernel
theorem dX6_mean_25 : decode cX6_mean 25 = .ok (.bipush 66, 2) := by decide +kernel
theorem dX6_mean_27 : decode cX6_mean 27 = .ok (.iaload, 1) := by decide +kernel
theorem dX6_mean_28 : decode cX6_mean 28 = .ok (.iadd, 1) := by decide +kernel
theorem dX6_mean_29 : decode cX6_mean 29 = .ok (.i2d, 1) := by decide +kernel
theorem dX6_mean_30 : decode cX6_mean 30 = .ok (.aload_n 0, 1) := by decide +kernel
theorem dX6_mean_31 : decode cX6_mean 31 = .ok (.getfield 7, 3) := by decide +kernel
theorem dX6_mean_34 : decode cX6_mean 34 = .ok (.bipush 68, 2) := by decide +kernel
theorem dX6_mean_36 : decode cX6_mean 36 = .ok (.iaload, 1) := by decide +kernel
theorem dX6_mean_37 : decode cX6_mean 37 = .ok (.i2d, 1) := by decide +kernel
theorem dX6_mean_38 : decode cX6_mean 38 = .ok (.ddiv, 1) := by decide +kernel
theorem dX6_mean_39 : decode cX6_mean 39 = .ok (.dreturn, 1) := by decide +kernel
def f_X6_mean (N : Nat) (v : MV) : Option (UInt64) :=
  jn (fun (s39 : UInt64) => some s39) (fun (j39 : (UInt64) → Option (UInt64)) => (if ((M_s v) (68 : Int32).toNatClampNeg) = 0 then j39 (0 : UInt64) else gd (nn64 (FP.ddiv (FP.i2d (((M_s v) (65 : Int32).toNatClampNeg) + ((M_s v) (66 : Int32).toNatClampNeg))) (FP.i2d ((M_s v) (68 : Int32).toNatClampNeg)))) (j39 (FP.ddiv (FP.i2d (((M_s v) (65 : Int32).toNatClampNeg) + ((M_s v) (66 : Int32).toNatClampNeg))) (FP.i2d ((M_s v) (68 : Int32).toNatClampNeg))))))
set_option maxHeartbeats 4000000 in
set_option maxRecDepth 100000 in
theorem met_X6_mean (l : Launch) (dC : Nat → ClassId) (dI : Nat → Nat → Nat) (cyI cyO cyL : ClassId) (a : Nat → Nat) (N : Nat) (v : MV) (out : UInt64) (hF : f_X6_mean N v = some out) : Met l yX6_mean (Cond.code yX6_mean cX6_mean 1 (some .double) :: wT) ({ frames := 0, cells := 0, slots := 0, locals := 0 } : Room) (wRd dC dI cyI cyO cyL [.ref (a 0)] (cM cyI a v)) (va_Qd (fun (r : UInt64) (_ : Unit) => r = out) (fun _ _ => True) wN0) 0 0 wN0 := by
  refine Met.ofW (cc := cX6_mean) (maxL := 1) (ret := (some .double)) (by decide) rfl ?_
  intro p e s m args below meth c s₁ B hml hv
  obtain ⟨rfl, hP, hK⟩ := hv
  have hx := B.exec
  have hb := B.bytes
  have hr := B.returns
  have hts0 := atoms_spec (ws := (Cond.code yX6_mean cX6_mean 1 (some .double) :: wT)) B.pre
  have hts := fun w h => hts0 w (List.mem_cons_of_mem _ h)
  clear hts0
  have hown : s.vm.findClass RX6 = some m.cls := findClass_of_methodNamed B.named
  have hlocks := B.notSynchronized
  have hS : va_S wN0 s.heap s.heap [] := va_S.rf
  have hl := lv_entry [.ref (a 0)] (n := 1) (Nat.le_of_ble_eq_true rfl)
  rw [lg_entry_eq]
  generalize (lg_sl [.ref (a 0)] ++ List.replicate (1 - (lg_sl [.ref (a 0)]).length) Slot.unset).toArray = ls at hl ⊢
  have hl : lv_has ls 1 [(0, .ref (a 0))] := hl
  unfold f_X6_mean at hF
  refine lv_aload_n hx hb dX6_mean_0 rfl (lv_at hl 0 rfl) ?_
  refine va_get (D := (dC, dI)) (ci := 6) (v := .ref (a 1)) (C := RX6) (T := TX6) (N := 23) hx hb hts inX6 hown hK.1 hP 0 rfl rfl 1 (by decide) (hts _ w_fieldLink_X6_7) (fun _ h9 => h9) rfl dX6_mean_1 ?_
  refine lv_bipush (v := 68) hx hb dX6_mean_4 (by decide) ?_
  refine va_iald hx hb hK.1 hP 1 0 rfl rfl (i := (68 : Int32)) (show ixok (68 : Int32) 103 by decide) dX6_mean_6 ?_
  obtain ⟨j39, hj39, hF⟩ := jn_use hF
  have hJ39 : ∀ (s39 : UInt64) (H : Heap) (locs : List Loc) (ls : Array Slot), va_P (dC, dI) vwCl (cM cyI a v) H → va_S wN0 s.heap H locs → lv_has ls 1 [] → j39 s39 = some out → W p l e (headSpec (Cond.code yX6_mean cX6_mean 1 (some .double) :: wT) ({ frames := 0, cells := 0, slots := 0, locals := 0 } : Room)).room s m ([.ref (a 0)] : List Value).toArray below meth c H locs 0 0 (MQ below (va_Qd (fun (r : UInt64) (_ : Unit) => r = out) (fun _ _ => True) wN0) ([.ref (a 0)] : List Value).toArray s 0 0 wN0) (F0 m 39 ls [.double s39]) := by
    intro s39 H locs ls hP hS hl hF
    have hF := (congrFun hj39 s39).symm.trans hF
    exact W.dret (v := s39) hx hb hr (fun t ht hW => ⟨⟨_, (), rfl, Option.some.inj hF, trivial⟩, hS.F ht⟩) hS.2.2 dX6_mean_39
  refine lv_if_ne (tgt := 14) hx hb dX6_mean_7 (by decide) (fun c2 => ?_) (fun c2 => ?_)
  · have hF := itn c2 hF
    refine lv_aload_n hx hb dX6_mean_14 rfl (lv_at hl 0 rfl) ?_
    refine va_get (D := (dC, dI)) (ci := 6) (v := .ref (a 1)) (C := RX6) (T := TX6) (N := 23) hx hb hts inX6 hown hK.1 hP 0 rfl rfl 1 (by decide) (hts _ w_fieldLink_X6_7) (fun _ h9 => h9) rfl dX6_mean_15 ?_
    refine lv_bipush (v := 65) hx hb dX6_mean_18 (by decide) ?_
    refine va_iald hx hb hK.1 hP 1 0 rfl rfl (i := (65 : Int32)) (show ixok (65 : Int32) 103 by decide) dX6_mean_20 ?_
    refine lv_aload_n hx hb dX6_mean_21 rfl (lv_at hl 0 rfl) ?_
    refine va_get (D := (dC, dI)) (ci := 6) (v := .ref (a 1)) (C := RX6) (T := TX6) (N := 23) hx hb hts inX6 hown hK.1 hP 0 rfl rfl 1 (by decide) (hts _ w_fieldLink_X6_7) (fun _ h9 => h9) rfl dX6_mean_22 ?_
    refine lv_bipush (v := 66) hx hb dX6_mean_25 (by decide) ?_
    refine va_iald hx hb hK.1 hP 1 0 rfl rfl (i := (66 : Int32)) (show ixok (66 : Int32) 103 by decide) dX6_mean_27 ?_
    refine lv_iadd hx hb dX6_mean_28 ?_
    refine lv_i2d hx hb dX6_mean_29 ?_
    refine lv_aload_n hx hb dX6_mean_30 rfl (lv_at hl 0 rfl) ?_
    refine va_get (D := (dC, dI)) (ci := 6) (v := .ref (a 1)) (C := RX6) (T := TX6) (N := 23) hx hb hts inX6 hown hK.1 hP 0 rfl rfl 1 (by decide) (hts _ w_fieldLink_X6_7) (fun _ h9 => h9) rfl dX6_mean_31 ?_
    refine lv_bipush (v := 68) hx hb dX6_mean_34 (by decide) ?_
    refine va_iald hx hb hK.1 hP 1 0 rfl rfl (i := (68 : Int32)) (show ixok (68 : Int32) 103 by decide) dX6_mean_36 ?_
    refine lv_i2d hx hb dX6_mean_37 ?_
    obtain ⟨hg6, hF⟩ := gd_use hF
    refine lv_ddiv hx hb dX6_mean_38 hg6 ?_
    exact hJ39 (FP.ddiv (FP.i2d (((M_s v) (65 : Int32).toNatClampNeg) + ((M_s v) (66 : Int32).toNatClampNeg))) (FP.i2d ((M_s v) (68 : Int32).toNatClampNeg))) _ _ _ hP hS (lv_sub hl [] rfl) hF
  · have hF := itp c2 hF
    refine lv_dconst0 hx hb dX6_mean_10 ?_
    refine lv_goto (tgt := 39) hx hb dX6_mean_11 (by decide) ?_
    exact hJ39 (0 : UInt64) _ _ _ hP hS (lv_sub hl [] rfl) hF
theorem dX6_meanPoints_0 : decode cX6_meanPoints 0 = .ok (.aload_n 0, 1) := by decide +kernel
theorem dX6_meanPoints_1 : decode cX6_meanPoints 1 = .ok (.iconst 0, 1) := by decide +kernel
theorem dX6_meanPoints_2 : decode cX6_meanPoints 2 = .ok (.putfield 31, 3) := by decide +kernel
theorem dX6_meanPoints_5 : decode cX6_meanPoints 5 = .ok (.aload_n 0, 1) := by decide +kernel
theorem dX6_meanPoints_6 : decode cX6_meanPoints 6 = .ok (.invokevirtual 235, 3) := by decide +kernel
theorem dX6_meanPoints_9 : decode cX6_meanPoints 9 = .ok (.dreturn, 1) := by decide +kernel
def f_X6_meanPoints (N : Nat) (v : MV) : Option (UInt64 × MV) :=
  (f_X6_mean N (M_set_thrown v (0 : Int32))).bind (fun o1 => some (o1, (M_set_thrown v (0 : Int32))))
set_option maxHeartbeats 4000000 in
set_option maxRecDepth 100000 in
theorem met_X6_meanPoints (l : Launch) (dC : Nat → ClassId) (dI : Nat → Nat → Nat) (cyI cyO cyL : ClassId) (a : Nat → Nat) (sz : Nat) (N : Nat) (v : MV) (out : UInt64 × MV) (hF : f_X6_meanPoints N v = some out) : Met l yX6_meanPoints (Cond.code yX6_meanPoints cX6_meanPoints 1 (some .double) :: wT) ({ frames := 1, cells := 0, slots := 0, locals := 20 } : Room) (wWr dC dI cyI cyO cyL [.ref (a 0)] (cM cyI a v) sz) (va_Qd (fun (r : UInt64) (u : MV) => (r, u) = out) (fun u t => va_P (dC, dI) vwCl (cM cyI a u) t.heap ∧ va_D (va_A (cM cyI a v) sz) (cM cyI a u)) (va_A (cM cyI a v) sz)) 0 0 (va_A (cM cyI a v) sz) := by
  refine Met.ofW (cc := cX6_meanPoints) (maxL := 1) (ret := (some .double)) (by decide) rfl ?_
  intro p e s m args below meth c s₁ B hml hv
  obtain ⟨rfl, hsz, hP, hK, hD0⟩ := hv
  have hx := B.exec
  have hb := B.bytes
  have hr := B.returns
  have hts0 := atoms_spec (ws := (Cond.code yX6_meanPoints cX6_meanPoints 1 (some .double) :: wT)) B.pre
  have hts := fun w h => hts0 w (List.mem_cons_of_mem _ h)
  clear hts0
  have hown : s.vm.findClass RX6 = some m.cls := findClass_of_methodNamed B.named
  have hlocks := B.notSynchronized
  subst hsz
  have hD := hD0.self (sz := s.heap.size)
  generalize hAe : va_A (cM cyI a v) s.heap.size = A at hD ⊢
  have hA : ∀ q : Nat, s.heap.size ≤ q → A q := fun q h => by rw [← hAe]; exact Or.inr h
  clear hD0
  have hS : va_S A s.heap s.heap [] := va_S.rf
  have hl := lv_entry [.ref (a 0)] (n := 1) (Nat.le_of_ble_eq_true rfl)
  rw [lg_entry_eq]
  generalize (lg_sl [.ref (a 0)] ++ List.replicate (1 - (lg_sl [.ref (a 0)]).length) Slot.unset).toArray = ls at hl ⊢
  have hl : lv_has ls 1 [(0, .ref (a 0))] := hl
  unfold f_X6_meanPoints at hF
  refine lv_aload_n hx hb dX6_meanPoints_0 rfl (lv_at hl 0 rfl) ?_
  refine lv_iconst (v := 0) hx hb dX6_meanPoints_1 (by decide) ?_
  refine va_put (D := (dC, dI)) (ci := 6) (v := .int (0 : Int32)) (ty := .int) (C := RX6) (T := TX6) (N := 23) hx hb hts inX6 tyX6 tyX6_ok nmX6 hown hK.1 hP hD hS 0 rfl rfl 0 (by decide) (hts _ w_fieldLink_X6_31) (fun _ h9 => h9) rfl (by decide +kernel) rfl rfl (Nat.le_of_ble_eq_true rfl) dX6_meanPoints_2 (fun H locs hP hD hS => ?_)
  have hP : va_P (dC, dI) vwCl (cM cyI a (M_set_thrown v (0 : Int32))) H := hP
  have hD : va_D A (cM cyI a (M_set_thrown v (0 : Int32))) := hD
  refine lv_aload_n hx hb dX6_meanPoints_5 rfl (lv_at hl 0 rfl) ?_
  obtain ⟨o1, h2, hF⟩ := obd hF
  refine wcRVd (As := []) (rest := []) (b := (a 0)) ⟨hx, hb, hml, hown, hts⟩ (met_X6_mean l dC dI cyI cyO cyL a N (M_set_thrown v (0 : Int32))  o1 h2) (cwV 0 hts (gV w_methodLink_X6_235 w_instanceMethod_X6_mean w_selects_X6_mean w_initialized_X6 w_code_X6_mean) rfl rfl rfl (by decide +kernel) ⟨Nat.le_of_ble_eq_true rfl, Nat.le_of_ble_eq_true rfl⟩) (va_recv hK.1 hP (ci := 6) (q0 := 0) rfl rfl) hP hK [0, 1, 2, 3, 4, 5, 6, 7] rfl rfl hl.1 (Nat.le_of_ble_eq_true rfl) dX6_meanPoints_6 ⟨Nat.le_of_ble_eq_true rfl, Nat.le_of_ble_eq_true rfl⟩ hS (fun r H locs hw hP hS => ?_)
  have hw := hw.symm
  subst hw
  exact W.dret (v := o1) hx hb hr (fun t ht hW => ⟨⟨_, (M_set_thrown v (0 : Int32)), rfl, Option.some.inj hF, by rw [ht]; exact hP, hD⟩, hS.F ht⟩) hS.2.2 dX6_meanPoints_9
theorem dX6_takesIn_0 : decode cX6_takesIn 0 = .ok (.aload_n 0, 1) := by decide +kernel
theorem dX6_takesIn_1 : decode cX6_takesIn 1 = .ok (.ldc2_w 239, 3) := by decide +kernel
theorem dX6_takesIn_4 : decode cX6_takesIn 4 = .ok (.aload_n 0, 1) := by decide +kernel
theorem dX6_takesIn_5 : decode cX6_takesIn 5 = .ok (.getfield 241, 3) := by decide +kernel
theorem dX6_takesIn_8 : decode cX6_takesIn 8 = .ok (.lmul, 1) := by decide +kernel
theorem dX6_takesIn_9 : decode cX6_takesIn 9 = .ok (.lload_n 1, 1) := by decide +kernel
theorem dX6_takesIn_10 : decode cX6_takesIn 10 = .ok (.ladd, 1) := by decide +kernel
theorem dX6_takesIn_11 : decode cX6_takesIn 11 = .ok (.putfield 241, 3) := by decide +kernel
theorem dX6_takesIn_14 : decode cX6_takesIn 14 = .ok (.return_, 1) := by decide +kernel
def f_X6_takesIn (N : Nat) (v : MV) (p1 : Int64) : Option (MV) :=
  some (M_set_hash v (((31 : Int64) * (M_hash v)) + p1))
set_option maxHeartbeats 4000000 in
set_option maxRecDepth 100000 in
theorem met_X6_takesIn (l : Launch) (dC : Nat → ClassId) (dI : Nat → Nat → Nat) (cyI cyO cyL : ClassId) (a : Nat → Nat) (sz : Nat) (N : Nat) (v : MV) (p1 : Int64) (out : MV) (hF : f_X6_takesIn N v p1 = some out) : Met l yX6_takesIn (Cond.code yX6_takesIn cX6_takesIn 3 none :: wT) ({ frames := 0, cells := 0, slots := 0, locals := 0 } : Room) (wWr dC dI cyI cyO cyL [.ref (a 0), .long p1] (cM cyI a v) sz) (va_Qv (fun (u : MV) => u = out) (fun u t => va_P (dC, dI) vwCl (cM cyI a u) t.heap ∧ va_D (va_A (cM cyI a v) sz) (cM cyI a u)) (va_A (cM cyI a v) sz)) 0 0 (va_A (cM cyI a v) sz) := by
  refine Met.ofW (cc := cX6_takesIn) (maxL := 3) (ret := none) (by decide) rfl ?_
  intro p e s m args below meth c s₁ B hml hv
  obtain ⟨rfl, hsz, hP, hK, hD0⟩ := hv
  have hx := B.exec
  have hb := B.bytes
  have hr := B.returns
  have hts0 := atoms_spec (ws := (Cond.code yX6_takesIn cX6_takesIn 3 none :: wT)) B.pre
  have hts := fun w h => hts0 w (List.mem_cons_of_mem _ h)
  clear hts0
  have hown : s.vm.findClass RX6 = some m.cls := findClass_of_methodNamed B.named
  have hlocks := B.notSynchronized
  subst hsz
  have hD := hD0.self (sz := s.heap.size)
  generalize hAe : va_A (cM cyI a v) s.heap.size = A at hD ⊢
  have hA : ∀ q : Nat, s.heap.size ≤ q → A q := fun q h => by rw [← hAe]; exact Or.inr h
  clear hD0
  have hS : va_S A s.heap s.heap [] := va_S.rf
  have hl := lv_entry [.ref (a 0), .long p1] (n := 3) (Nat.le_of_ble_eq_true rfl)
  rw [lg_entry_eq]
  generalize (lg_sl [.ref (a 0), .long p1] ++ List.replicate (3 - (lg_sl [.ref (a 0), .long p1]).length) Slot.unset).toArray = ls at hl ⊢
  have hl : lv_has ls 3 [(0, .ref (a 0)), (1, .long p1)] := hl
  unfold f_X6_takesIn at hF
  refine lv_aload_n hx hb dX6_takesIn_0 rfl (lv_at hl 0 rfl) ?_
  refine lv_ldc2 (v := 31) hx hb hown (hts _ w_constantLong_X6_239) dX6_takesIn_1 ?_
  refine lv_aload_n hx hb dX6_takesIn_4 rfl (lv_at hl 0 rfl) ?_
  refine va_get (D := (dC, dI)) (ci := 6) (v := .long (M_hash v)) (C := RX6) (T := TX6) (N := 23) hx hb hts inX6 hown hK.1 hP 0 rfl rfl 22 (by decide) (hts _ w_fieldLink_X6_241) (fun _ h9 => h9) rfl dX6_takesIn_5 ?_
  refine lv_lmul hx hb dX6_takesIn_8 ?_
  refine lv_lload_n hx hb dX6_takesIn_9 rfl (lv_at hl 1 rfl) ?_
  refine lv_ladd hx hb dX6_takesIn_10 ?_
  refine va_put (D := (dC, dI)) (ci := 6) (v := .long (((31 : Int64) * (M_hash v)) + p1)) (ty := .long) (C := RX6) (T := TX6) (N := 23) hx hb hts inX6 tyX6 tyX6_ok nmX6 hown hK.1 hP hD hS 0 rfl rfl 22 (by decide) (hts _ w_fieldLink_X6_241) (fun _ h9 => h9) rfl (by decide +kernel) rfl rfl (Nat.le_of_ble_eq_true rfl) dX6_takesIn_11 (fun H locs hP hD hS => ?_)
  have hP : va_P (dC, dI) vwCl (cM cyI a (M_set_hash v (((31 : Int64) * (M_hash v)) + p1))) H := hP
  have hD : va_D A (cM cyI a (M_set_hash v (((31 : Int64) * (M_hash v)) + p1))) := hD
  exact W.vret hx hb hr (fun t ht hW => ⟨⟨_, rfl, Option.some.inj hF, by rw [ht]; exact hP, hD⟩, hS.F ht⟩) hS.2.2 dX6_takesIn_14
theorem dX6_bitsOf_0 : decode cX6_bitsOf 0 = .ok (.dload_n 0, 1) := by decide +kernel
theorem dX6_bitsOf_1 : decode cX6_bitsOf 1 = .ok (.dconst 0, 1) := by decide +kernel
theorem dX6_bitsOf_2 : decode cX6_bitsOf 2 = .ok (.dcmp .l, 1) := by decide +kernel
theorem dX6_bitsOf_3 : decode cX6_bitsOf 3 = .ok (.ifCond .ne 5, 3) := by decide +kernel
theorem dX6_bitsOf_6 : decode cX6_bitsOf 6 = .ok (.lconst 0, 1) := by decide +kernel
theorem dX6_bitsOf_7 : decode cX6_bitsOf 7 = .ok (.lreturn, 1) := by decide +kernel
theorem dX6_bitsOf_8 : decode cX6_bitsOf 8 = .ok (.dload_n 0, 1) := by decide +kernel
theorem dX6_bitsOf_9 : decode cX6_bitsOf 9 = .ok (.dstore_n 2, 1) := by decide +kernel
theorem dX6_bitsOf_10 : decode cX6_bitsOf 10 = .ok (.ldc2_w 245, 3) := by decide +kernel
theorem dX6_bitsOf_13 : decode cX6_bitsOf 13 = .ok (.lstore 4, 2) := by decide +kernel
theorem dX6_bitsOf_15 : decode cX6_bitsOf 15 = .ok (.dload_n 2, 1) := by decide +kernel
theorem dX6_bitsOf_16 : decode cX6_bitsOf 16 = .ok (.ldc2_w 247, 3) := by decide +kernel
theorem dX6_bitsOf_19 : decode cX6_bitsOf 19 = .ok (.dcmp .l, 1) := by decide +kernel
theorem dX6_bitsOf_20 : decode cX6_bitsOf 20 = .ok (.ifCond .lt 18, 3) := by decide +kernel
theorem dX6_bitsOf_23 : decode cX6_bitsOf 23 = .ok (.dload_n 2, 1) := by decide +kernel
theorem dX6_bitsOf_24 : decode cX6_bitsOf 24 = .ok (.ldc2_w 247, 3) := by decide +kernel
theorem dX6_bitsOf_27 : decode cX6_bitsOf 27 = .ok (.ddiv, 1) := by decide +kernel
theorem dX6_bitsOf_28 : decode cX6_bitsOf 28 = .ok (.dstore_n 2, 1) := by decide +kernel
theorem dX6_bitsOf_29 : decode cX6_bitsOf 29 = .ok (.lload 4, 2) := by decide +kernel
theorem dX6_bitsOf_31 : decode cX6_bitsOf 31 = .ok (.lconst 1, 1) := by decide +kernel
theorem dX6_bitsOf_32 : decode cX6_bitsOf 32 = .ok (.ladd, 1) := by decide +kernel
theorem dX6_bitsOf_33 : decode cX6_bitsOf 33 = .ok (.lstore 4, 2) := by decide +kernel
theorem dX6_bitsOf_35 : decode cX6_bitsOf 35 = .ok (.goto (-20), 3) := by decide +kernel
theorem dX6_bitsOf_38 : decode cX6_bitsOf 38 = .ok (.dload_n 2, 1) := by decide +kernel
theorem dX6_bitsOf_39 : decode cX6_bitsOf 39 = .ok (.dconst 1, 1) := by decide +kernel
theorem dX6_bitsOf_40 : decode cX6_bitsOf 40 = .ok (.dcmp .g, 1) := by decide +kernel
theorem dX6_bitsOf_41 : decode cX6_bitsOf 41 = .ok (.ifCond .ge 18, 3) := by decide +kernel
theorem dX6_bitsOf_44 : decode cX6_bitsOf 44 = .ok (.dload_n 2, 1) := by decide +kernel
theorem dX6_bitsOf_45 : decode cX6_bitsOf 45 = .ok (.ldc2_w 247, 3) := by decide +kernel
theorem dX6_bitsOf_48 : decode cX6_bitsOf 48 = .ok (.dmul, 1) := by decide +kernel
theorem dX6_bitsOf_49 : decode cX6_bitsOf 49 = .ok (.dstore_n 2, 1) := by decide +kernel
theorem dX6_bitsOf_50 : decode cX6_bitsOf 50 = .ok (.lload 4, 2) := by decide +kernel
theorem dX6_bitsOf_52 : decode cX6_bitsOf 52 = .ok (.lconst 1, 1) := by decide +kernel
theorem dX6_bitsOf_53 : decode cX6_bitsOf 53 = .ok (.lsub, 1) := by decide +kernel
theorem dX6_bitsOf_54 : decode cX6_bitsOf 54 = .ok (.lstore 4, 2) := by decide +kernel
theorem dX6_bitsOf_56 : decode cX6_bitsOf 56 = .ok (.goto (-18), 3) := by decide +kernel
theorem dX6_bitsOf_59 : decode cX6_bitsOf 59 = .ok (.lload 4, 2) := by decide +kernel
theorem dX6_bitsOf_61 : decode cX6_bitsOf 61 = .ok (.bipush 52, 2) := by decide +kernel
theorem dX6_bitsOf_63 : decode cX6_bitsOf 63 = .ok (.lshl, 1) := by decide +kernel
theorem dX6_bitsOf_64 : decode cX6_bitsOf 64 = .ok (.dload_n 2, 1) := by decide +kernel
theorem dX6_bitsOf_65 : decode cX6_bitsOf 65 = .ok (.dconst 1, 1) := by decide +kernel
theorem dX6_bitsOf_66 : decode cX6_bitsOf 66 = .ok (.dsub, 1) := by decide +kernel
theorem dX6_bitsOf_67 : decode cX6_bitsOf 67 = .ok (.ldc2_w 249, 3) := by decide +kernel
theorem dX6_bitsOf_70 : decode cX6_bitsOf 70 = .ok (.dmul, 1) := by decide +kernel
theorem dX6_bitsOf_71 : decode cX6_bitsOf 71 = .ok (.d2l, 1) := by decide +kernel
theorem dX6_bitsOf_72 : decode cX6_bitsOf 72 = .ok (.ladd, 1) := by decide +kernel
theorem dX6_bitsOf_73 : decode cX6_bitsOf 73 = .ok (.lreturn, 1) := by decide +kernel
def f_X6_bitsOf (N : Nat) (p1 : UInt64) : Option (Int64) :=
  (if (Op.cmpValue (FP.dcmp p1 (0 : UInt64)) CmpOp.l) = 0 then some (0 : Int64) else lpN (fun (s15 : UInt64 × Int64) (k15 : (UInt64 × Int64) → Option (Int64)) => jn (fun (s38 : UInt64 × Int64) => lpN (fun (s38 : UInt64 × Int64) (k38 : (UInt64 × Int64) → Option (Int64)) => (if 0 ≤ (Op.cmpValue (FP.dcmp s38.1 (4607182418800017408 : UInt64)) CmpOp.g) then gd (nn64 (FP.dsub s38.1 (4607182418800017408 : UInt64))) (gd (nn64 (FP.dmul (FP.dsub s38.1 (4607182418800017408 : UInt64)) (4841369599423283200 : UInt64))) (some ((s38.2 <<< ((52 : Int32).toInt64 &&& 63)) + (FP.d2l (FP.dmul (FP.dsub s38.1 (4607182418800017408 : UInt64)) (4841369599423283200 : UInt64)))))) else gd (nn64 (FP.dmul s38.1 (4611686018427387904 : UInt64))) (k38 ((FP.dmul s38.1 (4611686018427387904 : UInt64)), (s38.2 - (1 : Int64)))))) N s38) (fun (j38 : (UInt64 × Int64) → Option (Int64)) => (if (Op.cmpValue (FP.dcmp s15.1 (4611686018427387904 : UInt64)) CmpOp.l) < 0 then j38 (s15.1, s15.2) else gd (nn64 (FP.ddiv s15.1 (4611686018427387904 : UInt64))) (k15 ((FP.ddiv s15.1 (4611686018427387904 : UInt64)), (s15.2 + (1 : Int64))))))) N (p1, (1023 : Int64)))
set_option maxHeartbeats 4000000 in
set_option maxRecDepth 100000 in
theorem met_X6_bitsOf (l : Launch) (dC : Nat → ClassId) (dI : Nat → Nat → Nat) (cyI cyO cyL : ClassId)  (N : Nat) (p1 : UInt64) (out : Int64) (hF : f_X6_bitsOf N p1 = some out) : Met l yX6_bitsOf (Cond.code yX6_bitsOf cX6_bitsOf 6 (some .long) :: wT) ({ frames := 0, cells := 0, slots := 0, locals := 0 } : Room) (wRd dC dI cyI cyO cyL [.double p1] ([] : va_W)) (va_Ql (fun (r : Int64) (_ : Unit) => r = out) (fun _ _ => True) wN0) 0 0 wN0 := by
  refine Met.ofW (cc := cX6_bitsOf) (maxL := 6) (ret := (some .long)) (by decide) rfl ?_
  intro p e s m args below meth c s₁ B hml hv
  obtain ⟨rfl, hP, hK⟩ := hv
  have hx := B.exec
  have hb := B.bytes
  have hr := B.returns
  have hts0 := atoms_spec (ws := (Cond.code yX6_bitsOf cX6_bitsOf 6 (some .long) :: wT)) B.pre
  have hts := fun w h => hts0 w (List.mem_cons_of_mem _ h)
  clear hts0
  have hown : s.vm.findClass RX6 = some m.cls := findClass_of_methodNamed B.named
  have hlocks := B.notSynchronized
  have hS : va_S wN0 s.heap s.heap [] := va_S.rf
  have hl := lv_entry [.double p1] (n := 6) (Nat.le_of_ble_eq_true rfl)
  rw [lg_entry_eq]
  generalize (lg_sl [.double p1] ++ List.replicate (6 - (lg_sl [.double p1]).length) Slot.unset).toArray = ls at hl ⊢
  have hl : lv_has ls 6 [(0, .double p1)] := hl
  unfold f_X6_bitsOf at hF
  refine lv_dload_n hx hb dX6_bitsOf_0 rfl (lv_at hl 0 rfl) ?_
  refine lv_dconst0 hx hb dX6_bitsOf_1 ?_
  refine lv_dcmp hx hb dX6_bitsOf_2 ?_
  refine lv_if_ne (tgt := 8) hx hb dX6_bitsOf_3 (by decide) (fun c1 => ?_) (fun c1 => ?_)
  · have hF := itn c1 hF
    refine lv_dload_n hx hb dX6_bitsOf_8 rfl (lv_at hl 0 rfl) ?_
    refine lv_dstore_n (lv' := [(2, .double p1), (0, .double p1)]) hx hb dX6_bitsOf_9 rfl hl (by decide) rfl (fun ls hl => ?_)
    refine lv_ldc2 (v := 1023) hx hb hown (hts _ w_constantLong_X6_245) dX6_bitsOf_10 ?_
    refine lv_lstore (lv' := [(4, .long (1023 : Int64)), (2, .double p1), (0, .double p1)]) hx hb dX6_bitsOf_13 hl (by decide) rfl (fun ls hl => ?_)
    obtain ⟨st15, hst15, hF⟩ := lpN_use hF
    have hL15 : ∀ (n : Nat) (s15 : UInt64 × Int64) (H : Heap) (locs : List Loc) (ls : Array Slot), va_P (dC, dI) vwCl ([] : va_W) H → va_S wN0 s.heap H locs → lv_has ls 6 [(2, .double s15.1), (4, .long s15.2)] → lpN st15 n s15 = some out → W p l e (headSpec (Cond.code yX6_bitsOf cX6_bitsOf 6 (some .long) :: wT) ({ frames := 0, cells := 0, slots := 0, locals := 0 } : Room)).room s m ([.double p1] : List Value).toArray below meth c H locs 0 0 (MQ below (va_Ql (fun (r : Int64) (_ : Unit) => r = out) (fun _ _ => True) wN0) ([.double p1] : List Value).toArray s 0 0 wN0) (F0 m 15 ls []) := by
      intro n
      induction n with
      | zero => intro s15 H locs ls hP hS hl hF; exact lpN_0 hF
      | succ n ih15 =>
        intro s15 H locs ls hP hS hl hF
        have hF := (congrFun (congrFun hst15 s15) (lpN st15 n)).symm.trans (lpN_s hF)
        refine lv_dload_n hx hb dX6_bitsOf_15 rfl (lv_at hl 0 rfl) ?_
        refine lv_ldc2d (v := 4611686018427387904) hx hb hown (hts _ w_constantDouble_X6_247) dX6_bitsOf_16 ?_
        refine lv_dcmp hx hb dX6_bitsOf_19 ?_
        obtain ⟨j38, hj38, hF⟩ := jn_use hF
        have hJ38 : ∀ (s38 : UInt64 × Int64) (H : Heap) (locs : List Loc) (ls : Array Slot), va_P (dC, dI) vwCl ([] : va_W) H → va_S wN0 s.heap H locs → lv_has ls 6 [(2, .double s38.1), (4, .long s38.2)] → j38 s38 = some out → W p l e (headSpec (Cond.code yX6_bitsOf cX6_bitsOf 6 (some .long) :: wT) ({ frames := 0, cells := 0, slots := 0, locals := 0 } : Room)).room s m ([.double p1] : List Value).toArray below meth c H locs 0 0 (MQ below (va_Ql (fun (r : Int64) (_ : Unit) => r = out) (fun _ _ => True) wN0) ([.double p1] : List Value).toArray s 0 0 wN0) (F0 m 38 ls []) := by
          intro s38 H locs ls hP hS hl hF
          have hF := (congrFun hj38 s38).symm.trans hF
          obtain ⟨st38, hst38, hF⟩ := lpN_use hF
          have hL38 : ∀ (n : Nat) (s38 : UInt64 × Int64) (H : Heap) (locs : List Loc) (ls : Array Slot), va_P (dC, dI) vwCl ([] : va_W) H → va_S wN0 s.heap H locs → lv_has ls 6 [(2, .double s38.1), (4, .long s38.2)] → lpN st38 n s38 = some out → W p l e (headSpec (Cond.code yX6_bitsOf cX6_bitsOf 6 (some .long) :: wT) ({ frames := 0, cells := 0, slots := 0, locals := 0 } : Room)).room s m ([.double p1] : List Value).toArray below meth c H locs 0 0 (MQ below (va_Ql (fun (r : Int64) (_ : Unit) => r = out) (fun _ _ => True) wN0) ([.double p1] : List Value).toArray s 0 0 wN0) (F0 m 38 ls []) := by
            intro n
            induction n with
            | zero => intro s38 H locs ls hP hS hl hF; exact lpN_0 hF
            | succ n ih38 =>
              intro s38 H locs ls hP hS hl hF
              have hF := (congrFun (congrFun hst38 s38) (lpN st38 n)).symm.trans (lpN_s hF)
              refine lv_dload_n hx hb dX6_bitsOf_38 rfl (lv_at hl 0 rfl) ?_
              refine lv_dconst1 hx hb dX6_bitsOf_39 ?_
              refine lv_dcmp hx hb dX6_bitsOf_40 ?_
              refine lv_if_ge (tgt := 59) hx hb dX6_bitsOf_41 (by decide) (fun c2 => ?_) (fun c2 => ?_)
              · have hF := itp c2 hF
                refine lv_lload hx hb dX6_bitsOf_59 (lv_at hl 1 rfl) ?_
                refine lv_bipush (v := 52) hx hb dX6_bitsOf_61 (by decide) ?_
                refine lv_lshl (v := (s38.2 <<< ((52 : Int32).toInt64 &&& 63))) hx hb dX6_bitsOf_63 rfl ?_
                refine lv_dload_n hx hb dX6_bitsOf_64 rfl (lv_at hl 0 rfl) ?_
                refine lv_dconst1 hx hb dX6_bitsOf_65 ?_
                obtain ⟨hg3, hF⟩ := gd_use hF
                refine lv_dsub hx hb dX6_bitsOf_66 hg3 ?_
                refine lv_ldc2d (v := 4841369599423283200) hx hb hown (hts _ w_constantDouble_X6_249) dX6_bitsOf_67 ?_
                obtain ⟨hg4, hF⟩ := gd_use hF
                refine lv_dmul hx hb dX6_bitsOf_70 hg4 ?_
                refine lv_d2l hx hb dX6_bitsOf_71 ?_
                refine lv_ladd hx hb dX6_bitsOf_72 ?_
                exact W.lret (v := ((s38.2 <<< ((52 : Int32).toInt64 &&& 63)) + (FP.d2l (FP.dmul (FP.dsub s38.1 (4607182418800017408 : UInt64)) (4841369599423283200 : UInt64))))) hx hb hr (fun t ht hW => ⟨⟨_, (), rfl, Option.some.inj hF, trivial⟩, hS.F ht⟩) hS.2.2 dX6_bitsOf_73
              · have hF := itn c2 hF
                refine lv_dload_n hx hb dX6_bitsOf_44 rfl (lv_at hl 0 rfl) ?_
                refine lv_ldc2d (v := 4611686018427387904) hx hb hown (hts _ w_constantDouble_X6_247) dX6_bitsOf_45 ?_
                obtain ⟨hg5, hF⟩ := gd_use hF
                refine lv_dmul hx hb dX6_bitsOf_48 hg5 ?_
                refine lv_dstore_n (lv' := [(2, .double (FP.dmul s38.1 (4611686018427387904 : UInt64))), (4, .long s38.2)]) hx hb dX6_bitsOf_49 rfl hl (by decide) rfl (fun ls hl => ?_)
                refine lv_lload hx hb dX6_bitsOf_50 (lv_at hl 1 rfl) ?_
                refine lv_lconst (v := 1) hx hb dX6_bitsOf_52 (by decide) ?_
                refine lv_lsub hx hb dX6_bitsOf_53 ?_
                refine lv_lstore (lv' := [(4, .long (s38.2 - (1 : Int64))), (2, .double (FP.dmul s38.1 (4611686018427387904 : UInt64)))]) hx hb dX6_bitsOf_54 hl (by decide) rfl (fun ls hl => ?_)
                refine lv_goto (tgt := 38) hx hb dX6_bitsOf_56 (by decide) ?_
                exact ih38 ((FP.dmul s38.1 (4611686018427387904 : UInt64)), (s38.2 - (1 : Int64))) _ _ _ hP hS (lv_sub hl [1, 0] rfl) hF
          exact hL38 N s38 _ _ _ hP hS hl hF
        refine lv_if_lt (tgt := 38) hx hb dX6_bitsOf_20 (by decide) (fun c6 => ?_) (fun c6 => ?_)
        · have hF := itp c6 hF
          exact hJ38 (s15.1, s15.2) _ _ _ hP hS (lv_sub hl [0, 1] rfl) hF
        · have hF := itn c6 hF
          refine lv_dload_n hx hb dX6_bitsOf_23 rfl (lv_at hl 0 rfl) ?_
          refine lv_ldc2d (v := 4611686018427387904) hx hb hown (hts _ w_constantDouble_X6_247) dX6_bitsOf_24 ?_
          obtain ⟨hg7, hF⟩ := gd_use hF
          refine lv_ddiv hx hb dX6_bitsOf_27 hg7 ?_
          refine lv_dstore_n (lv' := [(2, .double (FP.ddiv s15.1 (4611686018427387904 : UInt64))), (4, .long s15.2)]) hx hb dX6_bitsOf_28 rfl hl (by decide) rfl (fun ls hl => ?_)
          refine lv_lload hx hb dX6_bitsOf_29 (lv_at hl 1 rfl) ?_
          refine lv_lconst (v := 1) hx hb dX6_bitsOf_31 (by decide) ?_
          refine lv_ladd hx hb dX6_bitsOf_32 ?_
          refine lv_lstore (lv' := [(4, .long (s15.2 + (1 : Int64))), (2, .double (FP.ddiv s15.1 (4611686018427387904 : UInt64)))]) hx hb dX6_bitsOf_33 hl (by decide) rfl (fun ls hl => ?_)
          refine lv_goto (tgt := 15) hx hb dX6_bitsOf_35 (by decide) ?_
          exact ih15 ((FP.ddiv s15.1 (4611686018427387904 : UInt64)), (s15.2 + (1 : Int64))) _ _ _ hP hS (lv_sub hl [1, 0] rfl) hF
    exact hL15 N (p1, (1023 : Int64)) _ _ _ hP hS (lv_sub hl [1, 0] rfl) hF
  · have hF := itp c1 hF
    refine lv_lconst (v := 0) hx hb dX6_bitsOf_6 (by decide) ?_
    exact W.lret (v := (0 : Int64)) hx hb hr (fun t ht hW => ⟨⟨_, (), rfl, Option.some.inj hF, trivial⟩, hS.F ht⟩) hS.2.2 dX6_bitsOf_7
