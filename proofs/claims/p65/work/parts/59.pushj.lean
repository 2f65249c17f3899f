/-! a push: the class and the reference end alike -/
/-- the row s' differs from s in places and states of things other than b alone -/
abbrev sameBut (s s' : Int → Int) (n : Nat) (b : Int) : Prop := ∀ j, j ≠ 1 → (∀ k : Int, 0 ≤ k → k < n → k ≠ b → j ≠ 4 + 7 * k + 0 ∧ j ≠ 4 + 7 * k + 1) → s' j = s j
theorem pl_range {s : Int → Int} {n : Nat} (g : GEO s n) (hn : n ≤ 8) : ∀ k, 0 ≤ k → k < 9 → -1 ≤ Pl s k ∧ Pl s k < 1300 := by
  obtain ⟨g0, g3, g1, g2, gb, -⟩ := g
  intro k a b
  by_cases k8 : k = 8
  · subst k8; rw [Pl_jack g0]; omega
  · by_cases kn : k < n
    · have q := gb k a kn
      by_cases k2 : s (4 + 7 * k + 0) = 2
      · rw [Pl_dead k8 k2]; omega
      · rw [Pl_live a (by omega) k8 k2]; omega
    · rw [Pl_more k8 (by omega)]; omega
/-- what a push keeps besides: the jack goes on only, what touches stays, few are struck -/
def pushX (s s' : Int → Int) (n : Nat) (b st st' l : Int) : Prop := s 1 ≤ s' 1 ∧ (∀ k : Int, 0 ≤ k → k < n → k ≠ b → s (4 + 7 * k + 0) ≠ 2 → s (4 + 7 * k + 3) = 1 → s' (4 + 7 * k + 0) ≠ 2) ∧ st ≤ st' ∧ (∀ e : Nat, l < 2 ^ e → st' ≤ st + e)
theorem pushX_rf {s : Int → Int} {n : Nat} {b st l : Int} : pushX s s n b st st l := ⟨Int.le_refl _, fun k _ _ _ h _ => h, Int.le_refl _, fun e _ => by omega⟩
theorem pow_pos2 (e : Nat) : (1 : Int) ≤ 2 ^ e := by
  induction e with
  | zero => decide
  | succ e ih => rw [Int.pow_succ]; omega
theorem push_joint {N n : Nat} (hN : 20 < N) (hn : n ≤ 8) {th : Int} {as_ : Int → Int} {ah : Int → Int} {sv : Int → Int} {sm : Int} {sl : Int → Int} {kp : Int} {bu : Int → Int} {le : Int} {od : Int → Int} {om : Int} {sp : Int} {wr_ : Int} {sg : Int} {on_ : Int} {tw : Int} {t3 : Int} {pl : Int} {fi : Int} {be : Int} {ha : Int64} {sd ai we bi to orr : Int → Int} {nn b pb lim : Int} (hb0 : 0 ≤ b) (hbn : b < n) (hto : okT to) (hpb : -1 ≤ pb) (hpl : pb < lim) : ∀ (m M1 M2 : Nat) (t l : Int) (p s : Int → Int) (st : Int), m < M1 → m < M2 → -1000 < l → l ≤ m → m < 900 → GEO s n → s (4 + 7 * b + 0) = 2 → (∀ k : Int, 0 ≤ k → k < n → to k = s (4 + 7 * k + 3)) → (∀ k, 0 ≤ k → k < 9 → k ≠ b → p k = Pl s k) → p b = pb → tOK n t → t ≠ b → lim ≤ p t → 0 ≤ p t → p t < 1260 →
    ∃ (p' s' : Int → Int) (st' : Int), lpN (stC N) M1 (i32 t, i32 l, (GK (RZ p) (RZ sd) (RZ ai) (RZ we) (RZ bi) (RZ to) (RZ orr) (i32 nn) (i32 st))) = some (GK (RZ p') (RZ sd) (RZ ai) (RZ we) (RZ bi) (RZ to) (RZ orr) (i32 nn) (i32 st')) ∧ lpN (stM N) M2 (i32 t, i32 l, (MK (i32 th) (RZ s) (RZ as_) (RZ ah) (RZ sv) (i32 sm) (RZ sl) (i32 kp) (RZ bu) (i32 le) (i32 st) (RZ od) (i32 om) (i32 sp) (i32 wr_) (i32 sg) (i32 on_) (i32 tw) (i32 t3) (i32 pl) (i32 fi) (i32 be) ha)) = some (MK (i32 th) (RZ s') (RZ as_) (RZ ah) (RZ sv) (i32 sm) (RZ sl) (i32 kp) (RZ bu) (i32 le) (i32 st') (RZ od) (i32 om) (i32 sp) (i32 wr_) (i32 sg) (i32 on_) (i32 tw) (i32 t3) (i32 pl) (i32 fi) (i32 be) ha) ∧ GEO s' n ∧ sameBut s s' n b ∧ (∀ k, 0 ≤ k → k < 9 → k ≠ b → p' k = Pl s' k) ∧ p' b = pb ∧ (∀ k, k ≠ b → p' k = p k ∨ lim ≤ p' k ∨ p' k = -1) ∧ pushX s s' n b st st' l := by
  intro m
  induction m with
  | zero =>
    intro M1 M2 t l p s st h1 h2 h3 h4 h5 g b2 ht hp hpb' tok tb hlim hpt0 hpt
    obtain ⟨M1, rfl⟩ : ∃ M, M1 = M + 1 := ⟨M1 - 1, by omega⟩
    obtain ⟨M2, rfl⟩ : ∃ M, M2 = M + 1 := ⟨M2 - 1, by omega⟩
    refine ⟨p, s, st, ?_, ?_, g, fun j _ _ => rfl, hp, hpb', fun k _ => Or.inl rfl, pushX_rf⟩
    · rw [lpN_s1]; exact c_stop (by omega) (by omega)
    · rw [lpN_s1]; exact m_stop (by omega) (by omega)
  | succ m ih =>
    intro M1 M2 t l p s st h1 h2 h3 h4 h5 g b2 ht hp hpb' tok tb hlim hpt0 hpt
    obtain ⟨M1, rfl⟩ : ∃ M, M1 = M + 1 := ⟨M1 - 1, by omega⟩
    obtain ⟨M2, rfl⟩ : ∃ M, M2 = M + 1 := ⟨M2 - 1, by omega⟩
    by_cases hl : l ≤ 0
    · refine ⟨p, s, st, ?_, ?_, g, fun j _ _ => rfl, hp, hpb', fun k _ => Or.inl rfl, pushX_rf⟩
      · rw [lpN_s1]; exact c_stop (by omega) (by omega)
      · rw [lpN_s1]; exact m_stop (by omega) (by omega)
    have g' := g
    obtain ⟨g0, g3, g1, g2, gb, gu⟩ := g
    have hpr := pl_range g' hn
    have okp : okP p := fun k a c => by
      by_cases kb : k = b
      · rw [kb, hpb']; exact ⟨hpb, by omega⟩
      · rw [hp k a c kb]; exact hpr k a c
    have t09 : 0 ≤ t ∧ t < 9 := by omega
    have ept := hp t t09.1 t09.2 tb
    -- row and column of the thing
    have hrc : p t = 21 * roT s t + coT s t ∧ 0 ≤ roT s t ∧ roT s t < 60 ∧ 0 ≤ coT s t ∧ coT s t ≤ 20 ∧ (t ≠ 8 → s (4 + 7 * t + 0) = 0) := by
      unfold roT coT
      by_cases t8 : t = 8
      · subst t8
        rw [if_pos rfl, if_pos rfl]
        rw [Pl_jack g0] at ept
        omega
      · rw [if_neg t8, if_neg t8]
        have q := gb t t09.1 (by omega)
        by_cases k2 : s (4 + 7 * t + 0) = 2
        · rw [Pl_dead t8 k2] at ept; omega
        · rw [Pl_live t09.1 (by omega) t8 k2] at ept; omega
    obtain ⟨e1, r0, r60, c0, c20, live⟩ := hrc
    have hmid : p b ≠ 21 * (roT s t + 1) + coT s t := by omega
    -- what moves
    have mv : ∀ r : Int, r = roT s t + 1 → (r < 60 → ∀ k, k ≠ t → ¬ Lies s r (coT s t) k) → GEO (lieS s t r) n ∧ (∀ k, k ≠ t → Pl (lieS s t r) k = Pl s k) ∧ Pl (lieS s t r) t = (if r < 60 ∨ t = 8 ∨ to t = 1 then p t + 21 else -1) ∧ sameBut s (lieS s t r) n b ∧ s 1 ≤ lieS s t r 1 ∧ (∀ k : Int, 0 ≤ k → k < n → k ≠ b → s (4 + 7 * k + 0) ≠ 2 → s (4 + 7 * k + 3) = 1 → lieS s t r (4 + 7 * k + 0) ≠ 2) := by
      intro r er fr
      by_cases t8 : t = 8
      · subst t8
        have f1 : lieS s 8 r = up s 1 r := by unfold lieS; rw [if_pos rfl]
        have co : coT s 8 = s 2 := by unfold coT; rw [if_pos rfl]
        rw [f1]
        obtain ⟨q1, q2, q3⟩ := geo_jack (s' := up s 1 r) (r := r) g' hn (fun j hj => up_ne hj) (up_self _ _ _) (by omega) (fun hr k k8 => by rw [← co]; exact fr hr k k8)
        refine ⟨q1, q2, ?_, fun j j1 _ => up_ne j1, ?_, fun k k0 _ _ k2 _ => by rw [up_ne (by omega)]; exact k2⟩
        rotate_left
        · have r8 : roT s 8 = s 1 := by unfold roT; rw [if_pos rfl]
          rw [up_self]; omega
        rw [q3, if_pos (Or.inr (Or.inl rfl))]
        omega
      · have co : coT s t = s (4 + 7 * t + 2) := by unfold coT; rw [if_neg t8]
        have q3 := gb t t09.1 (by omega)
        have htt := ht t t09.1 (by omega)
        have f1 : lieS s t r = up (up s (4 + 7 * t + 1) r) (4 + 7 * t + 0) (if r < 60 then 0 else if s (4 + 7 * t + 3) = 1 then 1 else 2) := by unfold lieS; rw [if_neg t8]
        have fe : ∀ j, j ≠ 4 + 7 * t + 0 → j ≠ 4 + 7 * t + 1 → lieS s t r j = s j := fun j a c => by rw [f1, up_ne a, up_ne c]
        have fe1 : lieS s t r (4 + 7 * t + 1) = r := by rw [f1, up_ne (by omega), up_self]
        have fe0 : lieS s t r (4 + 7 * t + 0) = (if r < 60 then 0 else if s (4 + 7 * t + 3) = 1 then 1 else 2) := by rw [f1, up_self]
        have j1 : s 1 ≤ lieS s t r 1 := by rw [fe 1 (by omega) (by omega)]; exact Int.le_refl _
        have tq : (r < 60 ∨ s (4 + 7 * t + 3) = 1) → lieS s t r (4 + 7 * t + 0) ≠ 2 := fun c => by
          rw [fe0]
          by_cases c1 : r < 60
          · rw [if_pos c1]; omega
          · rw [if_neg c1, if_pos (c.resolve_left c1)]; omega
        have tk : ∀ k : Int, 0 ≤ k → k < n → k ≠ b → s (4 + 7 * k + 0) ≠ 2 → s (4 + 7 * k + 3) = 1 → lieS s t r (4 + 7 * k + 0) ≠ 2 := fun k k0 kn kb k2 k3 => by
          by_cases kt : k = t
          · subst kt; exact tq (Or.inr k3)
          · rw [fe _ (by omega) (by omega)]; exact k2
        have sb : sameBut s (lieS s t r) n b := fun j _ hj => by
          have := hj t t09.1 (by omega) tb
          exact fe j this.1 this.2
        by_cases r6 : r < 60
        · rw [if_pos r6] at fe0
          obtain ⟨q1, q2, q4⟩ := geo_bowl g' hn t09.1 (by omega) fe fe1 fe0 (by omega) (Or.inl ⟨r6, rfl⟩) (fun _ k kt => by rw [← co]; exact fr r6 k kt)
          refine ⟨q1, q2, ?_, sb, j1, tk⟩
          rw [q4, if_neg (by omega), if_pos (Or.inl r6)]
          omega
        · rw [if_neg r6] at fe0
          by_cases tt : s (4 + 7 * t + 3) = 1
          · rw [if_pos tt] at fe0
            obtain ⟨q1, q2, q4⟩ := geo_bowl g' hn t09.1 (by omega) fe fe1 fe0 (by omega) (Or.inr (Or.inl ⟨by omega, rfl, tt⟩)) (fun h => by omega)
            refine ⟨q1, q2, ?_, sb, j1, tk⟩
            rw [q4, if_neg (by omega), if_pos (Or.inr (Or.inr (by omega)))]
            omega
          · rw [if_neg tt] at fe0
            obtain ⟨q1, q2, q4⟩ := geo_bowl g' hn t09.1 (by omega) fe fe1 fe0 (by omega) (Or.inr (Or.inr rfl)) (fun h => by omega)
            refine ⟨q1, q2, ?_, sb, j1, tk⟩
            rw [q4, if_pos rfl, if_neg (by omega)]
    by_cases r59 : roT s t + 1 = 60
    · -- into the ditch
      obtain ⟨q1, q2, q3, q4, q5, q6⟩ := mv 60 r59.symm (fun h => by omega)
      refine ⟨up p t (if t = 8 ∨ to t = 1 then p t + 21 else -1), lieS s t 60, st, ?_, ?_, q1, q4, fun k a c kb => ?_, by rw [up_ne (Ne.symm tb)]; exact hpb', fun k _ => ?_, ⟨q5, q6, Int.le_refl _, fun e _ => by omega⟩⟩
      · rw [lpN_s1, c_end (by omega) okp hto (by omega) (by omega) (by omega)]
      · rw [lpN_s1, m_end hn g' tok (by omega) (by omega) r59]
        obtain ⟨M2, rfl⟩ : ∃ M, M2 = M + 1 := ⟨M2 - 1, by omega⟩
        rw [lpN_s1]; exact m_stop (by omega) (by omega)
      · by_cases kt : k = t
        · rw [kt, up_self, q3]
          by_cases cc : t = 8 ∨ to t = 1
          · rw [if_pos cc, if_pos (Or.inr cc)]
          · rw [if_neg cc, if_neg (by omega)]
        · rw [up_ne kt, q2 k kt, hp k a c kb]
      · by_cases kt : k = t
        · rw [kt, up_self]
          by_cases cc : t = 8 ∨ to t = 1
          · rw [if_pos cc]; omega
          · rw [if_neg cc]; omega
        · exact Or.inl (up_ne kt)
    · obtain ⟨o, ho, hoL⟩ := thingAt_m (N := N) (th := th) (as_ := as_) (ah := ah) (sv := sv) (sm := sm) (sl := sl) (kp := kp) (bu := bu) (le := le) (st := st) (od := od) (om := om) (sp := sp) (wr_ := wr_) (sg := sg) (on_ := on_) (tw := tw) (t3 := t3) (pl := pl) (fi := fi) (be := be) (ha := ha) (n := n) (r := roT s t + 1) (c := coT s t) (by omega) hn g3 (geo_okG g') (by omega) (by omega)
      have hth := thg_lies g' hn (by omega) (by omega) c0 c20 hp (by omega) b2 hmid hoL
      have eq21 : p t + 21 = 21 * (roT s t + 1) + coT s t := by omega
      by_cases o1 : o = -1
      · subst o1
        have none : ∀ k, ¬ Lies s (roT s t + 1) (coT s t) k := by
          rcases hoL with h | h
          · exact h.2
          · rcases h with h | h <;> omega
        obtain ⟨q1, q2, q3, q4, q5, q6⟩ := mv (roT s t + 1) rfl (fun _ k _ => none k)
        rw [if_pos (Or.inl (by omega))] at q3
        have ebf : ∀ j, j = 4 + 7 * b + 0 → lieS s t (roT s t + 1) j = s j := fun j e => q4 j (by omega) (fun k _ _ kb => by omega)
        obtain ⟨p', s', st', w1, w2, w3, w4, w5, w6, w7, x1, x2, x3, x4⟩ := ih M1 M2 t (l + -1) (up p t (p t + 21)) (lieS s t (roT s t + 1)) st (by omega) (by omega) (by omega) (by omega) (by omega) q1 (by rw [ebf _ rfl]; exact b2) (fun k a c => by rw [q4 (4 + 7 * k + 3) (by omega) (fun k' _ _ _ => by omega)]; exact ht k a c) (fun k a c kb => by
          by_cases kt : k = t
          · rw [kt, up_self, q3]
          · rw [up_ne kt, q2 k kt, hp k a c kb]) (by rw [up_ne (Ne.symm tb)]; exact hpb') tok tb (by rw [up_self]; omega) (by rw [up_self]; omega) (by rw [up_self]; omega)
        refine ⟨p', s', st', ?_, ?_, w3, fun j a c => (w4 j a c).trans (q4 j a c), w5, w6, fun k kb => ?_, ⟨by omega, fun k k0 kn kb k2 k3 => x2 k k0 kn kb (q6 k k0 kn kb k2 k3) (by rw [q4 (4 + 7 * k + 3) (by omega) (fun k' _ _ _ => by omega)]; exact k3), x3, fun e he => x4 e (by omega)⟩⟩
        · rw [lpN_s1, c_move (by omega) t09 okp (by omega) (by omega) (by omega) (by rw [eq21]; exact hth)]
          exact w1
        · rw [lpN_s1, m_move hn g' tok (by omega) (by omega) (by omega) ho]
          exact w2
        · rcases w7 k kb with h | h
          · by_cases kt : k = t
            · rw [kt, up_self] at h
              rw [kt]; omega
            · rw [up_ne kt] at h
              exact Or.inl h
          · exact Or.inr h
      · have hL : Lies s (roT s t + 1) (coT s t) o := by
          rcases hoL with h | h
          · exact absurd h.1 o1
          · exact h
        have ob : o ≠ b := fun e => by
          subst e
          rcases hL with h | h <;> omega
        have otok : tOK n o := by
          rcases hL with h | h
          · exact Or.inl h.1
          · exact Or.inr ⟨h.1, by omega⟩
        have ept2 := (lies_pl g' hn (by omega) (by omega) c0 c20 (by omega) (by omega)).mp hL
        have epo := (hp o (by omega) (by omega) ob).trans ept2
        obtain ⟨p', s', st', w1, w2, w3, w4, w5, w6, w7, x1, x2, x3, x4⟩ := ih M1 M2 o ((l + -1) / 2) p s (st + 1) (by omega) (by omega) (by omega) (by omega) (by omega) g' b2 ht hp hpb' otok ob (by omega) (by omega) (by omega)
        refine ⟨p', s', st', ?_, ?_, w3, w4, w5, w6, w7, x1, x2, by omega, fun e he => ?_⟩
        rotate_left
        rotate_left
        · match e, he with
          | 0, he => exact absurd (show l < 1 from he) (by omega)
          | e + 1, he =>
            have hp := pow_pos2 e
            rw [Int.pow_succ] at he
            have := x4 e (by omega)
            rw [ncS]
            omega
        · rw [lpN_s1, c_hit (by omega) t09 okp (by omega) (by omega) (by omega) (by rw [eq21]; exact hth) o1 (by omega) (by omega)]
          exact w1
        · rw [lpN_s1, m_hit hn g' tok (by omega) (by omega) (by omega) ho (by omega) (by omega)]
          exact w2
