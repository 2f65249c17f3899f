/-! more changes of an object -/
theorem set_bowlsEach {N n : Nat} {B z : Int} {s : Int → Int} {S : SV} (h : INV B n s) (hS : shows s n z S) {r : Int} (hr : 1 ≤ r ∧ r ≤ 4) (hn : n = 0) : S_bowlsEach S = i32 (s 60) ∧ INV B n (up s 60 (r)) ∧ shows (up s 60 (r)) n z (S_set_bowlsEach S (i32 (r))) := by
  have e : ∀ j, j ≠ 60 → j ≠ 62 → j ≠ 63 → j ≠ 64 → up s 60 (r) j = s j := fun j a b c d => up_ne (by omega)
  obtain ⟨gv, vv, rfl, x⟩ := shows_c (s' := up s 60 (r)) h e hS
  have u60 : up s 60 (r) 60 = (r) := up_self _ _ _
  have u62 : up s 60 (r) 62 = s 62 := up_ne (by omega)
  have u63 : up s 60 (r) 63 = s 63 := up_ne (by omega)
  have u64 : up s 60 (r) 64 = s 64 := up_ne (by omega)
  have q60 := h.2.2.2.1
  have q63 := h.2.2.2.2.2.2.1
  have q64 := h.2.2.2.2.2.2.2.1
  have nn : (n : Int) ≤ 2 * s 60 := by
    rcases h.2.2.1 with q | q
    · omega
    · exact q.2
  refine ⟨?_, inv_c h e (by rw [u60]; omega) (by rw [u60]; omega) (by rw [u62]; exact h.2.2.2.2.2.1) (by rw [u63]; omega) (by rw [u64]; omega), ?_⟩
  · simp only [S_green_k, S_score_k, S_bowlsEach_k, S_blowing_k, S_jackGoesBack_k, S_touchersTwice_k, S_set_green_k, S_set_score_k, S_set_bowlsEach_k, S_set_blowing_k, S_set_jackGoesBack_k, S_set_touchersTwice_k]
  · rw [u60, u62, u63, u64] at x
    simp only [S_green_k, S_score_k, S_bowlsEach_k, S_blowing_k, S_jackGoesBack_k, S_touchersTwice_k, S_set_green_k, S_set_score_k, S_set_bowlsEach_k, S_set_blowing_k, S_set_jackGoesBack_k, S_set_touchersTwice_k]
    exact x
theorem set_blowing {N n : Nat} {B z : Int} {s : Int → Int} {S : SV} (h : INV B n s) (hS : shows s n z S) {r : Int} (hr : -5 ≤ r ∧ r ≤ 5) : S_blowing S = i32 (s 62) ∧ INV B n (up s 62 (r)) ∧ shows (up s 62 (r)) n z (S_set_blowing S (i32 (r))) := by
  have e : ∀ j, j ≠ 60 → j ≠ 62 → j ≠ 63 → j ≠ 64 → up s 62 (r) j = s j := fun j a b c d => up_ne (by omega)
  obtain ⟨gv, vv, rfl, x⟩ := shows_c (s' := up s 62 (r)) h e hS
  have u60 : up s 62 (r) 60 = s 60 := up_ne (by omega)
  have u62 : up s 62 (r) 62 = (r) := up_self _ _ _
  have u63 : up s 62 (r) 63 = s 63 := up_ne (by omega)
  have u64 : up s 62 (r) 64 = s 64 := up_ne (by omega)
  have q60 := h.2.2.2.1
  have q63 := h.2.2.2.2.2.2.1
  have q64 := h.2.2.2.2.2.2.2.1
  have nn : (n : Int) ≤ 2 * s 60 := by
    rcases h.2.2.1 with q | q
    · omega
    · exact q.2
  refine ⟨?_, inv_c h e (by rw [u60]; omega) (by rw [u60]; omega) (by rw [u62]; exact hr) (by rw [u63]; omega) (by rw [u64]; omega), ?_⟩
  · simp only [S_green_k, S_score_k, S_bowlsEach_k, S_blowing_k, S_jackGoesBack_k, S_touchersTwice_k, S_set_green_k, S_set_score_k, S_set_bowlsEach_k, S_set_blowing_k, S_set_jackGoesBack_k, S_set_touchersTwice_k]
  · rw [u60, u62, u63, u64] at x
    simp only [S_green_k, S_score_k, S_bowlsEach_k, S_blowing_k, S_jackGoesBack_k, S_touchersTwice_k, S_set_green_k, S_set_score_k, S_set_bowlsEach_k, S_set_blowing_k, S_set_jackGoesBack_k, S_set_touchersTwice_k]
    exact x
theorem set_jackGoesBack {N n : Nat} {B z : Int} {s : Int → Int} {S : SV} (h : INV B n s) (hS : shows s n z S)  : S_jackGoesBack S = i32 (s 63) ∧ INV B n (up s 63 (1 - s 63)) ∧ shows (up s 63 (1 - s 63)) n z (S_set_jackGoesBack S (i32 (1 - s 63))) := by
  have e : ∀ j, j ≠ 60 → j ≠ 62 → j ≠ 63 → j ≠ 64 → up s 63 (1 - s 63) j = s j := fun j a b c d => up_ne (by omega)
  obtain ⟨gv, vv, rfl, x⟩ := shows_c (s' := up s 63 (1 - s 63)) h e hS
  have u60 : up s 63 (1 - s 63) 60 = s 60 := up_ne (by omega)
  have u62 : up s 63 (1 - s 63) 62 = s 62 := up_ne (by omega)
  have u63 : up s 63 (1 - s 63) 63 = (1 - s 63) := up_self _ _ _
  have u64 : up s 63 (1 - s 63) 64 = s 64 := up_ne (by omega)
  have q60 := h.2.2.2.1
  have q63 := h.2.2.2.2.2.2.1
  have q64 := h.2.2.2.2.2.2.2.1
  have nn : (n : Int) ≤ 2 * s 60 := by
    rcases h.2.2.1 with q | q
    · omega
    · exact q.2
  refine ⟨?_, inv_c h e (by rw [u60]; omega) (by rw [u60]; omega) (by rw [u62]; exact h.2.2.2.2.2.1) (by rw [u63]; omega) (by rw [u64]; omega), ?_⟩
  · simp only [S_green_k, S_score_k, S_bowlsEach_k, S_blowing_k, S_jackGoesBack_k, S_touchersTwice_k, S_set_green_k, S_set_score_k, S_set_bowlsEach_k, S_set_blowing_k, S_set_jackGoesBack_k, S_set_touchersTwice_k]
  · rw [u60, u62, u63, u64] at x
    simp only [S_green_k, S_score_k, S_bowlsEach_k, S_blowing_k, S_jackGoesBack_k, S_touchersTwice_k, S_set_green_k, S_set_score_k, S_set_bowlsEach_k, S_set_blowing_k, S_set_jackGoesBack_k, S_set_touchersTwice_k]
    exact x
theorem set_touchersTwice {N n : Nat} {B z : Int} {s : Int → Int} {S : SV} (h : INV B n s) (hS : shows s n z S)  : S_touchersTwice S = i32 (s 64) ∧ INV B n (up s 64 (1 - s 64)) ∧ shows (up s 64 (1 - s 64)) n z (S_set_touchersTwice S (i32 (1 - s 64))) := by
  have e : ∀ j, j ≠ 60 → j ≠ 62 → j ≠ 63 → j ≠ 64 → up s 64 (1 - s 64) j = s j := fun j a b c d => up_ne (by omega)
  obtain ⟨gv, vv, rfl, x⟩ := shows_c (s' := up s 64 (1 - s 64)) h e hS
  have u60 : up s 64 (1 - s 64) 60 = s 60 := up_ne (by omega)
  have u62 : up s 64 (1 - s 64) 62 = s 62 := up_ne (by omega)
  have u63 : up s 64 (1 - s 64) 63 = s 63 := up_ne (by omega)
  have u64 : up s 64 (1 - s 64) 64 = (1 - s 64) := up_self _ _ _
  have q60 := h.2.2.2.1
  have q63 := h.2.2.2.2.2.2.1
  have q64 := h.2.2.2.2.2.2.2.1
  have nn : (n : Int) ≤ 2 * s 60 := by
    rcases h.2.2.1 with q | q
    · omega
    · exact q.2
  refine ⟨?_, inv_c h e (by rw [u60]; omega) (by rw [u60]; omega) (by rw [u62]; exact h.2.2.2.2.2.1) (by rw [u63]; omega) (by rw [u64]; omega), ?_⟩
  · simp only [S_green_k, S_score_k, S_bowlsEach_k, S_blowing_k, S_jackGoesBack_k, S_touchersTwice_k, S_set_green_k, S_set_score_k, S_set_bowlsEach_k, S_set_blowing_k, S_set_jackGoesBack_k, S_set_touchersTwice_k]
  · rw [u60, u62, u63, u64] at x
    simp only [S_green_k, S_score_k, S_bowlsEach_k, S_blowing_k, S_jackGoesBack_k, S_touchersTwice_k, S_set_green_k, S_set_score_k, S_set_bowlsEach_k, S_set_blowing_k, S_set_jackGoesBack_k, S_set_touchersTwice_k]
    exact x
theorem two_bowls {r : Int} (hr : b31 r) {N n : Nat} {B z y : Int} {s : Int → Int} {S T : SV} {p4 p5 : Int32} (hN : 1500 < N) (h : INV B n s) (hB : B + 1000 ≤ 1000000) (x : EX s n) (hS : shows s n z S) (hT : shows s n y T) : TWO N B 4 (i32 r) p4 p5 S T := by
  have c1 := hasJack_x (N := N) h hS
  have c2 := hasJack_x (N := N) h hT
  by_cases c : 1 ≤ r ∧ r ≤ 4
  · skip
    have g1 : ¬ (i32 r < (1 : Int32)) := by rw [show (1 : Int32) = i32 (1) from rfl, i32_lt (by omega) (by omega) (by omega) (by omega)]; omega
    have g2 : i32 r ≤ (4 : Int32) := by rw [show (4 : Int32) = i32 (4) from rfl, i32_le (by omega) (by omega) (by omega) (by omega)]; omega
    by_cases d : s 0 = 1
    · rw [b2i_p d] at c1 c2
      refine Or.inl ⟨_, Or.inr rfl, cno_changeBowls (k := 1) (by omega) (fun xv v0 v1 v2 v3 v4 v5 => ?_), cno_changeBowls (k := 1) (by omega) (fun xv v0 v1 v2 v3 v4 v5 => ?_)⟩
      · unfold f_X5_changeBowls
        exact jnS (ifN g1 (ifS g2 (bdS c1 (ifN (by decide) rfl))))
      · unfold f_X5_changeBowls
        exact jnS (ifN g1 (ifS g2 (bdS c2 (ifN (by decide) rfl))))
    · rw [b2i_n d] at c1 c2
      have n0 : n = 0 := by
        rcases h.2.2.1 with q | q
        · exact q.2
        · exact absurd q.1.1 d
      obtain ⟨a1, a2, a3⟩ := set_bowlsEach (N := N) h hS c n0
      obtain ⟨b1, b2, b3⟩ := set_bowlsEach (N := N) h hT c n0
      refine Or.inr ⟨i32 (s 60), _, n, z, y, _, _, cok_changeBowls (fun xv v0 v1 v2 v3 v4 v5 xv2 u0 u1 u2 u3 u4 u5 e => ?_), cok_changeBowls (fun xv v0 v1 v2 v3 v4 v5 xv2 u0 u1 u2 u3 u4 u5 e => ?_), inv_mono a2 (by omega) (by omega), ex_c h x (fun j a b c d => up_ne a), a3, b3⟩
      · unfold f_X5_changeBowls
        exact jnS (ifN g1 (ifS g2 (bdS c1 (ifS rfl (bdS e (by rw [← a1]))))))
      · unfold f_X5_changeBowls
        exact jnS (ifN g1 (ifS g2 (bdS c2 (ifS rfl (bdS e (by rw [← b1]))))))
  · refine Or.inl ⟨_, Or.inl rfl, cno_changeBowls (k := 0) (by omega) (fun xv v0 v1 v2 v3 v4 v5 => ?_), cno_changeBowls (k := 0) (by omega) (fun xv v0 v1 v2 v3 v4 v5 => ?_)⟩
    · unfold f_X5_changeBowls
      by_cases d : r < 1
      · exact jnS (ifS (by rw [show (1 : Int32) = i32 (1) from rfl, i32_lt (by omega) (by omega) (by omega) (by omega)]; exact d) rfl)
      · exact jnS (ifN (by rw [show (1 : Int32) = i32 (1) from rfl, i32_lt (by omega) (by omega) (by omega) (by omega)]; exact d) (ifN (by rw [show (4 : Int32) = i32 (4) from rfl, i32_le (by omega) (by omega) (by omega) (by omega)]; omega) rfl))
    · unfold f_X5_changeBowls
      by_cases d : r < 1
      · exact jnS (ifS (by rw [show (1 : Int32) = i32 (1) from rfl, i32_lt (by omega) (by omega) (by omega) (by omega)]; exact d) rfl)
      · exact jnS (ifN (by rw [show (1 : Int32) = i32 (1) from rfl, i32_lt (by omega) (by omega) (by omega) (by omega)]; exact d) (ifN (by rw [show (4 : Int32) = i32 (4) from rfl, i32_le (by omega) (by omega) (by omega) (by omega)]; omega) rfl))
theorem two_wind {r : Int} (hr : b31 r) {N n : Nat} {B z y : Int} {s : Int → Int} {S T : SV} {p4 p5 : Int32} (hN : 1500 < N) (h : INV B n s) (hB : B + 1000 ≤ 1000000) (x : EX s n) (hS : shows s n z S) (hT : shows s n y T) : TWO N B 5 (i32 r) p4 p5 S T := by
  by_cases c : -5 ≤ r ∧ r ≤ 5
  · skip
    have g1 : ¬ (i32 r < (-5 : Int32)) := by rw [show (-5 : Int32) = i32 (-5) from rfl, i32_lt (by omega) (by omega) (by omega) (by omega)]; omega
    have g2 : i32 r ≤ (5 : Int32) := by rw [show (5 : Int32) = i32 (5) from rfl, i32_le (by omega) (by omega) (by omega) (by omega)]; omega
    obtain ⟨a1, a2, a3⟩ := set_blowing (N := N) h hS c
    obtain ⟨b1, b2, b3⟩ := set_blowing (N := N) h hT c
    refine Or.inr ⟨i32 (s 62), _, n, z, y, _, _, cok_changeWind (fun xv v0 v1 v2 v3 v4 v5 xv2 u0 u1 u2 u3 u4 u5 e => ?_), cok_changeWind (fun xv v0 v1 v2 v3 v4 v5 xv2 u0 u1 u2 u3 u4 u5 e => ?_), inv_mono a2 (by omega) (by omega), ex_c h x (fun j a b c d => up_ne b), a3, b3⟩
    · unfold f_X5_changeWind
      exact jnS (ifN g1 (ifS g2 (bdS e (by rw [← a1]))))
    · unfold f_X5_changeWind
      exact jnS (ifN g1 (ifS g2 (bdS e (by rw [← b1]))))
  · refine Or.inl ⟨_, Or.inl rfl, cno_changeWind (k := 0) (by omega) (fun xv v0 v1 v2 v3 v4 v5 => ?_), cno_changeWind (k := 0) (by omega) (fun xv v0 v1 v2 v3 v4 v5 => ?_)⟩
    · unfold f_X5_changeWind
      by_cases d : r < -5
      · exact jnS (ifS (by rw [show (-5 : Int32) = i32 (-5) from rfl, i32_lt (by omega) (by omega) (by omega) (by omega)]; exact d) rfl)
      · exact jnS (ifN (by rw [show (-5 : Int32) = i32 (-5) from rfl, i32_lt (by omega) (by omega) (by omega) (by omega)]; exact d) (ifN (by rw [show (5 : Int32) = i32 (5) from rfl, i32_le (by omega) (by omega) (by omega) (by omega)]; omega) rfl))
    · unfold f_X5_changeWind
      by_cases d : r < -5
      · exact jnS (ifS (by rw [show (-5 : Int32) = i32 (-5) from rfl, i32_lt (by omega) (by omega) (by omega) (by omega)]; exact d) rfl)
      · exact jnS (ifN (by rw [show (-5 : Int32) = i32 (-5) from rfl, i32_lt (by omega) (by omega) (by omega) (by omega)]; exact d) (ifN (by rw [show (5 : Int32) = i32 (5) from rfl, i32_le (by omega) (by omega) (by omega) (by omega)]; omega) rfl))
theorem two_twice {N n : Nat} {B z y : Int} {s : Int → Int} {S T : SV} {p3 p4 p5 : Int32} (hN : 1500 < N) (h : INV B n s) (hB : B + 1000 ≤ 1000000) (x : EX s n) (hS : shows s n z S) (hT : shows s n y T) : TWO N B 7 p3 p4 p5 S T := by
  have v01 : s 64 = 0 ∨ s 64 = 1 := h.2.2.2.2.2.2.2.1
  obtain ⟨a1, a2, a3⟩ := set_touchersTwice (N := N) h hS
  obtain ⟨b1, b2, b3⟩ := set_touchersTwice (N := N) h hT
  refine Or.inr ⟨i32 (1 - s 64), _, n, z, y, _, _, cok_turnTwice (by omega) (fun xv v0 v1 v2 v3 v4 v5 xv2 u0 u1 u2 u3 u4 u5 e => ?_), cok_turnTwice (by omega) (fun xv v0 v1 v2 v3 v4 v5 xv2 u0 u1 u2 u3 u4 u5 e => ?_), inv_mono a2 (by omega) (by omega), ex_c h x (fun j a b c d => up_ne d), a3, b3⟩
  · unfold f_X5_turnTwice
    refine bdS e (jnS ?_)
    rcases v01 with q | q
    · refine ifS (by show S_touchersTwice _ = 0; rw [a1, q]; rfl) ?_
      rw [q]; rfl
    · refine ifN (by show ¬ S_touchersTwice _ = 0; rw [a1, q]; decide) ?_
      rw [q]; rfl
  · unfold f_X5_turnTwice
    refine bdS e (jnS ?_)
    rcases v01 with q | q
    · refine ifS (by show S_touchersTwice _ = 0; rw [b1, q]; rfl) ?_
      rw [q]; rfl
    · refine ifN (by show ¬ S_touchersTwice _ = 0; rw [b1, q]; decide) ?_
      rw [q]; rfl
theorem two_back {N n : Nat} {B z y : Int} {s : Int → Int} {S T : SV} {p3 p4 p5 : Int32} (hN : 1500 < N) (h : INV B n s) (hB : B + 1000 ≤ 1000000) (x : EX s n) (hS : shows s n z S) (hT : shows s n y T) : TWO N B 6 p3 p4 p5 S T := by
  have v01 : s 63 = 0 ∨ s 63 = 1 := h.2.2.2.2.2.2.1
  obtain ⟨a1, a2, a3⟩ := set_jackGoesBack (N := N) h hS
  obtain ⟨b1, b2, b3⟩ := set_jackGoesBack (N := N) h hT
  have x2 : EX (up s 63 (1 - s 63)) n := ex_c h x (fun j a b c d => up_ne c)
  obtain ⟨s2, S2, T2, r1, t1, r3, r4, t4, r5, r6⟩ := puts_two (N := N) (by omega) a2 (by omega) a3 b3
  have u63 : s2 63 = 1 - s 63 := by rw [r5 63 (by omega) (by omega) (by omega), up_self]
  have jb : ∀ (z' : Int) (S' : SV), shows s2 n z' S' → S_jackGoesBack S' = i32 (1 - s 63) := fun z' S' hS' => by
    obtain ⟨p, sd, ai, we, bi, to, orr, po, la, eb, rfl, -, -⟩ := hS'
    simp only [S_green_k, S_score_k, S_bowlsEach_k, S_blowing_k, S_jackGoesBack_k, S_touchersTwice_k, S_set_green_k, S_set_score_k, S_set_bowlsEach_k, S_set_blowing_k, S_set_jackGoesBack_k, S_set_touchersTwice_k, u63]
  refine Or.inr ⟨i32 (1 - s 63), s2, n, z, y, S2, T2, cok_turnBack (by omega) (fun xv v0 v1 v2 v3 v4 v5 xv2 u0 u1 u2 u3 u4 u5 e => ?_), cok_turnBack (by omega) (fun xv v0 v1 v2 v3 v4 v5 xv2 u0 u1 u2 u3 u4 u5 e => ?_), inv_mono r3 (by omega) (by omega), ex_puts a2 x2 r5 r6, r4, t4⟩
  · unfold f_X5_turnBack
    refine bdS e (jnS ?_)
    have jq := jb _ _ r4
    rcases v01 with q | q
    · rw [q] at r1 jq ⊢
      refine ifS (by show S_jackGoesBack _ = 0; rw [a1, q]; rfl) (bdS r1 ?_)
      rw [gd_pos (by rw [jq]; exact Or.inr (by decide)), jq]
    · rw [q] at r1 jq ⊢
      refine ifN (by show ¬ S_jackGoesBack _ = 0; rw [a1, q]; decide) (bdS r1 ?_)
      rw [gd_pos (by rw [jq]; exact Or.inl (by decide)), jq]
  · unfold f_X5_turnBack
    refine bdS e (jnS ?_)
    have jq := jb _ _ t4
    rcases v01 with q | q
    · rw [q] at t1 jq ⊢
      refine ifS (by show S_jackGoesBack _ = 0; rw [b1, q]; rfl) (bdS t1 ?_)
      rw [gd_pos (by rw [jq]; exact Or.inr (by decide)), jq]
    · rw [q] at t1 jq ⊢
      refine ifN (by show ¬ S_jackGoesBack _ = 0; rw [b1, q]; decide) (bdS t1 ?_)
      rw [gd_pos (by rw [jq]; exact Or.inl (by decide)), jq]
theorem begin_x {N n : Nat} {B z : Int} {s : Int → Int} {S : SV} (h : INV B n s) (hS : shows s n z S) {r : Int} (hN : 100 < N) (c : 1 ≤ r ∧ r ≤ 50) : INV B 0 (begM s r) ∧ ∃ G W, f_X0_takeAway N (S_green S) = some G ∧ f_X1_startMatch N (S_score S) (i32 r) = some W ∧ V_pointsNeeded (S_score S) = i32 (s 67) ∧ shows (begM s r) 0 z (S_set_score (S_set_green S G) W) := by
  obtain ⟨g0, g61, g67, gm, gz⟩ := begM_v s r
  obtain ⟨p, sd, ai, we, bi, to, orr, po, la, eb, rfl, rG, rV⟩ := hS
  have xt := x0_takeAway (N := N) (p := p) (sd := sd) (ai := ai) (we := we) (bi := bi) (to := to) (od := orr) (n := n) (st := z) (by omega)
  have f2 := fill_ok (N := N) (n := 2) (s := po) (z := 0) (by omega) (by omega)
  have f12 := fill_ok (N := N) (n := 12) (s := la) (z := 0) (by omega) (by omega)
  have f17 := fill_ok (N := N) (n := 17) (s := eb) (z := 0) (by omega) (by omega)
  have e2_ : ((2 : Nat) : Int) = 2 := rfl
  have e12 : ((12 : Nat) : Int) = 12 := rfl
  have e17 : ((17 : Nat) : Int) = 17 := rfl
  have I : INV B 0 (begM s r) := by
    obtain ⟨-, -, -, q60, q61, q62, q63, q64, q67, q70, qk, qC, qB⟩ := h
    have hB0 : 0 ≤ B := by
      have := qC 65 (Or.inl rfl)
      omega
    refine ⟨g0 3 (by omega) (by omega), by omega, Or.inl ⟨g0 0 (by omega) (by omega), rfl⟩, by rw [gm 60 (by omega) (by omega) (by omega)]; exact q60, Or.inl g61, by rw [gm 62 (by omega) (by omega) (by omega)]; exact q62, by rw [gm 63 (by omega) (by omega) (by omega)]; exact q63, by rw [gm 64 (by omega) (by omega) (by omega)]; exact q64, by rw [g67]; exact c, by rw [gz 70 (by omega) (by omega) (by omega)]; omega, fun k a b => by rw [gz _ (by omega) (by omega) (by omega)]; omega, fun j hj => by rw [gz j (by omega) (by omega) (by omega)]; omega, qB⟩
  rw [e2_] at f2
  rw [e12] at f12
  rw [e17] at f17
  refine ⟨I, (GK (RZ (wr 0 9 (fun _ => -1) p)) (RZ sd) (RZ ai) (RZ we) (RZ bi) (RZ (wr 0 8 (fun _ => 0) to)) (RZ orr) (i32 (((0 : Nat) : Int))) (i32 z)), (VK (RZ (wr 0 2 (fun _ => 0) po)) (RZ (wr 0 12 (fun _ => 0) la)) (RZ (wr 0 17 (fun _ => 0) eb)) (i32 r) (i32 0) (i32 0) (i32 0) (i32 0) (i32 0) (i32 0) (i32 0)), ?_, ?_, ?_, ?_⟩
  · simp only [S_green_k, S_score_k, S_bowlsEach_k, S_blowing_k, S_jackGoesBack_k, S_touchersTwice_k, S_set_green_k, S_set_score_k, S_set_bowlsEach_k, S_set_blowing_k, S_set_jackGoesBack_k, S_set_touchersTwice_k]
    exact xt
  · unfold f_X1_startMatch
    simp (maxSteps := 4000000) (disch := omega) only [jn, Option.bind_some, l32_0, l32_1, l32_2, l32_3, l32_4, l32_5, l32_6, l32_7, l32_8, l32_9, l32_10, l32_11, l32_12, l32_13, l32_14, l32_15, l32_16, l32_17, l32_18, l32_19, l32_20, l32_21, l32_22, l32_23, l32_24, l32_25, l32_26, l32_27, l32_28, l32_29, l32_30, l32_31, l32_32, l32_33, l32_34, l32_35, l32_36, l32_37, l32_38, l32_39, l32_40, l32_41, l32_42, l32_43, l32_44, l32_45, l32_46, l32_47, l32_48, l32_49, l32_50, l32_51, l32_52, l32_53, l32_54, l32_55, l32_56, l32_57, l32_58, l32_59, l32_60, l32_61, l32_62, l32_63, l32_64, l32_65, l32_66, l32_67, l32_68, l32_69, l32_70, l32_71, l32_83, l32_91, l32_98, l32_99, l32_100, l32_101, l32_102, l32_103, l32_106, l32_119, l32_126, l32_206, l32_515, l32_618, l32_850, l32_1000, l32_1022, l32_1023, l32_1050, l32_1239, l32_1260, l32_1459, l32_7919, l32_2147483647, i32_add, i32_sub, i32_mul, i32_neg, ↓reduceIte, ltT, ltF, leT, leF, eqT, eqF, gd_ix, i32_nat, RZ_at, upd_RZ, i32_ofNat, S_green_k, S_score_k, S_bowlsEach_k, S_blowing_k, S_jackGoesBack_k, S_touchersTwice_k, S_set_green_k, S_set_score_k, S_set_bowlsEach_k, S_set_blowing_k, S_set_jackGoesBack_k, S_set_touchersTwice_k, V_points_k, V_latest_k, V_endsByPoints_k, V_pointsNeeded_k, V_endCount_k, V_burntCount_k, V_latestCount_k, V_backCount_k, V_bowlCount_k, V_toucherCount_k, V_firstSide_k, V_set_points_k, V_set_latest_k, V_set_endsByPoints_k, V_set_pointsNeeded_k, V_set_endCount_k, V_set_burntCount_k, V_set_latestCount_k, V_set_backCount_k, V_set_bowlCount_k, V_set_toucherCount_k, V_set_firstSide_k, f2, f12, f17]
  · simp only [S_green_k, S_score_k, S_bowlsEach_k, S_blowing_k, S_jackGoesBack_k, S_touchersTwice_k, S_set_green_k, S_set_score_k, S_set_bowlsEach_k, S_set_blowing_k, S_set_jackGoesBack_k, S_set_touchersTwice_k, V_points_k, V_latest_k, V_endsByPoints_k, V_pointsNeeded_k, V_endCount_k, V_burntCount_k, V_latestCount_k, V_backCount_k, V_bowlCount_k, V_toucherCount_k, V_firstSide_k, V_set_points_k, V_set_latest_k, V_set_endsByPoints_k, V_set_pointsNeeded_k, V_set_endCount_k, V_set_burntCount_k, V_set_latestCount_k, V_set_backCount_k, V_set_bowlCount_k, V_set_toucherCount_k, V_set_firstSide_k]
  · simp only [S_green_k, S_score_k, S_bowlsEach_k, S_blowing_k, S_jackGoesBack_k, S_touchersTwice_k, S_set_green_k, S_set_score_k, S_set_bowlsEach_k, S_set_blowing_k, S_set_jackGoesBack_k, S_set_touchersTwice_k]
    have P1 : ∀ k, Pl (begM s r) k = -1 := fun k => by
      by_cases k8 : k = 8
      · rw [k8, Pl_none (by rw [g0 0 (by omega) (by omega)]; omega)]
      · unfold Pl
        rw [if_neg k8, if_neg (fun q => by
          have := g0 3 (by omega) (by omega)
          omega)]
    refine shows_mk ⟨fun k a b => ?_, fun k a b => by omega, fun k a b => ?_⟩ ⟨?_, ?_, fun k a b => ?_, fun k a b => ?_⟩ ⟨g67.symm, (gz 68 (by omega) (by omega) (by omega)).symm, (gz 69 (by omega) (by omega) (by omega)).symm, (gz 70 (by omega) (by omega) (by omega)).symm, (gz 100 (by omega) (by omega) (by omega)).symm, (gz 101 (by omega) (by omega) (by omega)).symm, (gz 102 (by omega) (by omega) (by omega)).symm, g61.symm, (gm 60 (by omega) (by omega) (by omega)).symm, (gm 62 (by omega) (by omega) (by omega)).symm, (gm 63 (by omega) (by omega) (by omega)).symm, (gm 64 (by omega) (by omega) (by omega)).symm⟩
    · rw [wr_in a b, P1]
    · rw [wr_in a b, if_neg (by omega)]
    · rw [wr_in (by omega) (by omega), gz 65 (by omega) (by omega) (by omega)]
    · rw [wr_in (by omega) (by omega), gz 66 (by omega) (by omega) (by omega)]
    · rw [gz 70 (by omega) (by omega) (by omega)] at b
      omega
    · rw [wr_in a b, gz _ (by omega) (by omega) (by omega)]
theorem two_begin {r : Int} (hr : b31 r) {N n : Nat} {B z y : Int} {s : Int → Int} {S T : SV} {p4 p5 : Int32} (hN : 1500 < N) (h : INV B n s) (hB : B + 1000 ≤ 1000000) (x : EX s n) (hS : shows s n z S) (hT : shows s n y T) : TWO N B 3 (i32 r) p4 p5 S T := by
  by_cases c : 1 ≤ r ∧ r ≤ 50
  · skip
    have g1 : ¬ (i32 r < (1 : Int32)) := by rw [show (1 : Int32) = i32 (1) from rfl, i32_lt (by omega) (by omega) (by omega) (by omega)]; omega
    have g2 : i32 r ≤ (50 : Int32) := by rw [show (50 : Int32) = i32 (50) from rfl, i32_le (by omega) (by omega) (by omega) (by omega)]; omega
    obtain ⟨a0, G1, W1, a1, a2, a3, a4⟩ := begin_x (N := N) h hS (by omega) c
    obtain ⟨-, G2, W2, b1, b2, b3, b4⟩ := begin_x (N := N) h hT (by omega) c
    refine Or.inr ⟨i32 (s 67), begM s r, 0, z, y, _, _, cok_begin (fun xv v0 v1 v2 v3 v4 v5 xv2 u0 u1 u2 u3 u4 u5 e => ?_), cok_begin (fun xv v0 v1 v2 v3 v4 v5 xv2 u0 u1 u2 u3 u4 u5 e => ?_), inv_mono a0 (by omega) (by omega), ex_begin h c.1, a4, b4⟩
    · unfold f_X5_begin
      exact jnS (ifN g1 (ifS g2 (bdS e (bdS a1 (bdS a2 (by rw [← a3]))))))
    · unfold f_X5_begin
      exact jnS (ifN g1 (ifS g2 (bdS e (bdS b1 (bdS b2 (by rw [← b3]))))))
  · refine Or.inl ⟨_, Or.inl rfl, cno_begin (k := 0) (by omega) (fun xv v0 v1 v2 v3 v4 v5 => ?_), cno_begin (k := 0) (by omega) (fun xv v0 v1 v2 v3 v4 v5 => ?_)⟩
    · unfold f_X5_begin
      by_cases d : r < 1
      · exact jnS (ifS (by rw [show (1 : Int32) = i32 (1) from rfl, i32_lt (by omega) (by omega) (by omega) (by omega)]; exact d) rfl)
      · exact jnS (ifN (by rw [show (1 : Int32) = i32 (1) from rfl, i32_lt (by omega) (by omega) (by omega) (by omega)]; exact d) (ifN (by rw [show (50 : Int32) = i32 (50) from rfl, i32_le (by omega) (by omega) (by omega) (by omega)]; omega) rfl))
    · unfold f_X5_begin
      by_cases d : r < 1
      · exact jnS (ifS (by rw [show (1 : Int32) = i32 (1) from rfl, i32_lt (by omega) (by omega) (by omega) (by omega)]; exact d) rfl)
      · exact jnS (ifN (by rw [show (1 : Int32) = i32 (1) from rfl, i32_lt (by omega) (by omega) (by omega) (by omega)]; exact d) (ifN (by rw [show (50 : Int32) = i32 (50) from rfl, i32_le (by omega) (by omega) (by omega) (by omega)]; omega) rfl))
