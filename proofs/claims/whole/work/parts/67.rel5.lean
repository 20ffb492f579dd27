theorem rl_year {A A' B B' : St} {b r r' : Int} (h : Rel A B b) (hp : (99 ≤ A 27 0 ∧ r = -2 ∧ A' = A) ∨ (A 27 0 < 99 ∧ ∃ S1, Rmb A S1 ∧ Same [27, 30, 31] S1 A' ∧ A' 27 0 = A 27 0 + 1 ∧ A' 27 1 = A 27 1 ∧ A' 27 2 = A 27 2 ∧ YrR A A' (A 27 1) (A 27 1) r)) (hq : (99 ≤ B 125 0 ∧ r' = -2 ∧ B' = B) ∨ (B 125 0 < 99 ∧ ∃ S1 T, Nts B S1 ∧ Same [125] S1 T ∧ YrM B T (B 125 1) r' ∧ B' = up T 125 0 (B 125 0 + 1))) : Rls A' B' r r' := by
  obtain ⟨⟨c0, c1, c2⟩, c3, c4, c5⟩ := h.cur
  rw [← c0, ← c1] at hq
  rcases hp with ⟨p1, p2, p3⟩ | ⟨p1, S1, p2, p3, p4, p5, p6, y1, y2, y3⟩ <;> rcases hq with ⟨q1, q2, q3⟩ | ⟨q1, S2, T, q2, q3, ⟨m1, m2, m3⟩, q5⟩ <;> first | (exfalso; omega) | skip
  · rw [p3, q3]; exact ⟨by omega, b, h⟩
  · have hn6 := h.2.2.1.2.1
    have hw := h.2.2.1.2.2
    obtain ⟨a1, a2, a3, a4, a5⟩ := h.2.2.2.1.2
    have hl := fun (c : Nat) (h1 : c < 48) (h2 : c ≠ 11) => p2.low h1 h2
    have eq : ∀ q, 0 ≤ q → q < A 27 1 → ((A 31 q = 8 ∧ A 3 (A 28 q) ≤ A 30 q + 1) ↔ yrC B q) := by
      intro q x y
      obtain ⟨f1, f2, f3, f4⟩ := c3 q x y
      have g : 0 ≤ A 28 q ∧ A 28 q < A 1 0 := (a4 q x y).1
      have e3 := (hw (A 28 q) g.1 (by omega)).1.2
      unfold yrC
      rw [show B 125 (3 + q) = A 31 q from f1.symm, show B 125 (141 + q) = A 28 q from f3.symm, show B 125 (51 + q) = A 30 q from f2.symm, e3]
    refine ⟨?_, b, ?_⟩
    · rw [y3, m3]
      apply sm_congr
      intro q x y
      have := eq q x (by omega)
      by_cases z : yrC B q
      · rw [if_pos z, if_pos (this.mpr z)]
      · rw [if_neg z, if_neg (fun w => z (this.mp w))]
    · have hr := h.rm p2 q2
      have e28 : A' 28 = A 28 := (p3 28 (by decide)).trans (hl 28 (by decide) (by decide))
      have e29 : A' 29 = A 29 := (p3 29 (by decide)).trans (hl 29 (by decide) (by decide))
      have e32 : A' 32 = A 32 := (p3 32 (by decide)).trans (hl 32 (by decide) (by decide))
      have e33 : A' 33 = A 33 := (p3 33 (by decide)).trans (hl 33 (by decide) (by decide))
      have b4 : B' 124 = B 124 := by rw [q5, up_row (by decide), q3 124 (by decide), q2.same 124 (by decide)]
      have e5 : ∀ i, i ≠ 0 → B' 125 i = T 125 i := fun i x => by rw [q5, up_i x]
      have s2 : S2 124 = B 124 := q2.same 124 (by decide)
      have hA1 : S1 1 0 = A 1 0 := by rw [hl 1 (by decide) (by decide)]
      refine hr.cr (fun c hc => p3 c (by simp; omega)) (fun c x y => by rw [q5, up_row y]; exact q3 c (by simp; omega)) (fun q => Or.inl (by rw [b4, s2])) ?_ ?_
      · rw [hA1]
        refine FR.z ?_ ?_ ?_ (fun q x y => ?_) (fun t x y => ?_) (fun t j t0 t1 j0 j1 => ?_)
        · rw [p4, q5, up_s, c0]
        · rw [p5, e5 1 (by decide), m2 1 (by omega) (by omega)]; exact c1
        · rw [p6, e5 2 (by decide), m2 2 (by omega) (by omega)]; exact c2
        · rw [p5] at y
          obtain ⟨f1, f2, f3, f4⟩ := c3 q x y
          have z := eq q x y
          rw [(y1 q x y).1, (y1 q x y).2, e28, e29, b4, e5 _ (by omega), e5 _ (by omega), e5 _ (by omega), (m1 q x y).1, (m1 q x y).2, m2 (141 + q) (by omega) (by omega)]
          refine ⟨?_, by rw [f2]; rfl, f3, f4⟩
          by_cases w : yrC B q
          · rw [if_pos w, if_pos (z.mpr w)]
          · rw [if_neg w, if_neg (fun v => w (z.mp v))]; exact f1
        · rw [p6] at y
          rw [e32, e5 _ (by omega), m2 (135 + t) (by omega) (by omega)]
          exact c4 t x y
        · rw [p6] at t1
          rw [e33, e5 _ (by omega), m2 (99 + (t * 6 + j)) (by omega) (by omega)]
          exact c5 t j t0 t1 j0 j1
      · rw [hA1]
        refine ⟨?_, ?_, ?_, fun q x y => ?_, fun t j t0 t1 j0 j1 => ?_⟩
        · rw [p5]; exact a1
        · rw [p6]; exact a2
        · rw [p4]; omega
        · rw [p5] at y
          obtain ⟨f1, f2, f3, f4, f5⟩ := a4 q x y
          show (0 ≤ A' 28 q ∧ A' 28 q < A 1 0) ∧ isMk (A' 29 q) ∧ (0 ≤ A' 30 q ∧ A' 30 q ≤ A' 27 0 + 30) ∧ (0 ≤ A' 31 q ∧ A' 31 q ≤ 9) ∧ (b ≤ q → A' 29 q = 9)
          have g3 : 0 ≤ A 30 q ∧ A 30 q ≤ A 27 0 + 30 := f3
          have g4 : 0 ≤ A 31 q ∧ A 31 q ≤ 9 := f4
          rw [e28, e29, p4, (y1 q x y).1, (y1 q x y).2]
          exact ⟨f1, f2, by omega, by split <;> omega, f5⟩
        · rw [p6] at t1
          obtain ⟨f1, f2, f3⟩ := a5 t j t0 t1 j0 j1
          have f1 : 0 ≤ A 33 (t * 6 + j) ∧ A 33 (t * 6 + j) < A 27 1 := f1
          have f2 : A 31 (A 33 (t * 6 + j)) = t := f2
          show (0 ≤ A' 33 (t * 6 + j) ∧ A' 33 (t * 6 + j) < A' 27 1) ∧ A' 31 (A' 33 (t * 6 + j)) = t ∧ A' 28 (A' 33 (t * 6 + j)) = j
          have t6 : A 27 2 ≤ 6 := a2.2
          rw [e33, p5, e28, (y1 _ f1.1 f1.2).2, if_neg (fun w => by have := w.1; omega)]
          exact ⟨f1, f2, f3⟩
theorem rl_build {A A' B B' : St} {b r r' : Int} (h : Rel A B b) (hp : (Exs (fun k => 0 ≤ k ∧ k < A 1 0 ∧ ∀ p, 0 ≤ p → p < A 27 1 → ¬ (A 31 p = 8 ∧ A 28 p = k)) ∧ r = -2 ∧ A' = A) ∨ ((∀ k, 0 ≤ k → k < A 1 0 → Exs (fun p => 0 ≤ p ∧ p < A 27 1 ∧ A 31 p = 8 ∧ A 28 p = k)) ∧ 6 ≤ A 27 2 ∧ r = -3 ∧ A' = A) ∨ ((∀ k, 0 ≤ k → k < A 1 0 → Exs (fun p => 0 ≤ p ∧ p < A 27 1 ∧ A 31 p = 8 ∧ A 28 p = k)) ∧ A 27 2 < 6 ∧ r = A 27 2 ∧ ∃ S1, Rmb A S1 ∧ Same [27, 31, 32, 33] S1 A' ∧ A' 27 0 = A 27 0 ∧ A' 27 1 = A 27 1 ∧ A' 27 2 = A 27 2 + 1 ∧ (∀ i, i ≠ A 27 2 → A' 32 i = A 32 i) ∧ A' 32 (A 27 2) = 9 ∧ BldR A A' (A 27 2) (A 27 1) (A 1 0))) (hq : (Exs (fun k => 0 ≤ k ∧ k < B 118 13 ∧ ∀ p, 0 ≤ p → p < B 125 1 → ¬ (mWh B p = 8 ∧ mPl B p = k)) ∧ r' = -2 ∧ B' = B) ∨ ((∀ k, 0 ≤ k → k < B 118 13 → Exs (fun p => 0 ≤ p ∧ p < B 125 1 ∧ mWh B p = 8 ∧ mPl B p = k)) ∧ 6 ≤ B 125 2 ∧ r' = -3 ∧ B' = B) ∨ ((∀ k, 0 ≤ k → k < B 118 13 → Exs (fun p => 0 ≤ p ∧ p < B 125 1 ∧ mWh B p = 8 ∧ mPl B p = k)) ∧ B 125 2 < 6 ∧ r' = B 125 2 ∧ ∃ S1 T, Nts B S1 ∧ Same [125] S1 T ∧ BldM B T (B 125 2) (B 125 1) (B 118 13) ∧ B' = up (up T 125 (135 + B 125 2) 9) 125 2 (B 125 2 + 1))) : Rls A' B' r r' := by
  obtain ⟨⟨c0, c1, c2⟩, c3, c4, c5⟩ := h.cur
  have hn := h.2.2.1.1
  have hn6 := h.2.2.1.2.1
  rw [← c1, ← c2, ← hn] at hq
  have key : ∀ p k, 0 ≤ p → p < A 27 1 → ((A 31 p = 8 ∧ A 28 p = k) ↔ (mWh B p = 8 ∧ mPl B p = k)) := by
    intro p k x y
    obtain ⟨f1, f2, f3, f4⟩ := c3 p x y
    rw [f1, f3]
  have no : Exs (fun k => 0 ≤ k ∧ k < A 1 0 ∧ ∀ p, 0 ≤ p → p < A 27 1 → ¬ (A 31 p = 8 ∧ A 28 p = k)) → (∀ k, 0 ≤ k → k < A 1 0 → Exs (fun p => 0 ≤ p ∧ p < A 27 1 ∧ mWh B p = 8 ∧ mPl B p = k)) → False := by
    intro ⟨k, k0, k1, k2⟩ z
    obtain ⟨p, p0, p1, p2⟩ := z k k0 k1
    exact k2 p p0 p1 ((key p k p0 p1).mpr p2)
  have no2 : Exs (fun k => 0 ≤ k ∧ k < A 1 0 ∧ ∀ p, 0 ≤ p → p < A 27 1 → ¬ (mWh B p = 8 ∧ mPl B p = k)) → (∀ k, 0 ≤ k → k < A 1 0 → Exs (fun p => 0 ≤ p ∧ p < A 27 1 ∧ A 31 p = 8 ∧ A 28 p = k)) → False := by
    intro ⟨k, k0, k1, k2⟩ z
    obtain ⟨p, p0, p1, p2⟩ := z k k0 k1
    exact k2 p p0 p1 ((key p k p0 p1).mp p2)
  rcases hp with ⟨p1, p2, p3⟩ | ⟨p1, p2, p3, p4⟩ | ⟨p1, p2, p3, S1, p4, p5, p6, p7, p8, p9, p10, b1, b2, b3⟩ <;> rcases hq with ⟨q1, q2, q3⟩ | ⟨q1, q2, q3, q4⟩ | ⟨q1, q2, q3, S2, T, q4, q5, ⟨m1, m2, m3⟩, q6⟩ <;> first | exact (no p1 q1).elim | exact (no2 q1 p1).elim | (exfalso; omega) | skip
  · rw [p3, q3]; exact ⟨by omega, b, h⟩
  · rw [p4, q4]; exact ⟨by omega, b, h⟩
  · refine ⟨by omega, b, ?_⟩
    obtain ⟨a1, a2, a3, a4, a5⟩ := h.2.2.2.1.2
    have N0 : 0 ≤ A 27 2 := a2.1
    have P48 : A 27 1 ≤ 48 := a1.2.2
    have hl := fun (c : Nat) (h1 : c < 48) (h2 : c ≠ 11) => p4.low h1 h2
    have hr := h.rm p4 q4
    have e28 : A' 28 = A 28 := (p5 28 (by decide)).trans (hl 28 (by decide) (by decide))
    have e29 : A' 29 = A 29 := (p5 29 (by decide)).trans (hl 29 (by decide) (by decide))
    have e30 : A' 30 = A 30 := (p5 30 (by decide)).trans (hl 30 (by decide) (by decide))
    have b4 : B' 124 = B 124 := by rw [q6, up_row (by decide), up_row (by decide), q5 124 (by decide), q4.same 124 (by decide)]
    have s2 : S2 124 = B 124 := q4.same 124 (by decide)
    have hA1 : S1 1 0 = A 1 0 := by rw [hl 1 (by decide) (by decide)]
    have w : ∀ j, 0 ≤ j → j < A 1 0 → A' 33 (A 27 2 * 6 + j) = T 125 (99 + 6 * A 27 2 + j) ∧ (0 ≤ A' 33 (A 27 2 * 6 + j) ∧ A' 33 (A 27 2 * 6 + j) < A 27 1) ∧ A 31 (A' 33 (A 27 2 * 6 + j)) = 8 ∧ A 28 (A' 33 (A 27 2 * 6 + j)) = j := by
      intro j j0 j1
      obtain ⟨z1, z2, z3, z4⟩ := (b1 j j0 j1).d (d' := -9) (p1 j j0 j1)
      refine ⟨Fst.uniq (fun q x y => key q j x y) z1 (m1 j j0 j1), ⟨z2, z3⟩, z4⟩
    have e5 : ∀ i, i ≠ 2 → i ≠ 135 + A 27 2 → B' 125 i = T 125 i := fun i x y => by rw [q6, up_i x, up_i y]
    have o3 : ∀ t j, 0 ≤ t → t < A 27 2 → 0 ≤ j → j < A 1 0 → A' 33 (t * 6 + j) = A 33 (t * 6 + j) := fun t j t0 t1 j0 j1 => b2 (t * 6 + j) (by omega)
    refine hr.cr (fun c hc => p5 c (by simp; omega)) (fun c x y => by rw [q6, up_row y, up_row y]; exact q5 c (by simp; omega)) (fun q => Or.inl (by rw [b4, s2])) ?_ ?_
    · rw [hA1]
      refine FR.z ?_ ?_ ?_ (fun q x y => ?_) (fun t x y => ?_) (fun t j t0 t1 j0 j1 => ?_)
      · rw [p6, e5 0 (by decide) (by omega), m2 0 (by omega) (by omega)]; exact c0
      · rw [p7, e5 1 (by decide) (by omega), m2 1 (by omega) (by omega)]; exact c1
      · rw [p8, q6, up_s]
      · rw [p7] at y
        obtain ⟨f1, f2, f3, f4⟩ := c3 q x y
        have f3 : A 28 q = B 125 (141 + q) := f3
        have g : 0 ≤ A 28 q ∧ A 28 q < A 1 0 := (a4 q x y).1
        rw [e28, e29, e30, b4, e5 _ (by omega) (by omega), e5 _ (by omega) (by omega), e5 _ (by omega) (by omega), b3 q, m3 q x (by omega), m2 (51 + q) (by omega) (by omega), m2 (141 + q) (by omega) (by omega), ← f3, (w (A 28 q) g.1 g.2).1]
        refine ⟨?_, f2, rfl, f4⟩
        by_cases z : (0 ≤ A 28 q ∧ A 28 q < A 1 0) ∧ T 125 (99 + 6 * A 27 2 + A 28 q) = q
        · rw [if_pos z, if_pos z]
        · rw [if_neg z, if_neg z]; exact f1
      · rw [p8] at y
        by_cases e : t = A 27 2
        · rw [e, p10, q6, up_i (by omega), up_s]
        · rw [p9 t e, e5 _ (by omega) (by omega), m2 (135 + t) (by omega) (by omega)]
          exact c4 t x (by omega)
      · rw [p8] at t1
        by_cases e : t = A 27 2
        · rw [e, (w j j0 j1).1, e5 _ (by omega) (by omega)]
          congr 1
          omega
        · rw [o3 t j t0 (by omega) j0 j1, e5 _ (by omega) (by omega), m2 (99 + (t * 6 + j)) (by omega) (by omega)]
          exact c5 t j t0 (by omega) j0 j1
    · rw [hA1]
      refine ⟨?_, ?_, ?_, fun q x y => ?_, fun t j t0 t1 j0 j1 => ?_⟩
      · rw [p7]; exact a1
      · rw [p8]; omega
      · rw [p6]; exact a3
      · rw [p7] at y
        obtain ⟨f1, f2, f3, f4, f5⟩ := a4 q x y
        show (0 ≤ A' 28 q ∧ A' 28 q < A 1 0) ∧ isMk (A' 29 q) ∧ (0 ≤ A' 30 q ∧ A' 30 q ≤ A' 27 0 + 30) ∧ (0 ≤ A' 31 q ∧ A' 31 q ≤ 9) ∧ (b ≤ q → A' 29 q = 9)
        have g4 : 0 ≤ A 31 q ∧ A 31 q ≤ 9 := f4
        rw [e28, e29, e30, p6, b3 q]
        exact ⟨f1, f2, f3, by split <;> omega, f5⟩
      · rw [p8] at t1
        show (0 ≤ A' 33 (t * 6 + j) ∧ A' 33 (t * 6 + j) < A' 27 1) ∧ A' 31 (A' 33 (t * 6 + j)) = t ∧ A' 28 (A' 33 (t * 6 + j)) = j
        rw [p7, e28]
        by_cases e : t = A 27 2
        · obtain ⟨w1, w2, w3, w4⟩ := w j j0 j1
          rw [e]
          refine ⟨w2, ?_, w4⟩
          rw [b3, w4, if_pos ⟨⟨j0, j1⟩, rfl⟩]
        · obtain ⟨f1, f2, f3⟩ := a5 t j t0 (by omega) j0 j1
          have f1 : 0 ≤ A 33 (t * 6 + j) ∧ A 33 (t * 6 + j) < A 27 1 := f1
          have f2 : A 31 (A 33 (t * 6 + j)) = t := f2
          have f3 : A 28 (A 33 (t * 6 + j)) = j := f3
          rw [o3 t j t0 (by omega) j0 j1]
          refine ⟨f1, ?_, f3⟩
          rw [b3, f3, if_neg]
          · exact f2
          · intro z
            have w3 := (w j j0 j1).2.2.1
            rw [z.2, f2] at w3
            omega
