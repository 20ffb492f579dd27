theorem rl_undo {A A' B B' : St} {b r r' : Int} (h : Rel A B b) (hp : (A 11 2 = 0 ∧ r = -2 ∧ A' = A) ∨ (0 < A 11 2 ∧ r = A 11 2 - 1 ∧ Cpd (up (up A 11 1 (((A 11 1 + 10) - 1) % 10)) 11 2 (A 11 2 - 1)) 27 (48 + 7 * (((A 11 1 + 10) - 1) % 10).toNat) A')) (hq : (B 118 22 = 0 ∧ r' = -2 ∧ B' = B) ∨ (B 118 22 ≠ 0 ∧ r' = B 118 22 - 1 ∧ Mcp (up B 118 22 (B 118 22 - 1)) B' 125 0 128 (189 * (B 118 22 - 1)) 189)) : Rls A' B' r r' := by
  obtain ⟨u1, u2, u3, u4⟩ := h.2.2.2.2.1
  rw [← u1] at hq
  rcases hp with ⟨p1, p2, p3⟩ | ⟨p1, p2, p3⟩ <;> rcases hq with ⟨q1, q2, q3⟩ | ⟨q1, q2, q3, q4, q5⟩ <;> first | (exfalso; omega) | skip
  · rw [p3, q3]; exact ⟨by omega, b, h⟩
  · refine ⟨by omega, b, ?_⟩
    obtain ⟨h0, t, p, f, _, g, s, tr, th⟩ := h
    have n6 : A 1 0 ≤ 6 := p.2.1.2
    have es : 48 + 7 * (((A 11 1 + 10) - 1) % 10).toNat = uC (A 11 1) (A 11 2) (A 11 2 - 1) := by
      unfold uC
      congr 2
      omega
    have hb := uC_bd (A 11 1) (A 11 2) (A 11 2 - 1)
    rw [es] at p3
    have rA : ∀ c, c ≠ 11 → (c < 27 ∨ 33 < c) → A' c = A c := fun c x y => by rw [p3.2.2.2.2.2.2 c (by omega), up_row x, up_row x]
    have r11 : A' 11 = up (up A 11 1 (((A 11 1 + 10) - 1) % 10)) 11 2 (A 11 2 - 1) 11 := p3.2.2.2.2.2.2 11 (by decide)
    have k1 : A' 11 1 = ((A 11 1 + 10) - 1) % 10 := by rw [r11, up_i (by decide), up_s]
    have k2 : A' 11 2 = A 11 2 - 1 := by rw [r11, up_s]
    have cpS : Cp A A' (uC (A 11 1) (A 11 2) (A 11 2 - 1)) 27 := by
      have := Cpd.cp p3
      unfold Cp at this ⊢
      rw [up_row (by omega), up_row (by omega), up_row (by omega), up_row (by omega), up_row (by omega), up_row (by omega), up_row (by omega), up_row (by omega), up_row (by omega), up_row (by omega), up_row (by omega), up_row (by omega), up_row (by omega), up_row (by omega)] at this
      exact this
    have cpO : ∀ c, 33 < c → Cp A A' c c := fun c x => Cp.row (fun e he => rA (c + e) (by omega) (by omega))
    have rB : ∀ c, c ≠ 118 → c ≠ 125 → B' c = B c := fun c x y => by rw [q3 c (by simp; exact y), up_row x]
    have r118 : ∀ i, i ≠ 22 → B' 118 i = B 118 i := fun i x => by rw [q3 118 (by decide), up_i x]
    have b124 : ∀ q, B' 124 q = B 124 q := fun q => by rw [rB 124 (by decide) (by decide)]
    refine ⟨h0, ?_, ?_, ?_, ?_, ?_, ?_, ?_, ?_⟩
    · unfold RT
      rw [rA 0 (by decide) (by decide), rA 16 (by decide) (by decide), r118 3 (by decide), rB 119 (by decide) (by decide)]
      exact t
    · unfold RP
      rw [rA 1 (by decide) (by decide), rA 2 (by decide) (by decide), rA 3 (by decide) (by decide), r118 13 (by decide), rB 120 (by decide) (by decide), rB 121 (by decide) (by decide)]
      exact p
    · unfold RF
      rw [rA 1 (by decide) (by decide)]
      obtain ⟨x, y⟩ := u4 (A 11 2 - 1) (by omega) (by omega)
      refine ⟨x.to y n6 cpS (fun i i0 i1 => ?_) (fun q _ _ => b124 q), y.to n6 cpS⟩
      rw [q4 i i0 i1, up_c (by decide)]
    · unfold RU
      rw [rA 1 (by decide) (by decide), k1, k2]
      refine ⟨by rw [q3 118 (by decide), up_s], by omega, by omega, fun j j0 j1 => ?_⟩
      have e : uC (((A 11 1 + 10) - 1) % 10) (A 11 2 - 1) j = uC (A 11 1) (A 11 2) j := by
        unfold uC
        congr 2
        omega
      have hb2 := uC_bd (A 11 1) (A 11 2) j
      obtain ⟨x, y⟩ := u4 j j0 (by omega)
      rw [e]
      exact ⟨x.to y n6 (cpO _ (by omega)) (fun i _ _ => by rw [rB 128 (by decide) (by decide)]) (fun q _ _ => b124 q), y.to n6 (cpO _ (by omega))⟩
    · unfold RG
      rw [rA 15 (by decide) (by decide), rA 1 (by decide) (by decide), rB 127 (by decide) (by decide)]
      intro i i0 i1
      refine ⟨(g i i0 i1).1, fun z => ?_⟩
      obtain ⟨x, y⟩ := (g i i0 i1).2 z
      exact ⟨x.to y n6 (cpO _ (by omega)) (fun i _ _ => by rw [rB 126 (by decide) (by decide)]) (fun q _ _ => b124 q), y.to n6 (cpO _ (by omega))⟩
    · unfold RS
      rw [rA 0 (by decide) (by decide), rA 1 (by decide) (by decide), rA 25 (by decide) (by decide), rA 26 (by decide) (by decide), r118 25 (by decide), rB 129 (by decide) (by decide), rB 130 (by decide) (by decide)]
      exact s
    · rw [rA 13 (by decide) (by decide), r118 1 (by decide)]
      exact tr
    · rw [r118 0 (by decide)]
      exact th
theorem rl_keep {A A' B B' : St} {b i r r' : Int} (h : Rel A B b) (hp : (¬ (0 ≤ i ∧ i < 2) ∧ r = -1 ∧ A' = A) ∨ ((0 ≤ i ∧ i < 2) ∧ r = A 27 0 ∧ ∃ S1, Cpd A (34 + 7 * i.toNat) 27 S1 ∧ A' = up S1 15 i 1)) (hq : (¬ (0 ≤ i ∧ i ≤ 1) ∧ r' = -1 ∧ B' = B) ∨ ((0 ≤ i ∧ i ≤ 1) ∧ r' = B 125 0 ∧ ∃ T, Mcp B T 126 (189 * i) 125 0 189 ∧ B' = up T 127 i 1)) : Rls A' B' r r' := by
  obtain ⟨⟨c0, _, _⟩, _⟩ := h.cur
  rcases hp with ⟨p1, p2, p3⟩ | ⟨p1, p2, S1, p3, p4⟩ <;> rcases hq with ⟨q1, q2, q3⟩ | ⟨q1, q2, T, ⟨q3, q4, q5⟩, q6⟩ <;> first | (exfalso; omega) | skip
  · rw [p3, q3]; exact ⟨by omega, b, h⟩
  · refine ⟨by omega, b, ?_⟩
    obtain ⟨h0, t, p, f, u, g, s, tr, th⟩ := h
    have n6 : A 1 0 ≤ 6 := p.2.1.2
    have rA : ∀ c, c ≠ 15 → (c < 34 + 7 * i.toNat ∨ 34 + 7 * i.toNat + 6 < c) → A' c = A c := fun c x y => by rw [p4, up_row x]; exact p3.2.2.2.2.2.2 c y
    have r15 : ∀ j, A' 15 j = if j = i then 1 else A 15 j := fun j => by
      rw [p4]
      by_cases e : j = i
      · rw [if_pos e, e, up_s]
      · rw [if_neg e, up_i e, p3.2.2.2.2.2.2 15 (by omega)]
    have cpN : Cp A A' 27 (34 + 7 * i.toNat) := by
      have := Cpd.cp p3
      unfold Cp at this ⊢
      rw [p4, up_row (by omega), up_row (by omega), up_row (by omega), up_row (by omega), up_row (by omega), up_row (by omega), up_row (by omega)]
      exact this
    have cpO : ∀ c, 15 < c → (c + 6 < 34 + 7 * i.toNat ∨ 34 + 7 * i.toNat + 6 < c) → Cp A A' c c := fun c z x => Cp.row (fun e he => rA (c + e) (by omega) (by omega))
    have rB : ∀ c, c ≠ 126 → c ≠ 127 → B' c = B c := fun c x y => by rw [q6, up_row y, q3 c (by simp; exact x)]
    have r127 : ∀ j, B' 127 j = if j = i then 1 else B 127 j := fun j => by
      rw [q6]
      by_cases e : j = i
      · rw [if_pos e, e, up_s]
      · rw [if_neg e, up_i e, q3 127 (by decide)]
    have r126 : B' 126 = T 126 := by rw [q6, up_row (by decide)]
    have b124 : ∀ q, B' 124 q = B 124 q := fun q => by rw [rB 124 (by decide) (by decide)]
    have r118 := rB 118 (by decide) (by decide)
    refine ⟨h0, ?_, ?_, ?_, ?_, ?_, ?_, ?_, ?_⟩
    · unfold RT
      rw [rA 0 (by decide) (by omega), rA 16 (by decide) (by omega), r118, rB 119 (by decide) (by decide)]
      exact t
    · unfold RP
      rw [rA 1 (by decide) (by omega), rA 2 (by decide) (by omega), rA 3 (by decide) (by omega), r118, rB 120 (by decide) (by decide), rB 121 (by decide) (by decide)]
      exact p
    · unfold RF
      rw [rA 1 (by decide) (by omega)]
      have c := cpO 27 (by decide) (by omega)
      exact ⟨f.1.to f.2 n6 c (fun i _ _ => by rw [rB 125 (by decide) (by decide)]) (fun q _ _ => b124 q), f.2.to n6 c⟩
    · unfold RU
      rw [rA 1 (by decide) (by omega), rA 11 (by decide) (by omega), r118]
      refine ⟨u.1, u.2.1, u.2.2.1, fun j j0 j1 => ?_⟩
      have hb2 := uC_bd (A 11 1) (A 11 2) j
      obtain ⟨x, y⟩ := u.2.2.2 j j0 j1
      have c := cpO (uC (A 11 1) (A 11 2) j) (by omega) (by omega)
      exact ⟨x.to y n6 c (fun i _ _ => by rw [rB 128 (by decide) (by decide)]) (fun q _ _ => b124 q), y.to n6 c⟩
    · unfold RG
      rw [rA 1 (by decide) (by omega)]
      intro j j0 j1
      rw [r15, r127]
      by_cases e : j = i
      · rw [if_pos e, if_pos e, e]
        refine ⟨rfl, fun _ => ⟨f.1.to f.2 n6 cpN (fun k k0 k1 => ?_) (fun q _ _ => b124 q), f.2.to n6 cpN⟩⟩
        rw [r126, q4 k k0 k1]
      · rw [if_neg e, if_neg e]
        refine ⟨(g j j0 j1).1, fun z => ?_⟩
        obtain ⟨x, y⟩ := (g j j0 j1).2 z
        have c := cpO (34 + 7 * j.toNat) (by omega) (by omega)
        refine ⟨x.to y n6 c (fun k k0 k1 => ?_) (fun q _ _ => b124 q), y.to n6 c⟩
        rw [r126, q5 _ (by omega)]
    · unfold RS
      rw [rA 0 (by decide) (by omega), rA 1 (by decide) (by omega), rA 25 (by decide) (by omega), rA 26 (by decide) (by omega), r118, rB 129 (by decide) (by decide), rB 130 (by decide) (by decide)]
      exact s
    · rw [rA 13 (by decide) (by omega), r118]
      exact tr
    · rw [r118]
      exact th
theorem rl_back {A A' B B' : St} {b i r r' : Int} (h : Rel A B b) (hp : (¬ (0 ≤ i ∧ i < 2) ∧ r = -1 ∧ A' = A) ∨ ((0 ≤ i ∧ i < 2) ∧ A 15 i = 0 ∧ r = -2 ∧ A' = A) ∨ ((0 ≤ i ∧ i < 2) ∧ A 15 i ≠ 0 ∧ r = A (34 + 7 * i.toNat) 0 ∧ ∃ S1, Cpd A 27 (34 + 7 * i.toNat) S1 ∧ A' = up S1 11 2 0)) (hq : (¬ (0 ≤ i ∧ i ≤ 1) ∧ r' = -1 ∧ B' = B) ∨ ((0 ≤ i ∧ i ≤ 1) ∧ B 127 i = 0 ∧ r' = -2 ∧ B' = B) ∨ ((0 ≤ i ∧ i ≤ 1) ∧ B 127 i ≠ 0 ∧ r' = B 126 (189 * i) ∧ ∃ T, Mcp B T 125 0 126 (189 * i) 189 ∧ B' = up T 118 22 0)) : Rls A' B' r r' := by
  have hg : (0 ≤ i ∧ i < 2) → A 15 i = B 127 i := fun z => (h.2.2.2.2.2.1 i z.1 z.2).1
  rcases hp with ⟨p1, p2, p3⟩ | ⟨p1, p2, p3, p4⟩ | ⟨p1, p2, p3, S1, p4, p5⟩ <;> rcases hq with ⟨q1, q2, q3⟩ | ⟨q1, q2, q3, q4⟩ | ⟨q1, q2, q3, T, ⟨q4, q5, q6⟩, q7⟩ <;> first | (exfalso; omega) | (exfalso; have := hg p1; omega) | skip
  · rw [p3, q3]; exact ⟨by omega, b, h⟩
  · rw [p4, q4]; exact ⟨by omega, b, h⟩
  · obtain ⟨h0, t, p, f, u, g, s, tr, th⟩ := h
    have n6 : A 1 0 ≤ 6 := p.2.1.2
    obtain ⟨x, y⟩ := (g i p1.1 p1.2).2 p2
    refine ⟨by rw [p3, q3]; exact x.1, b, ?_⟩
    have rA : ∀ c, c ≠ 11 → (c < 27 ∨ 33 < c) → A' c = A c := fun c x y => by rw [p5, up_row x]; exact p4.2.2.2.2.2.2 c (by omega)
    have r11 : ∀ j, j ≠ 2 → A' 11 j = A 11 j := fun j x => by rw [p5, up_i x, p4.2.2.2.2.2.2 11 (by decide)]
    have k2 : A' 11 2 = 0 := by rw [p5, up_s]
    have cpS : Cp A A' (34 + 7 * i.toNat) 27 := by
      have := Cpd.cp p4
      unfold Cp at this ⊢
      rw [p5, up_row (by decide), up_row (by decide), up_row (by decide), up_row (by decide), up_row (by decide), up_row (by decide), up_row (by decide)]
      exact this
    have cpO : ∀ c, 33 < c → Cp A A' c c := fun c x => Cp.row (fun e he => rA (c + e) (by omega) (by omega))
    have rB : ∀ c, c ≠ 118 → c ≠ 125 → B' c = B c := fun c x y => by rw [q7, up_row x, q4 c (by simp; exact y)]
    have r118 : ∀ j, j ≠ 22 → B' 118 j = B 118 j := fun j x => by rw [q7, up_i x, q4 118 (by decide)]
    have b124 : ∀ q, B' 124 q = B 124 q := fun q => by rw [rB 124 (by decide) (by decide)]
    refine ⟨h0, ?_, ?_, ?_, ?_, ?_, ?_, ?_, ?_⟩
    · unfold RT
      rw [rA 0 (by decide) (by decide), rA 16 (by decide) (by decide), r118 3 (by decide), rB 119 (by decide) (by decide)]
      exact t
    · unfold RP
      rw [rA 1 (by decide) (by decide), rA 2 (by decide) (by decide), rA 3 (by decide) (by decide), r118 13 (by decide), rB 120 (by decide) (by decide), rB 121 (by decide) (by decide)]
      exact p
    · unfold RF
      rw [rA 1 (by decide) (by decide)]
      refine ⟨x.to y n6 cpS (fun k k0 k1 => ?_) (fun q _ _ => b124 q), y.to n6 cpS⟩
      rw [q7, up_c (by decide), q5 k k0 k1]
    · unfold RU
      rw [k2, r11 1 (by decide)]
      exact ⟨by rw [q7, up_s], by omega, u.2.2.1, fun j j0 j1 => by omega⟩
    · unfold RG
      rw [rA 15 (by decide) (by decide), rA 1 (by decide) (by decide), rB 127 (by decide) (by decide)]
      intro i i0 i1
      refine ⟨(g i i0 i1).1, fun z => ?_⟩
      obtain ⟨x, y⟩ := (g i i0 i1).2 z
      exact ⟨x.to y n6 (cpO _ (by omega)) (fun i _ _ => by rw [rB 126 (by decide) (by decide)]) (fun q _ _ => b124 q), y.to n6 (cpO _ (by omega))⟩
    · unfold RS
      rw [rA 0 (by decide) (by decide), rA 1 (by decide) (by decide), rA 25 (by decide) (by decide), rA 26 (by decide) (by decide), r118 25 (by decide), rB 129 (by decide) (by decide), rB 130 (by decide) (by decide)]
      exact s
    · rw [rA 13 (by decide) (by decide), r118 1 (by decide)]
      exact tr
    · rw [r118 0 (by decide)]
      exact th
/-! a text that was told -/
theorem rl_told {A A' B B' d : St} {b : Int} (h : Rel A B b) (hD : DIe d) (hX : TldX d A') (hM : TldM d B') (hA : Same [0, 1, 2, 3, 11, 15, 17, 18, 19, 20, 21, 22, 23, 24, 27, 28, 29, 30, 31, 32, 33] A A') (h0 : ∀ i, i ≠ 12 → i ≠ 13 → A' 0 i = A 0 i) (h11 : ∀ i, i ≠ 2 → A' 11 i = A 11 i) (hB : Same [118, 120, 121, 122, 123, 124, 125, 127] B B') (hb0 : B' 118 0 = B 118 0) (hb1 : B' 118 1 = B 118 1) : Rel A' B' (A' 27 1) := by
  obtain ⟨z0, t, p, f, u, g, s, tr, th⟩ := h
  obtain ⟨x1, x2, x3, x4, x5, x6, x7, x8, x9, x10, x11, x12, x13⟩ := hX
  obtain ⟨m1, m2, m3, m4, m5, m6, m7, m8, m9, m10, m11, m12, m13⟩ := hM
  obtain ⟨d1, d2, d3, d4, d5, d6, d7⟩ := hD
  have hbn := bp_nn (n := d 0 3) (s := d 0 4) (by omega) d2.1
  have hb24 := bp_24 (n := d 0 3) (s := d 0 4) (by omega) d1.2 d2.1 d2.2
  have cs : ∀ q, 0 ≤ q → q < bp (d 0 3) (d 0 4) + d 0 5 → (∃ s k, (0 ≤ s ∧ s < d 0 4) ∧ (0 ≤ k ∧ k < d 0 3) ∧ q = bp (d 0 3) s + k) ∨ ∃ j, 0 ≤ j ∧ j < d 0 5 ∧ q = bp (d 0 3) (d 0 4) + j := by
    intro q a b
    by_cases e : q < bp (d 0 3) (d 0 4)
    · left
      have e2 : (((d 0 4).toNat : Nat) : Int) = d 0 4 := by omega
      obtain ⟨s, k, h1, h2, h3⟩ := bp_ex (n := d 0 3) (by omega) (d 0 4).toNat q a (by rw [e2]; exact e)
      exact ⟨s, k, by omega, h2, h3⟩
    · exact Or.inr ⟨q - bp (d 0 3) (d 0 4), by omega, by omega, by omega⟩
  refine ⟨by rw [x4]; omega, ?_, ?_, ?_, ?_, ?_, ?_, ?_, ?_⟩
  · unfold RT
    rw [x12, m11, hA 16 (by decide), hB 119 (by decide)]
    exact ⟨rfl, by omega, t.2.2.1, fun i a b => by omega⟩
  · unfold RP
    rw [x1, m1]
    refine ⟨rfl, d1, fun k a b => ?_⟩
    rw [(x2 k a b).1, (x2 k a b).2, (m2 k a b).1, (m2 k a b).2]
    exact ⟨⟨rfl, rfl⟩, d5 k a b⟩
  · unfold RF
    rw [x1]
    refine ⟨FR.z ?_ ?_ ?_ (fun q a b => ?_) (fun i a b => ?_) (fun i j i0 i1 j0 j1 => ?_), ?_, ?_, ?_, fun q a b => ?_, fun i j i0 i1 j0 j1 => ?_⟩
    · rw [x3, m3]
    · rw [x4, m4]
    · rw [x5, m5]
    · rw [x4] at b
      rcases cs q a b with ⟨s, k, s1, k1, e⟩ | ⟨j, j0, j1, e⟩
      · obtain ⟨e1, e2, e3, e4, e5⟩ := x7 s k s1.1 k1.1 k1.2 (Or.inl s1.2)
        obtain ⟨f1, f2, f3, f4, f5⟩ := m7 s k s1.1 k1.1 k1.2 (Or.inl s1.2)
        rw [e, e1, e2, e3, e4, f1, f2, f3, f4]
        exact ⟨rfl, rfl, rfl, rfl⟩
      · obtain ⟨e1, e2, e3, e4⟩ := x8 j j0 j1
        obtain ⟨f1, f2, f3, f4⟩ := m8 j j0 j1
        rw [e, e1, e2, e3, e4, f1, f2, f3, f4]
        exact ⟨rfl, rfl, rfl, rfl⟩
    · rw [x5] at b
      rw [x6 i a b, m6 i a b]
    · rw [x5] at i1
      rw [(x7 i j i0 j0 j1 (Or.inl i1)).2.2.2.2, (m7 i j i0 j0 j1 (Or.inl i1)).2.2.2.2]
    · rw [x4]; omega
    · rw [x5]; omega
    · rw [x3]; omega
    · show (0 ≤ A' 28 q ∧ A' 28 q < d 0 3) ∧ isMk (A' 29 q) ∧ (0 ≤ A' 30 q ∧ A' 30 q ≤ A' 27 0 + 30) ∧ (0 ≤ A' 31 q ∧ A' 31 q ≤ 9) ∧ (A' 27 1 ≤ q → A' 29 q = 9)
      rw [x3]
      refine ⟨?_, ?_, ?_, ?_, fun w => by omega⟩ <;> rw [x4] at b <;> rcases cs q a b with ⟨s, k, s1, k1, e⟩ | ⟨j, j0, j1, e⟩
      · rw [e, (x7 s k s1.1 k1.1 k1.2 (Or.inl s1.2)).1]; exact k1
      · rw [e, (x8 j j0 j1).1]; exact (d7 j j0 j1).1
      · rw [e, (x7 s k s1.1 k1.1 k1.2 (Or.inl s1.2)).2.1]; exact Or.inl (by omega)
      · rw [e, (x8 j j0 j1).2.1]; exact (d7 j j0 j1).2.1
      · rw [e, (x7 s k s1.1 k1.1 k1.2 (Or.inl s1.2)).2.2.1]; omega
      · have := (d7 j j0 j1).2.2
        rw [e, (x8 j j0 j1).2.2.1]; omega
      · rw [e, (x7 s k s1.1 k1.1 k1.2 (Or.inl s1.2)).2.2.2.1]; omega
      · rw [e, (x8 j j0 j1).2.2.2]; omega
    · rw [x5] at i1
      show (0 ≤ A' 33 (i * 6 + j) ∧ A' 33 (i * 6 + j) < A' 27 1) ∧ A' 31 (A' 33 (i * 6 + j)) = i ∧ A' 28 (A' 33 (i * 6 + j)) = j
      obtain ⟨e1, e2, e3, e4, e5⟩ := x7 i j i0 j0 j1 (Or.inl i1)
      have y1 := bp_nn (n := d 0 3) (s := i) (by omega) i0
      have y2 := bp_mono (n := d 0 3) (s := i) (i := d 0 4) (by omega) (by omega)
      rw [e5, x4, e4, e1]
      exact ⟨by omega, rfl, rfl⟩
  · unfold RU
    rw [x9, h11 1 (by decide)]
    exact ⟨m9.symm, by omega, u.2.2.1, fun j a b => by omega⟩
  · intro i i0 i1
    rcases (by omega : i = 0 ∨ i = 1) with e | e <;> subst e
    · rw [x10, m12]; exact ⟨rfl, fun w => absurd rfl w⟩
    · rw [x11, m13]; exact ⟨rfl, fun w => absurd rfl w⟩
  · unfold RS
    rw [x13, m10]
    exact ⟨rfl, by omega, fun i a b => by omega⟩
  · rw [hA 13 (by decide), hb1]
    exact tr
  · rw [hb0]
    exact th
