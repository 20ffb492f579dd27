def Rls (A B : St) (r r' : Int) : Prop := r = r' ∧ ∃ b, Rel A B b
theorem Rel.ot {A A' B B' : St} {b : Int} (h : Rel A B b) (hA : ∀ c, c ∉ [0, 13, 16, 25, 26] → A' c = A c) (hB : ∀ c, c ∉ [118, 119, 129, 130] → B' c = B c) (h22 : B' 118 22 = B 118 22) (h13 : B' 118 13 = B 118 13) (h0 : B' 118 0 = 0) (hT : RT A' B') (hS : RS A' B') (htr : A' 13 2 = B' 118 1) : Rel A' B' b := by
  obtain ⟨z0, t, p, f, u, g, s, tr, th⟩ := h
  have n6 : A 1 0 ≤ 6 := p.2.1.2
  have cpF : ∀ c, 26 < c → Cp A A' c c := fun c x => Cp.row (fun e he => hA (c + e) (by simp; omega))
  have b124 : ∀ q, B' 124 q = B 124 q := fun q => by rw [hB 124 (by decide)]
  refine ⟨z0, hT, ?_, ?_, ?_, ?_, hS, htr, h0⟩
  · unfold RP
    rw [hA 1 (by decide), hA 2 (by decide), hA 3 (by decide), h13, hB 120 (by decide), hB 121 (by decide)]
    exact p
  · unfold RF
    rw [hA 1 (by decide)]
    exact ⟨f.1.to f.2 n6 (cpF 27 (by decide)) (fun i _ _ => by rw [hB 125 (by decide)]) (fun q _ _ => b124 q), f.2.to n6 (cpF 27 (by decide))⟩
  · unfold RU
    rw [hA 11 (by decide), hA 1 (by decide), h22]
    refine ⟨u.1, u.2.1, u.2.2.1, fun j j0 j1 => ?_⟩
    have hb := uC_bd (A 11 1) (A 11 2) j
    obtain ⟨x, y⟩ := u.2.2.2 j j0 j1
    exact ⟨x.to y n6 (cpF _ (by omega)) (fun i _ _ => by rw [hB 128 (by decide)]) (fun q _ _ => b124 q), y.to n6 (cpF _ (by omega))⟩
  · unfold RG
    rw [hA 15 (by decide), hA 1 (by decide), hB 127 (by decide)]
    intro i i0 i1
    refine ⟨(g i i0 i1).1, fun z => ?_⟩
    obtain ⟨x, y⟩ := (g i i0 i1).2 z
    exact ⟨x.to y n6 (cpF _ (by omega)) (fun i _ _ => by rw [hB 126 (by decide)]) (fun q _ _ => b124 q), y.to n6 (cpF _ (by omega))⟩
theorem nu {S : St} {c c' : Nat} {i v : Int} {l : List Nat} (hc : c ∈ l) (h : c' ∉ l) : up S c i v c' = S c' := up_row (fun z => h (by rw [z]; exact hc))
theorem rl_type {A A' B B' : St} {b l r r' : Int} (h : Rel A B b) (hp : (¬ (0 ≤ l ∧ l ≤ 255) ∧ r = -1 ∧ A' = A) ∨ ((0 ≤ l ∧ l ≤ 255) ∧ 200 ≤ A 0 12 ∧ r = -3 ∧ A' = A) ∨ ((0 ≤ l ∧ l ≤ 255) ∧ A 0 12 < 200 ∧ r = A 0 12 + 1 ∧ A' = up (up A 16 (A 0 12) l) 0 12 (A 0 12 + 1))) (hq : (¬ (0 ≤ l ∧ l ≤ 255) ∧ r' = -1 ∧ B' = B) ∨ ((0 ≤ l ∧ l ≤ 255) ∧ 200 ≤ B 118 3 ∧ r' = -3 ∧ B' = B) ∨ ((0 ≤ l ∧ l ≤ 255) ∧ B 118 3 < 200 ∧ r' = B 118 3 + 1 ∧ B' = up (up B 119 (B 118 3) l) 118 3 (B 118 3 + 1))) : Rls A' B' r r' := by
  obtain ⟨t1, t2, t3, t4⟩ := h.2.1
  rcases hp with ⟨p1, p2, p3⟩ | ⟨p1, p2, p3, p4⟩ | ⟨p1, p2, p3, p4⟩ <;> rcases hq with ⟨q1, q2, q3⟩ | ⟨q1, q2, q3, q4⟩ | ⟨q1, q2, q3, q4⟩ <;> first | (exfalso; omega) | skip
  · rw [p3, q3]; exact ⟨by omega, b, h⟩
  · rw [p4, q4]; exact ⟨by omega, b, h⟩
  · refine ⟨by omega, b, ?_⟩
    rw [p4, q4]
    refine h.ot (fun c hc => by rw [nu (by decide) hc, nu (by decide) hc]) (fun c hc => by rw [nu (by decide) hc, nu (by decide) hc]) rfl rfl h.2.2.2.2.2.2.2.2 ⟨?_, ?_, ?_, ?_⟩ h.2.2.2.2.2.2.1 h.2.2.2.2.2.2.2.1
    · rw [up_s, up_s, t1]
    · rw [up_s]; omega
    · rw [up_row (by decide), up_row (c' := 119) (by decide), ← t1]
      funext i
      unfold up
      rw [t3]
      rfl
    · rw [up_s, up_row (by decide)]
      intro i x y
      by_cases e : i = A 0 12
      · rw [e, up_s]; exact p1
      · rw [up_i e]; exact t4 i x (by omega)
theorem rl_clear {A B : St} {b : Int} (h : Rel A B b) : Rls (up A 0 12 0) (up B 118 3 0) (A 0 12) (B 118 3) := by
  obtain ⟨t1, t2, t3, t4⟩ := h.2.1
  refine ⟨t1, b, h.ot (fun c hc => nu (by decide) hc) (fun c hc => nu (by decide) hc) rfl rfl h.2.2.2.2.2.2.2.2 ⟨rfl, ⟨by rw [up_s]; omega, by rw [up_s]; omega⟩, t3, fun i x y => ?_⟩ h.2.2.2.2.2.2.1 h.2.2.2.2.2.2.2.1⟩
  rw [up_s] at y
  omega
theorem rl_forget {A B : St} {b : Int} (h : Rel A B b) : Rls (up A 0 13 0) (up B 118 25 0) (A 0 13) (B 118 25) := by
  obtain ⟨s1, s2, s3⟩ := h.2.2.2.2.2.2.1
  refine ⟨s1, b, h.ot (fun c hc => nu (by decide) hc) (fun c hc => nu (by decide) hc) rfl rfl h.2.2.2.2.2.2.2.2 h.2.1 ⟨rfl, ⟨by rw [up_s]; omega, by rw [up_s]; omega⟩, fun i x y => ?_⟩ h.2.2.2.2.2.2.2.1⟩
  rw [up_s] at y
  omega
theorem rl_saw {A A' B B' : St} {b k m r r' : Int} (h : Rel A B b) (hp : (¬ ((0 ≤ k ∧ k < A 1 0) ∧ isMk m) ∧ r = -1 ∧ A' = A) ∨ (((0 ≤ k ∧ k < A 1 0) ∧ isMk m) ∧ 6 ≤ A 0 13 ∧ r = -3 ∧ A' = A) ∨ (((0 ≤ k ∧ k < A 1 0) ∧ isMk m) ∧ A 0 13 < 6 ∧ r = A 0 13 + 1 ∧ A' = up (up (up A 25 (A 0 13) k) 26 (A 0 13) m) 0 13 (A 0 13 + 1))) (hq : (¬ ((0 ≤ k ∧ k < B 118 13) ∧ isMk m) ∧ r' = -1 ∧ B' = B) ∨ (((0 ≤ k ∧ k < B 118 13) ∧ isMk m) ∧ 6 ≤ B 118 25 ∧ r' = -3 ∧ B' = B) ∨ (((0 ≤ k ∧ k < B 118 13) ∧ isMk m) ∧ B 118 25 < 6 ∧ r' = B 118 25 + 1 ∧ B' = up (up (up B 129 (B 118 25) k) 130 (B 118 25) m) 118 25 (B 118 25 + 1))) : Rls A' B' r r' := by
  obtain ⟨s1, s2, s3⟩ := h.2.2.2.2.2.2.1
  have hn := h.2.2.1.1
  rw [← hn, ← s1] at hq
  rcases hp with ⟨p1, p2, p3⟩ | ⟨p1, p2, p3, p4⟩ | ⟨p1, p2, p3, p4⟩ <;> rcases hq with ⟨q1, q2, q3⟩ | ⟨q1, q2, q3, q4⟩ | ⟨q1, q2, q3, q4⟩ <;> first | exact absurd p1 q1 | exact absurd q1 p1 | (exfalso; omega) | skip
  · rw [p3, q3]; exact ⟨by omega, b, h⟩
  · rw [p4, q4]; exact ⟨by omega, b, h⟩
  · refine ⟨by omega, b, ?_⟩
    rw [p4, q4]
    refine h.ot (fun c hc => by rw [nu (by decide) hc, nu (by decide) hc, nu (by decide) hc]) (fun c hc => by rw [nu (by decide) hc, nu (by decide) hc, nu (by decide) hc]) rfl rfl h.2.2.2.2.2.2.2.2 h.2.1 ⟨?_, ?_, ?_⟩ h.2.2.2.2.2.2.2.1
    · rw [up_s, up_s]
    · rw [up_s]; omega
    · rw [up_s]
      intro i x y
      show (up (up A 25 (A 0 13) k) 26 (A 0 13) m 25 i = up (up B 129 (A 0 13) k) 130 (A 0 13) m 129 i ∧ up (up A 25 (A 0 13) k) 26 (A 0 13) m 26 i = up (up B 129 (A 0 13) k) 130 (A 0 13) m 130 i) ∧ 0 ≤ up (up A 25 (A 0 13) k) 26 (A 0 13) m 25 i ∧ up (up A 25 (A 0 13) k) 26 (A 0 13) m 25 i < A 1 0
      rw [up_c (c := 26) (c' := 25) (by decide), up_c (c := 130) (c' := 129) (by decide)]
      by_cases e : i = A 0 13
      · rw [e, up_s, up_s, up_s, up_s]; exact ⟨⟨rfl, rfl⟩, p1.1⟩
      · rw [up_i e, up_i e, up_i e, up_i e, up_c (by decide), up_c (by decide)]; exact s3 i x (by omega)
theorem rl_rate {A A' B B' : St} {b kind p r r' : Int} (h : Rel A B b) (hp : (((0 ≤ kind ∧ kind ≤ 5) ∧ (0 ≤ p ∧ p < A 27 1) ∧ A 31 p ≠ 9) ∧ r = rateF kind (A 30 p) (A 2 (A 28 p)) (A 3 (A 28 p)) (A 29 p) (lyA (A 27 1) (A 31)) ∧ A' = up A 13 2 (A 13 2 + trF kind)) ∨ (¬ ((0 ≤ kind ∧ kind ≤ 5) ∧ (0 ≤ p ∧ p < A 27 1) ∧ A 31 p ≠ 9) ∧ r = -1000000 ∧ A' = A)) (hq : (((0 ≤ kind ∧ kind ≤ 5) ∧ (0 ≤ p ∧ p < B 125 1) ∧ mWh B p ≠ 9) ∧ r' = rateF kind (mAg B p) (B 120 (mPl B p)) (B 121 (mPl B p)) (B 124 p) (lyA (B 125 1) (mWh B)) ∧ B' = up B 118 1 (B 118 1 + trF kind)) ∨ (¬ ((0 ≤ kind ∧ kind ≤ 5) ∧ (0 ≤ p ∧ p < B 125 1) ∧ mWh B p ≠ 9) ∧ r' = -1000000 ∧ B' = B)) : Rls A' B' r r' := by
  obtain ⟨⟨c0, c1, c2⟩, c3, _⟩ := h.cur
  have hv := h.ve
  rw [← c1] at hq
  rcases hp with ⟨p1, p2, p3⟩ | ⟨p1, p2, p3⟩ <;> rcases hq with ⟨q1, q2, q3⟩ | ⟨q1, q2, q3⟩
  · obtain ⟨e1, e2, e3, e4⟩ := c3 p p1.2.1.1 p1.2.1.2
    have hx := (h.xi).2.2.2.2.2.1 p p1.2.1.1 p1.2.1.2
    have hn := h.2.2.1.2.1
    have hw := (h.2.2.1.2.2 (A 28 p) hx.1.1 (by omega)).1
    refine ⟨?_, b, ?_⟩
    · rw [p2, q2, ← e2, ← e3, ← e4, hw.1, hw.2, hv.qyA]
    · rw [p3, q3]
      refine h.ot (fun c hc => nu (by decide) hc) (fun c hc => nu (by decide) hc) rfl rfl h.2.2.2.2.2.2.2.2 h.2.1 h.2.2.2.2.2.2.1 ?_
      rw [up_s, up_s, h.2.2.2.2.2.2.2.1]
  · exact absurd ⟨p1.1, p1.2.1, by rw [← (c3 p p1.2.1.1 p1.2.1.2).1]; exact p1.2.2⟩ q1
  · exact absurd ⟨q1.1, q1.2.1, by rw [(c3 p q1.2.1.1 q1.2.1.2).1]; exact q1.2.2⟩ p1
  · rw [p3, q3]; exact ⟨by omega, b, h⟩
theorem rp_core {A B : St} {b s p : Int} (h : Rel A B b) (hs : 0 ≤ s ∧ s < A 27 2) (hp : 0 ≤ p ∧ p < A 27 1) (h8 : A 31 p = 8) : Rel (up (up (up A 31 (A 33 (s * 6 + A 28 p)) 8) 33 (s * 6 + A 28 p) p) 31 p s) (up (up (up B 125 (99 + 6 * s + A 28 p) p) 125 (3 + p) s) 125 (3 + A 33 (s * 6 + A 28 p)) 8) b := by
  obtain ⟨⟨c0, c1, c2⟩, c3, c4, c5⟩ := h.cur
  have hn := h.2.2.1.2.1
  have hI := h.2.2.2.1.2
  obtain ⟨a1, a2, a3, a4, a5⟩ := hI
  have k := (a4 p hp.1 hp.2).1
  have k0 : 0 ≤ A 28 p := k.1
  have k1 : A 28 p < A 1 0 := k.2
  obtain ⟨w1, w2, w3⟩ := a5 s (A 28 p) hs.1 hs.2 k0 k1
  have w1 : 0 ≤ A 33 (s * 6 + A 28 p) ∧ A 33 (s * 6 + A 28 p) < A 27 1 := w1
  have w2 : A 31 (A 33 (s * 6 + A 28 p)) = s := w2
  have w3 : A 28 (A 33 (s * 6 + A 28 p)) = A 28 p := w3
  generalize hw : A 33 (s * 6 + A 28 p) = w at w1 w2 w3
  have hwp : w ≠ p := fun z => by rw [z, h8] at w2; omega
  have e31 : ∀ q, up (up (up A 31 w 8) 33 (s * 6 + A 28 p) p) 31 p s 31 q = if q = p then s else if q = w then 8 else A 31 q := by
    intro q
    by_cases e : q = p
    · rw [if_pos e, e, up_s]
    · rw [if_neg e, up_i e, up_c (by decide)]
      by_cases e2 : q = w
      · rw [if_pos e2, e2, up_s]
      · rw [if_neg e2, up_i e2]
  have e33 : ∀ i, up (up (up A 31 w 8) 33 (s * 6 + A 28 p) p) 31 p s 33 i = if i = s * 6 + A 28 p then p else A 33 i := by
    intro i
    rw [up_c (by decide)]
    by_cases e : i = s * 6 + A 28 p
    · rw [if_pos e, e, up_s]
    · rw [if_neg e, up_i e, up_c (by decide)]
  have row : ∀ c, c ≠ 31 → c ≠ 33 → up (up (up A 31 w 8) 33 (s * 6 + A 28 p) p) 31 p s c = A c := fun c x y => by rw [up_row x, up_row y, up_row x]
  have e125 : ∀ i, up (up (up B 125 (99 + 6 * s + A 28 p) p) 125 (3 + p) s) 125 (3 + w) 8 125 i = if i = 3 + w then 8 else if i = 3 + p then s else if i = 99 + 6 * s + A 28 p then p else B 125 i := by
    intro i
    by_cases e : i = 3 + w
    · rw [if_pos e, e, up_s]
    · rw [if_neg e, up_i e]
      by_cases e2 : i = 3 + p
      · rw [if_pos e2, e2, up_s]
      · rw [if_neg e2, up_i e2]
        by_cases e3 : i = 99 + 6 * s + A 28 p
        · rw [if_pos e3, e3, up_s]
        · rw [if_neg e3, up_i e3]
  have rowB : ∀ c, c ≠ 125 → up (up (up B 125 (99 + 6 * s + A 28 p) p) 125 (3 + p) s) 125 (3 + w) 8 c = B c := fun c x => by rw [up_row x, up_row x, up_row x]
  have q2 : A 27 2 ≤ 6 := a2.2
  have q1 : A 27 1 ≤ 48 := a1.2.2
  refine h.cr (fun c hc => row c (by omega) (by omega)) (fun c _ hc => rowB c hc) (fun q => Or.inl (by rw [rowB 124 (by decide)])) (FR.z ?_ ?_ ?_ (fun q x y => ?_) (fun t x y => ?_) (fun t j t0 t1 j0 j1 => ?_)) ⟨?_, ?_, ?_, fun q x y => ?_, fun t j t0 t1 j0 j1 => ?_⟩
  · rw [row 27 (by decide) (by decide), e125, if_neg (by omega), if_neg (by omega), if_neg (by omega)]; exact c0
  · rw [row 27 (by decide) (by decide), e125, if_neg (by omega), if_neg (by omega), if_neg (by omega)]; exact c1
  · rw [row 27 (by decide) (by decide), e125, if_neg (by omega), if_neg (by omega), if_neg (by omega)]; exact c2
  · rw [row 27 (by decide) (by decide)] at y
    obtain ⟨f1, f2, f3, f4⟩ := c3 q x y
    have f1 : A 31 q = B 125 (3 + q) := f1
    have f2 : A 30 q = B 125 (51 + q) := f2
    have f3 : A 28 q = B 125 (141 + q) := f3
    rw [row 30 (by decide) (by decide), row 28 (by decide) (by decide), row 29 (by decide) (by decide), rowB 124 (by decide), e31, e125, e125, e125]
    refine ⟨?_, ?_, ?_, f4⟩
    · by_cases z1 : q = p
      · rw [if_pos z1, if_neg (by omega), if_pos (by omega)]
      · by_cases z2 : q = w
        · rw [if_neg z1, if_pos z2, if_pos (by omega)]
        · rw [if_neg z1, if_neg z2, if_neg (by omega), if_neg (by omega), if_neg (by omega)]; exact f1
    · rw [if_neg (by omega), if_neg (by omega), if_neg (by omega)]; exact f2
    · rw [if_neg (by omega), if_neg (by omega), if_neg (by omega)]; exact f3
  · rw [row 27 (by decide) (by decide)] at y
    rw [row 32 (by decide) (by decide), e125, if_neg (by omega), if_neg (by omega), if_neg (by omega)]
    exact c4 t x y
  · rw [row 27 (by decide) (by decide)] at t1
    rw [e33, e125, if_neg (show ¬ 99 + (t * 6 + j) = 3 + w by omega), if_neg (show ¬ 99 + (t * 6 + j) = 3 + p by omega)]
    by_cases z : t * 6 + j = s * 6 + A 28 p
    · rw [if_pos z, if_pos (by omega)]
    · rw [if_neg z, if_neg (by omega)]; exact c5 t j t0 t1 j0 j1
  · rw [row 27 (by decide) (by decide)]; exact a1
  · rw [row 27 (by decide) (by decide)]; exact a2
  · rw [row 27 (by decide) (by decide)]; exact a3
  · rw [row 27 (by decide) (by decide)] at y ⊢
    obtain ⟨f1, f2, f3, f4, f5⟩ := a4 q x y
    show (0 ≤ up (up (up A 31 w 8) 33 (s * 6 + A 28 p) p) 31 p s 28 q ∧ _) ∧ isMk (up (up (up A 31 w 8) 33 (s * 6 + A 28 p) p) 31 p s 29 q) ∧ (0 ≤ up (up (up A 31 w 8) 33 (s * 6 + A 28 p) p) 31 p s 30 q ∧ _) ∧ (0 ≤ up (up (up A 31 w 8) 33 (s * 6 + A 28 p) p) 31 p s 31 q ∧ _) ∧ (b ≤ q → up (up (up A 31 w 8) 33 (s * 6 + A 28 p) p) 31 p s 29 q = 9)
    refine ⟨f1, f2, f3, ?_, f5⟩
    have g : 0 ≤ A 31 q ∧ A 31 q ≤ 9 := f4
    show 0 ≤ up (up (up A 31 w 8) 33 (s * 6 + A 28 p) p) 31 p s 31 q ∧ up (up (up A 31 w 8) 33 (s * 6 + A 28 p) p) 31 p s 31 q ≤ 9
    rw [e31]
    (repeat' split) <;> omega
  · rw [row 27 (by decide) (by decide)] at t1 ⊢
    obtain ⟨f1, f2, f3⟩ := a5 t j t0 t1 j0 j1
    have f1 : 0 ≤ A 33 (t * 6 + j) ∧ A 33 (t * 6 + j) < A 27 1 := f1
    have f2 : A 31 (A 33 (t * 6 + j)) = t := f2
    have f3 : A 28 (A 33 (t * 6 + j)) = j := f3
    show (0 ≤ up (up (up A 31 w 8) 33 (s * 6 + A 28 p) p) 31 p s 33 (t * 6 + j) ∧ up (up (up A 31 w 8) 33 (s * 6 + A 28 p) p) 31 p s 33 (t * 6 + j) < A 27 1) ∧ up (up (up A 31 w 8) 33 (s * 6 + A 28 p) p) 31 p s 31 (up (up (up A 31 w 8) 33 (s * 6 + A 28 p) p) 31 p s 33 (t * 6 + j)) = t ∧ up (up (up A 31 w 8) 33 (s * 6 + A 28 p) p) 31 p s 28 (up (up (up A 31 w 8) 33 (s * 6 + A 28 p) p) 31 p s 33 (t * 6 + j)) = j
    rw [e33, row 28 (by decide) (by decide)]
    by_cases z : t * 6 + j = s * 6 + A 28 p
    · rw [if_pos z, e31, if_pos rfl]
      exact ⟨hp, by omega, by omega⟩
    · rw [if_neg z, e31]
      have n1 : A 33 (t * 6 + j) ≠ p := fun y => by rw [y, h8] at f2; omega
      have n2 : A 33 (t * 6 + j) ≠ w := fun y => by rw [y] at f2 f3; omega
      rw [if_neg n1, if_neg n2]
      exact ⟨f1, f2, f3⟩
theorem rl_replace {A A' B B' : St} {b s p r r' : Int} (h : Rel A B b) (hp : (¬ ((0 ≤ s ∧ s < A 27 2) ∧ (0 ≤ p ∧ p < A 27 1)) ∧ r = -1 ∧ A' = A) ∨ (((0 ≤ s ∧ s < A 27 2) ∧ (0 ≤ p ∧ p < A 27 1)) ∧ A 31 p ≠ 8 ∧ r = -2 ∧ A' = A) ∨ (((0 ≤ s ∧ s < A 27 2) ∧ (0 ≤ p ∧ p < A 27 1)) ∧ A 31 p = 8 ∧ r = A 33 (s * 6 + A 28 p) ∧ ∃ S1, Rmb A S1 ∧ A' = up (up (up S1 31 (A 33 (s * 6 + A 28 p)) 8) 33 (s * 6 + A 28 p) p) 31 p s)) (hq : (¬ ((0 ≤ s ∧ s < B 125 2) ∧ (0 ≤ p ∧ p < B 125 1)) ∧ r' = -1 ∧ B' = B) ∨ (((0 ≤ s ∧ s < B 125 2) ∧ (0 ≤ p ∧ p < B 125 1)) ∧ B 125 (3 + p) ≠ 8 ∧ r' = -2 ∧ B' = B) ∨ (((0 ≤ s ∧ s < B 125 2) ∧ (0 ≤ p ∧ p < B 125 1)) ∧ B 125 (3 + p) = 8 ∧ r' = mHd B (s * 6 + B 125 (141 + p)) ∧ ∃ S1, Nts B S1 ∧ B' = up (up (up S1 125 (99 + 6 * s + B 125 (141 + p)) p) 125 (3 + p) s) 125 (3 + mHd B (s * 6 + B 125 (141 + p))) 8)) : Rls A' B' r r' := by
  obtain ⟨⟨c0, c1, c2⟩, c3, c4, c5⟩ := h.cur
  rw [← c1, ← c2] at hq
  have key : (0 ≤ p ∧ p < A 27 1) → A 31 p = B 125 (3 + p) ∧ A 28 p = B 125 (141 + p) := fun z => ⟨(c3 p z.1 z.2).1, (c3 p z.1 z.2).2.2.1⟩
  rcases hp with ⟨p1, p2, p3⟩ | ⟨p1, p2, p3, p4⟩ | ⟨p1, p2, p3, S1, p4, p5⟩ <;> rcases hq with ⟨q1, q2, q3⟩ | ⟨q1, q2, q3, q4⟩ | ⟨q1, q2, q3, S2, q4, q5⟩ <;> first | exact absurd p1 q1 | exact absurd q1 p1 | (exfalso; have := key p1.2; omega) | skip
  · rw [p3, q3]; exact ⟨by omega, b, h⟩
  · rw [p4, q4]; exact ⟨by omega, b, h⟩
  · have ek := (key p1.2).2
    have hx := (h.xi).2.2.2.2.2.1 p p1.2.1 p1.2.2
    rw [← ek] at q3 q5
    rw [← c5 s (A 28 p) p1.1.1 p1.1.2 hx.1.1 hx.1.2] at q3 q5
    refine ⟨by rw [p3, q3], b, ?_⟩
    have hl := fun (c : Nat) (h1 : c < 48) (h2 : c ≠ 11) => p4.low h1 h2
    have := rp_core (s := s) (p := p) (h.rm p4 q4) (by rw [hl 27 (by decide) (by decide)]; exact p1.1) (by rw [hl 27 (by decide) (by decide)]; exact p1.2) (by rw [hl 31 (by decide) (by decide)]; exact p2)
    rw [hl 33 (by decide) (by decide), hl 28 (by decide) (by decide)] at this
    rw [p5, q5]
    exact this
