theorem fs_core {A B : St} {b k : Int} (h : Rel A B b) (hk : 0 ≤ k ∧ k < A 1 0) (h48 : A 27 1 < 48) : Rel (up (up (up (up (up A 28 (A 27 1) k) 29 (A 27 1) 9) 30 (A 27 1) 0) 31 (A 27 1) 8) 27 1 (A 27 1 + 1)) (cmS B k 9 0 8) b := by
  obtain ⟨⟨c0, c1, c2⟩, c3, c4, c5⟩ := h.cur
  have hI := h.2.2.2.1.2
  have hn6 := h.2.2.1.2.1
  obtain ⟨a1, a2, a3, a4, a5⟩ := hI
  have q1 : b ≤ A 27 1 ∧ 0 ≤ A 27 1 := ⟨a1.1, a1.2.1⟩
  have hc : cmS B k 9 0 8 = cmW B (A 27 1) k 9 0 8 := by
    unfold cmS cmW
    rw [c1]
  rw [hc]
  generalize hP : A 27 1 = P at *
  have w5 := fun j => cmW_5 (V := B) (p := P) (k := k) (m := 9) (a := 0) (w := 8) (j := j) ⟨q1.2, h48⟩
  have r27 : ∀ i, i ≠ 1 → up (up (up (up (up A 28 P k) 29 P 9) 30 P 0) 31 P 8) 27 1 (P + 1) 27 i = A 27 i := fun i x => by rw [up_i x, up_c (by decide), up_c (by decide), up_c (by decide), up_c (by decide)]
  have r27' : up (up (up (up (up A 28 P k) 29 P 9) 30 P 0) 31 P 8) 27 1 (P + 1) 27 1 = P + 1 := up_s _ _ _ _
  have r28 : ∀ q, up (up (up (up (up A 28 P k) 29 P 9) 30 P 0) 31 P 8) 27 1 (P + 1) 28 q = if q = P then k else A 28 q := fun q => by
    rw [up_c (by decide), up_c (by decide), up_c (by decide), up_c (by decide)]
    by_cases e : q = P
    · rw [if_pos e, e, up_s]
    · rw [if_neg e, up_i e]
  have r29 : ∀ q, up (up (up (up (up A 28 P k) 29 P 9) 30 P 0) 31 P 8) 27 1 (P + 1) 29 q = if q = P then 9 else A 29 q := fun q => by
    rw [up_c (by decide), up_c (by decide), up_c (by decide)]
    by_cases e : q = P
    · rw [if_pos e, e, up_s]
    · rw [if_neg e, up_i e, up_c (by decide)]
  have r30 : ∀ q, up (up (up (up (up A 28 P k) 29 P 9) 30 P 0) 31 P 8) 27 1 (P + 1) 30 q = if q = P then 0 else A 30 q := fun q => by
    rw [up_c (by decide), up_c (by decide)]
    by_cases e : q = P
    · rw [if_pos e, e, up_s]
    · rw [if_neg e, up_i e, up_c (by decide), up_c (by decide)]
  have r31 : ∀ q, up (up (up (up (up A 28 P k) 29 P 9) 30 P 0) 31 P 8) 27 1 (P + 1) 31 q = if q = P then 8 else A 31 q := fun q => by
    rw [up_c (by decide)]
    by_cases e : q = P
    · rw [if_pos e, e, up_s]
    · rw [if_neg e, up_i e, up_c (by decide), up_c (by decide), up_c (by decide)]
  have row : ∀ c, c ≠ 27 → c ≠ 28 → c ≠ 29 → c ≠ 30 → c ≠ 31 → up (up (up (up (up A 28 P k) 29 P 9) 30 P 0) 31 P 8) 27 1 (P + 1) c = A c := fun c x1 x2 x3 x4 x5 => by rw [up_row x1, up_row x5, up_row x4, up_row x3, up_row x2]
  generalize up (up (up (up (up A 28 P k) 29 P 9) 30 P 0) 31 P 8) 27 1 (P + 1) = A' at *
  have e32 := row 32 (by decide) (by decide) (by decide) (by decide) (by decide)
  have e33 := row 33 (by decide) (by decide) (by decide) (by decide) (by decide)
  refine h.cr (fun c hc => row c (by omega) (by omega) (by omega) (by omega) (by omega)) (fun c x y => cmW_c x y) (fun q => ?_) (FR.z ?_ ?_ ?_ (fun q x y => ?_) (fun t x y => ?_) (fun t j t0 t1 j0 j1 => ?_)) ⟨?_, ?_, ?_, fun q x y => ?_, fun t j t0 t1 j0 j1 => ?_⟩
  · rw [cmW_4]
    by_cases e : q = P
    · rw [if_pos e]; exact Or.inr ⟨by omega, rfl⟩
    · rw [if_neg e]; exact Or.inl rfl
  · rw [r27 0 (by decide), w5, if_neg (by decide), if_neg (by omega), if_neg (by omega), if_neg (by omega)]; exact c0
  · rw [r27', w5, if_pos rfl]
  · rw [r27 2 (by decide), w5, if_neg (by decide), if_neg (by omega), if_neg (by omega), if_neg (by omega)]; exact c2
  · rw [r27'] at y
    rw [r28, r29, r30, r31, w5, w5, w5, cmW_4]
    by_cases e : q = P
    · rw [if_pos e, if_pos e, if_pos e, if_pos e, if_neg (by omega), if_pos (by omega), if_neg (by omega), if_neg (by omega), if_pos (by omega), if_neg (by omega), if_neg (by omega), if_neg (by omega), if_pos (by omega), if_pos e]
      exact ⟨rfl, rfl, rfl, rfl⟩
    · obtain ⟨f1, f2, f3, f4⟩ := c3 q x (by omega)
      rw [if_neg e, if_neg e, if_neg e, if_neg e, if_neg (by omega), if_neg (by omega), if_neg (by omega), if_neg (by omega), if_neg (by omega), if_neg (by omega), if_neg (by omega), if_neg (by omega), if_neg (by omega), if_neg (by omega), if_neg (by omega), if_neg (by omega), if_neg e]
      exact ⟨f1, f2, f3, f4⟩
  · rw [r27 2 (by decide)] at y
    rw [e32, w5, if_neg (by omega), if_neg (by omega), if_neg (by omega), if_neg (by omega)]
    exact c4 t x y
  · rw [r27 2 (by decide)] at t1
    rw [e33, w5, if_neg (by omega), if_neg (by omega), if_neg (by omega), if_neg (by omega)]
    exact c5 t j t0 t1 j0 j1
  · rw [r27']; omega
  · rw [r27 2 (by decide)]; exact a2
  · rw [r27 0 (by decide)]; exact a3
  · rw [r27'] at y
    show (0 ≤ A' 28 q ∧ A' 28 q < A 1 0) ∧ isMk (A' 29 q) ∧ (0 ≤ A' 30 q ∧ A' 30 q ≤ A' 27 0 + 30) ∧ (0 ≤ A' 31 q ∧ A' 31 q ≤ 9) ∧ (b ≤ q → A' 29 q = 9)
    rw [r28, r29, r30, r31, r27 0 (by decide)]
    by_cases e : q = P
    · rw [if_pos e, if_pos e, if_pos e, if_pos e]
      have z : 0 ≤ A 27 0 := a3.1
      exact ⟨hk, Or.inr rfl, ⟨by omega, by omega⟩, by omega, fun _ => rfl⟩
    · rw [if_neg e, if_neg e, if_neg e, if_neg e]
      exact a4 q x (by omega)
  · rw [r27 2 (by decide)] at t1
    show (0 ≤ A' 33 (t * 6 + j) ∧ A' 33 (t * 6 + j) < A' 27 1) ∧ A' 31 (A' 33 (t * 6 + j)) = t ∧ A' 28 (A' 33 (t * 6 + j)) = j
    obtain ⟨f1, f2, f3⟩ := a5 t j t0 t1 j0 j1
    have f1 : 0 ≤ A 33 (t * 6 + j) ∧ A 33 (t * 6 + j) < P := f1
    rw [e33, r27', r31, r28, if_neg (by omega), if_neg (by omega)]
    exact ⟨by omega, f2, f3⟩
theorem cmS_congr {B S1 : St} {k m a w : Int} (h : S1 125 1 = B 125 1) : cmS S1 k m a w = cmW S1 (B 125 1) k m a w := by
  unfold cmS cmW
  rw [h]
theorem rl_fresh {A A' B B' : St} {b k r r' : Int} (h : Rel A B b) (hp : (¬ (0 ≤ k ∧ k < A 1 0) ∧ r = -1 ∧ A' = A) ∨ ((0 ≤ k ∧ k < A 1 0) ∧ 48 ≤ A 27 1 ∧ r = -3 ∧ A' = A) ∨ ((0 ≤ k ∧ k < A 1 0) ∧ A 27 1 < 48 ∧ r = A 27 1 ∧ ∃ S1, Rmb A S1 ∧ A' = up (up (up (up (up S1 28 (A 27 1) k) 29 (A 27 1) 9) 30 (A 27 1) 0) 31 (A 27 1) 8) 27 1 (A 27 1 + 1))) (hq : (¬ (0 ≤ k ∧ k < B 118 13) ∧ r' = -1 ∧ B' = B) ∨ ((0 ≤ k ∧ k < B 118 13) ∧ 48 ≤ B 125 1 ∧ r' = -3 ∧ B' = B) ∨ ((0 ≤ k ∧ k < B 118 13) ∧ B 125 1 < 48 ∧ r' = B 125 1 ∧ ∃ S1, Nts B S1 ∧ B' = cmS S1 k 9 0 8)) : Rls A' B' r r' := by
  obtain ⟨⟨c0, c1, c2⟩, c3, c4, c5⟩ := h.cur
  have hn := h.2.2.1.1
  rw [← c1, ← hn] at hq
  rcases hp with ⟨p1, p2, p3⟩ | ⟨p1, p2, p3, p4⟩ | ⟨p1, p2, p3, S1, p4, p5⟩ <;> rcases hq with ⟨q1, q2, q3⟩ | ⟨q1, q2, q3, q4⟩ | ⟨q1, q2, q3, S2, q4, q5⟩ <;> first | exact absurd p1 q1 | exact absurd q1 p1 | (exfalso; omega) | skip
  · rw [p3, q3]; exact ⟨by omega, b, h⟩
  · rw [p4, q4]; exact ⟨by omega, b, h⟩
  · refine ⟨by omega, b, ?_⟩
    have hl := fun (c : Nat) (h1 : c < 48) (h2 : c ≠ 11) => p4.low h1 h2
    have := fs_core (k := k) (h.rm p4 q4) (by rw [hl 1 (by decide) (by decide)]; exact p1) (by rw [hl 27 (by decide) (by decide)]; exact p2)
    rw [hl 27 (by decide) (by decide)] at this
    rw [p5, q5]
    exact this
theorem Fst.d {c : Int → Prop} {n d d' r : Int} (h : Fst c n d r) (he : ∃ q, 0 ≤ q ∧ q < n ∧ c q) : Fst c n d' r ∧ 0 ≤ r ∧ r < n ∧ c r := by
  rcases h with h | h
  · exact ⟨Or.inl h, h.1, h.2.1, h.2.2.1⟩
  · obtain ⟨q, q0, q1, q2⟩ := he
    exact absurd q2 (h.2 q q0 q1)
theorem Fst.uniq {c c' : Int → Prop} {n d r r' : Int} (hc : ∀ q, 0 ≤ q → q < n → (c q ↔ c' q)) (h : Fst c n d r) (h' : Fst c' n d r') : r = r' := by
  rcases h with ⟨a1, a2, a3, a4⟩ | ⟨a1, a2⟩ <;> rcases h' with ⟨b1, b2, b3, b4⟩ | ⟨b1, b2⟩
  · rcases Int.lt_trichotomy r r' with z | z | z
    · exact absurd ((hc r a1 a2).mp a3) (b4 r a1 z)
    · exact z
    · exact absurd ((hc r' b1 b2).mpr b3) (a4 r' b1 z)
  · exact absurd ((hc r a1 a2).mp a3) (b2 r a1 a2)
  · exact absurd ((hc r' b1 b2).mpr b3) (a2 r' b1 b2)
  · omega
