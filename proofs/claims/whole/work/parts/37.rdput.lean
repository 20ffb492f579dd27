/-! what the reader puts into its draft -/
theorem RC.put3 {S d : St} {v : Int} (h : RC S d) (h0 : 2 ≤ v) (h1 : v ≤ 6) : RC (up S 18 0 v) (up d 0 3 v) := by
  obtain ⟨⟨⟨a1, a2, a3⟩, h2, h3, h4, h5⟩, h6, h7⟩ := h
  refine ⟨⟨⟨?_, ?_, ?_⟩, by rw [up_s]; omega, ?_, ?_, ?_⟩, ?_, fun z => ?_⟩
  · rw [up_c (by decide)]; exact a1
  · rw [up_c (by decide), up_c (by decide)]; exact a2
  · rw [up_c (by decide), up_row (by decide)]; exact a3
  · rw [up_c (by decide)]; exact h3
  · rw [up_c (by decide)]; exact h4
  · rw [up_c (by decide)]; exact h5
  · rw [up_c (by decide), up_i (by decide)]; exact h6
  · rw [up_i (by decide)] at z
    obtain ⟨g1, g2, g3, g4, g5, g6, g7, g8⟩ := h7 z
    exact ⟨g1, g2, by rw [up_s, up_s], g4, g5, g6, g7, g8⟩
theorem RCs.row {S : St} {c : Nat} {k v : Int} (h : RCs S) (hc : c ≠ 16 ∧ c ≠ 17 ∧ c ≠ 18) : RCs (up S c k v) := by
  obtain ⟨⟨a1, a2, a3⟩, h2, h3, h4, h5⟩ := h
  refine ⟨⟨?_, ?_, ?_⟩, ?_, ?_, ?_, ?_⟩
  · rw [up_c (Ne.symm hc.2.1)]; exact a1
  · rw [up_c (Ne.symm hc.2.1), up_c (Ne.symm hc.2.1)]; exact a2
  · rw [up_c (Ne.symm hc.2.1), up_row (Ne.symm hc.1)]; exact a3
  · rw [up_c (Ne.symm hc.2.2)]; exact h2
  · rw [up_c (Ne.symm hc.2.1)]; exact h3
  · rw [up_c (Ne.symm hc.2.1)]; exact h4
  · rw [up_c (Ne.symm hc.2.1)]; exact h5
theorem RC.putW {S d : St} {k v : Int} (h : RC S d) : RC (up S 19 k v) (up d 1 k v) := by
  refine ⟨h.1.row (by decide), by rw [up_c (by decide), up_c (by decide)]; exact h.2.1, fun z => ?_⟩
  rw [up_c (by decide)] at z
  obtain ⟨g1, g2, g3, g4, g5, g6, g7, g8⟩ := h.2.2 z
  refine ⟨g1, g2, g3, g4, g5, fun i a b => ?_, g7, g8⟩
  by_cases e : i = k
  · subst e
    rw [up_s, up_s]; exact ⟨rfl, (g6 i a b).2⟩
  · rw [up_i e, up_i e]; exact g6 i a b
theorem RC.putL {S d : St} {k v : Int} (h : RC S d) : RC (up S 20 k v) (up d 2 k v) := by
  refine ⟨h.1.row (by decide), by rw [up_c (by decide), up_c (by decide)]; exact h.2.1, fun z => ?_⟩
  rw [up_c (by decide)] at z
  obtain ⟨g1, g2, g3, g4, g5, g6, g7, g8⟩ := h.2.2 z
  refine ⟨g1, g2, g3, g4, g5, fun i a b => ?_, g7, g8⟩
  by_cases e : i = k
  · subst e
    rw [up_s, up_s]; exact ⟨(g6 i a b).1, rfl⟩
  · rw [up_i e, up_i e]; exact g6 i a b
theorem RC.putS {S d : St} {n v : Int} (h : RC S d) (hn : S 17 7 = n) (hn3 : n < 4) (hd : d 0 1 = -1 → d 0 4 = n) : RC (up (up S 21 n v) 17 7 (n + 1)) (up (up d 3 n v) 0 4 (n + 1)) := by
  obtain ⟨⟨⟨a1, a2, a3⟩, h2, h3, h4, h5⟩, h6, h7⟩ := h
  refine ⟨⟨⟨?_, ?_, ?_⟩, ?_, ?_, ?_, ?_⟩, ?_, fun z => ?_⟩
  · exact a1
  · exact a2
  · exact a3
  · exact h2
  · rw [up_s]; omega
  · exact h4
  · exact h5
  · exact h6
  · have z' : d 0 1 = -1 := z
    obtain ⟨g1, g2, g3, g4, g5, g6, g7, g8⟩ := h7 z'
    have hd' := hd z'
    refine ⟨g1, g2, g3, ?_, g5, g6, fun i a b => ?_, g8⟩
    · rw [up_s, up_s]
    · rw [up_s] at b
      show up S 21 n v 21 i = up d 3 n v 3 i
      by_cases e : i = n
      · rw [e, up_s, up_s]
      · rw [up_i e, up_i e]; exact g7 i a (by omega)
theorem RC.putY {S d : St} {n v : Int} {c e : Nat} (h : RC S d) (hd : d 0 1 = -1 → d 0 5 = n) (hce : (c = 22 ∧ e = 4) ∨ (c = 23 ∧ e = 5) ∨ (c = 24 ∧ e = 6)) : RC (up S c n v) (up d e n v) := by
  have hc : c ≠ 16 ∧ c ≠ 17 ∧ c ≠ 18 := by omega
  refine ⟨h.1.row hc, by rw [up_c (by omega), up_c (by omega)]; exact h.2.1, fun z => ?_⟩
  rw [up_c (by omega)] at z
  obtain ⟨g1, g2, g3, g4, g5, g6, g7, g8⟩ := h.2.2 z
  have hd' := hd z
  have w : ∀ q : Int, up d e n v 0 q = d 0 q := fun q => up_c (by omega)
  refine ⟨?_, ?_, ?_, ?_, ?_, ?_, ?_, ?_⟩
  · rw [w, up_c (by omega)]; exact g1
  · rw [w, up_c (by omega)]; exact g2
  · rw [w, up_c (by omega)]; exact g3
  · rw [w, up_c (by omega)]; exact g4
  · rw [w, up_c (by omega)]; exact g5
  · rw [up_row (show (19 : Nat) ≠ c by omega), up_row (show (20 : Nat) ≠ c by omega), up_row (show (1 : Nat) ≠ e by omega), up_row (show (2 : Nat) ≠ e by omega)]; exact g6
  · rw [w, up_row (show (21 : Nat) ≠ c by omega), up_row (show (3 : Nat) ≠ e by omega)]; exact g7
  · rw [w]
    intro i a b
    have hi : i ≠ n := by omega
    have := g8 i a b
    rcases hce with ⟨q1, q2⟩ | ⟨q1, q2⟩ | ⟨q1, q2⟩ <;> subst q1 <;> subst q2
    · rw [up_i hi, up_i hi, up_c (by decide), up_c (by decide), up_c (by decide), up_c (by decide)]; exact this
    · rw [up_i hi, up_i hi, up_c (by decide), up_c (by decide), up_c (by decide), up_c (by decide)]; exact this
    · rw [up_i hi, up_i hi, up_c (by decide), up_c (by decide), up_c (by decide), up_c (by decide)]; exact this
/-- the spare's three numbers stand: one more -/
theorem RC.putN {S d : St} {n : Int} (h : RC S d) (hn : S 17 8 = n) (hn5 : n < 6) (hd : d 0 1 = -1 → d 0 5 = n) (hr : d 0 1 = -1 → S 22 n = d 4 n ∧ S 23 n = d 5 n ∧ S 24 n = d 6 n) : RC (up S 17 8 (n + 1)) (up d 0 5 (n + 1)) := by
  obtain ⟨⟨⟨a1, a2, a3⟩, h2, h3, h4, h5⟩, h6, h7⟩ := h
  refine ⟨⟨⟨a1, a2, a3⟩, h2, h3, by rw [up_s]; omega, h5⟩, h6, fun z => ?_⟩
  have z' : d 0 1 = -1 := z
  obtain ⟨g1, g2, g3, g4, g5, g6, g7, g8⟩ := h7 z'
  have hd' := hd z'
  refine ⟨g1, g2, g3, g4, ?_, g6, g7, fun i a b => ?_⟩
  · rw [up_s, up_s]
  · rw [up_s] at b
    by_cases e : i = n
    · rw [e]; exact hr z'
    · exact g8 i a (by omega)
theorem RC.putI {S d : St} {n : Int} (h : RC S d) (hd : d 0 1 = -1 → d 0 2 = n) : RC (up S 17 9 (n + 1)) (up d 0 2 (n + 1)) := by
  obtain ⟨⟨⟨a1, a2, a3⟩, h2, h3, h4, h5⟩, h6, h7⟩ := h
  refine ⟨⟨⟨a1, a2, a3⟩, h2, h3, h4, h5⟩, h6, fun z => ?_⟩
  have z' : d 0 1 = -1 := z
  obtain ⟨g1, g2, g3, g4, g5, g6, g7, g8⟩ := h7 z'
  exact ⟨g1, by rw [up_s, up_s], g3, g4, g5, g6, g7, g8⟩
/-- where a fault stands, the draft's numbers don't matter -/
theorem RC.flt {S d d' : St} (h : RC S d) (h1 : d' 0 1 = d 0 1) (h2 : d 0 1 ≠ -1) : RC S d' := ⟨h.1, by rw [h1]; exact h.2.1, fun z => absurd (h1.symm.trans z) h2⟩
