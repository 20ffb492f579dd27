/-! the fleet as told: ship s has parts bp n s + k -/
def bp (n s : Int) : Int := s * n
theorem bp_0 (n : Int) : bp n 0 = 0 := by unfold bp; simp
theorem bp_s (n s : Int) : bp n (s + 1) = bp n s + n := by unfold bp; rw [Int.add_mul]; simp
theorem bp_mono {n s i : Int} (hn : 0 ≤ n) (h : s + 1 ≤ i) : bp n s + n ≤ bp n i := by
  rw [← bp_s]
  unfold bp
  exact Int.mul_le_mul_of_nonneg_right h hn
theorem bp_nn {n s : Int} (hn : 0 ≤ n) (h : 0 ≤ s) : 0 ≤ bp n s := Int.mul_nonneg h hn
theorem bp_24 {n s : Int} (h0 : 0 ≤ n) (hn : n ≤ 6) (hs0 : 0 ≤ s) (hs : s ≤ 4) : bp n s ≤ 24 := by
  have : s * n ≤ 4 * 6 := Int.mul_le_mul hs hn h0 (by decide)
  unfold bp
  omega
theorem bp_ex {n : Int} (hn : 1 ≤ n) : ∀ (m : Nat) (p : Int), 0 ≤ p → p < bp n m → ∃ s k, (0 ≤ s ∧ s < (m : Int)) ∧ (0 ≤ k ∧ k < n) ∧ p = bp n s + k
  | 0, p, h0, h1 => by rw [show ((0 : Nat) : Int) = 0 from rfl, bp_0] at h1; omega
  | m + 1, p, h0, h1 => by
    rw [show ((m + 1 : Nat) : Int) = (m : Int) + 1 from rfl, bp_s] at h1
    by_cases h : p < bp n m
    · obtain ⟨s, k, a, b, c⟩ := bp_ex hn m p h0 h
      exact ⟨s, k, by omega, b, c⟩
    · exact ⟨m, p - bp n m, by omega, by omega, by omega⟩
def EnX (n : Int) (T : St) (s k : Int) : Prop := T 28 (bp n s + k) = k ∧ T 29 (bp n s + k) = s ∧ T 30 (bp n s + k) = 0 ∧ T 31 (bp n s + k) = s ∧ T 33 (s * 6 + k) = bp n s + k
/-- told so far: ships below i, of ship i the places below k -/
def TlX (n : Int) (T : St) (i k : Int) : Prop := ∀ s j, 0 ≤ s → 0 ≤ j → j < n → (s < i ∨ (s = i ∧ j < k)) → EnX n T s j
theorem TlX.step {n : Int} {T : St} {i k : Int} (hn : 0 ≤ n) (hn6 : n ≤ 6) (hi : 0 ≤ i) (hk : 0 ≤ k) (hkn : k < n) (h : TlX n T i k) : TlX n (up (up (up (up (up (up (up T 28 (bp n i + k) k) 29 (bp n i + k) i) 30 (bp n i + k) 0) 31 (bp n i + k) 8) 27 1 (bp n i + k + 1)) 33 (i * 6 + k) (bp n i + k)) 31 (bp n i + k) i) i (k + 1) := by
  intro s j a b c e
  by_cases q : s = i ∧ j = k
  · obtain ⟨q1, q2⟩ := q
    subst q1; subst q2
    unfold EnX
    simp [up]
  · have hlt : bp n s + j < bp n i + k := by
      rcases e with e | ⟨e, e2⟩
      · have := bp_mono hn (show s + 1 ≤ i by omega); omega
      · subst e; omega
    have h33 : s * 6 + j ≠ i * 6 + k := by omega
    have := h s j a b c (by omega)
    have hne : bp n s + j ≠ bp n i + k := by omega
    unfold EnX at this ⊢
    simp only [up, hne, h33, if_false, if_true]
    simpa using this
theorem TlX.next {n : Int} {T : St} {i : Int} (h : TlX n T i n) : TlX n T (i + 1) 0 := by
  intro s j a b c e
  exact h s j a b c (by omega)
/-- rows but the fleet's stay -/
theorem TlX.own {n : Int} {T : St} {i : Int} {o v : Int} (h : TlX n T i 0) : TlX n (up (up T 32 i o) 27 2 v) i 0 := by
  intro s j a b c e
  exact h s j a b c e
