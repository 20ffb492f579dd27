/-! bits, twins, conditions that no program decides -/
theorem or_bit {x k : Int} (h0 : 0 ≤ x) (h : x < ((2 ^ k.toNat : Nat) : Int)) : ((x.toNat ||| (((2 ^ k.toNat : Nat) : Int)).toNat : Nat) : Int) = x + ((2 ^ k.toNat : Nat) : Int) := by
  obtain ⟨n, rfl⟩ := Int.eq_ofNat_of_zero_le h0
  have hn : n < 2 ^ k.toNat := by omega
  have := Nat.two_pow_add_eq_or_of_lt hn 1
  rw [Nat.mul_one] at this
  rw [Int.toNat_natCast, Int.toNat_natCast, Nat.or_comm, ← this]
  omega
theorem pw_s {k : Int} (h : 0 ≤ k) : ((2 ^ (k + 1).toNat : Nat) : Int) = 2 * ((2 ^ k.toNat : Nat) : Int) := by
  obtain ⟨n, rfl⟩ := Int.eq_ofNat_of_zero_le h
  show ((2 ^ (n + 1) : Nat) : Int) = _
  rw [Nat.pow_succ]
  simp
  omega
theorem pw_pos (k : Int) : 0 < ((2 ^ k.toNat : Nat) : Int) := by
  have : 0 < 2 ^ k.toNat := Nat.pow_pos (by decide)
  omega
theorem pw_le {k m : Int} (h : k ≤ m) : ((2 ^ k.toNat : Nat) : Int) ≤ ((2 ^ m.toNat : Nat) : Int) := by
  have : 2 ^ k.toNat ≤ 2 ^ m.toNat := Nat.pow_le_pow_right (by decide) (by omega)
  omega
/-- a set of bits as a sum: below the next power -/
theorem bs_lt {f : Int → Int} : ∀ {n : Nat}, (∀ i : Int, 0 ≤ i → i < n → f i = 0 ∨ f i = ((2 ^ i.toNat : Nat) : Int)) → 0 ≤ sm f n ∧ sm f n < ((2 ^ n : Nat) : Int)
  | 0, _ => by simp [sm]
  | n + 1, h => by
    have h1 := bs_lt (f := f) (n := n) (fun i a b => h i a (by omega))
    have h2 := h n (by omega) (by omega)
    show 0 ≤ sm f n + f n ∧ sm f n + f n < _
    rw [Int.toNat_natCast] at h2
    rw [Nat.pow_succ]
    omega
noncomputable def cb (c : Prop) (a b : Int) : Int := @ite Int c (Classical.propDecidable c) a b
theorem cb_pos {c : Prop} {a b : Int} (h : c) : cb c a b = a := by unfold cb; rw [if_pos h]
theorem cb_neg {c : Prop} {a b : Int} (h : ¬ c) : cb c a b = b := by unfold cb; rw [if_neg h]
theorem cb_or (c : Prop) (a b : Int) : (c ∧ cb c a b = a) ∨ (¬ c ∧ cb c a b = b) := by
  by_cases h : c
  · exact Or.inl ⟨h, cb_pos h⟩
  · exact Or.inr ⟨h, cb_neg h⟩
theorem cb_iff {c d : Prop} {a b : Int} (h : c ↔ d) : cb c a b = cb d a b := by rw [propext h]
/-- TWINS: the first two of N things with the same W, which is not -9 -/
def Twn (N : Int) (W : Int → Int) (r : Int) : Prop :=
  (∃ s t, 0 ≤ s ∧ s < t ∧ t < N ∧ W s ≠ -9 ∧ W t = W s ∧ r = 10 * s + t ∧ (∀ s' t', 0 ≤ s' → s' < s → s' < t' → t' < N → W s' ≠ -9 → W t' ≠ W s') ∧ ∀ t', s < t' → t' < t → W t' ≠ W s) ∨
  (r = -9 ∧ ∀ s t, 0 ≤ s → s < t → t < N → W s ≠ -9 → W t ≠ W s)
theorem Twn.uniq {N : Int} {W : Int → Int} {r r' : Int} (h : Twn N W r) (h' : Twn N W r') : r = r' := by
  rcases h with ⟨s, t, a1, a2, a3, a4, a5, a6, a7, a8⟩ | ⟨a1, a2⟩ <;> rcases h' with ⟨s', t', b1, b2, b3, b4, b5, b6, b7, b8⟩ | ⟨b1, b2⟩
  · have e : s = s' := by
      rcases Int.lt_trichotomy s s' with h | h | h
      · exact absurd a5 (b7 s t a1 h a2 a3 a4)
      · exact h
      · exact absurd b5 (a7 s' t' b1 h b2 b3 b4)
    subst e
    have e2 : t = t' := by
      rcases Int.lt_trichotomy t t' with h | h | h
      · exact absurd a5 (b8 t a2 h)
      · exact h
      · exact absurd b5 (a8 t' b2 h)
    omega
  · exact absurd a5 (b2 s t a1 a2 a3 a4)
  · exact absurd b5 (a2 s' t' b1 b2 b3 b4)
  · omega
theorem Twn.congr {N : Int} {W W' : Int → Int} {r : Int} (h : ∀ s, 0 ≤ s → s < N → W s = W' s) (t : Twn N W r) : Twn N W' r := by
  rcases t with ⟨s, t, a1, a2, a3, a4, a5, a6, a7, a8⟩ | ⟨a1, a2⟩
  · refine Or.inl ⟨s, t, a1, a2, a3, ?_, ?_, a6, ?_, ?_⟩
    · rw [← h s a1 (by omega)]; exact a4
    · rw [← h s a1 (by omega), ← h t (by omega) a3]; exact a5
    · intro s' t' c1 c2 c3 c4
      rw [← h s' c1 (by omega), ← h t' (by omega) c4]
      exact a7 s' t' c1 c2 c3 c4
    · intro t' c1 c2
      rw [← h s a1 (by omega), ← h t' (by omega) (by omega)]
      exact a8 t' c1 c2
  · refine Or.inr ⟨a1, ?_⟩
    intro s t c1 c2 c3
    rw [← h s c1 (by omega), ← h t (by omega) c3]
    exact a2 s t c1 c2 c3
noncomputable def tw (N : Int) (W : Int → Int) : Int := Classical.epsilon (fun r => Twn N W r)
theorem tw_eq {N : Int} {W : Int → Int} {r : Int} (h : Twn N W r) : tw N W = r := Twn.uniq (Classical.epsilon_spec ⟨r, h⟩) h
theorem tw_bd {N : Int} {W : Int → Int} {r : Int} (h : Twn N W r) (hN : N ≤ 6) : -9 ≤ r ∧ r < 100 := by
  rcases h with ⟨s, t, a1, a2, a3, a4, a5, a6, a7, a8⟩ | ⟨a1, a2⟩ <;> omega
/-- what ship s is, of its parts -/
noncomputable def whoS (n : Int) (mk ag wt hd : Int → Int) (s law : Int) : Int := who n (fun k => mk (hd (s * 6 + k))) (fun k => ag (hd (s * 6 + k))) wt law
def rotS (n : Int) (lf ag hd : Int → Int) (s : Int) : Int := sm (fun k => if lf k ≤ ag (hd (s * 6 + k)) then ((2 ^ k.toNat : Nat) : Int) else 0) n.toNat
theorem shO_bd {x : Int} (h : isMk x) : -9 ≤ shO x ∧ shO x ≤ 3 := by
  unfold shO
  split <;> omega
theorem who_bd {n : Int} {mk ag wt : Int → Int} {law : Int} (hn : 1 ≤ n) (h : ∀ k, 0 ≤ k → k < n → isMk (mk k)) : -9 ≤ who n mk ag wt law ∧ who n mk ag wt law ≤ 3 := by
  have bo := oldI_bd ag n.toNat
  have h1 := shO_bd (h 0 (by omega) (by omega))
  have h2 := shO_bd (h (oldI ag n.toNat) bo.1 (by omega))
  have h3 := f4_bd (fun m => sm wt n.toNat < 2 * wgt n mk wt m)
  have h4 := f4_bd (isMo n mk wt)
  have h5 := f4_bd (fun m => n ≤ 2 * cnm n mk m)
  unfold who
  split
  · exact h1
  · split
    · exact h3
    · split
      · exact h4
      · split
        · exact h2
        · exact h5
