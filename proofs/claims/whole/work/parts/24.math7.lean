theorem oqF {c : Nat} (h : IsF c) : (fdq c 0).map (fun q => q.1) = some 1 := by rw [fqF_0 h]; rfl
/-- a ship is built of the first parts that lie for each place -/
def BldR (S T : St) (N P k : Int) : Prop := (∀ j, 0 ≤ j → j < k → Fst (fun p => S 31 p = 8 ∧ S 28 p = j) P (-1) (T 33 (N * 6 + j))) ∧ (∀ i, i < N * 6 ∨ N * 6 + k ≤ i → T 33 i = S 33 i) ∧ (∀ p, T 31 p = if (0 ≤ S 28 p ∧ S 28 p < k) ∧ T 33 (N * 6 + S 28 p) = p then N else S 31 p)
theorem BldR.start {S T : St} {N P : Int} (h1 : T 31 = S 31) (h3 : T 33 = S 33) : BldR S T N P 0 := by
  refine ⟨fun j a b => by omega, fun i _ => by rw [h3], fun p => ?_⟩
  rw [if_neg (by omega), h1]
theorem BldR.lies {S T : St} {N P k p : Int} (h : BldR S T N P k) : (T 31 p = 8 ∧ S 28 p = k) ↔ (S 31 p = 8 ∧ S 28 p = k) := by
  constructor
  · intro ⟨a, b⟩
    rw [h.2.2 p, if_neg (by omega)] at a
    exact ⟨a, b⟩
  · intro ⟨a, b⟩
    rw [h.2.2 p, if_neg (by omega)]
    exact ⟨a, b⟩
theorem BldR.step {S T : St} {N P k q : Int} (hk : 0 ≤ k) (h : BldR S T N P k) (hq : Fst (fun p => S 31 p = 8 ∧ S 28 p = k) P (-1) q) (hq0 : 0 ≤ q) : BldR S (up (up T 33 (N * 6 + k) q) 31 q N) N P (k + 1) := by
  have hqk : S 28 q = k := by
    rcases hq with ⟨_, _, z, _⟩ | ⟨z, _⟩
    · exact z.2
    · omega
  refine ⟨fun j a b => ?_, fun i hi => ?_, fun p => ?_⟩
  · rw [up_c (by decide)]
    by_cases e : j = k
    · subst e
      rw [up_s]
      exact hq
    · rw [up_i (by omega)]
      exact h.1 j a (by omega)
  · rw [up_c (by decide), up_i (by omega)]
    exact h.2.1 i (by omega)
  · by_cases e : p = q
    · subst e
      rw [up_s, up_c (by decide), hqk, up_s, if_pos (by omega)]
    · rw [up_i e, up_c (by decide), h.2.2 p]
      by_cases e2 : S 28 p = k
      · rw [e2, up_c (by decide), up_s, if_neg (by omega), if_neg (by omega)]
      · rw [up_c (by decide), up_i (by omega)]
        by_cases e3 : S 28 p < k
        · by_cases e4 : (0 ≤ S 28 p ∧ S 28 p < k) ∧ T 33 (N * 6 + S 28 p) = p
          · rw [if_pos e4, if_pos ⟨by omega, e4.2⟩]
          · rw [if_neg e4, if_neg (fun z => e4 ⟨by omega, z.2⟩)]
        · rw [if_neg (by omega), if_neg (by omega)]
/-- a year goes by -/
def YrR (S T : St) (P p l : Int) : Prop := (∀ q, 0 ≤ q → q < p → T 30 q = S 30 q + 1 ∧ T 31 q = if S 31 q = 8 ∧ S 3 (S 28 q) ≤ S 30 q + 1 then 9 else S 31 q) ∧ (∀ q, p ≤ q → T 30 q = S 30 q ∧ T 31 q = S 31 q) ∧ l = sm (fun q => if S 31 q = 8 ∧ S 3 (S 28 q) ≤ S 30 q + 1 then 1 else 0) p.toNat
