/-! the recursion's picture -/
def cMK (S : St) : Int → Int := fun j => S 29 (S 33 (S 8 7 * 6 + j))
def cAG (S : St) : Int → Int := fun j => S 30 (S 33 (S 8 7 * 6 + j))
def cG (S : St) : (Int → Int) → Prop := GoC (S 1 0) (cMK S) (cAG S) (S 29) (S 30) (S 2) (S 8 8) (S 8 9)
def cD (S : St) (r : Int → Int) (k : Int) : (Int → Int) → Prop := Dk (S 1 0) (S 27 1) (S 31) (S 28) r k
def ChK (S : St) : Prop := XI S ∧ (0 ≤ S 8 7 ∧ S 8 7 < S 27 2) ∧ (0 ≤ S 8 8 ∧ S 8 8 < 5) ∧ (0 ≤ S 8 9 ∧ S 8 9 ≤ 3) ∧ (S 8 5 = 0 ∨ S 8 5 = 1) ∧ 0 ≤ S 8 6 ∧ S 8 6 ≤ 7
def ChP (S : St) (k rep : Int) : Prop := ChK S ∧ S 8 8 ≠ 3 ∧ (0 ≤ k ∧ k ≤ S 1 0) ∧ rep = cnC k (S 9) ∧ okC k (S 27 1) (S 31) (S 28) (S 9) ∧
  ∀ j, 0 ≤ j → j < S 1 0 → S 5 j = (if j < k then rowF (cMK S) (S 29) (S 9) j else cMK S j) ∧ S 6 j = (if j < k then rowF (cAG S) (S 30) (S 9) j else cAG S j)
/-- nothing but the best row and the scratch rows changes -/
def ChS (S S' : St) : Prop := Same [5, 6, 7, 8, 9, 10] S S' ∧ (∀ i, i ≠ 5 → i ≠ 6 → S' 8 i = S 8 i) ∧ (S' 8 5 = 0 ∨ S' 8 5 = 1) ∧ 0 ≤ S' 8 6 ∧ S' 8 6 ≤ 7
theorem ChS.tr {S S1 S2 : St} (h1 : ChS S S1) (h2 : ChS S1 S2) : ChS S S2 := ⟨h1.1.tr h2.1, fun i a b => (h2.2.1 i a b).trans (h1.2.1 i a b), h2.2.2⟩
theorem ChS.up {S S1 : St} {c : Nat} {i v : Int} (h : ChS S S1) (hc : c ∈ [5, 6, 7, 9, 10]) : ChS S (up S1 c i v) := by
  have h8 : 8 ≠ c := by intro z; subst z; simp at hc
  refine ⟨same_up h.1 (by revert hc; simp; omega), fun j a b => by rw [up_c h8]; exact h.2.1 j a b, ?_, ?_⟩
  · rw [up_c h8]; exact h.2.2.1
  · rw [up_c h8]; exact h.2.2.2
theorem ChK.tr {S S' : St} (h : ChK S) (h1 : ChS S S') : ChK S' ∧ cMK S' = cMK S ∧ cAG S' = cAG S ∧ cG S' = cG S ∧ (∀ r k, cD S' r k = cD S r k) := by
  have e1 := h1.1 1 (by decide); have e2 := h1.1 2 (by decide)
  have e27 := h1.1 27 (by decide); have e28 := h1.1 28 (by decide); have e29 := h1.1 29 (by decide)
  have e30 := h1.1 30 (by decide); have e31 := h1.1 31 (by decide); have e33 := h1.1 33 (by decide)
  have a7 := h1.2.1 7 (by decide) (by decide); have a8 := h1.2.1 8 (by decide) (by decide); have a9 := h1.2.1 9 (by decide) (by decide)
  refine ⟨⟨h.1.same h1.1 (by decide), ?_, ?_, ?_, h1.2.2.1, h1.2.2.2⟩, ?_, ?_, ?_, fun r k => ?_⟩
  · rw [a7, e27]; exact h.2.1
  · rw [a8]; exact h.2.2.1
  · rw [a9]; exact h.2.2.2.1
  · unfold cMK; rw [e29, e33, a7]
  · unfold cAG; rw [e30, e33, a7]
  · unfold cG cMK cAG; rw [e1, e2, e29, e30, e33, a7, a8, a9]
  · unfold cD; rw [e1, e27, e28, e31]
theorem cnC_s {k : Int} (h : 0 ≤ k) (c : Int → Int) : cnC (k + 1) c = cnC k c + if c k = -5 then 0 else 1 := by
  unfold cnC
  rw [sm_s h]
theorem cnC_mono {k n : Int} (h : 0 ≤ k) (hk : k ≤ n) (c : Int → Int) : cnC k c ≤ cnC n c := by
  obtain ⟨m, hm⟩ := Int.eq_ofNat_of_zero_le (show 0 ≤ n - k by omega)
  have : ∀ m : Nat, cnC k c ≤ cnC (k + m) c := by
    intro m
    induction m with
    | zero => simp
    | succ m ih =>
      have e : k + ((m + 1 : Nat) : Int) = (k + m) + 1 := by omega
      rw [e, cnC_s (by omega)]
      split <;> omega
  have := this m
  rw [show k + (m : Int) = n by omega] at this
  exact this
theorem Dk.cn {n P : Int} {wh pl r : Int → Int} {k : Int} (h0 : 0 ≤ k) (hk : k ≤ n) {c : Int → Int} (h : Dk n P wh pl r k c) : cnC k r ≤ cnC n c := by
  rw [← cnC_congr h.2]
  exact cnC_mono h0 hk c
theorem GoC.at {n : Int} (hn : 1 ≤ n) {MK AG mk ag wt m5 a6 : Int → Int} {law : Int} {c : Int → Int} (h : ∀ j, 0 ≤ j → j < n → m5 j = rowF MK mk c j ∧ a6 j = rowF AG ag c j) : who n (rowF MK mk c) (rowF AG ag c) wt law = who n m5 a6 wt law := who_congr hn (fun j a b => ⟨(h j a b).1.symm, (h j a b).2.symm, rfl⟩)
/-- a part of a make that stands for another of that make, further on -/
theorem alike {n P : Int} {MK AG mk ag wh pl wt r : Int → Int} {law goal k q : Int} (hk0 : 0 ≤ k) (hkn : k < n) (hl : law ≠ 3) {c : Int → Int} (hc : Dk n P wh pl r k c) (hg : GoC n MK AG mk ag wt law goal c) (hck : c k ≠ -5) (hq : (q = -5 ∧ MK k = mk (c k)) ∨ (((0 ≤ q ∧ q < P) ∧ wh q = 8 ∧ pl q = k) ∧ mk q = mk (c k))) (hlt : q < c k) : Dk n P wh pl r k (st9 c k q) ∧ GoC n MK AG mk ag wt law goal (st9 c k q) ∧ bett n (st9 c k q) c := by
  have hs : ∀ j, j ≠ k → st9 c k q j = c j := fun j e => by unfold st9; rw [if_neg e]
  have hsk : st9 c k q k = q := by unfold st9; rw [if_pos rfl]
  refine ⟨⟨fun j a b => ?_, fun j a b => ?_⟩, ?_, ?_⟩
  · by_cases e : j = k
    · subst e
      rw [hsk]
      rcases hq with ⟨h, _⟩ | ⟨h, _⟩
      · exact Or.inl h
      · exact Or.inr h
    · rw [hs j e]; exact hc.1 j a b
  · rw [hs j (by omega)]; exact hc.2 j a b
  · unfold GoC at hg ⊢
    rw [← hg, who_na (ag := rowF AG ag c) (ag' := rowF AG ag (st9 c k q)) hl]
    refine who_congr (by omega) (fun j a b => ⟨?_, rfl, rfl⟩)
    by_cases e : j = k
    · subst e
      unfold rowF
      rw [hsk, if_neg hck]
      rcases hq with ⟨h, h2⟩ | ⟨h, h2⟩
      · rw [if_pos h]; exact h2
      · rw [if_neg (by omega)]; exact h2
    · unfold rowF; rw [hs j e]
  · have hlex : lex n (st9 c k q) c := Or.inr ⟨k, hk0, hkn, by rw [hsk]; exact hlt, fun j a b => hs j (by omega)⟩
    have hle : cnC n (st9 c k q) ≤ cnC n c := by
      unfold cnC
      have : ∀ m : Nat, sm (fun j => if st9 c k q j = -5 then 0 else 1) m ≤ sm (fun j => if c j = -5 then 0 else 1) m := by
        intro m
        induction m with
        | zero => exact Int.le_refl _
        | succ m ih =>
          show sm (fun j => if st9 c k q j = -5 then 0 else 1) m + (if st9 c k q m = -5 then 0 else 1 : Int) ≤ sm (fun j => if c j = -5 then 0 else 1) m + (if c m = -5 then 0 else 1 : Int)
          have : (if st9 c k q m = -5 then 0 else 1 : Int) ≤ if c m = -5 then 0 else 1 := by
            by_cases e : (m : Int) = k
            · rw [e, if_neg hck]
              split <;> omega
            · rw [hs m e]; exact Int.le_refl _
          omega
      exact this _
    rcases Int.lt_or_eq_of_le hle with h | h
    · exact Or.inl h
    · exact Or.inr ⟨h, hlex⟩
/-! tried makes as bits -/
def TrB (mk wh pl : Int → Int) (k mo tr p : Int) : Prop := (0 ≤ tr ∧ tr < 1024) ∧ ∀ m : Nat, m < 10 → (tr.toNat.testBit m = true ↔ (mo = m ∨ Exs (fun q => (0 ≤ q ∧ q < p) ∧ (wh q = 8 ∧ pl q = k) ∧ mk q = m)))
theorem bit_lt {m : Int} (h0 : 0 ≤ m) (h1 : m < 10) : 0 ≤ ((2 ^ m.toNat : Nat) : Int) ∧ ((2 ^ m.toNat : Nat) : Int) < 1024 := by
  have := pw_le (k := m) (m := 9) (by omega)
  have e : ((2 ^ (9 : Int).toNat : Nat) : Int) = 512 := by decide
  have := pw_pos m
  omega
theorem and_bit {tr m : Int} : ((tr.toNat &&& (((2 ^ m.toNat : Nat) : Int)).toNat : Nat) : Int) = 0 ↔ tr.toNat.testBit m.toNat = false := by
  rw [Int.toNat_natCast]
  constructor
  · intro h
    have h1 : tr.toNat &&& 2 ^ m.toNat = 0 := by omega
    have h2 : (tr.toNat &&& 2 ^ m.toNat).testBit m.toNat = false := by rw [h1]; exact Nat.zero_testBit _
    rw [Nat.testBit_and, Nat.testBit_two_pow_self, Bool.and_true] at h2
    exact h2
  · intro h
    have : tr.toNat &&& 2 ^ m.toNat = 0 := by
      apply Nat.eq_of_testBit_eq
      intro i
      rw [Nat.testBit_and, Nat.testBit_two_pow, Nat.zero_testBit]
      by_cases e : m.toNat = i
      · rw [← e, h]; rfl
      · simp [e]
    omega
theorem TrB.start {mk wh pl : Int → Int} {k mo : Int} (h0 : 0 ≤ mo) (h1 : mo < 10) : TrB mk wh pl k mo ((2 ^ mo.toNat : Nat) : Int) 0 := by
  refine ⟨bit_lt h0 h1, fun m hm => ?_⟩
  rw [Int.toNat_natCast, Nat.testBit_two_pow]
  constructor
  · intro h
    have := of_decide_eq_true h
    exact Or.inl (by omega)
  · intro h
    rcases h with h | ⟨q, ⟨a, b⟩, _⟩
    · exact decide_eq_true (by omega)
    · omega
theorem TrB.same {mk wh pl : Int → Int} {k mo tr p : Int} (h : TrB mk wh pl k mo tr p) (hno : ¬ (wh p = 8 ∧ pl p = k) ∨ (0 ≤ mk p ∧ mk p < 10 ∧ tr.toNat.testBit (mk p).toNat = true)) : TrB mk wh pl k mo tr (p + 1) := by
  refine ⟨h.1, fun m hm => ?_⟩
  rw [h.2 m hm]
  constructor
  · intro h
    rcases h with h | ⟨q, ⟨a, b⟩, c⟩
    · exact Or.inl h
    · exact Or.inr ⟨q, ⟨a, by omega⟩, c⟩
  · intro h3
    rcases h3 with h3 | ⟨q, ⟨a, b⟩, c⟩
    · exact Or.inl h3
    · by_cases e : q = p
      · subst e
        rcases hno with h4 | ⟨h4, h5, h6⟩
        · exact absurd c.1 h4
        · have e2 : (mk q).toNat = m := by have := c.2; omega
          rw [e2] at h6
          exact (h.2 m hm).mp h6
      · exact Or.inr ⟨q, ⟨a, by omega⟩, c⟩
theorem TrB.add {mk wh pl : Int → Int} {k mo tr p : Int} (hp : 0 ≤ p) (h : TrB mk wh pl k mo tr p) (hl : wh p = 8 ∧ pl p = k) (h0 : 0 ≤ mk p) (h1 : mk p < 10) : TrB mk wh pl k mo ((tr.toNat ||| (((2 ^ (mk p).toNat : Nat) : Int)).toNat : Nat) : Int) (p + 1) := by
  have hb := bit_lt h0 h1
  refine ⟨⟨by omega, ?_⟩, fun m hm => ?_⟩
  · have := Nat.or_lt_two_pow (x := tr.toNat) (y := (((2 ^ (mk p).toNat : Nat) : Int)).toNat) (n := 10) (by have := h.1; omega) (by omega)
    omega
  · rw [Int.toNat_natCast, Int.toNat_natCast, Nat.testBit_or, Nat.testBit_two_pow, Bool.or_eq_true, h.2 m hm]
    constructor
    · intro h3
      rcases h3 with (h3 | ⟨q, ⟨a, b⟩, c⟩) | h3
      · exact Or.inl h3
      · exact Or.inr ⟨q, ⟨a, by omega⟩, c⟩
      · have := of_decide_eq_true h3
        exact Or.inr ⟨p, ⟨hp, by omega⟩, hl, by omega⟩
    · intro h3
      rcases h3 with h3 | ⟨q, ⟨a, b⟩, c⟩
      · exact Or.inl (Or.inl h3)
      · by_cases e : q = p
        · subst e
          exact Or.inr (decide_eq_true (by have := c.2; omega))
        · exact Or.inl (Or.inr ⟨q, ⟨a, by omega⟩, c⟩)
