/-! sums over the first n places: counts and sets of bits are sums of the marks -/
def sm (f : Int → Int) : Nat → Int
  | 0 => 0
  | n + 1 => sm f n + f n
theorem sm_s {f : Int → Int} {p : Int} (h : 0 ≤ p) : sm f (p + 1).toNat = sm f p.toNat + f p := by
  obtain ⟨n, rfl⟩ := Int.eq_ofNat_of_zero_le h
  rfl
theorem sm_congr {f g : Int → Int} : ∀ {n : Nat}, (∀ i : Int, 0 ≤ i → i < n → f i = g i) → sm f n = sm g n
  | 0, _ => rfl
  | n + 1, h => by
    show sm f n + f n = sm g n + g n
    rw [sm_congr (n := n) (fun i h0 h1 => h i h0 (by omega)), h n (by omega) (by omega)]
theorem sm_bd {f : Int → Int} {a : Int} : ∀ {n : Nat}, (∀ i : Int, 0 ≤ i → i < n → 0 ≤ f i ∧ f i ≤ a) → 0 ≤ sm f n ∧ sm f n ≤ n * a
  | 0, _ => by simp [sm]
  | n + 1, h => by
    have h1 := sm_bd (f := f) (a := a) (n := n) (fun i h0 h1 => h i h0 (by omega))
    have h2 := h n (by omega) (by omega)
    show 0 ≤ sm f n + f n ∧ sm f n + f n ≤ _
    have e : ((n + 1 : Nat) : Int) * a = n * a + a := by
      rw [Int.natCast_add, Int.add_mul]
      simp
    rw [e]
    omega
/-- the first place below n with a property, else d -/
def Fst (c : Int → Prop) (n d r : Int) : Prop := (0 ≤ r ∧ r < n ∧ c r ∧ ∀ q, 0 ≤ q → q < r → ¬ c q) ∨ (r = d ∧ ∀ q, 0 ≤ q → q < n → ¬ c q)
