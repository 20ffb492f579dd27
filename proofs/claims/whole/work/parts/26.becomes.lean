/-! BECOMES: rows c of choices, -5 for none -/
def rowF (b f c : Int → Int) : Int → Int := fun k => if c k = -5 then b k else f (c k)
def okC (n P : Int) (wh pl c : Int → Int) : Prop := ∀ k, 0 ≤ k → k < n → c k = -5 ∨ ((0 ≤ c k ∧ c k < P) ∧ wh (c k) = 8 ∧ pl (c k) = k)
def cnC (n : Int) (c : Int → Int) : Int := sm (fun k => if c k = -5 then 0 else 1) n.toNat
def lex (n : Int) (a b : Int → Int) : Prop := (∀ k, 0 ≤ k → k < n → a k = b k) ∨ ∃ k, 0 ≤ k ∧ k < n ∧ a k < b k ∧ ∀ j, 0 ≤ j → j < k → a j = b j
def bett (n : Int) (a b : Int → Int) : Prop := cnC n a < cnC n b ∨ (cnC n a = cnC n b ∧ lex n a b)
/-- the best of the rows in D so far, after f few best -/
def ChR (n : Int) (D G : (Int → Int) → Prop) (f few : Int) (best : Int → Int) (f' few' : Int) (best' : Int → Int) : Prop :=
  (f' = f ∧ few' = few ∧ (∀ k, 0 ≤ k → k < n → best' k = best k) ∧ ∀ c, D c → G c → few ≤ cnC n c) ∨ (f' = 1 ∧ D best' ∧ G best' ∧ few' = cnC n best' ∧ few' < few ∧ ∀ c, D c → G c → bett n best' c)
def BecR (n : Int) (D G : (Int → Int) → Prop) (f few : Int) (best : Int → Int) : Prop :=
  (f = 0 ∧ ∀ c, D c → ¬ G c) ∨ (f = 1 ∧ D best ∧ G best ∧ few = cnC n best ∧ ∀ c, D c → G c → bett n best c)
theorem cnC_bd (n : Int) (hn : 0 ≤ n) (c : Int → Int) : 0 ≤ cnC n c ∧ cnC n c ≤ n := by
  have := sm_bd (f := fun k => if c k = -5 then 0 else 1) (a := 1) (n := n.toNat) (fun i _ _ => by split <;> omega)
  unfold cnC
  omega
theorem cnC_congr {n : Int} {a b : Int → Int} (h : ∀ k, 0 ≤ k → k < n → a k = b k) : cnC n a = cnC n b := by
  unfold cnC
  apply sm_congr
  intro i i0 i1
  rw [h i i0 (by omega)]
theorem lex_rf {n : Int} {a : Int → Int} : lex n a a := Or.inl fun _ _ _ => rfl
theorem lex_tr {n : Int} {a b c : Int → Int} (h1 : lex n a b) (h2 : lex n b c) : lex n a c := by
  rcases h1 with h1 | ⟨k, k0, k1, k2, k3⟩ <;> rcases h2 with h2 | ⟨j, j0, j1, j2, j3⟩
  · exact Or.inl fun i a b => (h1 i a b).trans (h2 i a b)
  · exact Or.inr ⟨j, j0, j1, by rw [h1 j j0 j1]; exact j2, fun i a b => (h1 i a (by omega)).trans (j3 i a b)⟩
  · exact Or.inr ⟨k, k0, k1, by rw [← h2 k k0 k1]; exact k2, fun i a b => (k3 i a b).trans (h2 i a (by omega))⟩
  · rcases Int.lt_trichotomy k j with h | h | h
    · exact Or.inr ⟨k, k0, k1, by rw [← j3 k k0 h]; exact k2, fun i a b => (k3 i a b).trans (j3 i a (by omega))⟩
    · subst h
      exact Or.inr ⟨k, k0, k1, by omega, fun i a b => (k3 i a b).trans (j3 i a b)⟩
    · exact Or.inr ⟨j, j0, j1, by rw [k3 j j0 h]; exact j2, fun i a b => (k3 i a (by omega)).trans (j3 i a b)⟩
theorem lex_as {n : Int} {a b : Int → Int} (h1 : lex n a b) (h2 : lex n b a) : ∀ k, 0 ≤ k → k < n → a k = b k := by
  rcases h1 with h1 | ⟨k, k0, k1, k2, k3⟩
  · exact h1
  · rcases h2 with h2 | ⟨j, j0, j1, j2, j3⟩
    · exact fun i a b => (h2 i a b).symm
    · exfalso
      rcases Int.lt_trichotomy k j with h | h | h
      · have := j3 k k0 h; omega
      · subst h; omega
      · have := k3 j j0 h; omega
theorem lex_tot {n : Int} (a b : Int → Int) : lex n a b ∨ lex n b a := by
  by_cases h : ∀ k, 0 ≤ k → k < n → a k = b k
  · exact Or.inl (Or.inl h)
  · have : ∀ m : Nat, (∀ k : Int, 0 ≤ k → k < m → k < n → a k = b k) ∨ ∃ k : Int, 0 ≤ k ∧ k < n ∧ a k ≠ b k ∧ ∀ j, 0 ≤ j → j < k → a j = b j := by
      intro m
      induction m with
      | zero => exact Or.inl fun k x y => by omega
      | succ m ih =>
        rcases ih with ih | ih
        · by_cases e : (m : Int) < n → a m = b m
          · exact Or.inl fun k x y z => if q : k = m then by rw [q]; exact e (by omega) else ih k x (by omega) z
          · exact Or.inr ⟨m, by omega, Classical.byContradiction fun z => e (fun w => absurd w z), fun z => e (fun _ => z), fun j x y => ih j x y (Int.lt_trans y (Classical.byContradiction fun z => e (fun w => absurd w z)))⟩
        · exact Or.inr ih
    rcases this n.toNat with h1 | ⟨k, k0, k1, k2, k3⟩
    · exact absurd (fun k x y => h1 k x (by omega) y) h
    · rcases Int.lt_or_lt_of_ne k2 with q | q
      · exact Or.inl (Or.inr ⟨k, k0, k1, q, k3⟩)
      · exact Or.inr (Or.inr ⟨k, k0, k1, q, fun j x y => (k3 j x y).symm⟩)
theorem bett_tr {n : Int} {a b c : Int → Int} (h1 : bett n a b) (h2 : bett n b c) : bett n a c := by
  rcases h1 with h1 | ⟨h1, h1'⟩ <;> rcases h2 with h2 | ⟨h2, h2'⟩
  · exact Or.inl (by omega)
  · exact Or.inl (by omega)
  · exact Or.inl (by omega)
  · exact Or.inr ⟨by omega, lex_tr h1' h2'⟩
theorem bett_le {n : Int} {a b : Int → Int} (h : bett n a b) : cnC n a ≤ cnC n b := by
  rcases h with h | h
  · omega
  · omega
/-- the later set comes behind the earlier one -/
theorem ChR.app {n : Int} {D1 D2 D G : (Int → Int) → Prop} {f few f1 few1 f2 few2 : Int} {b b1 b2 : Int → Int} (h1 : ChR n D1 G f few b f1 few1 b1) (h2 : ChR n D2 G f1 few1 b1 f2 few2 b2) (hd : ∀ c, D c → D1 c ∨ D2 c) (hd1 : ∀ c, D1 c → D c) (hd2 : ∀ c, D2 c → D c) (hx : ∀ x y, D1 x → D2 y → lex n x y) (hext : ∀ x y, (∀ k, 0 ≤ k → k < n → x k = y k) → (D x → D y) ∧ (G x → G y)) : ChR n D G f few b f2 few2 b2 := by
  rcases h1 with ⟨a1, a2, a3, a4⟩ | ⟨a1, a2, a3, a4, a5, a6⟩
  · rcases h2 with ⟨c1, c2, c3, c4⟩ | ⟨c1, c2, c3, c4, c5, c6⟩
    · refine Or.inl ⟨by omega, by omega, fun k x y => (c3 k x y).trans (a3 k x y), fun c hc hg => ?_⟩
      rcases hd c hc with h | h
      · exact a4 c h hg
      · rw [← a2]; exact c4 c h hg
    · refine Or.inr ⟨c1, hd2 _ c2, c3, c4, by omega, fun c hc hg => ?_⟩
      rcases hd c hc with h | h
      · have := a4 c h hg
        exact Or.inl (by omega)
      · exact c6 c h hg
  · rcases h2 with ⟨c1, c2, c3, c4⟩ | ⟨c1, c2, c3, c4, c5, c6⟩
    · have e : cnC n b2 = cnC n b1 := cnC_congr c3
      have e2 : lex n b2 b1 := Or.inl c3
      refine Or.inr ⟨by omega, (hext b1 b2 (fun k x y => (c3 k x y).symm)).1 (hd1 _ a2), (hext b1 b2 (fun k x y => (c3 k x y).symm)).2 a3, by omega, by omega, fun c hc hg => ?_⟩
      have key : bett n b1 c := by
        rcases hd c hc with h | h
        · exact a6 c h hg
        · have := c4 c h hg
          rcases Int.lt_or_eq_of_le this with q | q
          · exact Or.inl (by omega)
          · exact Or.inr ⟨by omega, hx _ _ a2 h⟩
      exact bett_tr (Or.inr ⟨e, e2⟩) key
    · refine Or.inr ⟨c1, hd2 _ c2, c3, c4, by omega, fun c hc hg => ?_⟩
      rcases hd c hc with h | h
      · have := bett_le (a6 c h hg)
        exact Or.inl (by omega)
      · exact c6 c h hg
/-- rows that a better one stands for may be left out -/
theorem ChR.more {n : Int} {D D' G : (Int → Int) → Prop} {f few f1 few1 : Int} {b b1 : Int → Int} (h : ChR n D G f few b f1 few1 b1) (hs : ∀ c, D c → D' c) (hr : ∀ c, D' c → G c → ∃ x, D x ∧ G x ∧ bett n x c) : ChR n D' G f few b f1 few1 b1 := by
  rcases h with ⟨a1, a2, a3, a4⟩ | ⟨a1, a2, a3, a4, a5, a6⟩
  · refine Or.inl ⟨a1, a2, a3, fun c hc hg => ?_⟩
    obtain ⟨x, x1, x2, x3⟩ := hr c hc hg
    have := a4 x x1 x2
    have := bett_le x3
    omega
  · refine Or.inr ⟨a1, hs _ a2, a3, a4, a5, fun c hc hg => ?_⟩
    obtain ⟨x, x1, x2, x3⟩ := hr c hc hg
    exact bett_tr (a6 x x1 x2) x3
theorem ChR.bec {n : Int} (hn : 0 ≤ n) {D G : (Int → Int) → Prop} {f few : Int} {b b1 : Int → Int} (h : ChR n D G 0 (n + 1) b f few b1) : BecR n D G f few b1 := by
  rcases h with ⟨a1, a2, a3, a4⟩ | ⟨a1, a2, a3, a4, a5, a6⟩
  · refine Or.inl ⟨a1, fun c hc hg => ?_⟩
    have := a4 c hc hg
    have := cnC_bd n hn c
    omega
  · exact Or.inr ⟨a1, a2, a3, a4, a6⟩
/-- who by a law that asks no ages -/
theorem who_na {n : Int} {mk ag ag' wt : Int → Int} {law : Int} (h : law ≠ 3) : who n mk ag wt law = who n mk ag' wt law := by
  unfold who
  simp only [if_neg h]
def GoC (n : Int) (MK AG mk ag wt : Int → Int) (law goal : Int) (c : Int → Int) : Prop := who n (rowF MK mk c) (rowF AG ag c) wt law = goal
theorem rowF_congr {b f c c' : Int → Int} {k : Int} (h : c k = c' k) : rowF b f c k = rowF b f c' k := by unfold rowF; rw [h]
theorem GoC.ext {n : Int} (hn : 1 ≤ n) {MK AG mk ag wt : Int → Int} {law goal : Int} {c c' : Int → Int} (h : ∀ k, 0 ≤ k → k < n → c k = c' k) (g : GoC n MK AG mk ag wt law goal c) : GoC n MK AG mk ag wt law goal c' := by
  unfold GoC at g ⊢
  rw [← g]
  exact who_congr hn (fun k a b => ⟨(rowF_congr (h k a b)).symm, (rowF_congr (h k a b)).symm, rfl⟩)
theorem okC.ext {n P : Int} {wh pl c c' : Int → Int} (h : ∀ k, 0 ≤ k → k < n → c k = c' k) (g : okC n P wh pl c) : okC n P wh pl c' := by
  intro k a b
  rw [← h k a b]
  exact g k a b
/-- rows that begin as r does, up to k -/
def Dk (n P : Int) (wh pl r : Int → Int) (k : Int) (c : Int → Int) : Prop := okC n P wh pl c ∧ ∀ j, 0 ≤ j → j < k → c j = r j
/-- and that have none in place k, or a part below p -/
def Dp (n P : Int) (wh pl r : Int → Int) (k p : Int) (c : Int → Int) : Prop := Dk n P wh pl r k c ∧ (c k = -5 ∨ c k < p)
theorem Dk.ext {n P : Int} {wh pl r : Int → Int} {k : Int} (hk : k ≤ n) {x y : Int → Int} (h : ∀ j, 0 ≤ j → j < n → x j = y j) (g : Dk n P wh pl r k x) : Dk n P wh pl r k y := ⟨g.1.ext h, fun j a b => by rw [← h j a (by omega)]; exact g.2 j a b⟩
theorem Dp.ext {n P : Int} {wh pl r : Int → Int} {k p : Int} (h0 : 0 ≤ k) (hk : k < n) {x y : Int → Int} (h : ∀ j, 0 ≤ j → j < n → x j = y j) (g : Dp n P wh pl r k p x) : Dp n P wh pl r k p y := ⟨g.1.ext (by omega) h, by rw [← h k h0 hk]; exact g.2⟩
theorem BecR.uniq {n : Int} {D G : (Int → Int) → Prop} {f f' few few' : Int} {b b' : Int → Int} (h : BecR n D G f few b) (h' : BecR n D G f' few' b') : f = f' ∧ (f = 1 → few = few' ∧ ∀ k, 0 ≤ k → k < n → b k = b' k) := by
  rcases h with ⟨a1, a2⟩ | ⟨a1, a2, a3, a4, a5⟩ <;> rcases h' with ⟨c1, c2⟩ | ⟨c1, c2, c3, c4, c5⟩
  · exact ⟨by omega, fun z => by omega⟩
  · exact absurd c3 (a2 _ c2)
  · exact absurd a3 (c2 _ a2)
  · refine ⟨by omega, fun _ => ?_⟩
    have x1 := a5 _ c2 c3
    have x2 := c5 _ a2 a3
    have y1 := bett_le x1
    have y2 := bett_le x2
    refine ⟨by omega, ?_⟩
    rcases x1 with x1 | x1
    · omega
    · rcases x2 with x2 | x2
      · omega
      · exact lex_as x1.2 x2.2
