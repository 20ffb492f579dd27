/-! what a ship is by a law: n places, makes mk, ages ag, weights wt -/
abbrev isMk (x : Int) : Prop := (0 ≤ x ∧ x ≤ 3) ∨ x = 9
def shO (m : Int) : Int := if m = 9 then -9 else m
def wgt (n : Int) (mk wt : Int → Int) (m : Int) : Int := sm (fun k => if mk k = m then wt k else 0) n.toNat
def cnm (n : Int) (mk : Int → Int) (m : Int) : Int := sm (fun k => if mk k = m then 1 else 0) n.toNat
def oldI (ag : Int → Int) : Nat → Int
  | 0 => 0
  | n + 1 => if ag (oldI ag n) < ag n then n else oldI ag n
def isMo (n : Int) (mk wt : Int → Int) (m : Int) : Prop := ∀ o, 0 ≤ o → o < 10 → o ≠ m → wgt n mk wt o < wgt n mk wt m
noncomputable def f4 (c : Int → Prop) : Int := @ite Int (c 0) (Classical.propDecidable _) 0 (@ite Int (c 1) (Classical.propDecidable _) 1 (@ite Int (c 2) (Classical.propDecidable _) 2 (@ite Int (c 3) (Classical.propDecidable _) 3 (-9))))
theorem f4_eq {c : Int → Prop} {r : Int} (h : Fst c 4 (-9) r) : r = f4 c := by
  unfold f4
  rcases h with ⟨h0, h1, h2, h3⟩ | ⟨h0, h1⟩
  · rcases (by omega : r = 0 ∨ r = 1 ∨ r = 2 ∨ r = 3) with h | h | h | h <;> subst h
    · rw [if_pos h2]
    · rw [if_neg (h3 0 (by omega) (by omega)), if_pos h2]
    · rw [if_neg (h3 0 (by omega) (by omega)), if_neg (h3 1 (by omega) (by omega)), if_pos h2]
    · rw [if_neg (h3 0 (by omega) (by omega)), if_neg (h3 1 (by omega) (by omega)), if_neg (h3 2 (by omega) (by omega)), if_pos h2]
  · rw [if_neg (h1 0 (by omega) (by omega)), if_neg (h1 1 (by omega) (by omega)), if_neg (h1 2 (by omega) (by omega)), if_neg (h1 3 (by omega) (by omega))]
    exact h0
theorem f4_cases (c : Int → Prop) : Fst c 4 (-9) (f4 c) := by
  unfold f4
  by_cases h0 : c 0
  · rw [if_pos h0]; exact Or.inl ⟨by omega, by omega, h0, fun q a b => by omega⟩
  rw [if_neg h0]
  by_cases h1 : c 1
  · rw [if_pos h1]
    exact Or.inl ⟨by omega, by omega, h1, fun q a b => by rw [show q = 0 by omega]; exact h0⟩
  rw [if_neg h1]
  by_cases h2 : c 2
  · rw [if_pos h2]
    refine Or.inl ⟨by omega, by omega, h2, fun q a b => ?_⟩
    rcases (by omega : q = 0 ∨ q = 1) with e | e <;> subst e <;> assumption
  rw [if_neg h2]
  by_cases h3 : c 3
  · rw [if_pos h3]
    refine Or.inl ⟨by omega, by omega, h3, fun q a b => ?_⟩
    rcases (by omega : q = 0 ∨ q = 1 ∨ q = 2) with e | e | e <;> subst e <;> assumption
  rw [if_neg h3]
  refine Or.inr ⟨rfl, fun q a b => ?_⟩
  rcases (by omega : q = 0 ∨ q = 1 ∨ q = 2 ∨ q = 3) with e | e | e | e <;> subst e <;> assumption
theorem f4_bd (c : Int → Prop) : -9 ≤ f4 c ∧ f4 c ≤ 3 := by
  rcases f4_cases c with h | h <;> omega
noncomputable def who (n : Int) (mk ag wt : Int → Int) (law : Int) : Int :=
  if law = 0 then shO (mk 0) else if law = 1 then f4 (fun m => sm wt n.toNat < 2 * wgt n mk wt m) else if law = 2 then f4 (isMo n mk wt) else if law = 3 then shO (mk (oldI ag n.toNat)) else f4 (fun m => n ≤ 2 * cnm n mk m)
theorem wgt_congr {n : Int} {mk mk' wt wt' : Int → Int} {m : Int} (h : ∀ k, 0 ≤ k → k < n → mk k = mk' k ∧ wt k = wt' k) : wgt n mk wt m = wgt n mk' wt' m := by
  unfold wgt
  apply sm_congr
  intro i i0 i1
  obtain ⟨e1, e2⟩ := h i i0 (by omega)
  rw [e1, e2]
theorem cnm_congr {n : Int} {mk mk' : Int → Int} {m : Int} (h : ∀ k, 0 ≤ k → k < n → mk k = mk' k) : cnm n mk m = cnm n mk' m := by
  unfold cnm
  apply sm_congr
  intro i i0 i1
  rw [h i i0 (by omega)]
theorem oldI_bd (ag : Int → Int) : ∀ n : Nat, 0 ≤ oldI ag n ∧ (oldI ag n < n ∨ (n = 0 ∧ oldI ag n = 0))
  | 0 => by simp [oldI]
  | n + 1 => by
    have := oldI_bd ag n
    unfold oldI
    split <;> omega
theorem oldI_congr {ag ag' : Int → Int} : ∀ {n : Nat}, (∀ k : Int, 0 ≤ k → k < n → ag k = ag' k) → oldI ag n = oldI ag' n
  | 0, _ => rfl
  | n + 1, h => by
    have e := oldI_congr (n := n) (fun k k0 k1 => h k k0 (by omega))
    have b := oldI_bd ag' n
    unfold oldI
    rw [e]
    rw [h n (by omega) (by omega)]
    have : ag (oldI ag' n) = ag' (oldI ag' n) := by
      rcases b.2 with b2 | b2
      · exact h _ b.1 (by omega)
      · rw [b2.2]
        exact h 0 (by omega) (by omega)
    rw [this]
theorem oldI_s {ag : Int → Int} {k : Int} (h : 0 ≤ k) : oldI ag (k + 1).toNat = if ag (oldI ag k.toNat) < ag k then k else oldI ag k.toNat := by
  obtain ⟨n, rfl⟩ := Int.eq_ofNat_of_zero_le h
  rfl
theorem isMo_congr {n : Int} {mk mk' wt wt' : Int → Int} (h : ∀ k, 0 ≤ k → k < n → mk k = mk' k ∧ wt k = wt' k) : isMo n mk wt = isMo n mk' wt' := by
  funext m
  unfold isMo
  simp only [wgt_congr h]
theorem who_congr {n : Int} {mk mk' ag ag' wt wt' : Int → Int} {law : Int} (hn : 1 ≤ n) (h : ∀ k, 0 ≤ k → k < n → mk k = mk' k ∧ ag k = ag' k ∧ wt k = wt' k) : who n mk ag wt law = who n mk' ag' wt' law := by
  have h1 : ∀ k, 0 ≤ k → k < n → mk k = mk' k ∧ wt k = wt' k := fun k a b => ⟨(h k a b).1, (h k a b).2.2⟩
  have e0 : mk 0 = mk' 0 := (h 0 (by omega) (by omega)).1
  have eo : oldI ag n.toNat = oldI ag' n.toNat := oldI_congr (fun k a b => (h k a (by omega)).2.1)
  have bo := oldI_bd ag' n.toNat
  have em : mk (oldI ag' n.toNat) = mk' (oldI ag' n.toNat) := (h _ bo.1 (by omega)).1
  have ew : sm wt n.toNat = sm wt' n.toNat := sm_congr (fun k a b => (h k a (by omega)).2.2)
  have ec : (fun m => n ≤ 2 * cnm n mk m) = fun m => n ≤ 2 * cnm n mk' m := by
    funext m
    rw [cnm_congr (fun k a b => (h k a b).1)]
  have eg : (fun m => sm wt n.toNat < 2 * wgt n mk wt m) = fun m => sm wt' n.toNat < 2 * wgt n mk' wt' m := by
    funext m
    rw [wgt_congr h1, ew]
  unfold who
  rw [e0, eg, isMo_congr h1, eo, em, ec]
theorem wgt_nn {n : Int} {mk wt : Int → Int} {m : Int} (h : ∀ k, 0 ≤ k → k < n → 0 ≤ wt k ∧ wt k ≤ 9) : 0 ≤ wgt n mk wt m ∧ wgt n mk wt m ≤ n.toNat * 9 := by
  unfold wgt
  apply sm_bd
  intro i i0 i1
  have := h i i0 (by omega)
  split <;> omega
theorem sm_pos {f : Int → Int} : ∀ {n : Nat} {k : Int}, (∀ i : Int, 0 ≤ i → i < n → 0 ≤ f i) → 0 ≤ k → k < n → 0 < f k → 0 < sm f n
  | 0, k, _, h1, h2, _ => by omega
  | n + 1, k, h, h1, h2, h3 => by
    show 0 < sm f n + f n
    have hn := h n (by omega) (by omega)
    have hs : 0 ≤ sm f n := by
      have : ∀ m : Nat, m ≤ n → 0 ≤ sm f m := by
        intro m
        induction m with
        | zero => intro _; simp [sm]
        | succ m ih =>
          intro hm
          have := ih (by omega)
          have := h m (by omega) (by omega)
          show 0 ≤ sm f m + f m
          omega
      exact this n (Nat.le_refl _)
    by_cases e : k = n
    · subst e; omega
    · have := sm_pos (n := n) (k := k) (fun i a b => h i a (by omega)) h1 (by omega) h3
      omega
theorem sm_zero {f : Int → Int} : ∀ {n : Nat}, (∀ i : Int, 0 ≤ i → i < n → f i = 0) → sm f n = 0
  | 0, _ => rfl
  | n + 1, h => by
    show sm f n + f n = 0
    rw [sm_zero (n := n) (fun i a b => h i a (by omega)), h n (by omega) (by omega)]
    rfl
/-- the heaviest make and whether it is alone tell who has more -/
theorem more_of {n : Int} {mk wt : Int → Int} {hv al : Int} (hn : 1 ≤ n) (hmk : ∀ k, 0 ≤ k → k < n → isMk (mk k)) (hwt : ∀ k, 0 ≤ k → k < n → 1 ≤ wt k ∧ wt k ≤ 9) (h0 : 0 ≤ hv) (h1 : hv < 10) (hmax : ∀ o, 0 ≤ o → o < 10 → wgt n mk wt o ≤ wgt n mk wt hv)
    (hal : al = 1 → ∀ o, 0 ≤ o → o < 10 → o ≠ hv → wgt n mk wt o < wgt n mk wt hv) (hna : al = 0 → ∃ o, 0 ≤ o ∧ o < 10 ∧ o ≠ hv ∧ wgt n mk wt o = wgt n mk wt hv) (hb : al = 0 ∨ al = 1) :
    f4 (isMo n mk wt) = if al = 0 then -9 else shO hv := by
  symm
  apply f4_eq
  rcases hb with hb | hb
  · rw [if_pos hb]
    obtain ⟨o, o0, o1, o2, o3⟩ := hna hb
    refine Or.inr ⟨rfl, fun q q0 q1 hq => ?_⟩
    by_cases e : q = hv
    · subst e
      have := hq o o0 o1 o2
      omega
    · have := hq hv h0 h1 (fun z => e z.symm)
      have := hmax q q0 (by omega)
      omega
  · rw [if_neg (by omega)]
    have hmo := hal hb
    have hpos : 0 < wgt n mk wt (mk 0) := by
      unfold wgt
      refine sm_pos (k := 0) (fun i a b => ?_) (by omega) (by omega) ?_
      · have := hwt i a (by omega)
        show 0 ≤ if mk i = mk 0 then wt i else 0
        split <;> omega
      · have := hwt 0 (by omega) (by omega)
        show 0 < if mk 0 = mk 0 then wt 0 else 0
        rw [if_pos rfl]; omega
    have hk0 := hmk 0 (by omega) (by omega)
    have hin : isMk hv := by
      apply Classical.byContradiction
      intro hno
      have hz : wgt n mk wt hv = 0 := by
        unfold wgt
        apply sm_zero
        intro i a b
        have := hmk i a (by omega)
        show (if mk i = hv then wt i else 0) = 0
        rw [if_neg]
        intro z
        rw [z] at this
        exact hno this
      have : wgt n mk wt (mk 0) ≤ wgt n mk wt hv := by
        rcases hk0 with h | h
        · exact hmax _ h.1 (by omega)
        · exact hmax _ (by omega) (by omega)
      omega
    unfold shO
    rcases hin with h | h
    · rw [if_neg (by omega)]
      refine Or.inl ⟨h0, by omega, hmo, fun q q0 q1 hq => ?_⟩
      have := hq hv h0 h1 (by omega)
      have := hmax q q0 (by omega)
      omega
    · rw [if_pos h]
      refine Or.inr ⟨rfl, fun q q0 q1 hq => ?_⟩
      have := hq hv h0 h1 (by omega)
      have := hmax q q0 (by omega)
      omega
/-- the class's own invariants -/
def XI (S : St) : Prop :=
  (2 ≤ S 1 0 ∧ S 1 0 ≤ 6) ∧ (∀ k, 0 ≤ k → k < 6 → 1 ≤ S 2 k ∧ S 2 k ≤ 9 ∧ 1 ≤ S 3 k ∧ S 3 k ≤ 30) ∧ (0 ≤ S 27 1 ∧ S 27 1 ≤ 48) ∧ (0 ≤ S 27 2 ∧ S 27 2 ≤ 6) ∧ (0 ≤ S 27 0 ∧ S 27 0 ≤ 99) ∧
  (∀ p, 0 ≤ p → p < S 27 1 → (0 ≤ S 28 p ∧ S 28 p < S 1 0) ∧ isMk (S 29 p) ∧ (0 ≤ S 30 p ∧ S 30 p ≤ 200) ∧ (0 ≤ S 31 p ∧ S 31 p ≤ 9)) ∧
  (∀ s k, 0 ≤ s → s < S 27 2 → 0 ≤ k → k < S 1 0 → 0 ≤ S 33 (s * 6 + k) ∧ S 33 (s * 6 + k) < S 27 1)
theorem XI.same {l : List Nat} {S S' : St} (h : XI S) (hs : Same l S S') (hl : (∀ c ∈ l, c ∉ [1, 2, 3, 27, 28, 29, 30, 31, 33])) : XI S' := by
  have e : ∀ c ∈ [1, 2, 3, 27, 28, 29, 30, 31, 33], S' c = S c := fun c hc => hs c (fun z => hl c z hc)
  have e1 := e 1 (by decide); have e2 := e 2 (by decide); have e3 := e 3 (by decide)
  have e4 := e 27 (by decide); have e5 := e 28 (by decide); have e6 := e 29 (by decide)
  have e7 := e 30 (by decide); have e8 := e 31 (by decide); have e9 := e 33 (by decide)
  unfold XI
  rw [e1, e2, e3, e4, e5, e6, e7, e8, e9]
  exact h
