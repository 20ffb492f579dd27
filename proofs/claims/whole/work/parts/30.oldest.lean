/-! BECOMES by OLDEST -/
theorem oldI_spec (ag : Int → Int) : ∀ n : Nat, 1 ≤ n → (∀ j : Int, 0 ≤ j → j < oldI ag n → ag j < ag (oldI ag n)) ∧ ∀ j : Int, 0 ≤ j → j < n → ag j ≤ ag (oldI ag n)
  | 0, h => by omega
  | 1, _ => by
    have e : oldI ag 1 = 0 := by simp [oldI]
    rw [e]
    exact ⟨fun j a b => by omega, fun j a b => by rw [show j = 0 by omega]; exact Int.le_refl _⟩
  | n + 2, _ => by
    obtain ⟨h1, h2⟩ := oldI_spec ag (n + 1) (by omega)
    have hb := oldI_bd ag (n + 1)
    have e : oldI ag (n + 2) = if ag (oldI ag (n + 1)) < ag ((n + 1 : Nat) : Int) then ((n + 1 : Nat) : Int) else oldI ag (n + 1) := rfl
    by_cases hc : ag (oldI ag (n + 1)) < ag ((n + 1 : Nat) : Int)
    · rw [e, if_pos hc]
      refine ⟨fun j a b => ?_, fun j a b => ?_⟩
      · have := h2 j a b; omega
      · by_cases q : j = ((n + 1 : Nat) : Int)
        · rw [q]; exact Int.le_refl _
        · have := h2 j a (by omega); omega
    · rw [e, if_neg hc]
      refine ⟨h1, fun j a b => ?_⟩
      by_cases q : j = ((n + 1 : Nat) : Int)
      · rw [q]; omega
      · exact h2 j a (by omega)
theorem oldI_char {ag : Int → Int} {n k : Int} (h0 : 0 ≤ k) (hk : k < n) (h1 : ∀ j, 0 ≤ j → j < k → ag j < ag k) (h2 : ∀ j, k < j → j < n → ag j ≤ ag k) : oldI ag n.toNat = k := by
  obtain ⟨a1, a2⟩ := oldI_spec ag n.toNat (by omega)
  have hb := oldI_bd ag n.toNat
  rcases Int.lt_trichotomy (oldI ag n.toNat) k with h | h | h
  · have := h1 _ hb.1 h
    have := a2 k h0 (by omega)
    omega
  · exact h
  · have := a1 k h0 h
    have := h2 _ h (by omega)
    omega
def NoR (S : St) (k bd r : Int) : Prop := (cAG S k ≤ bd ∧ r = -5) ∨ (bd < cAG S k ∧ Fst (fun p => (S 31 p = 8 ∧ S 28 p = k) ∧ S 30 p ≤ bd) (S 27 1) (-9) r)
def own (S : St) (k : Int) : Int := S 33 (S 8 7 * 6 + k)
def age (S : St) (c : Int → Int) (j : Int) : Int := rowF (cAG S) (S 30) c j
def cO (S : St) : (Int → Int) → Prop := okC (S 1 0) (S 27 1) (S 31) (S 28)
/-- rows whose oldest is part p in place k -/
def EO (S : St) (k p : Int) (c : Int → Int) : Prop := cO S c ∧ ((c k = -5 ∧ own S k = p) ∨ c k = p) ∧ (∀ j, 0 ≤ j → j < k → age S c j < S 30 p) ∧ ∀ j, k < j → j < S 1 0 → age S c j ≤ S 30 p
def bdO (S : St) (k p j : Int) : Int := if j < k then S 30 p - 1 else S 30 p
/-- the row that tryOldest makes, up to j -/
def WO (S : St) (k p ch : Int) (w : Int → Int) (j : Int) : Prop := ∀ i, 0 ≤ i → i < j → if i = k then w i = ch else (NoR S i (bdO S k p i) (w i) ∧ w i ≠ -9)
def qual (S : St) (k p : Int) : Prop := (0 ≤ p ∧ p < S 27 1) ∧ (p = own S k ∨ (S 31 p = 8 ∧ S 28 p = k)) ∧ S 29 p = S 8 9
theorem EO.row {S : St} {k p ch : Int} {w c : Int → Int} {j : Int} (hj : j ≤ S 1 0) (hp0 : 0 ≤ p) (hch : (ch = -5 ∧ p = own S k) ∨ (ch = p ∧ p ≠ own S k)) (hw : WO S k p ch w j) (hc : EO S k p c) : ∀ i, 0 ≤ i → i < j → w i ≤ c i ∧ (c i = -5 → w i = -5) := by
  intro i a b
  have h := hw i a b
  obtain ⟨c1, c2, c3, c4⟩ := hc
  have hv := c1 i a (by omega)
  by_cases e : i = k
  · rw [if_pos e] at h
    subst e
    rcases c2 with ⟨c2, c2'⟩ | c2 <;> rcases hch with ⟨q1, q2⟩ | ⟨q1, q2⟩ <;> omega
  · rw [if_neg e] at h
    obtain ⟨h, h9⟩ := h
    have hag : age S c i ≤ bdO S k p i := by
      unfold bdO
      by_cases q : i < k
      · rw [if_pos q]; have := c3 i a q; omega
      · rw [if_neg q]; exact c4 i (by omega) (by omega)
    rcases h with ⟨h1, h2⟩ | ⟨h1, h2⟩
    · omega
    · have hne : c i ≠ -5 := by
        intro z
        unfold age rowF at hag
        rw [if_pos z] at hag
        omega
      rcases hv with hv | hv
      · exact absurd hv hne
      · unfold age rowF at hag
        rw [if_neg hne] at hag
        rcases h2 with ⟨g1, g2, g3, g4⟩ | ⟨g1, g2⟩
        · refine ⟨?_, fun z => absurd z hne⟩
          apply Classical.byContradiction
          intro z
          exact g4 (c i) hv.1.1 (by omega) ⟨hv.2, hag⟩
        · exact absurd g1 h9
theorem EO.fail {S : St} {k p : Int} {j : Int} (h0 : 0 ≤ j) (hj : j < S 1 0) (hjk : j ≠ k) (h : NoR S j (bdO S k p j) (-9)) (c : Int → Int) : ¬ EO S k p c := by
  intro hc
  obtain ⟨c1, c2, c3, c4⟩ := hc
  have hv := c1 j h0 hj
  have hag : age S c j ≤ bdO S k p j := by
    unfold bdO
    by_cases q : j < k
    · rw [if_pos q]; have := c3 j h0 q; omega
    · rw [if_neg q]; exact c4 j (by omega) hj
  unfold age rowF at hag
  rcases h with ⟨h1, h2⟩ | ⟨h1, h2⟩
  · omega
  · rcases h2 with ⟨g1, _⟩ | ⟨_, g2⟩
    · omega
    · rcases hv with hv | hv
      · rw [if_pos hv] at hag; omega
      · rw [if_neg (by omega)] at hag
        exact g2 (c j) hv.1.1 hv.1.2 ⟨hv.2, hag⟩
theorem pt_bett {n : Int} {w c : Int → Int} (h : ∀ i, 0 ≤ i → i < n → w i ≤ c i ∧ (c i = -5 → w i = -5)) : bett n w c := by
  have hle : cnC n w ≤ cnC n c := by
    unfold cnC
    have : ∀ m : Nat, (m : Int) ≤ n ∨ m = 0 → sm (fun j => if w j = -5 then 0 else 1) m ≤ sm (fun j => if c j = -5 then 0 else 1) m := by
      intro m
      induction m with
      | zero => intro _; exact Int.le_refl _
      | succ m ih =>
        intro hm
        have hi := ih (by omega)
        have := h m (by omega) (by omega)
        show sm (fun j => if w j = -5 then 0 else 1) m + (if w m = -5 then 0 else 1 : Int) ≤ sm (fun j => if c j = -5 then 0 else 1) m + (if c m = -5 then 0 else 1 : Int)
        have : (if w m = -5 then 0 else 1 : Int) ≤ if c m = -5 then 0 else 1 := by
          by_cases e : c m = -5
          · rw [if_pos e, if_pos (this.2 e)]; exact Int.le_refl _
          · rw [if_neg e]; split <;> omega
        omega
    exact this n.toNat (by omega)
  rcases Int.lt_or_eq_of_le hle with q | q
  · exact Or.inl q
  · refine Or.inr ⟨q, ?_⟩
    rcases lex_tot (n := n) w c with z | z
    · exact z
    · rcases z with z | ⟨k, k0, k1, k2, k3⟩
      · exact Or.inl fun i a b => (z i a b).symm
      · have := (h k k0 k1).1; omega
theorem WO.eo {S : St} {k p ch : Int} {w : Int → Int} (hX : XI S) (sh0 : 0 ≤ S 8 7) (sh1 : S 8 7 < S 27 2) (hk0 : 0 ≤ k) (hk1 : k < S 1 0) (hq : qual S k p) (hch : (ch = -5 ∧ p = own S k) ∨ (ch = p ∧ p ≠ own S k)) (hw : WO S k p ch w (S 1 0)) : EO S k p w := by
  obtain ⟨⟨hp0, hp1⟩, hq2, hq3⟩ := hq
  have hwk := hw k hk0 hk1
  rw [if_pos rfl] at hwk
  have hna : ∀ j, 0 ≤ j → j < S 1 0 → j ≠ k → (w j = -5 ∨ ((0 ≤ w j ∧ w j < S 27 1) ∧ S 31 (w j) = 8 ∧ S 28 (w j) = j)) ∧ age S w j ≤ bdO S k p j := by
    intro j a b e
    have h := hw j a b
    rw [if_neg e] at h
    rcases h with ⟨⟨h1, h2⟩ | ⟨h1, h2⟩, h9⟩
    · refine ⟨Or.inl h2, ?_⟩
      unfold age rowF
      rw [if_pos h2]; exact h1
    · rcases h2 with ⟨g1, g2, g3, g4⟩ | ⟨g1, g2⟩
      · refine ⟨Or.inr ⟨⟨g1, g2⟩, g3.1⟩, ?_⟩
        unfold age rowF
        rw [if_neg (by omega)]; exact g3.2
      · exact absurd g1 h9
  refine ⟨fun j a b => ?_, ?_, fun j a b => ?_, fun j a b => ?_⟩
  · by_cases e : j = k
    · subst e
      rw [hwk]
      rcases hch with ⟨z1, z2⟩ | ⟨z1, z2⟩
      · exact Or.inl z1
      · rcases hq2 with z | z
        · exact absurd z z2
        · exact Or.inr ⟨by omega, by rw [z1]; exact z⟩
    · exact (hna j a b e).1
  · rw [hwk]
    rcases hch with ⟨z1, z2⟩ | ⟨z1, z2⟩
    · exact Or.inl ⟨z1, z2.symm⟩
    · exact Or.inr z1
  · have := (hna j a (by omega) (by omega)).2
    unfold bdO at this
    rw [if_pos b] at this
    omega
  · have := (hna j (by omega) b (by omega)).2
    unfold bdO at this
    rw [if_neg (by omega)] at this
    exact this
theorem EO.ext {S : St} {k p : Int} (hk0 : 0 ≤ k) (hk1 : k < S 1 0) {x y : Int → Int} (h : ∀ j, 0 ≤ j → j < S 1 0 → x j = y j) (g : EO S k p x) : EO S k p y := by
  obtain ⟨c1, c2, c3, c4⟩ := g
  refine ⟨c1.ext h, by rw [← h k hk0 hk1]; exact c2, fun j a b => ?_, fun j a b => ?_⟩
  · unfold age; rw [← rowF_congr (h j a (by omega))]; exact c3 j a b
  · unfold age; rw [← rowF_congr (h j (by omega) b)]; exact c4 j a b
/-- the best so far, of rows that all do -/
def Opt (n : Int) (D : (Int → Int) → Prop) (f few : Int) (best : Int → Int) : Prop := (f = 0 ∧ few = n + 1 ∧ ∀ c, ¬ D c) ∨ (f = 1 ∧ D best ∧ few = cnC n best ∧ ∀ c, D c → bett n best c)
theorem Opt.none {n : Int} {D E D' : (Int → Int) → Prop} {f few : Int} {best : Int → Int} (h : Opt n D f few best) (hE : ∀ c, ¬ E c) (hd : ∀ c, D' c ↔ D c ∨ E c) : Opt n D' f few best := by
  have : D' = D := funext fun c => propext ((hd c).trans ⟨fun z => z.elim id (fun w => absurd w (hE c)), Or.inl⟩)
  rw [this]; exact h
theorem Opt.take {n : Int} (hn : 0 ≤ n) {D E D' : (Int → Int) → Prop} {f few : Int} {best w b' : Int → Int} (h : Opt n D f few best) (hw : E w) (hb : ∀ c, E c → bett n w c) (hd : ∀ c, D' c ↔ D c ∨ E c) (hx : cnC n w < few ∨ (cnC n w = few ∧ lex n w best)) (hwb : ∀ j, 0 ≤ j → j < n → b' j = w j) (hext : ∀ x y, (∀ j, 0 ≤ j → j < n → x j = y j) → E x → E y) : Opt n D' 1 (cnC n w) b' := by
  have e := cnC_congr hwb
  have key : ∀ c, D' c → bett n w c := by
    intro c hc
    rcases (hd c).mp hc with z | z
    · rcases h with ⟨a1, a2, a3⟩ | ⟨a1, a2, a3, a4⟩
      · exact absurd z (a3 c)
      · have := a4 c z
        rcases hx with q | q
        · have := bett_le this; exact Or.inl (by omega)
        · exact bett_tr (Or.inr ⟨by omega, q.2⟩) this
    · exact hb c z
  exact Or.inr ⟨rfl, (hd _).mpr (Or.inr (hext w b' (fun j a b => (hwb j a b).symm) hw)), e.symm, fun c hc => bett_tr (Or.inr ⟨e, Or.inl hwb⟩) (key c hc)⟩
theorem Opt.keep {n : Int} (hn : 0 ≤ n) {D E D' : (Int → Int) → Prop} {f few : Int} {best w : Int → Int} (h : Opt n D f few best) (hb : ∀ c, E c → bett n w c) (hd : ∀ c, D' c ↔ D c ∨ E c) (hx : few < cnC n w ∨ (cnC n w = few ∧ lex n best w)) : Opt n D' f few best := by
  rcases h with ⟨a1, a2, a3⟩ | ⟨a1, a2, a3, a4⟩
  · have := cnC_bd n hn w; omega
  · refine Or.inr ⟨a1, (hd _).mpr (Or.inl a2), a3, fun c hc => ?_⟩
    rcases (hd c).mp hc with z | z
    · exact a4 c z
    · have := hb c z
      rcases hx with q | q
      · have := bett_le this; exact Or.inl (by omega)
      · exact bett_tr (Or.inr ⟨by omega, q.2⟩) this
/-- what has been tried: places below k, and parts below p in place k -/
def DO (S : St) (k p : Int) (c : Int → Int) : Prop := ∃ k' p', (k' < k ∨ (k' = k ∧ p' < p)) ∧ (0 ≤ k' ∧ k' < S 1 0) ∧ qual S k' p' ∧ EO S k' p' c
theorem DO.skip {S : St} {k p : Int} (h : ¬ qual S k p) (c : Int → Int) : DO S k (p + 1) c ↔ DO S k p c := by
  constructor
  · intro ⟨k', p', a, b, d, e⟩
    refine ⟨k', p', ?_, b, d, e⟩
    rcases a with a | ⟨a, a2⟩
    · exact Or.inl a
    · refine Or.inr ⟨a, ?_⟩
      by_cases q : p' = p
      · rw [a, q] at d; exact absurd d h
      · omega
  · intro ⟨k', p', a, b⟩
    exact ⟨k', p', by omega, b⟩
theorem DO.add {S : St} {k p : Int} (h0 : 0 ≤ k) (h1 : k < S 1 0) (h : qual S k p) (c : Int → Int) : DO S k (p + 1) c ↔ DO S k p c ∨ EO S k p c := by
  constructor
  · intro ⟨k', p', a, b, d, e⟩
    by_cases q : k' = k ∧ p' = p
    · obtain ⟨q1, q2⟩ := q
      subst q1; subst q2
      exact Or.inr e
    · exact Or.inl ⟨k', p', by omega, b, d, e⟩
  · intro z
    rcases z with ⟨k', p', a, b⟩ | z
    · exact ⟨k', p', by omega, b⟩
    · exact ⟨k, p, by omega, ⟨h0, h1⟩, h, z⟩
theorem DO.next {S : St} {k : Int} (c : Int → Int) : DO S (k + 1) 0 c ↔ DO S k (S 27 1) c := by
  constructor
  · intro ⟨k', p', a, b, d, e⟩
    exact ⟨k', p', by have := d.1; omega, b, d, e⟩
  · intro ⟨k', p', a, b, d, e⟩
    exact ⟨k', p', by have := d.1; omega, b, d, e⟩
theorem DO.zero {S : St} (c : Int → Int) : ¬ DO S 0 0 c := by
  intro ⟨k', p', a, b, d, e⟩
  have := d.1
  omega
theorem DO.all {S : St} (hX : XI S) (sh0 : 0 ≤ S 8 7) (sh1 : S 8 7 < S 27 2) (hl : S 8 8 = 3) (hg0 : 0 ≤ S 8 9) (hg1 : S 8 9 ≤ 3) (c : Int → Int) : DO S (S 1 0) 0 c ↔ cO S c ∧ cG S c := by
  have hn := hX.1
  constructor
  · intro ⟨k, p, a, ⟨b0, b1⟩, d, e⟩
    refine ⟨e.1, ?_⟩
    obtain ⟨c1, c2, c3, c4⟩ := e
    have hak : age S c k = S 30 p := by
      unfold age rowF
      rcases c2 with ⟨z1, z2⟩ | z
      · rw [if_pos z1]; unfold cAG; rw [← z2]; rfl
      · rw [if_neg (by have := d.1; omega), z]
    have ho : oldI (age S c) (S 1 0).toNat = k := oldI_char b0 b1 (fun j x y => by rw [hak]; exact c3 j x y) (fun j x y => by rw [hak]; exact c4 j x y)
    show who _ _ _ _ _ = _
    unfold who
    rw [hl]
    simp only [show ¬ (3 : Int) = 0 by decide, show ¬ (3 : Int) = 1 by decide, show ¬ (3 : Int) = 2 by decide, if_false, if_true]
    rw [show oldI (rowF (cAG S) (S 30) c) (S 1 0).toNat = k from ho]
    have hm : rowF (cMK S) (S 29) c k = S 8 9 := by
      unfold rowF
      rcases c2 with ⟨z1, z2⟩ | z
      · rw [if_pos z1]; unfold cMK; rw [← d.2.2, ← z2]; rfl
      · rw [if_neg (by have := d.1; omega), z]; exact d.2.2
    rw [hm]
    unfold shO
    rw [if_neg (by omega)]
  · intro ⟨hc, hg⟩
    have hg' : shO (rowF (cMK S) (S 29) c (oldI (age S c) (S 1 0).toNat)) = S 8 9 := by
      have : who (S 1 0) (rowF (cMK S) (S 29) c) (rowF (cAG S) (S 30) c) (S 2) (S 8 8) = S 8 9 := hg
      unfold who at this
      rw [hl] at this
      simp only [show ¬ (3 : Int) = 0 by decide, show ¬ (3 : Int) = 1 by decide, show ¬ (3 : Int) = 2 by decide, if_false, if_true] at this
      exact this
    have hb := oldI_bd (age S c) (S 1 0).toNat
    obtain ⟨s1, s2⟩ := oldI_spec (age S c) (S 1 0).toNat (by omega)
    generalize hk : oldI (age S c) (S 1 0).toNat = k at hg' hb s1 s2
    have hk1 : k < S 1 0 := by omega
    have hm : rowF (cMK S) (S 29) c k = S 8 9 := by
      unfold shO at hg'
      split at hg'
      · omega
      · exact hg'
    have hgk := hX.2.2.2.2.2.2 (S 8 7) k sh0 sh1 hb.1 hk1
    refine ⟨k, if c k = -5 then own S k else c k, Or.inl hk1, ⟨hb.1, hk1⟩, ?_, hc, ?_, ?_, ?_⟩
    · unfold rowF at hm
      by_cases e : c k = -5
      · rw [if_pos e] at hm ⊢
        exact ⟨hgk, Or.inl rfl, hm⟩
      · rw [if_neg e] at hm ⊢
        rcases hc k hb.1 hk1 with z | z
        · exact absurd z e
        · exact ⟨z.1, Or.inr z.2, hm⟩
    · by_cases e : c k = -5
      · rw [if_pos e]; exact Or.inl ⟨e, rfl⟩
      · rw [if_neg e]; exact Or.inr rfl
    · intro j x y
      have := s1 j x y
      have ek : age S c k = S 30 (if c k = -5 then own S k else c k) := by
        unfold age rowF
        by_cases e : c k = -5
        · rw [if_pos e, if_pos e]; rfl
        · rw [if_neg e, if_neg e]
      omega
    · intro j x y
      have := s2 j (by omega) (by omega)
      have ek : age S c k = S 30 (if c k = -5 then own S k else c k) := by
        unfold age rowF
        by_cases e : c k = -5
        · rw [if_pos e, if_pos e]; rfl
        · rw [if_neg e, if_neg e]
      omega
theorem Opt.bec {n : Int} {D O G : (Int → Int) → Prop} {f few : Int} {best : Int → Int} (h : Opt n D f few best) (hd : ∀ c, D c ↔ O c ∧ G c) : BecR n O G f few best := by
  rcases h with ⟨a1, a2, a3⟩ | ⟨a1, a2, a3, a4⟩
  · exact Or.inl ⟨a1, fun c hc hg => a3 c ((hd c).mpr ⟨hc, hg⟩)⟩
  · exact Or.inr ⟨a1, ((hd _).mp a2).1, ((hd _).mp a2).2, a3, fun c hc hg => a4 c ((hd c).mpr ⟨hc, hg⟩)⟩
def BecA (n : Int) (D G : (Int → Int) → Prop) (k r : Int) : Prop := ∃ f few best, BecR n D G f few best ∧ r = if f = 0 then -9 else if k = -1 then few else best k
theorem BecA.uniq {n : Int} {D G : (Int → Int) → Prop} {k r r' : Int} (hk : k = -1 ∨ (0 ≤ k ∧ k < n)) (h : BecA n D G k r) (h' : BecA n D G k r') : r = r' := by
  obtain ⟨f, few, b, h1, h2⟩ := h
  obtain ⟨f', few', b', h1', h2'⟩ := h'
  obtain ⟨e1, e2⟩ := h1.uniq h1'
  have hf : f = 0 ∨ f = 1 := by
    rcases h1 with z | z
    · exact Or.inl z.1
    · exact Or.inr z.1
  rcases hf with hf | hf
  · rw [h2, h2', if_pos hf, if_pos (by omega)]
  · obtain ⟨e3, e4⟩ := e2 hf
    have hz : ¬ f = 0 := by omega
    have hz' : ¬ f' = 0 := by omega
    rw [h2, h2', if_neg hz, if_neg hz']
    by_cases q : k = -1
    · simp only [if_pos q]; exact e3
    · simp only [if_neg q]; exact e4 k (by omega) (by omega)
