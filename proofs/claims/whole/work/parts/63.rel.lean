/-! the class's rows A and the model's rows B hold the same state -/
def FR (A B : St) (c a : Nat) (o n : Int) : Prop := A c 0 = B a o ∧ A c 1 = B a (o + 1) ∧ A c 2 = B a (o + 2) ∧ (∀ p, 0 ≤ p → p < A c 1 → A (c + 4) p = B a (o + (3 + p)) ∧ A (c + 3) p = B a (o + (51 + p)) ∧ A (c + 1) p = B a (o + (141 + p)) ∧ A (c + 2) p = B 124 p) ∧ (∀ s, 0 ≤ s → s < A c 2 → A (c + 5) s = B a (o + (135 + s))) ∧ ∀ s k, 0 ≤ s → s < A c 2 → 0 ≤ k → k < n → A (c + 6) (s * 6 + k) = B a (o + (99 + (s * 6 + k)))
def FI (A : St) (c : Nat) (n b : Int) : Prop := (b ≤ A c 1 ∧ 0 ≤ A c 1 ∧ A c 1 ≤ 48) ∧ (0 ≤ A c 2 ∧ A c 2 ≤ 6) ∧ (0 ≤ A c 0 ∧ A c 0 ≤ 99) ∧ (∀ p, 0 ≤ p → p < A c 1 → (0 ≤ A (c + 1) p ∧ A (c + 1) p < n) ∧ isMk (A (c + 2) p) ∧ (0 ≤ A (c + 3) p ∧ A (c + 3) p ≤ A c 0 + 30) ∧ (0 ≤ A (c + 4) p ∧ A (c + 4) p ≤ 9) ∧ (b ≤ p → A (c + 2) p = 9)) ∧ ∀ s k, 0 ≤ s → s < A c 2 → 0 ≤ k → k < n → (0 ≤ A (c + 6) (s * 6 + k) ∧ A (c + 6) (s * 6 + k) < A c 1) ∧ A (c + 4) (A (c + 6) (s * 6 + k)) = s ∧ A (c + 1) (A (c + 6) (s * 6 + k)) = k
def uC (nx u j : Int) : Nat := 48 + 7 * ((nx + 10 - u + j) % 10).toNat
def RT (A B : St) : Prop := A 0 12 = B 118 3 ∧ (0 ≤ A 0 12 ∧ A 0 12 ≤ 200) ∧ A 16 = B 119 ∧ ∀ i, 0 ≤ i → i < A 0 12 → 0 ≤ A 16 i ∧ A 16 i ≤ 255
def RP (A B : St) : Prop := A 1 0 = B 118 13 ∧ (2 ≤ A 1 0 ∧ A 1 0 ≤ 6) ∧ ∀ k, 0 ≤ k → k < 6 → (A 2 k = B 120 k ∧ A 3 k = B 121 k) ∧ (1 ≤ A 2 k ∧ A 2 k ≤ 9) ∧ 1 ≤ A 3 k ∧ A 3 k ≤ 30
def RF (A B : St) (b : Int) : Prop := FR A B 27 125 0 (A 1 0) ∧ FI A 27 (A 1 0) b
def RU (A B : St) (b : Int) : Prop := A 11 2 = B 118 22 ∧ (0 ≤ A 11 2 ∧ A 11 2 ≤ 10) ∧ (0 ≤ A 11 1 ∧ A 11 1 < 10) ∧ ∀ j, 0 ≤ j → j < A 11 2 → FR A B (uC (A 11 1) (A 11 2) j) 128 (189 * j) (A 1 0) ∧ FI A (uC (A 11 1) (A 11 2) j) (A 1 0) b
def RG (A B : St) (b : Int) : Prop := ∀ i, 0 ≤ i → i < 2 → A 15 i = B 127 i ∧ (A 15 i ≠ 0 → FR A B (34 + 7 * i.toNat) 126 (189 * i) (A 1 0) ∧ FI A (34 + 7 * i.toNat) (A 1 0) b)
def RS (A B : St) : Prop := A 0 13 = B 118 25 ∧ (0 ≤ A 0 13 ∧ A 0 13 ≤ 6) ∧ ∀ i, 0 ≤ i → i < A 0 13 → (A 25 i = B 129 i ∧ A 26 i = B 130 i) ∧ 0 ≤ A 25 i ∧ A 25 i < A 1 0
def Rel (A B : St) (b : Int) : Prop := 0 ≤ b ∧ RT A B ∧ RP A B ∧ RF A B b ∧ RU A B b ∧ RG A B b ∧ RS A B ∧ A 13 2 = B 118 1 ∧ B 118 0 = 0
/-- rows copied -/
def Cp (A A' : St) (c d : Nat) : Prop := A' d 0 = A c 0 ∧ A' d 1 = A c 1 ∧ A' d 2 = A c 2 ∧ (∀ i, 0 ≤ i → i < A c 1 → A' (d + 1) i = A (c + 1) i ∧ A' (d + 2) i = A (c + 2) i ∧ A' (d + 3) i = A (c + 3) i ∧ A' (d + 4) i = A (c + 4) i) ∧ (∀ i, 0 ≤ i → i < A c 2 → A' (d + 5) i = A (c + 5) i) ∧ ∀ i, 0 ≤ i → i < A c 2 * 6 → A' (d + 6) i = A (c + 6) i
theorem Cp.row {A A' : St} {c : Nat} (h : ∀ e, e ≤ 6 → A' (c + e) = A (c + e)) : Cp A A' c c := by
  have h0 := h 0 (by omega)
  rw [Nat.add_zero] at h0
  unfold Cp
  rw [h0, h 1 (by omega), h 2 (by omega), h 3 (by omega), h 4 (by omega), h 5 (by omega), h 6 (by omega)]
  exact ⟨rfl, rfl, rfl, fun _ _ _ => ⟨rfl, rfl, rfl, rfl⟩, fun _ _ _ => rfl, fun _ _ _ => rfl⟩
theorem Cpd.cp {S S' : St} {c d : Nat} (h : Cpd S d c S') : Cp S S' c d := ⟨h.1, h.2.1, h.2.2.1, h.2.2.2.1, h.2.2.2.2.1, h.2.2.2.2.2.1⟩
theorem FI.to {A A' : St} {c d : Nat} {n b : Int} (h : FI A c n b) (hn : n ≤ 6) (hc : Cp A A' c d) : FI A' d n b := by
  obtain ⟨a1, a2, a3, a4, a5⟩ := h
  obtain ⟨c0, c1, c2, c3, c4, c5⟩ := hc
  unfold FI
  rw [c0, c1, c2]
  refine ⟨a1, a2, a3, fun p p0 p1 => ?_, fun s k s0 s1 k0 k1 => ?_⟩
  · obtain ⟨e1, e2, e3, e4⟩ := c3 p p0 p1
    rw [e1, e2, e3, e4]
    exact a4 p p0 p1
  · rw [c5 (s * 6 + k) (by omega) (by omega)]
    have z := a5 s k s0 s1 k0 k1
    obtain ⟨e1, _, _, e4⟩ := c3 _ z.1.1 z.1.2
    rw [e1, e4]
    exact z
theorem FR.to {A A' B B' : St} {c d a a' : Nat} {o o' n b : Int} (h : FR A B c a o n) (hi : FI A c n b) (hn : n ≤ 6) (hc : Cp A A' c d) (hB : ∀ i, 0 ≤ i → i < 189 → B' a' (o' + i) = B a (o + i)) (h4 : ∀ p, 0 ≤ p → p < A c 1 → B' 124 p = B 124 p) : FR A' B' d a' o' n := by
  obtain ⟨r0, r1, r2, r3, r4, r5⟩ := h
  obtain ⟨c0, c1, c2, c3, c4, c5⟩ := hc
  have b1 := hi.1
  have b2 := hi.2.1
  have z := hB 0 (by omega) (by omega)
  rw [Int.add_zero, Int.add_zero] at z
  unfold FR
  rw [c0, c1, c2, z, hB 1 (by omega) (by omega), hB 2 (by omega) (by omega)]
  refine ⟨r0, r1, r2, fun p p0 p1 => ?_, fun s s0 s1 => ?_, fun s k s0 s1 k0 k1 => ?_⟩
  · obtain ⟨e1, e2, e3, e4⟩ := c3 p p0 p1
    rw [e1, e2, e3, e4, hB (3 + p) (by omega) (by omega), hB (51 + p) (by omega) (by omega), hB (141 + p) (by omega) (by omega), h4 p p0 p1]
    exact r3 p p0 p1
  · rw [c4 s s0 s1, hB (135 + s) (by omega) (by omega)]
    exact r4 s s0 s1
  · rw [c5 (s * 6 + k) (by omega) (by omega), hB (99 + (s * 6 + k)) (by omega) (by omega)]
    exact r5 s k s0 s1 k0 k1
theorem uC_bd (nx u j : Int) : 48 ≤ uC nx u j ∧ uC nx u j ≤ 111 := by
  unfold uC
  omega
/-- what neither answers nor rows of the state see -/
def KA (A A' : St) : Prop := ∀ c, c < 118 → c ∉ [5, 6, 7, 8, 9, 10, 17, 18, 19, 20, 21, 22, 23, 24] → A' c = A c
def KB (B B' : St) : Prop := (∀ c, 118 < c → c ∉ [120, 121, 122, 123, 131, 132, 133, 134] → B' c = B c) ∧ (∀ i, mfI i → B' 118 i = B 118 i) ∧ ∀ i, i < 6 → B' 120 i = B 120 i ∧ B' 121 i = B 121 i
theorem KA.rf {A : St} : KA A A := fun _ _ _ => rfl
theorem KB.rf {B : St} : KB B B := ⟨fun _ _ _ => rfl, fun _ _ => rfl, fun _ _ => ⟨rfl, rfl⟩⟩
theorem KA.of {l : List Nat} {A A' : St} (h : Same l A A') (hl : ∀ c ∈ l, c ∈ [5, 6, 7, 8, 9, 10, 17, 18, 19, 20, 21, 22, 23, 24] ∨ 118 ≤ c) : KA A A' := fun c h1 h2 => h c (fun z => by rcases hl c z with q | q; exact h2 q; omega)
theorem KB.of {l : List Nat} {B B' : St} (h : Same l B B') (hl : ∀ c ∈ l, c ∈ [122, 123, 131, 132, 133, 134] ∨ c < 118) : KB B B' := by
  have f : ∀ c, 118 ≤ c → c ∉ [122, 123, 131, 132, 133, 134] → B' c = B c := fun c h1 h2 => h c (fun z => by rcases hl c z with q | q; exact h2 q; omega)
  refine ⟨fun c h1 h2 => f c (by omega) (fun z => h2 (by simp at z ⊢; omega)), fun i _ => by rw [f 118 (by decide) (by decide)], fun i _ => by rw [f 120 (by decide) (by decide), f 121 (by decide) (by decide)]; exact ⟨rfl, rfl⟩⟩
theorem MF.kb {S S' : St} (h : MF S S') : KB S S' := ⟨fun c h1 h2 => h.1 c (fun z => h2 (by simp at z ⊢; omega)), h.2.1, h.2.2⟩
theorem nin {c : Nat} (h : 24 < c) : c ∉ [5, 6, 7, 8, 9, 10, 17, 18, 19, 20, 21, 22, 23, 24] := by
  simp
  omega
theorem Rel.fr {A A' B B' : St} {b : Int} (h : Rel A B b) (hA : KA A A') (hB : KB B B') : Rel A' B' b := by
  obtain ⟨h0, t, p, f, u, g, s, tr, th⟩ := h
  have a0 := hA 0 (by decide) (by decide)
  have a1 := hA 1 (by decide) (by decide)
  have a11 := hA 11 (by decide) (by decide)
  have a15 := hA 15 (by decide) (by decide)
  have b3 := hB.2.1 3 (by unfold mfI; omega)
  have b13 := hB.2.1 13 (by unfold mfI; omega)
  have b22 := hB.2.1 22 (by unfold mfI; omega)
  have b25 := hB.2.1 25 (by unfold mfI; omega)
  have n6 : A 1 0 ≤ 6 := p.2.1.2
  have cpF : ∀ c, 24 < c → c ≤ 111 → Cp A A' c c := fun c x y => Cp.row (fun e he => hA (c + e) (by omega) (nin (by omega)))
  have b124 := hB.1 124 (by decide) (by decide)
  refine ⟨h0, ?_, ?_, ?_, ?_, ?_, ?_, ?_, ?_⟩
  · unfold RT
    rw [a0, hA 16 (by decide) (by decide), b3, hB.1 119 (by decide) (by decide)]
    exact t
  · unfold RP
    rw [a1, b13, hA 2 (by decide) (by decide), hA 3 (by decide) (by decide)]
    refine ⟨p.1, p.2.1, fun k k0 k1 => ?_⟩
    rw [(hB.2.2 k k1).1, (hB.2.2 k k1).2]
    exact p.2.2 k k0 k1
  · unfold RF
    rw [a1]
    exact ⟨f.1.to f.2 n6 (cpF 27 (by decide) (by decide)) (fun i _ _ => by rw [hB.1 125 (by decide) (by decide)]) (fun q _ _ => by rw [b124]), f.2.to n6 (cpF 27 (by decide) (by decide))⟩
  · unfold RU
    rw [a11, a1, b22]
    refine ⟨u.1, u.2.1, u.2.2.1, fun j j0 j1 => ?_⟩
    have hb := uC_bd (A 11 1) (A 11 2) j
    obtain ⟨x, y⟩ := u.2.2.2 j j0 j1
    exact ⟨x.to y n6 (cpF _ (by omega) (by omega)) (fun i _ _ => by rw [hB.1 128 (by decide) (by decide)]) (fun q _ _ => by rw [b124]), y.to n6 (cpF _ (by omega) (by omega))⟩
  · unfold RG
    rw [a15, a1, hB.1 127 (by decide) (by decide)]
    intro i i0 i1
    refine ⟨(g i i0 i1).1, fun z => ?_⟩
    obtain ⟨x, y⟩ := (g i i0 i1).2 z
    exact ⟨x.to y n6 (cpF _ (by omega) (by omega)) (fun i _ _ => by rw [hB.1 126 (by decide) (by decide)]) (fun q _ _ => by rw [b124]), y.to n6 (cpF _ (by omega) (by omega))⟩
  · unfold RS
    rw [a0, a1, b25, hA 25 (by decide) (by decide), hA 26 (by decide) (by decide), hB.1 129 (by decide) (by decide), hB.1 130 (by decide) (by decide)]
    exact s
  · rw [hA 13 (by decide) (by decide), hB.2.1 1 (by unfold mfI; omega)]
    exact tr
  · rw [hB.2.1 0 (by unfold mfI; omega)]
    exact th
theorem Rel.xi {A B : St} {b : Int} (h : Rel A B b) : XI A := by
  obtain ⟨h0, t, p, f, u, g, s, tr, th⟩ := h
  obtain ⟨a1, a2, a3, a4, a5⟩ := f.2
  refine ⟨p.2.1, fun k x y => ?_, a1.2, a2, a3, fun q x y => ?_, fun s k s0 s1 k0 k1 => (a5 s k s0 s1 k0 k1).1⟩
  · have := (p.2.2 k x y).2
    omega
  · obtain ⟨b1, b2, b3, b4, _⟩ := a4 q x y
    exact ⟨b1, b2, ⟨b3.1, Int.le_trans b3.2 (by omega)⟩, b4⟩
theorem Rel.cur {A B : St} {b : Int} (h : Rel A B b) : (A 27 0 = B 125 0 ∧ A 27 1 = B 125 1 ∧ A 27 2 = B 125 2) ∧ (∀ p, 0 ≤ p → p < A 27 1 → A 31 p = mWh B p ∧ A 30 p = mAg B p ∧ A 28 p = mPl B p ∧ A 29 p = B 124 p) ∧ (∀ s, 0 ≤ s → s < A 27 2 → A 32 s = mOw B s) ∧ ∀ s k, 0 ≤ s → s < A 27 2 → 0 ≤ k → k < A 1 0 → A 33 (s * 6 + k) = mHd B (s * 6 + k) := by
  obtain ⟨r0, r1, r2, r3, r4, r5⟩ := h.2.2.2.1.1
  refine ⟨⟨r0, r1, r2⟩, fun p p0 p1 => ?_, fun s s0 s1 => ?_, fun s k s0 s1 k0 k1 => ?_⟩
  · have := r3 p p0 p1
    rw [Int.zero_add, Int.zero_add, Int.zero_add] at this
    exact this
  · have := r4 s s0 s1
    rw [Int.zero_add] at this
    exact this
  · have := r5 s k s0 s1 k0 k1
    rw [Int.zero_add] at this
    exact this
theorem Rel.ve {A B : St} {b : Int} (h : Rel A B b) : VE (A 1 0) (A 27 2) (A 27 1) (A 2) (A 3) (A 29) (A 30) (A 31) (A 28) (A 33) (A 32) (B 120) (B 121) (B 124) (mAg B) (mWh B) (mPl B) (mHd B) (mOw B) := by
  obtain ⟨_, c1, c2, c3⟩ := h.cur
  obtain ⟨h0, t, p, f, u, g, s, tr, th⟩ := h
  obtain ⟨a1, a2, a3, a4, a5⟩ := f.2
  have hn := p.2.1
  refine ⟨hn.1, fun k x y => (p.2.2 k x (by omega)).1, fun q x y => ?_, c2, fun s k s0 s1 k0 k1 => ⟨c3 s k s0 s1 k0 k1, (a5 s k s0 s1 k0 k1).1⟩⟩
  obtain ⟨e1, e2, e3, e4⟩ := c1 q x y
  exact ⟨⟨e4, e2, e1, e3⟩, (a4 q x y).1⟩
theorem Rel.mi {A B : St} {b : Int} (h : Rel A B b) : MI B := by
  obtain ⟨⟨r0, r1, r2⟩, c1, c2, c3⟩ := h.cur
  obtain ⟨h0, t, p, f, u, g, s, tr, th⟩ := h
  obtain ⟨a1, a2, a3, a4, a5⟩ := f.2
  unfold MI
  rw [← p.1, ← r0, ← r1, ← r2]
  refine ⟨p.2.1, fun k x y => ?_, a1.2, a2, a3, fun q x y => ?_, fun s k s0 s1 k0 k1 => ?_, th⟩
  · have := p.2.2 k x y
    rw [this.1.1, this.1.2] at this
    omega
  · obtain ⟨e1, e2, e3, e4⟩ := c1 q x y
    obtain ⟨b1, b2, b3, b4, _⟩ := a4 q x y
    rw [← e1, ← e2, ← e3, ← e4]
    exact ⟨b1, b2, ⟨b3.1, Int.le_trans b3.2 (by omega)⟩, b4⟩
  · rw [← c3 s k s0 s1 k0 k1]
    exact (a5 s k s0 s1 k0 k1).1
theorem Rel.pi {A B : St} {b : Int} (h : Rel A B b) : PI A := ⟨h.2.2.2.2.1.2.2.1, h.2.2.2.2.1.2.1⟩
theorem Rel.mtx {A B : St} {b : Int} (h : Rel A B b) : MTx B := by
  obtain ⟨t1, t2, t3, t4⟩ := h.2.1
  unfold MTx
  rw [← t1, ← t3]
  exact ⟨t2, t4⟩
