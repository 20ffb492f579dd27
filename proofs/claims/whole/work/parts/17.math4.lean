/-! the answers as functions of rows -/
def lyO (P : Int) (wh pl : Int → Int) (k : Int) : Int := sm (fun p => if wh p = 8 ∧ pl p = k then 1 else 0) P.toNat
def lyA (P : Int) (wh : Int → Int) : Int := sm (fun p => if wh p = 8 then 1 else 0) P.toNat
def fPlace (n : Int) (wt lf : Int → Int) (P : Int) (wh pl : Int → Int) (k what : Int) : Int := if 0 ≤ k ∧ k < n then (if what = 0 then wt k else if what = 1 then lf k else if what = 2 then lyO P wh pl k else -1) else -1
def fPart (P : Int) (pl mk ag wh : Int → Int) (p what : Int) : Int := if 0 ≤ p ∧ p < P then (if what = 0 then pl p else if what = 1 then mk p else if what = 2 then ag p else if what = 3 then wh p else -1) else -1
def fInPlace (n N : Int) (hd : Int → Int) (s k : Int) : Int := if (0 ≤ s ∧ s < N) ∧ 0 ≤ k ∧ k < n then hd (s * 6 + k) else -1
def fShip (n N : Int) (lf ag hd ow : Int → Int) (s what : Int) : Int := if 0 ≤ s ∧ s < N then (if what = 0 then ow s else if what = 1 then rotS n lf ag hd s else -1) else -1
noncomputable def fIs (n N : Int) (mk ag wt hd : Int → Int) (s law : Int) : Int := if (0 ≤ s ∧ s < N) ∧ 0 ≤ law ∧ law < 5 then whoS n mk ag wt hd s law else -1
noncomputable def twB (n N : Int) (mk ag wt hd : Int → Int) (law : Int) : Int := tw N (fun s => whoS n mk ag wt hd s law)
noncomputable def fTwins (n N : Int) (mk ag wt hd : Int → Int) (law : Int) : Int := if 0 ≤ law ∧ law < 5 then twB n N mk ag wt hd law else -1
noncomputable def fair (n N : Int) (mk ag wt hd : Int → Int) : Int := sm (fun law => if twB n N mk ag wt hd law = -9 then ((2 ^ law.toNat : Nat) : Int) else 0) 5
def rotA (n N : Int) (lf ag hd : Int → Int) : Int := sm (fun s => if rotS n lf ag hd s ≠ 0 then ((2 ^ s.toNat : Nat) : Int) else 0) N.toNat
noncomputable def fNow (n N P yr kn : Int) (wt lf mk ag wh hd : Int → Int) (what : Int) : Int := if what = 0 then yr else if what = 1 then lyA P wh else if what = 2 then rotA n N lf ag hd else if what = 3 then fair n N mk ag wt hd else if what = 4 then kn else -1
def fCount (n N P sn ty what : Int) : Int := if what = 0 then n else if what = 1 then N else if what = 2 then P else if what = 3 then sn else if what = 4 then ty else -1
/-! seen -/
def asSn (sn : Int) (mk hd sp sk : Int → Int) (s : Int) : Prop := ∀ i, 0 ≤ i → i < sn → mk (hd (s * 6 + sp i)) = sk i
noncomputable def mayB (N sn : Int) (mk hd sp sk : Int → Int) : Int := sm (fun s => cb (asSn sn mk hd sp sk s) ((2 ^ s.toNat : Nat) : Int) 0) N.toNat
def bitV (b k : Int) : Int := (((((b.toNat / 2 ^ k.toNat : Nat) : Int)).toNat &&& (1 : Int).toNat : Nat) : Int)
theorem bitV_bd (b k : Int) : 0 ≤ bitV b k ∧ bitV b k ≤ 1 := by
  unfold bitV
  have := Nat.and_le_right (n := (((b.toNat / 2 ^ k.toNat : Nat) : Int)).toNat) (m := (1 : Int).toNat)
  have e : (1 : Int).toNat = 1 := rfl
  omega
def difr (n : Int) (mk hd : Int → Int) (s t b : Int) : Prop := ∃ k, 0 ≤ k ∧ k < n ∧ bitV b k = 1 ∧ mk (hd (s * 6 + k)) ≠ mk (hd (t * 6 + k))
def tels (n N : Int) (mk hd : Int → Int) (s b : Int) : Prop := ∀ t, 0 ≤ t → t < N → t ≠ s → difr n mk hd s t b
def onesF (b : Int) : Int := sm (fun k => bitV b k) 6
noncomputable def lsF (T : Int → Prop) : Nat → Int
  | 0 => -9
  | b + 1 => cb ((lsF T b = -9 ∨ onesF b < onesF (lsF T b)) ∧ T b) b (lsF T b)
theorem lsF_s {T : Int → Prop} {b : Int} (h : 0 ≤ b) : lsF T (b + 1).toNat = cb ((lsF T b.toNat = -9 ∨ onesF b < onesF (lsF T b.toNat)) ∧ T b) b (lsF T b.toNat) := by
  obtain ⟨n, rfl⟩ := Int.eq_ofNat_of_zero_le h
  rfl
theorem lsF_bd (T : Int → Prop) : ∀ n : Nat, lsF T n = -9 ∨ (0 ≤ lsF T n ∧ lsF T n < n)
  | 0 => Or.inl rfl
  | n + 1 => by
    have := lsF_bd T n
    unfold lsF
    rcases cb_or ((lsF T n = -9 ∨ onesF n < onesF (lsF T n)) ∧ T n) n (lsF T n) with ⟨_, h⟩ | ⟨_, h⟩ <;> rw [h] <;> omega
theorem lsF_congr {T T' : Int → Prop} : ∀ {n : Nat}, (∀ b : Int, 0 ≤ b → b < n → (T b ↔ T' b)) → lsF T n = lsF T' n
  | 0, _ => rfl
  | n + 1, h => by
    unfold lsF
    rw [lsF_congr (n := n) (fun b a c => h b a (by omega))]
    apply cb_iff
    rw [h n (by omega) (by omega)]
noncomputable def fLeast (n N : Int) (mk hd : Int → Int) (s : Int) : Int := if 0 ≤ s ∧ s < N then lsF (tels n N mk hd s) (2 ^ n.toNat) else -1
/-! years of repair -/
def rAg (lf ag : Int → Int) : Int → Int := fun k => if lf k ≤ ag k + 1 then 0 else ag k + 1
def rMk (lf mk ag : Int → Int) : Int → Int := fun k => if lf k ≤ ag k + 1 then 9 else mk k
def yAg (lf ag : Int → Int) : Nat → Int → Int
  | 0 => ag
  | y + 1 => rAg lf (yAg lf ag y)
def yMk (lf mk ag : Int → Int) : Nat → Int → Int
  | 0 => mk
  | y + 1 => rMk lf (yMk lf mk ag y) (yAg lf ag y)
def cntR (n : Int) (lf ag : Int → Int) (y : Int) : Int := sm (fun k => if lf k ≤ yAg lf ag y.toNat k + 1 then 1 else 0) n.toNat
theorem yAg_bd {lf ag : Int → Int} {k : Int} (h : 0 ≤ ag k ∧ ag k ≤ 200) : ∀ y : Nat, 0 ≤ yAg lf ag y k ∧ yAg lf ag y k ≤ 200 + y
  | 0 => by simp only [yAg]; omega
  | y + 1 => by
    have := yAg_bd (lf := lf) h y
    simp only [yAg, rAg]
    split <;> omega
theorem yMk_mk {lf mk ag : Int → Int} {k : Int} (h : isMk (mk k)) : ∀ y : Nat, isMk (yMk lf mk ag y k)
  | 0 => h
  | y + 1 => by
    have := yMk_mk (lf := lf) (ag := ag) h y
    simp only [yMk, rMk]
    split
    · exact Or.inr rfl
    · exact this
theorem yAg_congr {lf lf' ag ag' : Int → Int} {k : Int} (h1 : lf k = lf' k) (h2 : ag k = ag' k) : ∀ y : Nat, yAg lf ag y k = yAg lf' ag' y k
  | 0 => h2
  | y + 1 => by
    simp only [yAg, rAg]
    rw [yAg_congr h1 h2 y, h1]
theorem yMk_congr {lf lf' mk mk' ag ag' : Int → Int} {k : Int} (h1 : lf k = lf' k) (h2 : ag k = ag' k) (h3 : mk k = mk' k) : ∀ y : Nat, yMk lf mk ag y k = yMk lf' mk' ag' y k
  | 0 => h3
  | y + 1 => by
    simp only [yMk, rMk]
    rw [yAg_congr h1 h2 y, h1, yMk_congr h1 h2 h3 y]
def Sty (Wy : Nat → Int) (f r : Int) : Prop := (∃ y : Nat, 1 ≤ y ∧ y ≤ 40 ∧ r = y ∧ Wy y ≠ f ∧ ∀ y' : Nat, 1 ≤ y' → y' < y → Wy y' = f) ∨ (r = -9 ∧ ∀ y : Nat, 1 ≤ y → y ≤ 40 → Wy y = f)
theorem Sty.uniq {Wy : Nat → Int} {f r r' : Int} (h : Sty Wy f r) (h' : Sty Wy f r') : r = r' := by
  rcases h with ⟨y, a1, a2, a3, a4, a5⟩ | ⟨a1, a2⟩ <;> rcases h' with ⟨z, b1, b2, b3, b4, b5⟩ | ⟨b1, b2⟩
  · rcases Nat.lt_trichotomy y z with h | h | h
    · exact absurd (b5 y a1 h) a4
    · omega
    · exact absurd (a5 z b1 h) b4
  · exact absurd (b2 y a1 a2) a4
  · exact absurd (a2 z b1 b2) b4
  · omega
noncomputable def whoY (n : Int) (lf mk ag wt : Int → Int) (law : Int) (y : Nat) : Int := who n (yMk lf mk ag y) (yAg lf ag y) wt law
noncomputable def sty (Wy : Nat → Int) : Int := cb (Wy 0 = -9) (-9) (Classical.epsilon (fun r => Sty Wy (Wy 0) r))
theorem sty_n {Wy : Nat → Int} (h : Wy 0 = -9) : sty Wy = -9 := cb_pos h
theorem sty_eq {Wy : Nat → Int} {r : Int} (h0 : Wy 0 ≠ -9) (h : Sty Wy (Wy 0) r) : sty Wy = r := by
  unfold sty
  rw [cb_neg h0]
  exact Sty.uniq (Classical.epsilon_spec (p := fun r => Sty Wy (Wy 0) r) ⟨r, h⟩) h
noncomputable def whoSY (n : Int) (lf mk ag wt hd : Int → Int) (s law : Int) : Nat → Int := whoY n lf (fun k => mk (hd (s * 6 + k))) (fun k => ag (hd (s * 6 + k))) wt law
noncomputable def fStays (n N : Int) (lf mk ag wt hd : Int → Int) (s law : Int) : Int := if (0 ≤ s ∧ s < N) ∧ 0 ≤ law ∧ law < 5 then sty (whoSY n lf mk ag wt hd s law) else -1
def mxF (c : Int → Int) : Nat → Int
  | 0 => 0
  | y + 1 => if mxF c y < c y then c y else mxF c y
def myF (c : Int → Int) : Nat → Int
  | 0 => -9
  | y + 1 => if mxF c y < c y then y + 1 else myF c y
theorem mxF_s {c : Int → Int} {y : Int} (h : 0 ≤ y) : mxF c (y + 1).toNat = if mxF c y.toNat < c y then c y else mxF c y.toNat := by
  obtain ⟨n, rfl⟩ := Int.eq_ofNat_of_zero_le h
  rfl
theorem myF_s {c : Int → Int} {y : Int} (h : 0 ≤ y) : myF c (y + 1).toNat = if mxF c y.toNat < c y then y + 1 else myF c y.toNat := by
  obtain ⟨n, rfl⟩ := Int.eq_ofNat_of_zero_le h
  rfl
theorem mm_congr {c c' : Int → Int} : ∀ {n : Nat}, (∀ y : Int, 0 ≤ y → y < n → c y = c' y) → mxF c n = mxF c' n ∧ myF c n = myF c' n
  | 0, _ => ⟨rfl, rfl⟩
  | n + 1, h => by
    obtain ⟨e1, e2⟩ := mm_congr (n := n) (fun y a b => h y a (by omega))
    unfold mxF myF
    rw [e1, e2, h n (by omega) (by omega)]
    exact ⟨rfl, rfl⟩
def cntS (n : Int) (lf ag hd : Int → Int) (s y : Int) : Int := cntR n lf (fun k => ag (hd (s * 6 + k))) y
def fRep (n N : Int) (lf ag hd : Int → Int) (s y what : Int) : Int := if (0 ≤ s ∧ s < N) ∧ (0 ≤ y ∧ y ≤ 40) ∧ 0 ≤ what ∧ what ≤ 1 then (if what = 0 then sm (cntS n lf ag hd s) y.toNat else myF (cntS n lf ag hd s) y.toNat) else -1
/-! the part that decides -/
def st9 (f : Int → Int) (k v : Int) : Int → Int := fun j => if j = k then v else f j
noncomputable def decF (n : Int) (mk ag wt : Int → Int) (law : Int) : Int := sm (fun k => if who n (st9 mk k 9) (st9 ag k 0) wt law ≠ who n mk ag wt law then ((2 ^ k.toNat : Nat) : Int) else 0) n.toNat
noncomputable def decS (n : Int) (mk ag wt hd : Int → Int) (s law : Int) : Int := decF n (fun k => mk (hd (s * 6 + k))) (fun k => ag (hd (s * 6 + k))) wt law
noncomputable def fDec (n N : Int) (mk ag wt hd : Int → Int) (s law : Int) : Int := if (0 ≤ s ∧ s < N) ∧ 0 ≤ law ∧ law < 5 then decS n mk ag wt hd s law else -1
