/-! the model's rows -/
def mWh (S : St) : Int → Int := fun p => S 125 (3 + p)
def mAg (S : St) : Int → Int := fun p => S 125 (51 + p)
def mHd (S : St) : Int → Int := fun i => S 125 (99 + i)
def mOw (S : St) : Int → Int := fun s => S 125 (135 + s)
def mPl (S : St) : Int → Int := fun p => S 125 (141 + p)
def MI (S : St) : Prop :=
  (2 ≤ S 118 13 ∧ S 118 13 ≤ 6) ∧ (∀ k, 0 ≤ k → k < 6 → 1 ≤ S 120 k ∧ S 120 k ≤ 9 ∧ 1 ≤ S 121 k ∧ S 121 k ≤ 30) ∧ (0 ≤ S 125 1 ∧ S 125 1 ≤ 48) ∧ (0 ≤ S 125 2 ∧ S 125 2 ≤ 6) ∧ (0 ≤ S 125 0 ∧ S 125 0 ≤ 99) ∧
  (∀ p, 0 ≤ p → p < S 125 1 → (0 ≤ mPl S p ∧ mPl S p < S 118 13) ∧ isMk (S 124 p) ∧ (0 ≤ mAg S p ∧ mAg S p ≤ 200) ∧ (0 ≤ mWh S p ∧ mWh S p ≤ 9)) ∧
  (∀ s k, 0 ≤ s → s < S 125 2 → 0 ≤ k → k < S 118 13 → 0 ≤ mHd S (s * 6 + k) ∧ mHd S (s * 6 + k) < S 125 1) ∧ S 118 0 = 0
theorem MI.same {l : List Nat} {S S' : St} (h : MI S) (hs : Same l S S') (hl : (∀ c ∈ l, c ∉ [118, 120, 121, 124, 125])) : MI S' := by
  have e : ∀ c ∈ [118, 120, 121, 124, 125], S' c = S c := fun c hc => hs c (fun z => hl c z hc)
  unfold MI mWh mAg mHd mPl
  rw [e 118 (by decide), e 120 (by decide), e 121 (by decide), e 124 (by decide), e 125 (by decide)]
  exact h
theorem up_thr {S : St} (h : S 118 0 = 0) : up S 118 0 0 = S := by
  funext c i
  unfold up
  split
  · rename_i h1
    subst h1
    split
    · rename_i h2
      rw [h2, h]
    · rfl
  · rfl
theorem sm_add (f g : Int → Int) : ∀ n : Nat, sm (fun i => f i + g i) n = sm f n + sm g n
  | 0 => rfl
  | n + 1 => by
    show sm _ n + (f n + g n) = (sm f n + f n) + (sm g n + g n)
    rw [sm_add f g n]
    omega
theorem sm_ind {n : Nat} {j : Int} (h0 : 0 ≤ j) (h1 : j < n) (c : Prop) (d : Decidable c) : sm (fun k => @ite Int (c ∧ j = k) (@instDecidableAnd c (j = k) d (Int.instDecidableEq j k)) 1 0) n = @ite Int c d 1 0 := by
  induction n with
  | zero => omega
  | succ n ih =>
    show sm _ n + (if c ∧ j = n then 1 else 0) = _
    by_cases e : j = n
    · have z : sm (fun k => if c ∧ j = k then (1 : Int) else 0) n = 0 := sm_zero (fun i a b => if_neg (fun q => by omega))
      rw [z]
      by_cases hc : c
      · rw [if_pos ⟨hc, e⟩, if_pos hc]; rfl
      · rw [if_neg (fun q => hc q.1), if_neg hc]; rfl
    · rw [ih (by omega), if_neg (show ¬ (c ∧ j = n) from fun q => e q.2)]
      omega
/-- all that lies, place by place -/
theorem yard_sum {n : Int} {wh pl : Int → Int} : ∀ {P : Nat}, (∀ p : Int, 0 ≤ p → p < P → 0 ≤ pl p ∧ pl p < n) → sm (fun k => sm (fun p => if wh p = 8 ∧ pl p = k then 1 else 0) P) n.toNat = sm (fun p => if wh p = 8 then 1 else 0) P
  | 0, _ => by
    show sm (fun _ => 0) _ = 0
    exact sm_zero (fun _ _ _ => rfl)
  | P + 1, h => by
    show sm (fun k => sm (fun p => if wh p = 8 ∧ pl p = k then 1 else 0) P + (if wh P = 8 ∧ pl P = k then 1 else 0)) n.toNat = sm _ P + (if wh P = 8 then 1 else 0)
    rw [sm_add, yard_sum (P := P) (fun p a b => h p a (by omega))]
    congr 1
    have hb := h P (by omega) (by omega)
    exact sm_ind hb.1 (by omega) _ _
