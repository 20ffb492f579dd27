theorem stF_bd {n P : Int} {mk ag wh pl wt hmk hag : Int → Int} {k law : Int} (h : P ≤ 48) : 0 ≤ stF n P mk ag wh pl wt hmk hag k law ∧ stF n P mk ag wh pl wt hmk hag k law ≤ 48 := by
  unfold stF
  split
  · omega
  · have := sm_bd (f := fun p => if (wh p = 8 ∧ pl p = k) ∧ who n (st9 hmk k (mk p)) (st9 hag k (ag p)) wt law = who n hmk hag wt law then 1 else 0) (a := 1) (n := P.toNat) (fun i i0 i1 => by split <;> omega)
    omega
theorem lyO_bd {P : Int} {wh pl : Int → Int} {k : Int} (h : P ≤ 48) : 0 ≤ lyO P wh pl k ∧ lyO P wh pl k ≤ 48 := by
  have := sm_bd (f := fun p => if wh p = 8 ∧ pl p = k then 1 else 0) (a := 1) (n := P.toNat) (fun i i0 i1 => by split <;> omega)
  unfold lyO
  omega
theorem liF_bd {P : Int} {wh pl : Int → Int} {k : Int} (h : P ≤ 48) : 1 ≤ liF P wh pl k ∧ liF P wh pl k ≤ 48 := by
  have := lyO_bd (wh := wh) (pl := pl) (k := k) h
  unfold liF
  split <;> omega
theorem p48 : ∀ n : Nat, n ≤ 6 → (48 : Int) ^ n ≤ 12230590464 := by
  intro n h
  rcases (by omega : n = 0 ∨ n = 1 ∨ n = 2 ∨ n = 3 ∨ n = 4 ∨ n = 5 ∨ n = 6) with e | e | e | e | e | e | e <;> subst e <;> decide
theorem th_fin {li st : Int → Int} {n : Int} (h0 : 0 ≤ n) (hn : n ≤ 6) (h : ∀ k : Int, 0 ≤ k → k < n → (1 ≤ li k ∧ li k ≤ 48) ∧ 0 ≤ st k ∧ st k ≤ 48) : (1 ≤ thL li n.toNat ∧ thL li n.toNat ≤ 12230590464) ∧ 0 ≤ thU li st n.toNat ∧ thU li st n.toNat ≤ 73383542784 := by
  obtain ⟨⟨a1, a2⟩, a3, a4⟩ := th_bd (li := li) (st := st) (n := n.toNat) (fun k x y => h k x (by omega))
  have e := p48 n.toNat (by omega)
  have e2 : ((n.toNat : Nat) : Int) * 48 ^ n.toNat ≤ 6 * 12230590464 := Int.mul_le_mul (by omega) e (Int.pow_nonneg (by decide)) (by decide)
  omega
theorem up_up (S : St) (c : Nat) (i a b : Int) : up (up S c i a) c i b = up S c i b := by
  funext c' i'
  unfold up
  split
  · split <;> rfl
  · rfl
theorem tr_add (S : St) (a b : Int) : up (up S 13 2 a) 13 2 (up S 13 2 a 13 2 + b) = up S 13 2 (a + b) := by rw [up_s, up_up]
theorem bef_get {i : Int} (h0 : 0 ≤ i) (h1 : i < 10) : ([48, 55, 62, 69, 76, 83, 90, 97, 104, 111] : List Nat).getD i.toNat 0 = 48 + 7 * i.toNat := by
  obtain ⟨n, rfl⟩ := Int.eq_ofNat_of_zero_le h0
  exact (by decide +kernel : ∀ n : Fin 10, ([48, 55, 62, 69, 76, 83, 90, 97, 104, 111] : List Nat).getD n.val 0 = 48 + 7 * n.val) ⟨n, by omega⟩
theorem img_get {i : Int} (h0 : 0 ≤ i) (h1 : i < 2) : ([34, 41] : List Nat).getD i.toNat 0 = 34 + 7 * i.toNat := by
  obtain ⟨n, rfl⟩ := Int.eq_ofNat_of_zero_le h0
  exact (by decide +kernel : ∀ n : Fin 2, ([34, 41] : List Nat).getD n.val 0 = 34 + 7 * n.val) ⟨n, by omega⟩
theorem isF_bef {i : Int} (h1 : i < 10) : IsF (48 + 7 * i.toNat) := ⟨3 + i.toNat, by omega, by omega⟩
theorem isF_img {i : Int} (h1 : i < 2) : IsF (34 + 7 * i.toNat) := ⟨1 + i.toNat, by omega, by omega⟩
theorem isF_27 : IsF 27 := ⟨0, by omega, rfl⟩
/-- the fleet is remembered: the row 'next' of the past takes it -/
def Rmb (S S' : St) : Prop := ∃ S1, Cpd S (48 + 7 * (S 11 1).toNat) 27 S1 ∧ S' = up (up S1 11 1 ((S 11 1 + 1) % 10)) 11 2 (if S 11 2 + 1 < 10 then S 11 2 + 1 else 10)
theorem Rmb.low {S S' : St} (h : Rmb S S') {c : Nat} (hc : c < 48) (h11 : c ≠ 11) : S' c = S c := by
  obtain ⟨S1, h1, rfl⟩ := h
  rw [up_row h11, up_row h11]
  exact h1.2.2.2.2.2.2 c (Or.inl (by omega))
def PI (S : St) : Prop := (0 ≤ S 11 1 ∧ S 11 1 < 10) ∧ (0 ≤ S 11 2 ∧ S 11 2 ≤ 10)
def rateF (kind ag wt lf mk ly : Int) : Int := if kind = 0 then ag else if kind = 1 then ag + wt else if kind = 2 then ag - lf else if kind = 3 then 2 * (ag + wt) else if kind = 4 then ag - lf + mk else ag + ly
def trF (kind : Int) : Int := if kind = 0 then 1 else if kind = 1 then 11 else if kind = 2 then 101 else if kind = 3 then 1011 else if kind = 4 then 10101 else 100001
