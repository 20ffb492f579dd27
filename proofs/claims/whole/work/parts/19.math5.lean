theorem yMk_s {lf mk ag : Int → Int} {y : Int} (h : 1 ≤ y) : yMk lf mk ag y.toNat = rMk lf (yMk lf mk ag (y - 1).toNat) (yAg lf ag (y - 1).toNat) := by
  obtain ⟨n, hn⟩ := Int.eq_ofNat_of_zero_le (show 0 ≤ y - 1 by omega)
  have e1 : y.toNat = n + 1 := by omega
  have e2 : (y - 1).toNat = n := by omega
  rw [e1, e2]
  rfl
theorem yAg_s {lf ag : Int → Int} {y : Int} (h : 1 ≤ y) : yAg lf ag y.toNat = rAg lf (yAg lf ag (y - 1).toNat) := by
  obtain ⟨n, hn⟩ := Int.eq_ofNat_of_zero_le (show 0 ≤ y - 1 by omega)
  have e1 : y.toNat = n + 1 := by omega
  have e2 : (y - 1).toNat = n := by omega
  rw [e1, e2]
  rfl
theorem ren_y {T U : St} {n : Int} {lf mk ag : Int → Int} (hl : T 3 = lf) (hT : ∀ j, 0 ≤ j → j < n → T 5 j = mk j ∧ T 6 j = ag j) (hR : ∀ j, 0 ≤ j → j < n → (T 3 j ≤ T 6 j + 1 → U 5 j = 9 ∧ U 6 j = 0) ∧ (T 6 j + 1 < T 3 j → U 5 j = T 5 j ∧ U 6 j = T 6 j + 1)) : ∀ j, 0 ≤ j → j < n → U 5 j = rMk lf mk ag j ∧ U 6 j = rAg lf ag j := by
  intro j a b
  obtain ⟨h1, h2⟩ := hT j a b
  obtain ⟨h3, h4⟩ := hR j a b
  rw [hl, h2] at h3
  rw [hl, h1, h2] at h4
  unfold rMk rAg
  by_cases h : lf j ≤ ag j + 1
  · rw [if_pos h, if_pos h]; exact h3 h
  · rw [if_neg h, if_neg h]; exact h4 (by omega)
/-! the unsigned shift, numbers of ones -/
theorem ushr_all : ∀ k : Fin 31, (((Int32.ofInt (k.val : Int)).toUInt32 &&& Int32.toUInt32 31).toBitVec % 32).toNat = k.val := by decide +kernel
theorem j_iushr {M : MT} {X : CtxT} {pc : Nat} {L : List (Nat × Value)} {st : List Value} {S : St} {x k0 : Int} (hd : decode M.2.1 pc = .ok (.iushr, 1)) (hx : 0 ≤ x) (hx2 : x < 2147483648) (h0 : 0 ≤ k0) (h1 : k0 < 31) (k : JJ M X (pc + 1) L (vi ((x.toNat / 2 ^ k0.toNat : Nat) : Int) :: st) S) : JJ M X pc L (vi k0 :: vi x :: st) S := by
  intro p l e R s m args below meth c0 D cy ad A cells slots Q hB hX H locs ls hW hP hD hS hl
  have hh := k p l e R s m args below meth c0 D cy ad A cells slots Q hB hX H locs ls hW hP hD hS hl
  refine lv_iushr hB.1 hB.2.1 hd ?_ hh
  obtain ⟨n, rfl⟩ := Int.eq_ofNat_of_zero_le h0
  rw [vi_nI hx, pk_ushrN (by omega) _ n (ushr_all ⟨n, by omega⟩)]
  rfl
def g1 (n : Nat) : Nat := n - ((((n / 2 ^ (1 : Int).toNat : Nat) : Int)).toNat &&& (1431655765 : Int).toNat)
def g2 (n : Nat) : Nat := (g1 n &&& (858993459 : Int).toNat) + ((((g1 n / 2 ^ (2 : Int).toNat : Nat) : Int)).toNat &&& (858993459 : Int).toNat)
def g3 (n : Nat) : Nat := (g2 n + g2 n / 2 ^ (4 : Int).toNat) &&& (252645135 : Int).toNat
def g4 (n : Nat) : Nat := g3 n + g3 n / 2 ^ (8 : Int).toNat
def g5 (n : Nat) : Nat := g4 n + g4 n / 2 ^ (16 : Int).toNat
def g6 (n : Nat) : Nat := g5 n &&& (63 : Int).toNat
theorem g1_ok : ∀ n : Fin 64, ((n.val : Nat) : Int) - (((((n.val / 2 ^ (1 : Int).toNat : Nat) : Int)).toNat &&& (1431655765 : Int).toNat : Nat) : Int) = (g1 n.val : Int) := by decide +kernel
theorem g_small : ∀ n : Fin 64, g1 n.val < 1000000000 ∧ g2 n.val < 1000000000 ∧ g3 n.val < 1000000000 ∧ g4 n.val < 1000000000 ∧ g5 n.val < 1000000000 := by decide +kernel
theorem g6_ok : ∀ n : Fin 64, (g6 n.val : Int) = onesF (n.val : Int) := by decide +kernel
theorem onesF_bd (b : Int) : 0 ≤ onesF b ∧ onesF b ≤ 6 := by
  have := sm_bd (f := fun k => bitV b k) (a := 1) (n := 6) (fun i _ _ => bitV_bd b i)
  unfold onesF
  omega
/-! Euclid -/
theorem euc_step {g l st : Nat} (hl : 0 < l) (h0 : st = 0 → g * l < 2 ^ 98) (h1 : 1 ≤ st → l < g ∧ g * l < 2 ^ (99 - st)) : g % l < l ∧ l * (g % l) < 2 ^ (99 - (st + 1)) := by
  refine ⟨Nat.mod_lt _ hl, ?_⟩
  by_cases hs : st = 0
  · subst hs
    have h2 := h0 rfl
    have h3 : g % l ≤ g := Nat.mod_le _ _
    have h4 : l * (g % l) ≤ l * g := Nat.mul_le_mul_left _ h3
    rw [Nat.mul_comm l g] at h4
    exact Nat.lt_of_le_of_lt h4 h2
  · obtain ⟨h2, h3⟩ := h1 (by omega)
    have hr : 2 * (g % l) < g := by
      have e := Nat.div_add_mod g l
      have hq : 1 ≤ g / l := (Nat.le_div_iff_mul_le hl).mpr (by omega)
      have hm := Nat.mod_lt g hl
      have : l ≤ l * (g / l) := Nat.le_mul_of_pos_right _ hq
      omega
    have h4 : l * (2 * (g % l)) ≤ l * g := Nat.mul_le_mul_left _ (by omega)
    have h5 : 2 * (l * (g % l)) < 2 ^ (99 - st) := by
      rw [Nat.mul_comm l g] at h4
      have : l * (2 * (g % l)) = 2 * (l * (g % l)) := by rw [Nat.mul_left_comm]
      omega
    by_cases h9 : st ≤ 98
    · have e2 : 99 - st = (99 - (st + 1)) + 1 := by omega
      rw [e2, Nat.pow_succ] at h5
      omega
    · have e3 : 99 - st = 0 := by omega
      rw [e3] at h3
      have : 1 ≤ g * l := Nat.mul_pos (by omega) hl
      omega
def gcdI (a b : Int) : Int := (Nat.gcd a.toNat b.toNat : Int)
theorem gcdI_step {a b : Int} (ha : 0 ≤ a) (hb : 0 < b) : gcdI b (a % b) = gcdI a b := by
  unfold gcdI
  obtain ⟨n, rfl⟩ := Int.eq_ofNat_of_zero_le ha
  obtain ⟨k, rfl⟩ := Int.eq_ofNat_of_zero_le (Int.le_of_lt hb)
  have : ((n : Int) % (k : Int)).toNat = n % k := rfl
  rw [this, Int.toNat_natCast, Int.toNat_natCast, Nat.gcd_comm k, ← Nat.gcd_rec, Nat.gcd_comm]
theorem gcdI_0 {a : Int} (ha : 0 ≤ a) : gcdI a 0 = a := by
  unfold gcdI
  obtain ⟨n, rfl⟩ := Int.eq_ofNat_of_zero_le ha
  simp
theorem gcdI_pos {a b : Int} (hb : 0 < b) : 1 ≤ gcdI a b := by
  unfold gcdI
  have : 0 < Nat.gcd a.toNat b.toNat := Nat.gcd_pos_of_pos_right _ (by omega)
  omega
theorem gcdI_le {a b : Int} (hb : 0 < b) : gcdI a b ≤ b := by
  unfold gcdI
  have : Nat.gcd a.toNat b.toNat ≤ b.toNat := Nat.gcd_le_right _ (by omega)
  omega
theorem toNat_mod {a b : Int} (ha : 0 ≤ a) (hb : 0 ≤ b) : (a % b).toNat = a.toNat % b.toNat := by
  obtain ⟨n, rfl⟩ := Int.eq_ofNat_of_zero_le ha
  obtain ⟨k, rfl⟩ := Int.eq_ofNat_of_zero_le hb
  rfl
def Euc (g l st : Int) : Prop := (st = 0 → g.toNat * l.toNat < 2 ^ 98) ∧ (1 ≤ st → l < g ∧ g.toNat * l.toNat < 2 ^ (99 - st.toNat))
theorem Euc.step {g l st : Int} (hg : 0 ≤ g) (hl : 0 < l) (hs : 0 ≤ st) (h : Euc g l st) : Euc l (g % l) (st + 1) := by
  have hh := euc_step (g := g.toNat) (l := l.toNat) (st := st.toNat) (by omega) (fun z => h.1 (by omega)) (fun z => ⟨by have := (h.2 (by omega)).1; omega, (h.2 (by omega)).2⟩)
  rw [← toNat_mod hg (by omega)] at hh
  refine ⟨fun z => by omega, fun _ => ⟨by have := Int.emod_lt_of_pos g hl; omega, ?_⟩⟩
  have : (st + 1).toNat = st.toNat + 1 := by omega
  rw [this]
  exact hh.2
theorem Euc.stop {g l st : Int} (hl : 0 ≤ l) (hs : 100 ≤ st) (h : Euc g l st) : l = 0 := by
  obtain ⟨h1, h2⟩ := h.2 (by omega)
  have : 99 - st.toNat = 0 := by omega
  rw [this] at h2
  apply Classical.byContradiction
  intro hn
  have : 1 ≤ g.toNat * l.toNat := Nat.mul_pos (by omega) (by omega)
  omega
def leastT (u l what : Int) : Int := if what = 0 then u / gcdI u l else l / gcdI u l
def fShare (n N : Int) (mk wt hd : Int → Int) (s m what : Int) : Int := if (0 ≤ s ∧ s < N) ∧ isMk m ∧ (what = 0 ∨ what = 1) then leastT (wgt n (fun k => mk (hd (s * 6 + k))) wt m) (sm wt n.toNat) what else -1
/-! the thief -/
noncomputable def stF (n P : Int) (mk ag wh pl wt hmk hag : Int → Int) (k law : Int) : Int := if lyO P wh pl k = 0 then 1 else sm (fun p => if (wh p = 8 ∧ pl p = k) ∧ who n (st9 hmk k (mk p)) (st9 hag k (ag p)) wt law = who n hmk hag wt law then 1 else 0) P.toNat
def liF (P : Int) (wh pl : Int → Int) (k : Int) : Int := if lyO P wh pl k = 0 then 1 else lyO P wh pl k
noncomputable def thL (li : Int → Int) : Nat → Int
  | 0 => 1
  | k + 1 => thL li k * li k
noncomputable def thU (li st : Int → Int) : Nat → Int
  | 0 => 0
  | k + 1 => thU li st k * li k + st k * thL li k
theorem thL_s {li : Int → Int} {k : Int} (h : 0 ≤ k) : thL li (k + 1).toNat = thL li k.toNat * li k := by
  obtain ⟨n, rfl⟩ := Int.eq_ofNat_of_zero_le h
  rfl
theorem thU_s {li st : Int → Int} {k : Int} (h : 0 ≤ k) : thU li st (k + 1).toNat = thU li st k.toNat * li k + st k * thL li k.toNat := by
  obtain ⟨n, rfl⟩ := Int.eq_ofNat_of_zero_le h
  rfl
theorem th_bd {li st : Int → Int} : ∀ {n : Nat}, (∀ k : Int, 0 ≤ k → k < n → (1 ≤ li k ∧ li k ≤ 48) ∧ 0 ≤ st k ∧ st k ≤ 48) → (1 ≤ thL li n ∧ thL li n ≤ 48 ^ n) ∧ 0 ≤ thU li st n ∧ thU li st n ≤ n * 48 ^ n
  | 0, _ => by simp [thL, thU]
  | n + 1, h => by
    obtain ⟨⟨a1, a2⟩, a3, a4⟩ := th_bd (li := li) (st := st) (n := n) (fun k x y => h k x (by omega))
    obtain ⟨⟨b1, b2⟩, b3, b4⟩ := h n (by omega) (by omega)
    have hp : (0 : Int) ≤ 48 ^ n := by
      have := Int.pow_pos (n := 48) (m := n) (by decide)
      omega
    show (1 ≤ thL li n * li n ∧ thL li n * li n ≤ 48 ^ (n + 1)) ∧ 0 ≤ thU li st n * li n + st n * thL li n ∧ thU li st n * li n + st n * thL li n ≤ ((n + 1 : Nat) : Int) * 48 ^ (n + 1)
    have e : (48 : Int) ^ (n + 1) = 48 ^ n * 48 := Int.pow_succ _ _
    have c1 : 1 * 1 ≤ thL li n * li n := Int.mul_le_mul a1 b1 (by decide) (by omega)
    have c2 : thL li n * li n ≤ 48 ^ n * 48 := Int.mul_le_mul a2 b2 (by omega) hp
    have c3 : 0 ≤ thU li st n * li n := Int.mul_nonneg a3 (by omega)
    have c4 : 0 ≤ st n * thL li n := Int.mul_nonneg b3 (by omega)
    have c5 : thU li st n * li n ≤ (n * 48 ^ n) * 48 := Int.mul_le_mul a4 b2 (by omega) (Int.mul_nonneg (by omega) hp)
    have c6 : st n * thL li n ≤ 48 * 48 ^ n := Int.mul_le_mul b4 a2 (by omega) (by decide)
    have e2 : ((n + 1 : Nat) : Int) * (48 ^ n * 48) = (n * 48 ^ n) * 48 + 48 * 48 ^ n := by
      rw [Int.natCast_add, Int.add_mul, Int.mul_assoc]
      congr 1
      simp
      rw [Int.mul_comm]
    rw [e, e2]
    omega
noncomputable def thieF (n P : Int) (mk ag wh pl wt hmk hag : Int → Int) (law what : Int) : Int := leastT (thU (liF P wh pl) (fun k => stF n P mk ag wh pl wt hmk hag k law) n.toNat) (thL (liF P wh pl) n.toNat * n) what
noncomputable def fThief (n N P : Int) (mk ag wh pl wt hd : Int → Int) (s law what : Int) : Int := if (0 ≤ s ∧ s < N) ∧ (0 ≤ law ∧ law < 5) ∧ (what = 0 ∨ what = 1) then thieF n P mk ag wh pl wt (fun k => mk (hd (s * 6 + k))) (fun k => ag (hd (s * 6 + k))) law what else -1
