/-! what the calls do to the relation -/
theorem FR.z {A B : St} {n : Int} (r0 : A 27 0 = B 125 0) (r1 : A 27 1 = B 125 1) (r2 : A 27 2 = B 125 2) (h3 : ∀ p, 0 ≤ p → p < A 27 1 → A 31 p = B 125 (3 + p) ∧ A 30 p = B 125 (51 + p) ∧ A 28 p = B 125 (141 + p) ∧ A 29 p = B 124 p) (h4 : ∀ s, 0 ≤ s → s < A 27 2 → A 32 s = B 125 (135 + s)) (h5 : ∀ s k, 0 ≤ s → s < A 27 2 → 0 ≤ k → k < n → A 33 (s * 6 + k) = B 125 (99 + (s * 6 + k))) : FR A B 27 125 0 n := by
  unfold FR
  simp only [Int.zero_add]
  exact ⟨r0, r1, r2, h3, h4, h5⟩
theorem Rel.cr {A A' B B' : St} {b : Int} (h : Rel A B b) (hA : ∀ c, c < 27 ∨ 33 < c → A' c = A c) (hB : ∀ c, c ≠ 124 → c ≠ 125 → B' c = B c) (h4 : ∀ p, B' 124 p = B 124 p ∨ (b ≤ p ∧ B' 124 p = 9)) (hF : FR A' B' 27 125 0 (A 1 0)) (hI : FI A' 27 (A 1 0) b) : Rel A' B' b := by
  obtain ⟨h0, t, p, f, u, g, s, tr, th⟩ := h
  have n6 : A 1 0 ≤ 6 := p.2.1.2
  have b118 := hB 118 (by decide) (by decide)
  have cpF : ∀ c, 33 < c → Cp A A' c c := fun c x => Cp.row (fun e he => hA (c + e) (by omega))
  have h124 : ∀ c a o, FR A B c a o (A 1 0) → FI A c (A 1 0) b → ∀ q, 0 ≤ q → q < A c 1 → B' 124 q = B 124 q := by
    intro c a o x y q q0 q1
    rcases h4 q with z | z
    · exact z
    · have e := (y.2.2.2.1 q q0 q1).2.2.2.2 z.1
      rw [(x.2.2.2.1 q q0 q1).2.2.2] at e
      rw [z.2, e]
  refine ⟨h0, ?_, ?_, ?_, ?_, ?_, ?_, ?_, ?_⟩
  · unfold RT
    rw [hA 0 (by decide), hA 16 (by decide), b118, hB 119 (by decide) (by decide)]
    exact t
  · unfold RP
    rw [hA 1 (by decide), hA 2 (by decide), hA 3 (by decide), b118, hB 120 (by decide) (by decide), hB 121 (by decide) (by decide)]
    exact p
  · unfold RF
    rw [hA 1 (by decide)]
    exact ⟨hF, hI⟩
  · unfold RU
    rw [hA 11 (by decide), hA 1 (by decide), b118]
    refine ⟨u.1, u.2.1, u.2.2.1, fun j j0 j1 => ?_⟩
    have hb := uC_bd (A 11 1) (A 11 2) j
    obtain ⟨x, y⟩ := u.2.2.2 j j0 j1
    exact ⟨x.to y n6 (cpF _ (by omega)) (fun i _ _ => by rw [hB 128 (by decide) (by decide)]) (h124 _ _ _ x y), y.to n6 (cpF _ (by omega))⟩
  · unfold RG
    rw [hA 15 (by decide), hA 1 (by decide), hB 127 (by decide) (by decide)]
    intro i i0 i1
    refine ⟨(g i i0 i1).1, fun z => ?_⟩
    obtain ⟨x, y⟩ := (g i i0 i1).2 z
    exact ⟨x.to y n6 (cpF _ (by omega)) (fun i _ _ => by rw [hB 126 (by decide) (by decide)]) (h124 _ _ _ x y), y.to n6 (cpF _ (by omega))⟩
  · unfold RS
    rw [hA 0 (by decide), hA 1 (by decide), hA 25 (by decide), hA 26 (by decide), b118, hB 129 (by decide) (by decide), hB 130 (by decide) (by decide)]
    exact s
  · rw [hA 13 (by decide), b118]
    exact tr
  · rw [b118]
    exact th
/-- remembered on both sides -/
theorem Rel.rm {A A' B B' : St} {b : Int} (h : Rel A B b) (hR : Rmb A A') (hN : Nts B B') : Rel A' B' b := by
  have hlow := fun (c : Nat) (h1 : c < 48) (h2 : c ≠ 11) => hR.low h1 h2
  obtain ⟨h0, t, p, f, u, g, s, tr, th⟩ := h
  obtain ⟨A1, hC, hA'⟩ := hR
  have n6 : A 1 0 ≤ 6 := p.2.1.2
  have hs := hN.same
  have ho := fun (j : Int) (a : j ≠ 22) => hN.obj a
  obtain ⟨u1, u2, u3, u4⟩ := u
  have e11 : ∀ i, i ≠ 1 → i ≠ 2 → A' 11 i = A1 11 i := fun i x y => by rw [hA', up_i y, up_i x]
  have k1 : A' 11 1 = (A 11 1 + 1) % 10 := by rw [hA', up_i (by decide), up_s]
  have k2 : A' 11 2 = if A 11 2 + 1 < 10 then A 11 2 + 1 else 10 := by rw [hA', up_s]
  have hrow : ∀ c, c ≠ 11 → A' c = A1 c := fun c x => by rw [hA', up_row x, up_row x]
  have hslot : uC (A 11 1) 0 (-10) = 48 + 7 * (A 11 1).toNat := by
    unfold uC
    congr 2
    omega
  have cpN : Cp A A' 27 (48 + 7 * (A 11 1).toNat) := by
    have := Cpd.cp hC
    unfold Cp at this ⊢
    rw [hrow _ (by omega), hrow _ (by omega), hrow _ (by omega), hrow _ (by omega), hrow _ (by omega), hrow _ (by omega), hrow _ (by omega)]
    exact this
  have cpO : ∀ c, 12 ≤ c → (c + 6 < 48 + 7 * (A 11 1).toNat ∨ 48 + 7 * (A 11 1).toNat + 6 < c) → Cp A A' c c := fun c x y => Cp.row (fun e he => by
    rw [hrow _ (by omega)]
    exact hC.2.2.2.2.2.2 (c + e) (by omega))
  have b124 : ∀ q, B' 124 q = B 124 q := fun q => by rw [hs 124 (by decide)]
  have b125 : B' 125 = B 125 := hs 125 (by decide)
  refine ⟨h0, ?_, ?_, ?_, ?_, ?_, ?_, ?_, ?_⟩
  · unfold RT
    rw [hlow 0 (by decide) (by decide), hlow 16 (by decide) (by decide), ho 3 (by decide), hs 119 (by decide)]
    exact t
  · unfold RP
    rw [hlow 1 (by decide) (by decide), hlow 2 (by decide) (by decide), hlow 3 (by decide) (by decide), ho 13 (by decide), hs 120 (by decide), hs 121 (by decide)]
    exact p
  · unfold RF
    rw [hlow 1 (by decide) (by decide)]
    have c := cpO 27 (by decide) (by omega)
    exact ⟨f.1.to f.2 n6 c (fun i _ _ => by rw [b125]) (fun q _ _ => b124 q), f.2.to n6 c⟩
  · unfold RU
    rw [hlow 1 (by decide) (by decide), k1, k2]
    rcases hN with ⟨m1, _, _, m2, m3, m4⟩ | ⟨m1, _, _, m2, m3, m4⟩
    · have e10 : A 11 2 = 10 := u1.trans m1
      rw [e10, if_neg (by omega)]
      refine ⟨by rw [m2]; rfl, by omega, by omega, fun j j0 j1 => ?_⟩
      by_cases ej : j = 9
      · subst ej
        have es : uC ((A 11 1 + 1) % 10) 10 9 = 48 + 7 * (A 11 1).toNat := by
          unfold uC
          congr 2
          omega
        rw [es]
        exact ⟨f.1.to f.2 n6 cpN (fun i x y => by rw [m4 i x y, Int.zero_add]) (fun q _ _ => b124 q), f.2.to n6 cpN⟩
      · have es : uC ((A 11 1 + 1) % 10) 10 j = uC (A 11 1) 10 (j + 1) := by
          unfold uC
          congr 2
          omega
        obtain ⟨x, y⟩ := u4 (j + 1) (by omega) (by omega)
        rw [e10] at x y
        have c : Cp A A' (uC (A 11 1) 10 (j + 1)) (uC (A 11 1) 10 (j + 1)) := cpO _ (by have := uC_bd (A 11 1) 10 (j + 1); omega) (by unfold uC; omega)
        rw [es]
        refine ⟨x.to y n6 c (fun i i0 i1 => ?_) (fun q _ _ => b124 q), y.to n6 c⟩
        rw [m3 (189 * j + i) (by omega) (by omega)]
        congr 1
        omega
    · have hu : A 11 2 < 10 := by omega
      have ek : (if A 11 2 + 1 < 10 then A 11 2 + 1 else 10) = A 11 2 + 1 := by split <;> omega
      rw [ek]
      refine ⟨by rw [m2, u1], by omega, by omega, fun j j0 j1 => ?_⟩
      by_cases ej : j = A 11 2
      · have es : uC ((A 11 1 + 1) % 10) (A 11 2 + 1) j = 48 + 7 * (A 11 1).toNat := by
          unfold uC
          congr 2
          omega
        rw [es, ej]
        exact ⟨f.1.to f.2 n6 cpN (fun i x y => by rw [u1, m4 i x y, Int.zero_add]) (fun q _ _ => b124 q), f.2.to n6 cpN⟩
      · have es : uC ((A 11 1 + 1) % 10) (A 11 2 + 1) j = uC (A 11 1) (A 11 2) j := by
          unfold uC
          congr 2
          omega
        obtain ⟨x, y⟩ := u4 j j0 (by omega)
        have c : Cp A A' (uC (A 11 1) (A 11 2) j) (uC (A 11 1) (A 11 2) j) := cpO _ (by have := uC_bd (A 11 1) (A 11 2) j; omega) (by unfold uC; omega)
        rw [es]
        refine ⟨x.to y n6 c (fun i i0 i1 => ?_) (fun q _ _ => b124 q), y.to n6 c⟩
        rw [m3 (189 * j + i) (by omega) (by omega), Int.zero_add]
  · unfold RG
    rw [hlow 15 (by decide) (by decide), hlow 1 (by decide) (by decide), hs 127 (by decide)]
    intro i i0 i1
    refine ⟨(g i i0 i1).1, fun z => ?_⟩
    obtain ⟨x, y⟩ := (g i i0 i1).2 z
    have c := cpO (34 + 7 * i.toNat) (by omega) (by omega)
    exact ⟨x.to y n6 c (fun i _ _ => by rw [hs 126 (by decide)]) (fun q _ _ => b124 q), y.to n6 c⟩
  · unfold RS
    rw [hlow 0 (by decide) (by decide), hlow 1 (by decide) (by decide), hlow 25 (by decide) (by decide), hlow 26 (by decide) (by decide), ho 25 (by decide), hs 129 (by decide), hs 130 (by decide)]
    exact s
  · rw [hlow 13 (by decide) (by decide), ho 1 (by decide)]
    exact tr
  · rw [ho 0 (by decide)]
    exact th
