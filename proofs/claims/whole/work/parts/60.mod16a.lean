def mfI (i : Int) : Prop := i = 0 ∨ i = 1 ∨ i = 3 ∨ i = 13 ∨ i = 22 ∨ i = 25
/-- what reading a text leaves as it was -/
def MF (S S' : St) : Prop := Same [118, 120, 121, 122, 123] S S' ∧ (∀ i, mfI i → S' 118 i = S 118 i) ∧ ∀ i, i < 6 → S' 120 i = S 120 i ∧ S' 121 i = S 121 i
theorem MF.rf {S : St} : MF S S := ⟨Same.rf, fun _ _ => rfl, fun _ _ => ⟨rfl, rfl⟩⟩
theorem MF.tr {S S1 S2 : St} (h1 : MF S S1) (h2 : MF S1 S2) : MF S S2 := ⟨h1.1.tr h2.1, fun i a => (h2.2.1 i a).trans (h1.2.1 i a), fun i a => ⟨(h2.2.2 i a).1.trans (h1.2.2 i a).1, (h2.2.2 i a).2.trans (h1.2.2 i a).2⟩⟩
theorem NF.mf {S S' : St} (h : NF S S') : MF S S' := by
  refine ⟨h.1.mono (by decide), fun i a => ?_, fun i _ => ?_⟩
  · unfold mfI at a
    exact h.2 i (by omega) (by omega) (by omega) (by omega) (by omega)
  · rw [h.1 120 (by decide), h.1 121 (by decide)]
    exact ⟨rfl, rfl⟩
theorem MF.x {S S' : St} (h : MF S S') : S' 119 = S 119 := h.1 119 (by decide)
theorem MF.t {S S' : St} (h : MF S S') : S' 118 3 = S 118 3 := h.2.1 3 (Or.inr (Or.inr (Or.inl rfl)))
theorem MF.u {S T : St} {c : Nat} {i v : Int} (h : MF S T) (hc : c = 122 ∨ c = 123) : MF S (up T c i v) := by
  refine ⟨same_up h.1 ?_, fun j a => ?_, fun j a => ?_⟩
  · rcases hc with e | e <;> subst e <;> decide
  · rw [up_c (by omega)]; exact h.2.1 j a
  · rw [up_c (by omega), up_c (by omega)]; exact h.2.2 j a
theorem MF.u8 {S T : St} {i v : Int} (h : MF S T) (hi : ¬ mfI i) : MF S (up T 118 i v) := by
  refine ⟨same_up h.1 (by decide), fun j a => ?_, fun j a => ?_⟩
  · have hne : j ≠ i := fun z => hi (z ▸ a)
    rw [up_i hne]; exact h.2.1 j a
  · rw [up_c (by decide), up_c (by decide)]; exact h.2.2 j a
theorem MF.uW {S T : St} {c : Nat} {i v : Int} (h : MF S T) (hc : c = 120 ∨ c = 121) (hi : 6 ≤ i) : MF S (up T c i v) := by
  refine ⟨same_up h.1 ?_, fun j a => ?_, fun j a => ?_⟩
  · rcases hc with e | e <;> subst e <;> decide
  · rw [up_c (by omega)]; exact h.2.1 j a
  · rcases hc with e | e <;> subst e
    · rw [up_i (by omega), up_c (by decide)]; exact h.2.2 j a
    · rw [up_i (by omega), up_c (by decide)]; exact h.2.2 j a
theorem MR.p14 {S D : St} {r v : Int} (h : MR S D) (hv : D 0 1 = -1 → r = v ∧ 2 ≤ v ∧ v ≤ 6) : MR (up S 118 14 r) (up D 0 3 v) := by
  obtain ⟨a1, a2, a3, a4⟩ := h
  refine ⟨a1, a2, a3, fun z => ?_⟩
  have z : D 0 1 = -1 := z
  obtain ⟨b1, b2, b3, b4, b5, b6, b7, b8, b9, b10, b11⟩ := a4 z
  obtain ⟨v1, v2⟩ := hv z
  exact ⟨b1, b2, by rw [up_s, up_s]; exact v1, b4, b5, by rw [up_s]; exact v2, b7, b8, b9, b10, b11⟩
theorem MR.pW {S D : St} {k k' v v' : Int} (h : MR S D) (hv : D 0 1 = -1 → k = k' ∧ v = v' ∧ 0 ≤ k' ∧ k' < 6) : MR (up S 120 (6 + k) v) (up D 1 k' v') := by
  obtain ⟨a1, a2, a3, a4⟩ := h
  refine ⟨a1, a2, a3, fun z => ?_⟩
  have z : D 0 1 = -1 := z
  obtain ⟨b1, b2, b3, b4, b5, b6, b7, b8, b9, b10, b11⟩ := a4 z
  obtain ⟨v1, v2, v3, v4⟩ := hv z
  refine ⟨b1, b2, b3, b4, b5, b6, b7, b8, fun i x y => ?_, b10, b11⟩
  subst v1; subst v2
  rw [up_c (c' := 121) (by decide), up_c (c' := 2) (by decide)]
  by_cases e : i = k
  · subst e; rw [up_s, up_s]; exact ⟨rfl, (b9 i x y).2⟩
  · rw [up_i (by omega), up_i e]; exact b9 i x y
theorem MR.pL {S D : St} {k k' v v' : Int} (h : MR S D) (hv : D 0 1 = -1 → k = k' ∧ v = v' ∧ 0 ≤ k' ∧ k' < 6) : MR (up S 121 (6 + k) v) (up D 2 k' v') := by
  obtain ⟨a1, a2, a3, a4⟩ := h
  refine ⟨a1, a2, a3, fun z => ?_⟩
  have z : D 0 1 = -1 := z
  obtain ⟨b1, b2, b3, b4, b5, b6, b7, b8, b9, b10, b11⟩ := a4 z
  obtain ⟨v1, v2, v3, v4⟩ := hv z
  refine ⟨b1, b2, b3, b4, b5, b6, b7, b8, fun i x y => ?_, b10, b11⟩
  subst v1; subst v2
  rw [up_c (c' := 120) (by decide), up_c (c' := 1) (by decide)]
  by_cases e : i = k
  · subst e; rw [up_s, up_s]; exact ⟨(b9 i x y).1, rfl⟩
  · rw [up_i (by omega), up_i e]; exact b9 i x y
theorem MR.pO {S D : St} {j r v : Int} (h : MR S D) (hv : D 0 1 = -1 → D 0 4 = j ∧ j < 4 ∧ r = v) : MR (up (up S 122 (4 + j) r) 118 15 (j + 1)) (up (up D 3 j v) 0 4 (j + 1)) := by
  obtain ⟨a1, a2, a3, a4⟩ := h
  refine ⟨a1, a2, a3, fun z => ?_⟩
  have z : D 0 1 = -1 := z
  obtain ⟨b1, b2, b3, b4, b5, b6, b7, b8, b9, b10, b11⟩ := a4 z
  obtain ⟨v1, v2, v3⟩ := hv z
  refine ⟨b1, b2, b3, by rw [up_s, up_s], b5, b6, by rw [up_s]; omega, b8, b9, fun i x y => ?_, b11⟩
  rw [up_s] at y
  rw [up_c (by decide), up_c (c := 0) (by decide)]
  by_cases e : i = j
  · subst e; rw [up_s, up_s]; exact v3
  · rw [up_i (by omega), up_i e]; exact b10 i x (by omega)
theorem MR.pS {S D : St} {i v : Int} (h : MR S D) (hj : D 0 1 = -1 → 18 + 3 * D 0 5 ≤ i) : MR (up S 123 i v) D := by
  obtain ⟨a1, a2, a3, a4⟩ := h
  refine ⟨a1, a2, a3, fun z => ?_⟩
  obtain ⟨b1, b2, b3, b4, b5, b6, b7, b8, b9, b10, b11⟩ := a4 z
  have hj := hj z
  refine ⟨b1, b2, b3, b4, b5, b6, b7, b8, b9, b10, fun k x y => ?_⟩
  rw [up_i (by omega), up_i (by omega), up_i (by omega)]
  exact b11 k x y
theorem MR.dr {S D : St} {c : Nat} {j v : Int} (h : MR S D) (hc : c = 4 ∨ c = 5 ∨ c = 6) (hj : D 0 1 = -1 → D 0 5 ≤ j) : MR S (up D c j v) := by
  obtain ⟨a1, a2, a3, a4⟩ := h
  have e0 : up D c j v 0 = D 0 := up_row (by omega)
  refine ⟨a1, by rw [e0]; exact a2, by rw [e0]; exact a3, fun z => ?_⟩
  rw [e0] at z
  obtain ⟨b1, b2, b3, b4, b5, b6, b7, b8, b9, b10, b11⟩ := a4 z
  have hj := hj z
  unfold MRe
  rw [e0, up_row (c' := 1) (by omega), up_row (c' := 2) (by omega), up_row (c' := 3) (by omega)]
  refine ⟨b1, b2, b3, b4, b5, b6, b7, b8, b9, b10, fun k x y => ?_⟩
  have hk : ∀ c', up D c j v c' k = D c' k := fun c' => by
    unfold up
    split
    · rename_i q; subst q; rw [if_neg (by omega)]
    · rfl
  rw [hk, hk, hk]
  exact b11 k x y
theorem MR.flt {S D D' : St} (h : MR S D) (hf : D 0 1 ≠ -1) (he : D' 0 1 = D 0 1) : MR S D' := ⟨h.1, by rw [he]; exact h.2.1, by rw [he]; exact h.2.2.1, fun z => absurd (he.symm.trans z) hf⟩
theorem refD_v {d : St} {s : Int} (h : d 0 1 = -1) : refD d s 0 1 = s := by
  unfold refD
  rw [if_pos h, up_s]
noncomputable def mk2 (x : Int → Int) (t j : Int) (D : St) : St := @ite St (isMk (numV x t 0 9 D)) (Classical.propDecidable _) (up (numD x t 0 9 D) 5 j (numV x t 0 9 D)) (refD (up (numD x t 0 9 D) 5 j (numV x t 0 9 D)) (kTs x t (D 0 0)))
theorem mk2_e (x : Int → Int) (t : Int) (d : St) : itY2 x t d = mk2 x t (d 0 5) (itY1 x t d) := rfl
theorem mk_R {A S' D : St} {b r j : Int} (hR : MR A D) (hj : D 0 1 = -1 → D 0 5 ≤ j) (hb : (b = 1 ∧ A 118 5 = 2 ∧ isMk (A 118 7)) ∨ (b = 0 ∧ ¬ (A 118 5 = 2 ∧ isMk (A 118 7)))) (h : TkP A b r S') : NF A S' ∧ MR S' (mk2 (A 119) (A 118 3) j D) ∧ (mk2 (A 119) (A 118 3) j D 0 1 = -1 → D 0 1 = -1 ∧ ∃ q, mk2 (A 119) (A 118 3) j D = up (up D 0 0 q) 5 j r) ∧ (isMk r ∨ r = 0) := by
  obtain ⟨hf, hc⟩ := tk_R hR h
  refine ⟨hf, ?_⟩
  rcases hc with ⟨h1, h2, h3⟩ | ⟨h1, h2, h3, h4⟩ | ⟨h1, h2, h3, h4⟩
  · have e : mk2 (A 119) (A 118 3) j D = up D 5 j 0 := by
      unfold mk2
      rw [numV_f h1, numD_f h1, if_pos (Or.inl (by omega))]
    rw [e]
    exact ⟨h3.dr (by omega) hj, fun z => absurd z h1, Or.inr h2⟩
  · obtain ⟨b1, b2, _⟩ := hR.2.2.2 h1
    have hs := kTs_bd (x := A 119) (t := A 118 3) (p := D 0 0) b1.2
    have e : mk2 (A 119) (A 118 3) j D 0 1 = kTs (A 119) (A 118 3) (D 0 0) := by
      by_cases hk : okN (A 119) (A 118 3) 0 9 (D 0 0)
      · have e5 := b2.2.2.1
        rw [hk.1] at e5
        have e7 := b2.2.2.2.1 hk.1
        have hno : ¬ isMk (kTv (A 119) (A 118 3) (D 0 0)) := by
          intro z
          rcases hb with q | q
          · omega
          · exact q.2 ⟨e5, by rw [e7]; exact z⟩
        unfold mk2
        rw [numV_y h1 hk, numD_y h1 hk, if_neg hno]
        exact refD_v h1
      · unfold mk2
        rw [numV_n hk, numD_n h1 hk, if_pos (Or.inl (by omega)), up_c (by decide), up_s]
    refine ⟨h4.flt (by rw [up_s]; omega) (by rw [up_s]; exact e), fun z => ?_, Or.inr h3⟩
    rw [e] at z
    omega
  · obtain ⟨b1, b2, _⟩ := hR.2.2.2 h1
    rcases hb with q | q
    · have ek : kTk (A 119) (A 118 3) (D 0 0) = -2 := mTok_2.mp (b2.2.2.1.symm.trans q.2.1)
      have e7 := b2.2.2.2.1 ek
      have q2 := q.2.2
      rw [e7] at q2
      have hy : okN (A 119) (A 118 3) 0 9 (D 0 0) := ⟨ek, by omega, by omega⟩
      have e : mk2 (A 119) (A 118 3) j D = up (up D 0 0 (kTe (A 119) (A 118 3) (D 0 0))) 5 j (kTv (A 119) (A 118 3) (D 0 0)) := by
        unfold mk2
        rw [numV_y h1 hy, numD_y h1 hy, if_pos q2]
      rw [e]
      exact ⟨h4.dr (by omega) (fun _ => hj h1), fun _ => ⟨h1, _, by rw [h3, e7]⟩, Or.inl (by rw [h3, e7]; exact q2)⟩
    · omega
theorem MR.pY {S D : St} {j r v : Int} (h : MR S D) (hv : D 0 1 = -1 → (D 0 5 = j ∧ j < 6) ∧ S 123 (18 + 3 * j) = D 4 j ∧ S 123 (18 + 3 * j + 1) = D 5 j ∧ r = v) : MR (up (up S 123 (18 + 3 * j + 2) r) 118 16 (j + 1)) (up (up D 6 j v) 0 5 (j + 1)) := by
  obtain ⟨a1, a2, a3, a4⟩ := h
  refine ⟨a1, a2, a3, fun z => ?_⟩
  have z : D 0 1 = -1 := z
  obtain ⟨b1, b2, b3, b4, b5, b6, b7, b8, b9, b10, b11⟩ := a4 z
  obtain ⟨v1, v2, v3, v4⟩ := hv z
  refine ⟨b1, b2, b3, b4, by rw [up_s, up_s], b6, b7, by rw [up_s]; omega, b9, b10, fun i x y => ?_⟩
  rw [up_s] at y
  rw [up_c (c := 118) (by decide), up_c (c := 118) (by decide), up_c (c := 118) (by decide), up_c (c := 0) (by decide), up_c (c := 0) (by decide), up_c (c := 0) (by decide), up_c (c' := 4) (by decide), up_c (c' := 5) (by decide)]
  by_cases e : i = j
  · subst e
    rw [up_i (by omega), up_i (by omega), up_s, up_s]
    exact ⟨v2, v3, v4⟩
  · rw [up_i (by omega), up_i (by omega), up_i (by omega), up_i e]
    exact b11 i x (by omega)
/-- a fact that is kept from the deciders -/
def Wrp (p : Prop) : Prop := p
noncomputable def itR (x : Int → Int) (t w : Int) (d : St) : St := if w = 110 then up (numD x t 2 6 d) 0 3 (numV x t 2 6 d) else if w = 119 then itW x t 9 1 d else if w = 108 then itW x t 30 2 d else if w = 115 then up (up (numD x t 0 9 d) 3 (d 0 4) (numV x t 0 9 d)) 0 4 (d 0 4 + 1) else up (up (numD x t 0 30 (itY2 x t d)) 6 (d 0 5) (numV x t 0 30 (itY2 x t d))) 0 5 (d 0 5 + 1)
theorem rd_w {S S1 S2 d : St} {hi r1 r2 : Int} (b6 : 2 ≤ d 0 3 ∧ d 0 3 ≤ 6) (h0 : 0 ≤ d 0 0 ∧ d 0 0 ≤ S 118 3) (f1 : numD (S 119) (S 118 3) 0 (d 0 3 - 1) d 0 1 = -1 → r1 = numV (S 119) (S 118 3) 0 (d 0 3 - 1) d) (m2 : MR S2 (numD (S 119) (S 118 3) 1 hi (numD (S 119) (S 118 3) 0 (d 0 3 - 1) d))) (f2 : numD (S 119) (S 118 3) 1 hi (numD (S 119) (S 118 3) 0 (d 0 3 - 1) d) 0 1 = -1 → r2 = numV (S 119) (S 118 3) 1 hi (numD (S 119) (S 118 3) 0 (d 0 3 - 1) d)) : MR (up S2 120 (6 + r1) r2) (itW (S 119) (S 118 3) hi 1 d) ∧ MR (up S2 121 (6 + r1) r2) (itW (S 119) (S 118 3) hi 2 d) := by
  have hw : numD (S 119) (S 118 3) 1 hi (numD (S 119) (S 118 3) 0 (d 0 3 - 1) d) 0 1 = -1 → r1 = numV (S 119) (S 118 3) 0 (d 0 3 - 1) d ∧ r2 = numV (S 119) (S 118 3) 1 hi (numD (S 119) (S 118 3) 0 (d 0 3 - 1) d) ∧ 0 ≤ numV (S 119) (S 118 3) 0 (d 0 3 - 1) d ∧ numV (S 119) (S 118 3) 0 (d 0 3 - 1) d < 6 := by
    intro z
    have hf : Fw (S 118 3) (d 0 0) d := ⟨⟨h0.1, Int.le_refl _⟩, h0.2⟩
    have g := (numD_w z (Fw.s (Fw.num hf)).1).1
    have bd := numV_bd (x := S 119) (t := S 118 3) (lo := 0) (hi := d 0 3 - 1) (by omega) d
    exact ⟨f1 g, f2 z, bd.1, by omega⟩
  exact ⟨m2.pW hw, m2.pL hw⟩
