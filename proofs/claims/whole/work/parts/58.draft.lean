/-! what a draft that is well holds -/
theorem numD_w {x : Int → Int} {t lo hi : Int} {d : St} (h : numD x t lo hi d 0 1 = -1) (hs : 0 ≤ kTs x t (d 0 0)) : d 0 1 = -1 ∧ okN x t lo hi (d 0 0) ∧ numD x t lo hi d = up d 0 0 (kTe x t (d 0 0)) ∧ numV x t lo hi d = kTv x t (d 0 0) := by
  by_cases h1 : d 0 1 = -1
  · by_cases hk : okN x t lo hi (d 0 0)
    · exact ⟨h1, hk, numD_y h1 hk, numV_y h1 hk⟩
    · rw [numD_n h1 hk, up_s] at h
      omega
  · rw [numD_f h1] at h
    exact absurd h h1
/-- the place goes on and stays in the text -/
def Fw (t p : Int) (d : St) : Prop := (0 ≤ p ∧ p ≤ d 0 0) ∧ d 0 0 ≤ t
theorem Fw.s {x : Int → Int} {t p : Int} {d : St} (h : Fw t p d) : 0 ≤ kTs x t (d 0 0) ∧ kTs x t (d 0 0) ≤ t := by
  have := kTs_bd (x := x) (t := t) (p := d 0 0) h.2
  have := h.1
  omega
theorem Fw.num {x : Int → Int} {t p lo hi : Int} {d : St} (h : Fw t p d) : Fw t p (numD x t lo hi d) := by
  obtain ⟨h1, h2⟩ := h
  have hb := kTe_bd (x := x) (t := t) (p := d 0 0) h2
  by_cases h3 : d 0 1 = -1
  · by_cases hk : okN x t lo hi (d 0 0)
    · rw [numD_y h3 hk]
      unfold Fw
      rw [up_s]
      omega
    · rw [numD_n h3 hk]
      unfold Fw
      rw [up_i (by decide)]
      exact ⟨h1, h2⟩
  · rw [numD_f h3]
    exact ⟨h1, h2⟩
theorem Fw.ref {t p s : Int} {d : St} (h : Fw t p d) : Fw t p (refD d s) := by
  unfold refD
  split
  · unfold Fw
    rw [up_i (by decide)]
    exact h
  · exact h
theorem Fw.upd {t p i v : Int} {c : Nat} {d : St} (h : Fw t p d) (hc : c ≠ 0 ∨ i ≠ 0) : Fw t p (up d c i v) := by
  unfold Fw
  have e : up d c i v 0 0 = d 0 0 := by
    rcases hc with hc | hc
    · exact up_c (fun z => hc z.symm)
    · by_cases q : c = 0
      · subst q; exact up_i (fun z => hc z.symm)
      · exact up_c (fun z => q z.symm)
  rw [e]
  exact h
theorem kTe_gt {x : Int → Int} {t p : Int} (h : p ≤ t) (hk : kTk x t p ≠ -1) : kTs x t p < kTe x t p := by
  have h1 := tsB_bd x t p
  by_cases e : t ≤ tsB x t p
  · exact absurd (kT_end e).2 hk
  · unfold kTs
    by_cases e2 : 48 ≤ x (tsB x t p) ∧ x (tsB x t p) ≤ 57
    · rw [(kT_num (by omega) e2).1, teD_go (by omega) e2]
      have := teD_bd x t (tsB x t p + 1)
      omega
    · rw [(kT_let (by omega) e2).1]; omega
theorem Fw.itemB {x : Int → Int} {t : Int} {d : St} (h0 : 0 ≤ d 0 0) (h : d 0 0 ≤ t) (hk : kTk x t (d 0 0) ≠ -1) : Fw t (kTe x t (d 0 0)) (itB x t d) := by
  have hb := kTe_bd (x := x) (t := t) (p := d 0 0) h
  have h1 : Fw t (kTe x t (d 0 0)) (up d 0 0 (kTe x t (d 0 0))) := by
    unfold Fw
    rw [up_s]
    omega
  unfold itB
  simp only []
  split
  · unfold itN
    simp only []
    refine Fw.upd (Fw.num ?_) (Or.inr (by decide))
    split
    · exact h1.ref
    · exact h1
  · split
    · unfold itW
      exact Fw.upd (Fw.num (Fw.num h1)) (Or.inl (by decide))
    · split
      · unfold itW
        exact Fw.upd (Fw.num (Fw.num h1)) (Or.inl (by decide))
      · split
        · unfold itS
          split
          · exact h1.ref
          · exact Fw.upd (Fw.upd (Fw.num h1) (Or.inl (by decide))) (Or.inr (by decide))
        · split
          · unfold itY
            split
            · exact h1.ref
            · simp only []
              have h2 : Fw t (kTe x t (d 0 0)) (itY2 x t (up d 0 0 (kTe x t (d 0 0)))) := by
                unfold itY2
                simp only []
                have h3 : Fw t (kTe x t (d 0 0)) (itY1 x t (up d 0 0 (kTe x t (d 0 0)))) := by
                  unfold itY1
                  exact Fw.upd (Fw.num h1) (Or.inl (by decide))
                split
                · exact Fw.upd (Fw.num h3) (Or.inl (by decide))
                · exact Fw.ref (Fw.upd (Fw.num h3) (Or.inl (by decide)))
              exact Fw.upd (Fw.upd (Fw.num h2) (Or.inl (by decide))) (Or.inr (by decide))
          · exact h1.ref
theorem Fw.itemE {x : Int → Int} {t p : Int} {d : St} (h : Fw t p d) : Fw t p (itE x t d) := by
  obtain ⟨h1, h2⟩ := h
  have hb := kTe_bd (x := x) (t := t) (p := d 0 0) h2
  unfold itE
  split
  · split
    · unfold Fw
      rw [up_i (by decide), up_s]
      omega
    · exact Fw.upd ⟨h1, h2⟩ (Or.inr (by decide))
  · exact ⟨h1, h2⟩
/-- the well draft's own bounds -/
def DIe (d : St) : Prop := (2 ≤ d 0 3 ∧ d 0 3 ≤ 6) ∧ (0 ≤ d 0 4 ∧ d 0 4 ≤ 4) ∧ (0 ≤ d 0 5 ∧ d 0 5 ≤ 6) ∧ d 0 5 ≤ d 0 2 ∧ (∀ k, 0 ≤ k → k < 6 → (1 ≤ d 1 k ∧ d 1 k ≤ 9) ∧ 1 ≤ d 2 k ∧ d 2 k ≤ 30) ∧ (∀ s, 0 ≤ s → s < d 0 4 → 0 ≤ d 3 s ∧ d 3 s ≤ 9) ∧ ∀ e, 0 ≤ e → e < d 0 5 → (0 ≤ d 4 e ∧ d 4 e < d 0 3) ∧ isMk (d 5 e) ∧ 0 ≤ d 6 e ∧ d 6 e ≤ 30
def DI (t : Int) (d : St) : Prop := (0 ≤ d 0 0 ∧ d 0 0 ≤ t) ∧ (d 0 1 = -1 → DIe d)
theorem refD_w {d : St} {s : Int} (hs : 0 ≤ s) : refD d s 0 1 ≠ -1 := by
  unfold refD
  split
  · rw [up_s]; omega
  · rename_i h; exact h
theorem numV_b {x : Int → Int} {t lo hi : Int} {d : St} (h : okN x t lo hi (d 0 0)) (e : numV x t lo hi d = kTv x t (d 0 0)) : lo ≤ numV x t lo hi d ∧ numV x t lo hi d ≤ hi := by rw [e]; exact h.2
/-- an item that was read well -/
theorem itW_e {x : Int → Int} {t hi p : Int} {row : Nat} {d : St} (hr : row ≠ 0) (hf : Fw t p d) (h : itW x t hi row d 0 1 = -1) : d 0 1 = -1 ∧ ∃ q k v, itW x t hi row d = up (up d 0 0 q) row k v ∧ (0 ≤ k ∧ k ≤ d 0 3 - 1) ∧ 1 ≤ v ∧ v ≤ hi := by
  unfold itW at h ⊢
  rw [up_c (fun z => hr z.symm)] at h
  obtain ⟨h1, h2, h3, h4⟩ := numD_w h hf.num.s.1
  obtain ⟨g1, g2, g3, g4⟩ := numD_w h1 hf.s.1
  refine ⟨g1, kTe x t (numD x t 0 (d 0 3 - 1) d 0 0), _, _, ?_, numV_b g2 g4, numV_b h2 h4⟩
  rw [h3]
  congr 1
  rw [g3, up_s]
  funext c i
  unfold up
  split
  · split <;> rfl
  · rfl
theorem DIe.w {d : St} {q k v : Int} (h : DIe d) (hk : 0 ≤ k ∧ k ≤ d 0 3 - 1) (hv : 1 ≤ v ∧ v ≤ 9) : DIe (up (up d 0 0 q) 1 k v) := by
  obtain ⟨a1, a2, a3, a4, a5, a6, a7⟩ := h
  refine ⟨a1, a2, a3, a4, fun j x y => ?_, a6, a7⟩
  by_cases e : j = k
  · subst e
    rw [up_s]
    exact ⟨hv, (a5 j x y).2⟩
  · rw [up_i e]
    exact a5 j x y
theorem DIe.l {d : St} {q k v : Int} (h : DIe d) (hk : 0 ≤ k ∧ k ≤ d 0 3 - 1) (hv : 1 ≤ v ∧ v ≤ 30) : DIe (up (up d 0 0 q) 2 k v) := by
  obtain ⟨a1, a2, a3, a4, a5, a6, a7⟩ := h
  refine ⟨a1, a2, a3, a4, fun j x y => ?_, a6, a7⟩
  by_cases e : j = k
  · subst e
    rw [up_s]
    exact ⟨(a5 j x y).1, hv⟩
  · rw [up_i e]
    exact a5 j x y
theorem DIe.at0 {d : St} {q : Int} (h : DIe d) : DIe (up d 0 0 q) := h
theorem itN_e {x : Int → Int} {t p s0 : Int} {d : St} (hf : Fw t p d) (hs : 0 ≤ s0) (h : itN x t d s0 0 1 = -1) : d 0 1 = -1 ∧ d 0 2 ≤ 0 ∧ ∃ q v, itN x t d s0 = up (up d 0 0 q) 0 3 v ∧ 2 ≤ v ∧ v ≤ 6 := by
  unfold itN at h ⊢
  simp only [] at h ⊢
  rw [up_i (by decide)] at h
  by_cases e : 0 < d 0 2
  · rw [if_pos e] at h
    obtain ⟨h1, _⟩ := numD_w h (Fw.s (Fw.ref hf)).1
    exact absurd h1 (refD_w hs)
  · rw [if_neg e] at h ⊢
    obtain ⟨h1, h2, h3, h4⟩ := numD_w h hf.s.1
    exact ⟨h1, by omega, kTe x t (d 0 0), _, by rw [h3], numV_b h2 h4⟩
theorem itS_e {x : Int → Int} {t p s0 : Int} {d : St} (hf : Fw t p d) (hs : 0 ≤ s0) (h : itS x t d s0 0 1 = -1) : d 0 1 = -1 ∧ d 0 4 < 4 ∧ ∃ q v, itS x t d s0 = up (up (up d 0 0 q) 3 (d 0 4) v) 0 4 (d 0 4 + 1) ∧ 0 ≤ v ∧ v ≤ 9 := by
  unfold itS at h ⊢
  by_cases e : 4 ≤ d 0 4
  · rw [if_pos e] at h
    exact absurd h (refD_w hs)
  · rw [if_neg e] at h ⊢
    rw [up_i (by decide), up_c (by decide)] at h
    obtain ⟨h1, h2, h3, h4⟩ := numD_w h hf.s.1
    exact ⟨h1, by omega, kTe x t (d 0 0), _, by rw [h3], numV_b h2 h4⟩
theorem itY_e {x : Int → Int} {t p s0 : Int} {d : St} (hf : Fw t p d) (hs : 0 ≤ s0) (h : itY x t d s0 0 1 = -1) : d 0 1 = -1 ∧ d 0 5 < 6 ∧ ∃ q a b c, itY x t d s0 = up (up (up (up (up d 0 0 q) 4 (d 0 5) a) 5 (d 0 5) b) 6 (d 0 5) c) 0 5 (d 0 5 + 1) ∧ (0 ≤ a ∧ a ≤ d 0 3 - 1) ∧ isMk b ∧ 0 ≤ c ∧ c ≤ 30 := by
  unfold itY at h ⊢
  by_cases e : 6 ≤ d 0 5
  · rw [if_pos e] at h
    exact absurd h (refD_w hs)
  · rw [if_neg e] at h ⊢
    simp only [] at h ⊢
    rw [up_i (by decide), up_c (by decide)] at h
    have f1 : Fw t p (itY1 x t d) := by
      unfold itY1
      exact Fw.upd (Fw.num hf) (Or.inl (by decide))
    have f2 : Fw t p (itY2 x t d) := by
      unfold itY2
      simp only []
      split
      · exact Fw.upd (Fw.num f1) (Or.inl (by decide))
      · exact Fw.ref (Fw.upd (Fw.num f1) (Or.inl (by decide)))
    obtain ⟨h1, h2, h3, h4⟩ := numD_w h f2.s.1
    have key : isMk (numV x t 0 9 (itY1 x t d)) ∧ itY2 x t d = up (numD x t 0 9 (itY1 x t d)) 5 (d 0 5) (numV x t 0 9 (itY1 x t d)) := by
      unfold itY2 at h1 ⊢
      simp only [] at h1 ⊢
      by_cases q : isMk (numV x t 0 9 (itY1 x t d))
      · exact ⟨q, if_pos q⟩
      · rw [if_neg q] at h1
        exact absurd h1 (refD_w f1.s.1)
    rw [key.2, up_c (by decide)] at h1
    obtain ⟨g1, g2, g3, g4⟩ := numD_w h1 f1.s.1
    have g0 : numD x t 0 (d 0 3 - 1) d 0 1 = -1 := by
      unfold itY1 at g1
      rw [up_c (by decide)] at g1
      exact g1
    obtain ⟨k1, k2, k3, k4⟩ := numD_w g0 hf.s.1
    refine ⟨k1, by omega, kTe x t (itY2 x t d 0 0), numV x t 0 (d 0 3 - 1) d, numV x t 0 9 (itY1 x t d), numV x t 0 30 (itY2 x t d), ?_, numV_b k2 k4, key.1, numV_b h2 h4⟩
    rw [h3]
    congr 2
    rw [key.2, g3]
    unfold itY1
    rw [k3]
    funext c i
    unfold up
    by_cases e0 : c = 0
    · subst e0
      by_cases e1 : i = 0
      · subst e1; simp
      · simp [e1]
    · simp [e0]
theorem itE_e {x : Int → Int} {t p : Int} {d : St} (hf : Fw t p d) (h : itE x t d 0 1 = -1) : d 0 1 = -1 ∧ ∃ q, itE x t d = up (up d 0 0 q) 0 2 (d 0 2 + 1) := by
  unfold itE at h ⊢
  by_cases e : d 0 1 = -1
  · rw [if_pos e] at h ⊢
    by_cases k : kTk x t (d 0 0) = 59
    · rw [if_pos k]
      exact ⟨e, _, rfl⟩
    · rw [if_neg k, up_s] at h
      have := hf.s (x := x)
      omega
  · rw [if_neg e] at h
    exact absurd h e
theorem itB_e {x : Int → Int} {t : Int} {d : St} (hd : DI t d) (hw : d 0 1 = -1) (hk : kTk x t (d 0 0) ≠ -1) (h : itB x t d 0 1 = -1) : DIe (up (itB x t d) 0 2 (d 0 2 + 1)) ∧ itB x t d 0 2 = d 0 2 := by
  obtain ⟨hp, he⟩ := hd
  have he := he hw
  have hb := kTe_bd (x := x) (t := t) (p := d 0 0) hp.2
  have hs := kTs_bd (x := x) (t := t) (p := d 0 0) hp.2
  have h1 : Fw t (kTe x t (d 0 0)) (up d 0 0 (kTe x t (d 0 0))) := by
    unfold Fw
    rw [up_s]
    omega
  have hs0 : 0 ≤ kTs x t (d 0 0) := by omega
  have hw1 : DIe (up d 0 0 (kTe x t (d 0 0))) := he
  have e2 : ∀ q : Int, up d 0 0 q 0 2 = d 0 2 := fun q => rfl
  generalize hdd : up d 0 0 (kTe x t (d 0 0)) = D at h1 hw1
  have eD2 : D 0 2 = d 0 2 := by rw [← hdd]; rfl
  have more : ∀ T : St, DIe T → T 0 2 = d 0 2 → DIe (up T 0 2 (d 0 2 + 1)) := by
    intro T ⟨a1, a2, a3, a4, a5, a6, a7⟩ e
    refine ⟨a1, a2, a3, ?_, a5, a6, a7⟩
    show T 0 5 ≤ _
    rw [up_s]
    omega
  unfold itB at h ⊢
  simp only [] at h ⊢
  rw [hdd] at h ⊢
  split at h
  · rename_i hL
    rw [if_pos hL]
    obtain ⟨g1, g2, q, v, g3, g4⟩ := itN_e h1 hs0 h
    rw [g3]
    refine ⟨more _ ?_ eD2, eD2⟩
    obtain ⟨a1, a2, a3, a4, a5, a6, a7⟩ := hw1
    refine ⟨?_, a2, a3, a4, a5, a6, fun e x y => ?_⟩
    · rw [up_s]; exact g4
    · have y2 : e < D 0 5 := y
      omega
  · rename_i hL
    rw [if_neg hL]
    split at h
    · rename_i hL2
      rw [if_pos hL2]
      obtain ⟨g1, q, k, v, g3, g4, g5⟩ := itW_e (by decide) h1 h
      rw [g3]
      exact ⟨more _ (hw1.w g4 g5) eD2, eD2⟩
    · rename_i hL2
      rw [if_neg hL2]
      split at h
      · rename_i hL3
        rw [if_pos hL3]
        obtain ⟨g1, q, k, v, g3, g4, g5⟩ := itW_e (by decide) h1 h
        rw [g3]
        exact ⟨more _ (hw1.l g4 g5) eD2, eD2⟩
      · rename_i hL3
        rw [if_neg hL3]
        split at h
        · rename_i hL4
          rw [if_pos hL4]
          obtain ⟨g1, g2, q, v, g3, g4⟩ := itS_e h1 hs0 h
          rw [g3]
          refine ⟨more _ ?_ eD2, eD2⟩
          obtain ⟨a1, a2, a3, a4, a5, a6, a7⟩ := hw1
          refine ⟨a1, ?_, a3, a4, a5, fun s x y => ?_, a7⟩
          · rw [up_s]; omega
          · rw [up_s] at y
            rw [up_c (by decide)]
            by_cases e : s = D 0 4
            · rw [e, up_s]; exact g4
            · rw [up_i e, up_c (by decide)]; exact a6 s x (by omega)
        · rename_i hL4
          rw [if_neg hL4]
          split at h
          · rename_i hL5
            rw [if_pos hL5]
            obtain ⟨g1, g2, q, a, b, c, g3, g4, g5, g6⟩ := itY_e h1 hs0 h
            rw [g3]
            obtain ⟨a1, a2, a3, a4, a5, a6, a7⟩ := hw1
            refine ⟨⟨a1, a2, ?_, ?_, a5, a6, fun e x y => ?_⟩, eD2⟩
            · rw [up_i (by decide), up_s]; omega
            · rw [up_s, up_i (by decide), up_s]; omega
            · rw [up_i (by decide), up_s] at y
              by_cases z : e = D 0 5
              · subst z
                simp only [up, if_true]
                simp
                exact ⟨⟨g4.1, by omega⟩, g5, g6⟩
              · have := a7 e x (by omega)
                simp only [up, z, if_true, if_false]
                simpa using this
          · exact absurd h (refD_w hs0)
theorem DI.step {x : Int → Int} {t : Int} {d : St} (hd : DI t d) (hw : d 0 1 = -1) (hk : kTk x t (d 0 0) ≠ -1) : DI t (itE x t (itB x t d)) ∧ (itE x t (itB x t d) 0 1 = -1 → itE x t (itB x t d) 0 2 = d 0 2 + 1) ∧ kTe x t (d 0 0) ≤ itE x t (itB x t d) 0 0 := by
  have f1 := Fw.itemB (x := x) (t := t) hd.1.1 hd.1.2 hk
  have f2 := f1.itemE (x := x)
  refine ⟨⟨by have := f2.1; have := f2.2; omega, fun h => ?_⟩, fun h => ?_, f2.1.2⟩
  · obtain ⟨g1, q, g2⟩ := itE_e f1 h
    obtain ⟨k1, k2⟩ := itB_e hd hw hk g1
    rw [g2, k2]
    exact k1
  · obtain ⟨g1, q, g2⟩ := itE_e f1 h
    obtain ⟨k1, k2⟩ := itB_e hd hw hk g1
    rw [g2, k2, up_s]
theorem DI.z {t : Int} (h : 0 ≤ t) : DI t d0S := by
  refine ⟨⟨by decide, h⟩, fun _ => ⟨by decide, by decide, by decide, by decide, fun k _ _ => ⟨⟨by show (1 : Int) ≤ 1; decide, by show (1 : Int) ≤ 9; decide⟩, by show (1 : Int) ≤ 9; decide, by show (9 : Int) ≤ 30; decide⟩, fun s a b => ?_, fun e a b => ?_⟩⟩
  · have : s < 0 := b
    omega
  · have : e < 0 := b
    omega
theorem DI.all {x : Int → Int} {t : Int} : ∀ (n : Nat) {d : St}, DI t d → DI t (prs x t n d)
  | 0, _, h => h
  | n + 1, d, h => by
    show DI t (@ite St _ (Classical.propDecidable _) _ _)
    split
    · rename_i hc
      exact DI.all n (h.step hc.1 hc.2).1
    · exact h
