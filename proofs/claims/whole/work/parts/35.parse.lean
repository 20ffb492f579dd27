/-! the parser as a function of a draft d. d 0: 0 place, 1 fault (-1: none), 2 items, 3 places, 4 ships, 5 spares; d 1 weights, d 2 lives, d 3 owners, d 4, 5, 6 spares' places, makes, ages -/
def okN (x : Int → Int) (t lo hi p : Int) : Prop := kTk x t p = -2 ∧ lo ≤ kTv x t p ∧ kTv x t p ≤ hi
noncomputable def numV (x : Int → Int) (t lo hi : Int) (d : St) : Int := cb (d 0 1 = -1 ∧ okN x t lo hi (d 0 0)) (kTv x t (d 0 0)) lo
noncomputable def numD (x : Int → Int) (t lo hi : Int) (d : St) : St := @ite St (d 0 1 = -1) (Classical.propDecidable _) (@ite St (okN x t lo hi (d 0 0)) (Classical.propDecidable _) (up d 0 0 (kTe x t (d 0 0))) (up d 0 1 (kTs x t (d 0 0)))) d
noncomputable def refD (d : St) (s : Int) : St := @ite St (d 0 1 = -1) (Classical.propDecidable _) (up d 0 1 s) d
noncomputable def itN (x : Int → Int) (t : Int) (d : St) (s0 : Int) : St := let d2 := @ite St (0 < d 0 2) (Classical.propDecidable _) (refD d s0) d; up (numD x t 2 6 d2) 0 3 (numV x t 2 6 d2)
noncomputable def itW (x : Int → Int) (t hi : Int) (row : Nat) (d : St) : St := up (numD x t 1 hi (numD x t 0 (d 0 3 - 1) d)) row (numV x t 0 (d 0 3 - 1) d) (numV x t 1 hi (numD x t 0 (d 0 3 - 1) d))
noncomputable def itS (x : Int → Int) (t : Int) (d : St) (s0 : Int) : St := @ite St (4 ≤ d 0 4) (Classical.propDecidable _) (refD d s0) (up (up (numD x t 0 9 d) 3 (d 0 4) (numV x t 0 9 d)) 0 4 (d 0 4 + 1))
noncomputable def itY1 (x : Int → Int) (t : Int) (d : St) : St := up (numD x t 0 (d 0 3 - 1) d) 4 (d 0 5) (numV x t 0 (d 0 3 - 1) d)
noncomputable def itY2 (x : Int → Int) (t : Int) (d : St) : St := let d2 := itY1 x t d; let d3 := up (numD x t 0 9 d2) 5 (d 0 5) (numV x t 0 9 d2); @ite St (isMk (numV x t 0 9 d2)) (Classical.propDecidable _) d3 (refD d3 (kTs x t (d2 0 0)))
noncomputable def itY (x : Int → Int) (t : Int) (d : St) (s0 : Int) : St := @ite St (6 ≤ d 0 5) (Classical.propDecidable _) (refD d s0) (let d4 := itY2 x t d; up (up (numD x t 0 30 d4) 6 (d 0 5) (numV x t 0 30 d4)) 0 5 (d 0 5 + 1))
noncomputable def itB (x : Int → Int) (t : Int) (d : St) : St :=
  let L := kTk x t (d 0 0); let s0 := kTs x t (d 0 0); let d1 := up d 0 0 (kTe x t (d 0 0))
  if L = 110 then itN x t d1 s0 else if L = 119 then itW x t 9 1 d1 else if L = 108 then itW x t 30 2 d1 else if L = 115 then itS x t d1 s0 else if L = 121 then itY x t d1 s0 else refD d1 s0
noncomputable def itE (x : Int → Int) (t : Int) (d : St) : St := @ite St (d 0 1 = -1) (Classical.propDecidable _) (if kTk x t (d 0 0) = 59 then up (up d 0 0 (kTe x t (d 0 0))) 0 2 (d 0 2 + 1) else up d 0 1 (kTs x t (d 0 0))) d
noncomputable def prs (x : Int → Int) (t : Int) : Nat → St → St
  | 0, d => d
  | n + 1, d => @ite St (d 0 1 = -1 ∧ kTk x t (d 0 0) ≠ -1) (Classical.propDecidable _) (prs x t n (itE x t (itB x t d))) d
def d0S : St := fun c i => if c = 0 then (if i = 1 then -1 else if i = 3 then 3 else 0) else if c = 1 then 1 else if c = 2 then 9 else 0
theorem numD_f {x : Int → Int} {t lo hi : Int} {d : St} (h : d 0 1 ≠ -1) : numD x t lo hi d = d := by unfold numD; rw [if_neg h]
theorem numV_f {x : Int → Int} {t lo hi : Int} {d : St} (h : d 0 1 ≠ -1) : numV x t lo hi d = lo := cb_neg (fun z => h z.1)
theorem numD_y {x : Int → Int} {t lo hi : Int} {d : St} (h : d 0 1 = -1) (hk : okN x t lo hi (d 0 0)) : numD x t lo hi d = up d 0 0 (kTe x t (d 0 0)) := by unfold numD; rw [if_pos h, if_pos hk]
theorem numV_y {x : Int → Int} {t lo hi : Int} {d : St} (h : d 0 1 = -1) (hk : okN x t lo hi (d 0 0)) : numV x t lo hi d = kTv x t (d 0 0) := cb_pos ⟨h, hk⟩
theorem numD_n {x : Int → Int} {t lo hi : Int} {d : St} (h : d 0 1 = -1) (hk : ¬ okN x t lo hi (d 0 0)) : numD x t lo hi d = up d 0 1 (kTs x t (d 0 0)) := by unfold numD; rw [if_pos h, if_neg hk]
theorem numV_n {x : Int → Int} {t lo hi : Int} {d : St} (hk : ¬ okN x t lo hi (d 0 0)) : numV x t lo hi d = lo := cb_neg (fun z => hk z.2)
theorem numV_bd {x : Int → Int} {t lo hi : Int} (h : lo ≤ hi) (d : St) : lo ≤ numV x t lo hi d ∧ numV x t lo hi d ≤ hi := by
  unfold numV
  rcases cb_or (d 0 1 = -1 ∧ okN x t lo hi (d 0 0)) (kTv x t (d 0 0)) lo with ⟨h1, h2⟩ | ⟨_, h2⟩ <;> rw [h2]
  · exact h1.2.2
  · exact ⟨Int.le_refl _, h⟩
/-- what numD leaves: all but place and fault -/
theorem numD_k {x : Int → Int} {t lo hi : Int} (d : St) : (∀ i, i ≠ 0 → i ≠ 1 → numD x t lo hi d 0 i = d 0 i) ∧ ∀ c, c ≠ 0 → numD x t lo hi d c = d c := by
  by_cases h : d 0 1 = -1
  · by_cases hk : okN x t lo hi (d 0 0)
    · rw [numD_y h hk]; exact ⟨fun i a b => up_i a, fun c hc => up_row hc⟩
    · rw [numD_n h hk]; exact ⟨fun i a b => up_i b, fun c hc => up_row hc⟩
  · rw [numD_f h]; exact ⟨fun _ _ _ => rfl, fun _ _ => rfl⟩
/-! the class's reader against a draft -/
def RCe (S d : St) : Prop := S 17 11 = d 0 0 ∧ S 17 9 = d 0 2 ∧ S 18 0 = d 0 3 ∧ S 17 7 = d 0 4 ∧ S 17 8 = d 0 5 ∧ (∀ i, 0 ≤ i → i < 6 → S 19 i = d 1 i ∧ S 20 i = d 2 i) ∧ (∀ i, 0 ≤ i → i < d 0 4 → S 21 i = d 3 i) ∧ (∀ i, 0 ≤ i → i < d 0 5 → S 22 i = d 4 i ∧ S 23 i = d 5 i ∧ S 24 i = d 6 i)
def RCs (S : St) : Prop := RdI S ∧ (2 ≤ S 18 0 ∧ S 18 0 ≤ 6) ∧ (0 ≤ S 17 7 ∧ S 17 7 ≤ 4) ∧ (0 ≤ S 17 8 ∧ S 17 8 ≤ 6) ∧ (-1 ≤ S 17 10 ∧ S 17 10 ≤ 200)
def RC (S d : St) : Prop := RCs S ∧ S 17 10 = d 0 1 ∧ (d 0 1 = -1 → RCe S d)
theorem RdI.kept {S S' : St} (h : RdI S) (hs : Same [17] S S') (h6 : S' 17 6 = S 17 6) (h11 : 0 ≤ S' 17 11 ∧ S' 17 11 ≤ S 17 6) : RdI S' := by
  obtain ⟨a, b, c⟩ := h
  refine ⟨by rw [h6]; exact a, by rw [h6]; exact h11, ?_⟩
  rw [h6, hs 16 (by decide)]
  exact c
theorem kTs_bd {x : Int → Int} {t p : Int} (h : p ≤ t) : p ≤ kTs x t p ∧ kTs x t p ≤ t := by
  have := tsB_bd x t p
  unfold kTs
  omega
/-- the reader moves on: only its place, token, fault change -/
theorem RC.move {S S' d d' : St} (h : RC S d) (hs : Same [17] S S') (hi : ∀ i, i < 10 → S' 17 i = S 17 i) (h11 : 0 ≤ S' 17 11 ∧ S' 17 11 ≤ S 17 6) (hf : -1 ≤ S' 17 10 ∧ S' 17 10 ≤ 200) (hd : S' 17 10 = d' 0 1) (he : d' 0 1 = -1 → S' 17 11 = d' 0 0 ∧ d 0 1 = -1) (hk : (∀ i, i ≠ 0 → i ≠ 1 → d' 0 i = d 0 i) ∧ ∀ c, c ≠ 0 → d' c = d c) : RC S' d' := by
  obtain ⟨⟨h1, h2, h3, h4, h5⟩, h6, h7⟩ := h
  have e18 := hs 18 (by decide)
  refine ⟨⟨h1.kept hs (hi 6 (by decide)) h11, by rw [e18]; exact h2, by rw [hi 7 (by decide)]; exact h3, by rw [hi 8 (by decide)]; exact h4, hf⟩, hd, fun z => ?_⟩
  obtain ⟨z1, z2⟩ := he z
  obtain ⟨g1, g2, g3, g4, g5, g6, g7, g8⟩ := h7 z2
  have k := hk.1
  refine ⟨z1, ?_, ?_, ?_, ?_, ?_, ?_, ?_⟩
  · rw [hi 9 (by decide), k 2 (by decide) (by decide)]; exact g2
  · rw [e18, k 3 (by decide) (by decide)]; exact g3
  · rw [hi 7 (by decide), k 4 (by decide) (by decide)]; exact g4
  · rw [hi 8 (by decide), k 5 (by decide) (by decide)]; exact g5
  · rw [hs 19 (by decide), hs 20 (by decide), hk.2 1 (by decide), hk.2 2 (by decide)]; exact g6
  · rw [hs 21 (by decide), hk.2 3 (by decide), k 4 (by decide) (by decide)]; exact g7
  · rw [hs 22 (by decide), hs 23 (by decide), hs 24 (by decide), hk.2 4 (by decide), hk.2 5 (by decide), hk.2 6 (by decide), k 5 (by decide) (by decide)]; exact g8
