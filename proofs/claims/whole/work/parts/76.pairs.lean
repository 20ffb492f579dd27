theorem rq_place {A A' B B' : St} {b k what r r' : Int} (h : Rel A B b) (hp : r = fPlace (A 1 0) (A 2) (A 3) (A 27 1) (A 31) (A 28) k what) (hq : r' = fPlace (B 118 13) (B 120) (B 121) (B 125 1) (mWh B) (mPl B) k what) (hA : KA A A') (hB : KB B B') : Rls A' B' r r' := by
  obtain ⟨⟨c0, c1, c2⟩, -⟩ := h.cur
  have hn := h.2.2.1.1
  refine ⟨?_, b, h.fr hA hB⟩
  rw [hp, hq, ← hn, ← c1]
  exact h.ve.qPlace k what
theorem rq_part {A A' B B' : St} {b p what r r' : Int} (h : Rel A B b) (hp : r = fPart (A 27 1) (A 28) (A 29) (A 30) (A 31) p what) (hq : r' = fPart (B 125 1) (mPl B) (B 124) (mAg B) (mWh B) p what) (hA : KA A A') (hB : KB B B') : Rls A' B' r r' := by
  obtain ⟨⟨c0, c1, c2⟩, -⟩ := h.cur
  have hn := h.2.2.1.1
  refine ⟨?_, b, h.fr hA hB⟩
  rw [hp, hq, ← c1]
  exact h.ve.qPart p what
theorem rq_inPlace {A A' B B' : St} {b s k r r' : Int} (h : Rel A B b) (hp : r = fInPlace (A 1 0) (A 27 2) (A 33) s k) (hq : r' = fInPlace (B 118 13) (B 125 2) (mHd B) s k) (hA : KA A A') (hB : KB B B') : Rls A' B' r r' := by
  obtain ⟨⟨c0, c1, c2⟩, -⟩ := h.cur
  have hn := h.2.2.1.1
  refine ⟨?_, b, h.fr hA hB⟩
  rw [hp, hq, ← hn, ← c2]
  exact h.ve.qIn s k
theorem rq_ship {A A' B B' : St} {b s what r r' : Int} (h : Rel A B b) (hp : r = fShip (A 1 0) (A 27 2) (A 3) (A 30) (A 33) (A 32) s what) (hq : r' = fShip (B 118 13) (B 125 2) (B 121) (mAg B) (mHd B) (mOw B) s what) (hA : KA A A') (hB : KB B B') : Rls A' B' r r' := by
  obtain ⟨⟨c0, c1, c2⟩, -⟩ := h.cur
  have hn := h.2.2.1.1
  refine ⟨?_, b, h.fr hA hB⟩
  rw [hp, hq, ← hn, ← c2]
  exact h.ve.qShip s what
theorem rq_is {A A' B B' : St} {b s law r r' : Int} (h : Rel A B b) (hp : r = fIs (A 1 0) (A 27 2) (A 29) (A 30) (A 2) (A 33) s law) (hq : r' = fIs (B 118 13) (B 125 2) (B 124) (mAg B) (B 120) (mHd B) s law) (hA : KA A A') (hB : KB B B') : Rls A' B' r r' := by
  obtain ⟨⟨c0, c1, c2⟩, -⟩ := h.cur
  have hn := h.2.2.1.1
  refine ⟨?_, b, h.fr hA hB⟩
  rw [hp, hq, ← hn, ← c2]
  exact h.ve.qIs s law
theorem rq_now {A A' B B' : St} {b what r r' : Int} (h : Rel A B b) (hp : r = fNow (A 1 0) (A 27 2) (A 27 1) (A 27 0) (A 11 2) (A 2) (A 3) (A 29) (A 30) (A 31) (A 33) what) (hq : r' = fNow (B 118 13) (B 125 2) (B 125 1) (B 125 0) (B 118 22) (B 120) (B 121) (B 124) (mAg B) (mWh B) (mHd B) what) (hA : KA A A') (hB : KB B B') : Rls A' B' r r' := by
  obtain ⟨⟨c0, c1, c2⟩, -⟩ := h.cur
  have hn := h.2.2.1.1
  refine ⟨?_, b, h.fr hA hB⟩
  have hu := h.2.2.2.2.1.1
  rw [hp, hq, ← hn, ← c2, ← c1, ← c0, ← hu]
  exact h.ve.qNow _ _ what
theorem rq_twins {A A' B B' : St} {b law r r' : Int} (h : Rel A B b) (hp : r = fTwins (A 1 0) (A 27 2) (A 29) (A 30) (A 2) (A 33) law) (hq : r' = fTwins (B 118 13) (B 125 2) (B 124) (mAg B) (B 120) (mHd B) law) (hA : KA A A') (hB : KB B B') : Rls A' B' r r' := by
  obtain ⟨⟨c0, c1, c2⟩, -⟩ := h.cur
  have hn := h.2.2.1.1
  refine ⟨?_, b, h.fr hA hB⟩
  rw [hp, hq, ← hn, ← c2]
  exact h.ve.qTwins law
theorem rq_stays {A A' B B' : St} {b s law r r' : Int} (h : Rel A B b) (hp : r = fStays (A 1 0) (A 27 2) (A 3) (A 29) (A 30) (A 2) (A 33) s law) (hq : r' = fStays (B 118 13) (B 125 2) (B 121) (B 124) (mAg B) (B 120) (mHd B) s law) (hA : KA A A') (hB : KB B B') : Rls A' B' r r' := by
  obtain ⟨⟨c0, c1, c2⟩, -⟩ := h.cur
  have hn := h.2.2.1.1
  refine ⟨?_, b, h.fr hA hB⟩
  rw [hp, hq, ← hn, ← c2]
  exact h.ve.qStays s law
theorem rq_share {A A' B B' : St} {b s m what r r' : Int} (h : Rel A B b) (hp : r = fShare (A 1 0) (A 27 2) (A 29) (A 2) (A 33) s m what) (hq : r' = fShare (B 118 13) (B 125 2) (B 124) (B 120) (mHd B) s m what) (hA : KA A A') (hB : KB B B') : Rls A' B' r r' := by
  obtain ⟨⟨c0, c1, c2⟩, -⟩ := h.cur
  have hn := h.2.2.1.1
  refine ⟨?_, b, h.fr hA hB⟩
  rw [hp, hq, ← hn, ← c2]
  exact h.ve.qShare s m what
theorem rq_decides {A A' B B' : St} {b s law r r' : Int} (h : Rel A B b) (hp : r = fDec (A 1 0) (A 27 2) (A 29) (A 30) (A 2) (A 33) s law) (hq : r' = fDec (B 118 13) (B 125 2) (B 124) (mAg B) (B 120) (mHd B) s law) (hA : KA A A') (hB : KB B B') : Rls A' B' r r' := by
  obtain ⟨⟨c0, c1, c2⟩, -⟩ := h.cur
  have hn := h.2.2.1.1
  refine ⟨?_, b, h.fr hA hB⟩
  rw [hp, hq, ← hn, ← c2]
  exact h.ve.qDec s law
theorem rq_thief {A A' B B' : St} {b s law what r r' : Int} (h : Rel A B b) (hp : r = fThief (A 1 0) (A 27 2) (A 27 1) (A 29) (A 30) (A 31) (A 28) (A 2) (A 33) s law what) (hq : r' = fThief (B 118 13) (B 125 2) (B 125 1) (B 124) (mAg B) (mWh B) (mPl B) (B 120) (mHd B) s law what) (hA : KA A A') (hB : KB B B') : Rls A' B' r r' := by
  obtain ⟨⟨c0, c1, c2⟩, -⟩ := h.cur
  have hn := h.2.2.1.1
  refine ⟨?_, b, h.fr hA hB⟩
  rw [hp, hq, ← hn, ← c2, ← c1]
  exact h.ve.qThief s law what
theorem rq_leastSeen {A A' B B' : St} {b s r r' : Int} (h : Rel A B b) (hp : r = fLeast (A 1 0) (A 27 2) (A 29) (A 33) s) (hq : r' = fLeast (B 118 13) (B 125 2) (B 124) (mHd B) s) (hA : KA A A') (hB : KB B B') : Rls A' B' r r' := by
  obtain ⟨⟨c0, c1, c2⟩, -⟩ := h.cur
  have hn := h.2.2.1.1
  refine ⟨?_, b, h.fr hA hB⟩
  rw [hp, hq, ← hn, ← c2]
  exact h.ve.qLeast s
theorem rq_repairs {A A' B B' : St} {b s y what r r' : Int} (h : Rel A B b) (hp : r = fRep (A 1 0) (A 27 2) (A 3) (A 30) (A 33) s y what) (hq : r' = fRep (B 118 13) (B 125 2) (B 121) (mAg B) (mHd B) s y what) (hA : KA A A') (hB : KB B B') : Rls A' B' r r' := by
  obtain ⟨⟨c0, c1, c2⟩, -⟩ := h.cur
  have hn := h.2.2.1.1
  refine ⟨?_, b, h.fr hA hB⟩
  rw [hp, hq, ← hn, ← c2]
  exact h.ve.qRep s y what
theorem rq_count {A A' B B' : St} {b what r r' : Int} (h : Rel A B b) (hp : r = fCount (A 1 0) (A 27 2) (A 27 1) (A 0 13) (A 0 12) what) (hq : r' = fCount (B 118 13) (B 125 2) (B 125 1) (B 118 25) (B 118 3) what) (hA : KA A A') (hB : KB B B') : Rls A' B' r r' := by
  obtain ⟨⟨c0, c1, c2⟩, -⟩ := h.cur
  have hn := h.2.2.1.1
  refine ⟨?_, b, h.fr hA hB⟩
  have hs := h.2.2.2.2.2.2.1.1
  have ht := h.2.1.1
  rw [hp, hq, ← hn, ← c2, ← c1, ← hs, ← ht]
theorem rq_mayBe {A A' B B' : St} {b r r' : Int} (h : Rel A B b) (hp : r = mayB (A 27 2) (A 0 13) (A 29) (A 33) (A 25) (A 26)) (hq : r' = mayB (B 125 2) (B 118 25) (B 124) (mHd B) (B 129) (B 130)) (hA : KA A A') (hB : KB B B') : Rls A' B' r r' := by
  obtain ⟨⟨c0, c1, c2⟩, -⟩ := h.cur
  have hn := h.2.2.1.1
  refine ⟨?_, b, h.fr hA hB⟩
  have hs := h.2.2.2.2.2.2.1
  rw [hp, hq, ← c2, ← hs.1]
  exact h.ve.qMay hs.2.2
theorem rq_trace {A A' B B' : St} {b r r' : Int} (h : Rel A B b) (hp : r = A 13 2) (hq : r' = B 118 1) (hA : KA A A') (hB : KB B B') : Rls A' B' r r' := ⟨by rw [hp, hq]; exact h.2.2.2.2.2.2.2.1, b, h.fr hA hB⟩
theorem rl_becomes {A A' B B' : St} {b s law mk k r r' : Int} (h : Rel A B b) (hp : (¬ (((0 ≤ s ∧ s < A 27 2) ∧ (0 ≤ law ∧ law < 5) ∧ (0 ≤ mk ∧ mk ≤ 3)) ∧ (k = -1 ∨ (0 ≤ k ∧ k < A 1 0))) ∧ r = -1 ∧ A' = A) ∨ ((((0 ≤ s ∧ s < A 27 2) ∧ (0 ≤ law ∧ law < 5) ∧ (0 ≤ mk ∧ mk ≤ 3)) ∧ (k = -1 ∨ (0 ≤ k ∧ k < A 1 0))) ∧ BecA (A 1 0) (okC (A 1 0) (A 27 1) (A 31) (A 28)) (GoC (A 1 0) (fun j => A 29 (A 33 (s * 6 + j))) (fun j => A 30 (A 33 (s * 6 + j))) (A 29) (A 30) (A 2) law mk) k r ∧ Same [5, 6, 7, 8, 9, 10] A A')) (hq : (¬ (((0 ≤ s ∧ s < B 125 2) ∧ (0 ≤ law ∧ law < 5) ∧ (0 ≤ mk ∧ mk ≤ 3)) ∧ (k = -1 ∨ (0 ≤ k ∧ k < B 118 13))) ∧ r' = -1 ∧ B' = B) ∨ ((((0 ≤ s ∧ s < B 125 2) ∧ (0 ≤ law ∧ law < 5) ∧ (0 ≤ mk ∧ mk ≤ 3)) ∧ (k = -1 ∨ (0 ≤ k ∧ k < B 118 13))) ∧ BecA (B 118 13) (okC (B 118 13) (B 125 1) (mWh B) (mPl B)) (GoC (B 118 13) (fun k => B 124 (mHd B (s * 6 + k))) (fun k => mAg B (mHd B (s * 6 + k))) (B 124) (mAg B) (B 120) law mk) k r' ∧ Same [131, 132, 133, 134] B B')) : Rls A' B' r r' := by
  obtain ⟨⟨c0, c1, c2⟩, -⟩ := h.cur
  have hn := h.2.2.1.1
  rw [← hn, ← c1, ← c2] at hq
  rcases hp with ⟨p1, p2, p3⟩ | ⟨p1, p2, p3⟩ <;> rcases hq with ⟨q1, q2, q3⟩ | ⟨q1, q2, q3⟩ <;> first | exact absurd p1 q1 | exact absurd q1 p1 | skip
  · rw [p3, q3]; exact ⟨by omega, b, h⟩
  · exact ⟨h.ve.qBec p1.1.1.1 p1.1.1.2 p1.2 p2 q2, b, h.fr (KA.of p3 (by decide)) (KB.of q3 (by decide))⟩
theorem rl_port {A A' B B' : St} {b r r' : Int} (h : Rel A B b) (hp : ((prs (A 16) (A 0 12) (A 0 12).toNat d0S) 0 1 ≠ -1 ∧ r = -10 - (prs (A 16) (A 0 12) (A 0 12).toNat d0S) 0 1 ∧ Same [17, 18, 19, 20, 21, 22, 23, 24] A A') ∨ ((prs (A 16) (A 0 12) (A 0 12).toNat d0S) 0 1 = -1 ∧ r = (prs (A 16) (A 0 12) (A 0 12).toNat d0S) 0 2 ∧ TldX (prs (A 16) (A 0 12) (A 0 12).toNat d0S) A' ∧ Same [0, 1, 2, 3, 11, 15, 17, 18, 19, 20, 21, 22, 23, 24, 27, 28, 29, 30, 31, 32, 33] A A' ∧ (∀ i, i ≠ 12 → i ≠ 13 → A' 0 i = A 0 i) ∧ (∀ i, i ≠ 2 → A' 11 i = A 11 i) ∧ (∀ i, i ≠ 0 → A' 1 i = A 1 i))) (hq : ((prs (B 119) (B 118 3) (B 118 3).toNat d0S) 0 1 ≠ -1 ∧ r' = -10 - (prs (B 119) (B 118 3) (B 118 3).toNat d0S) 0 1 ∧ MF B B') ∨ ((prs (B 119) (B 118 3) (B 118 3).toNat d0S) 0 1 = -1 ∧ r' = (prs (B 119) (B 118 3) (B 118 3).toNat d0S) 0 2 ∧ TldM (prs (B 119) (B 118 3) (B 118 3).toNat d0S) B' ∧ Same [118, 120, 121, 122, 123, 124, 125, 127] B B' ∧ B' 118 0 = B 118 0 ∧ B' 118 1 = B 118 1)) : Rls A' B' r r' := by
  have ht := h.2.1
  rw [← ht.1, ← ht.2.2.1] at hq
  have hD := DI.all (x := A 16) (t := A 0 12) (A 0 12).toNat (DI.z ht.2.1.1)
  rcases hp with ⟨p1, p2, p3⟩ | ⟨p1, p2, p3, p4, p5, p6, p7⟩ <;> rcases hq with ⟨q1, q2, q3⟩ | ⟨q1, q2, q3, q4, q5, q6⟩ <;> first | exact absurd q1 p1 | exact absurd p1 q1 | skip
  · exact ⟨by rw [p2, q2], b, h.fr (KA.of p3 (by decide)) q3.kb⟩
  · exact ⟨by rw [p2, q2], _, rl_told h (hD.2 p1) p3 q3 p4 p5 p6 q4 q5 q6⟩
theorem Rel.uq {A B : St} {b : Int} (h : Rel A B b) : 0 < A 11 2 → (0 ≤ A (48 + 7 * (((A 11 1 + 10) - 1) % 10).toNat) 1 ∧ A (48 + 7 * (((A 11 1 + 10) - 1) % 10).toNat) 1 ≤ 48) ∧ 0 ≤ A (48 + 7 * (((A 11 1 + 10) - 1) % 10).toNat) 2 ∧ A (48 + 7 * (((A 11 1 + 10) - 1) % 10).toNat) 2 ≤ 6 := by
  intro z
  have es : 48 + 7 * (((A 11 1 + 10) - 1) % 10).toNat = uC (A 11 1) (A 11 2) (A 11 2 - 1) := by
    unfold uC
    congr 2
    omega
  rw [es]
  have y := (h.2.2.2.2.1.2.2.2 (A 11 2 - 1) (by omega) (by omega)).2
  exact ⟨y.1.2, y.2.1⟩
theorem Rel.gq {A B : St} {b i : Int} (h : Rel A B b) : 0 ≤ i → i < 2 → A 15 i ≠ 0 → (0 ≤ A (34 + 7 * i.toNat) 1 ∧ A (34 + 7 * i.toNat) 1 ≤ 48) ∧ 0 ≤ A (34 + 7 * i.toNat) 2 ∧ A (34 + 7 * i.toNat) 2 ≤ 6 := by
  intro x y z
  have w := ((h.2.2.2.2.2.1 i x y).2 z).2
  exact ⟨w.1.2, w.2.1⟩
theorem Rel.yq {A B : St} {b : Int} (h : Rel A B b) : (prs (A 16) (A 0 12) (A 0 12).toNat d0S) 0 1 = -1 → ∀ e, 0 ≤ e → e < (prs (A 16) (A 0 12) (A 0 12).toNat d0S) 0 5 → 0 ≤ (prs (A 16) (A 0 12) (A 0 12).toNat d0S) 4 e ∧ (prs (A 16) (A 0 12) (A 0 12).toNat d0S) 4 e < 6 := by
  intro z e e0 e1
  have hD := (DI.all (x := A 16) (t := A 0 12) (A 0 12).toNat (DI.z h.2.1.2.1.1)).2 z
  have w := (hD.2.2.2.2.2.2 e e0 e1).1
  have n := hD.1
  omega
def Pair (m1 m2 : MT) (as : List Value) (S : St) : Prop := ∃ P1, EX m1 (.ref 0 :: as) S P1 ∧ ∀ r S1, P1 r S1 → ∃ P2, EX m2 (.ref 118 :: as) S1 P2 ∧ ∀ r' S2, P2 r' S2 → r = r' ∧ Rl S2
theorem pr_place {S : St} (hR : Rl S) (k what : Int) (r_k : InR k) (r_what : InR what) : Pair mX7_place mX8_place [vi k, vi what] S := by
  obtain ⟨b, hb⟩ := hR
  refine ⟨_, t_X7_place S k what r_k r_what hb.xi, fun r S1 hp => ?_⟩
  have hlo : ∀ c, 118 ≤ c → S1 c = S c := by
    intro c hc
    rw [hp.2]
  have h1 := hb.toB hlo
  refine ⟨_, t_X8_place S1 k what r_k r_what h1.mi, fun r' S2 hq => ?_⟩
  have hhi : ∀ c, c < 118 → S2 c = S1 c := by
    intro c hc
    rw [hq.2]
  exact Rls.toA (rq_place h1 hp.1 hq.1 (by rw [hp.2]; exact KA.rf) (by rw [hq.2]; exact KB.rf)) hhi
theorem pr_part {S : St} (hR : Rl S) (p what : Int) (r_p : InR p) (r_what : InR what) : Pair mX7_part mX8_part [vi p, vi what] S := by
  obtain ⟨b, hb⟩ := hR
  refine ⟨_, t_X7_part S p what r_p r_what hb.xi, fun r S1 hp => ?_⟩
  have hlo : ∀ c, 118 ≤ c → S1 c = S c := by
    intro c hc
    rw [hp.2]
  have h1 := hb.toB hlo
  refine ⟨_, t_X8_part S1 p what r_p r_what h1.mi, fun r' S2 hq => ?_⟩
  have hhi : ∀ c, c < 118 → S2 c = S1 c := by
    intro c hc
    rw [hq.2]
  exact Rls.toA (rq_part h1 hp.1 hq.1 (by rw [hp.2]; exact KA.rf) (by rw [hq.2]; exact KB.rf)) hhi
theorem pr_inPlace {S : St} (hR : Rl S) (s k : Int) (r_s : InR s) (r_k : InR k) : Pair mX7_inPlace mX8_inPlace [vi s, vi k] S := by
  obtain ⟨b, hb⟩ := hR
  refine ⟨_, t_X7_inPlace S s k r_s r_k hb.xi, fun r S1 hp => ?_⟩
  have hlo : ∀ c, 118 ≤ c → S1 c = S c := by
    intro c hc
    rw [hp.2]
  have h1 := hb.toB hlo
  refine ⟨_, t_X8_inPlace S1 s k r_s r_k h1.mi, fun r' S2 hq => ?_⟩
  have hhi : ∀ c, c < 118 → S2 c = S1 c := by
    intro c hc
    rw [hq.2]
  exact Rls.toA (rq_inPlace h1 hp.1 hq.1 (by rw [hp.2]; exact KA.rf) (by rw [hq.2]; exact KB.rf)) hhi
theorem pr_ship {S : St} (hR : Rl S) (s what : Int) (r_s : InR s) (r_what : InR what) : Pair mX7_ship mX8_ship [vi s, vi what] S := by
  obtain ⟨b, hb⟩ := hR
  refine ⟨_, t_X7_ship S s what r_s r_what hb.xi, fun r S1 hp => ?_⟩
  have hlo : ∀ c, 118 ≤ c → S1 c = S c := by
    intro c hc
    rw [hp.2]
  have h1 := hb.toB hlo
  refine ⟨_, t_X8_ship S1 s what r_s r_what h1.mi, fun r' S2 hq => ?_⟩
  have hhi : ∀ c, c < 118 → S2 c = S1 c := by
    intro c hc
    rw [hq.2]
  exact Rls.toA (rq_ship h1 hp.1 hq.1 (by rw [hp.2]; exact KA.rf) (by rw [hq.2]; exact KB.rf)) hhi
theorem pr_is {S : St} (hR : Rl S) (s law : Int) (r_s : InR s) (r_law : InR law) : Pair mX7_is mX8_is [vi s, vi law] S := by
  obtain ⟨b, hb⟩ := hR
  refine ⟨_, t_X7_is S s law r_s r_law hb.xi, fun r S1 hp => ?_⟩
  have hlo : ∀ c, 118 ≤ c → S1 c = S c := by
    exact lowS hp.2 (by decide)
  have h1 := hb.toB hlo
  refine ⟨_, t_X8_is S1 s law r_s r_law h1.mi, fun r' S2 hq => ?_⟩
  have hhi : ∀ c, c < 118 → S2 c = S1 c := by
    exact highS hq.2 (by decide)
  exact Rls.toA (rq_is h1 hp.1 hq.1 (KA.of hp.2 (by decide)) (KB.of hq.2 (by decide))) hhi
theorem pr_now {S : St} (hR : Rl S) (what : Int) (r_what : InR what) : Pair mX7_now mX8_now [vi what] S := by
  obtain ⟨b, hb⟩ := hR
  refine ⟨_, t_X7_now S what r_what hb.xi, fun r S1 hp => ?_⟩
  have hlo : ∀ c, 118 ≤ c → S1 c = S c := by
    exact lowS hp.2 (by decide)
  have h1 := hb.toB hlo
  refine ⟨_, t_X8_now S1 what r_what h1.mi, fun r' S2 hq => ?_⟩
  have hhi : ∀ c, c < 118 → S2 c = S1 c := by
    exact highS hq.2 (by decide)
  exact Rls.toA (rq_now h1 hp.1 hq.1 (KA.of hp.2 (by decide)) (KB.of hq.2 (by decide))) hhi
theorem pr_twins {S : St} (hR : Rl S) (law : Int) (r_law : InR law) : Pair mX7_twins mX8_twins [vi law] S := by
  obtain ⟨b, hb⟩ := hR
  refine ⟨_, t_X7_twins S law r_law hb.xi, fun r S1 hp => ?_⟩
  have hlo : ∀ c, 118 ≤ c → S1 c = S c := by
    exact lowS hp.2 (by decide)
  have h1 := hb.toB hlo
  refine ⟨_, t_X8_twins S1 law r_law h1.mi, fun r' S2 hq => ?_⟩
  have hhi : ∀ c, c < 118 → S2 c = S1 c := by
    exact highS hq.2 (by decide)
  exact Rls.toA (rq_twins h1 hp.1 hq.1 (KA.of hp.2 (by decide)) (KB.of hq.2 (by decide))) hhi
theorem pr_stays {S : St} (hR : Rl S) (s law : Int) (r_s : InR s) (r_law : InR law) : Pair mX7_stays mX8_stays [vi s, vi law] S := by
  obtain ⟨b, hb⟩ := hR
  refine ⟨_, t_X7_stays S s law r_s r_law hb.xi, fun r S1 hp => ?_⟩
  have hlo : ∀ c, 118 ≤ c → S1 c = S c := by
    exact lowS hp.2 (by decide)
  have h1 := hb.toB hlo
  refine ⟨_, t_X8_stays S1 s law r_s r_law h1.mi, fun r' S2 hq => ?_⟩
  have hhi : ∀ c, c < 118 → S2 c = S1 c := by
    exact highS hq.2 (by decide)
  exact Rls.toA (rq_stays h1 hp.1 hq.1 (KA.of hp.2 (by decide)) (KB.of hq.2 (by decide))) hhi
theorem pr_share {S : St} (hR : Rl S) (s m what : Int) (r_s : InR s) (r_m : InR m) (r_what : InR what) : Pair mX7_share mX8_share [vi s, vi m, vi what] S := by
  obtain ⟨b, hb⟩ := hR
  refine ⟨_, t_X7_share S s m what r_s r_m r_what hb.xi, fun r S1 hp => ?_⟩
  have hlo : ∀ c, 118 ≤ c → S1 c = S c := by
    exact lowS hp.2 (by decide)
  have h1 := hb.toB hlo
  refine ⟨_, t_X8_share S1 s m what r_s r_m r_what h1.mi, fun r' S2 hq => ?_⟩
  have hhi : ∀ c, c < 118 → S2 c = S1 c := by
    exact highS hq.2 (by decide)
  exact Rls.toA (rq_share h1 hp.1 hq.1 (KA.of hp.2 (by decide)) (KB.of hq.2 (by decide))) hhi
theorem pr_decides {S : St} (hR : Rl S) (s law : Int) (r_s : InR s) (r_law : InR law) : Pair mX7_decides mX8_decides [vi s, vi law] S := by
  obtain ⟨b, hb⟩ := hR
  refine ⟨_, t_X7_decides S s law r_s r_law hb.xi, fun r S1 hp => ?_⟩
  have hlo : ∀ c, 118 ≤ c → S1 c = S c := by
    exact lowS hp.2 (by decide)
  have h1 := hb.toB hlo
  refine ⟨_, t_X8_decides S1 s law r_s r_law h1.mi, fun r' S2 hq => ?_⟩
  have hhi : ∀ c, c < 118 → S2 c = S1 c := by
    exact highS hq.2 (by decide)
  exact Rls.toA (rq_decides h1 hp.1 hq.1 (KA.of hp.2 (by decide)) (KB.of hq.2 (by decide))) hhi
theorem pr_thief {S : St} (hR : Rl S) (s law what : Int) (r_s : InR s) (r_law : InR law) (r_what : InR what) : Pair mX7_thief mX8_thief [vi s, vi law, vi what] S := by
  obtain ⟨b, hb⟩ := hR
  refine ⟨_, t_X7_thief S s law what r_s r_law r_what hb.xi, fun r S1 hp => ?_⟩
  have hlo : ∀ c, 118 ≤ c → S1 c = S c := by
    exact lowS hp.2 (by decide)
  have h1 := hb.toB hlo
  refine ⟨_, t_X8_thief S1 s law what r_s r_law r_what h1.mi, fun r' S2 hq => ?_⟩
  have hhi : ∀ c, c < 118 → S2 c = S1 c := by
    exact highS hq.2 (by decide)
  exact Rls.toA (rq_thief h1 hp.1 hq.1 (KA.of hp.2 (by decide)) (KB.of hq.2 (by decide))) hhi
theorem pr_leastSeen {S : St} (hR : Rl S) (s : Int) (r_s : InR s) : Pair mX7_leastSeen mX8_leastSeen [vi s] S := by
  obtain ⟨b, hb⟩ := hR
  refine ⟨_, t_X7_leastSeen S s r_s hb.xi, fun r S1 hp => ?_⟩
  have hlo : ∀ c, 118 ≤ c → S1 c = S c := by
    intro c hc
    rw [hp.2]
  have h1 := hb.toB hlo
  refine ⟨_, t_X8_leastSeen S1 s r_s h1.mi, fun r' S2 hq => ?_⟩
  have hhi : ∀ c, c < 118 → S2 c = S1 c := by
    intro c hc
    rw [hq.2]
  exact Rls.toA (rq_leastSeen h1 hp.1 hq.1 (by rw [hp.2]; exact KA.rf) (by rw [hq.2]; exact KB.rf)) hhi
theorem pr_repairs {S : St} (hR : Rl S) (s y what : Int) (r_s : InR s) (r_y : InR y) (r_what : InR what) : Pair mX7_repairs mX8_repairs [vi s, vi y, vi what] S := by
  obtain ⟨b, hb⟩ := hR
  refine ⟨_, t_X7_repairs S s y what r_s r_y r_what hb.xi, fun r S1 hp => ?_⟩
  have hlo : ∀ c, 118 ≤ c → S1 c = S c := by
    exact lowS hp.2 (by decide)
  have h1 := hb.toB hlo
  refine ⟨_, t_X8_repairs S1 s y what r_s r_y r_what h1.mi, fun r' S2 hq => ?_⟩
  have hhi : ∀ c, c < 118 → S2 c = S1 c := by
    exact highS hq.2 (by decide)
  exact Rls.toA (rq_repairs h1 hp.1 hq.1 (KA.of hp.2 (by decide)) (KB.of hq.2 (by decide))) hhi
theorem pr_count {S : St} (hR : Rl S) (what : Int) (r_what : InR what) : Pair mX7_count mX8_count [vi what] S := by
  obtain ⟨b, hb⟩ := hR
  refine ⟨_, t_X7_count S what r_what hb.xi, fun r S1 hp => ?_⟩
  have hlo : ∀ c, 118 ≤ c → S1 c = S c := by
    intro c hc
    rw [hp.2]
  have h1 := hb.toB hlo
  refine ⟨_, t_X8_count S1 what r_what h1.mi, fun r' S2 hq => ?_⟩
  have hhi : ∀ c, c < 118 → S2 c = S1 c := by
    intro c hc
    rw [hq.2]
  exact Rls.toA (rq_count h1 hp.1 hq.1 (by rw [hp.2]; exact KA.rf) (by rw [hq.2]; exact KB.rf)) hhi
theorem pr_mayBe {S : St} (hR : Rl S)  : Pair mX7_mayBe mX8_mayBe [] S := by
  obtain ⟨b, hb⟩ := hR
  refine ⟨_, t_X7_mayBe S hb.xi hb.2.2.2.2.2.2.1.2.1.1 hb.2.2.2.2.2.2.1.2.1.2 (fun i a c => (hb.2.2.2.2.2.2.1.2.2 i a c).2), fun r S1 hp => ?_⟩
  have hlo : ∀ c, 118 ≤ c → S1 c = S c := by
    intro c hc
    rw [hp.2]
  have h1 := hb.toB hlo
  refine ⟨_, t_X8_mayBe S1 h1.mi (by rw [← h1.2.2.2.2.2.2.1.1]; exact h1.2.2.2.2.2.2.1.2.1.1) (by rw [← h1.2.2.2.2.2.2.1.1]; exact h1.2.2.2.2.2.2.1.2.1.2) (by rw [← h1.2.2.2.2.2.2.1.1, ← h1.2.2.1.1]; intro i a c; have z := h1.2.2.2.2.2.2.1.2.2 i a c; rw [← z.1.1]; exact z.2), fun r' S2 hq => ?_⟩
  have hhi : ∀ c, c < 118 → S2 c = S1 c := by
    intro c hc
    rw [hq.2]
  exact Rls.toA (rq_mayBe h1 hp.1 hq.1 (by rw [hp.2]; exact KA.rf) (by rw [hq.2]; exact KB.rf)) hhi
theorem pr_trace {S : St} (hR : Rl S)  : Pair mX7_trace mX8_trace [] S := by
  obtain ⟨b, hb⟩ := hR
  refine ⟨_, t_X7_trace S , fun r S1 hp => ?_⟩
  have hlo : ∀ c, 118 ≤ c → S1 c = S c := by
    intro c hc
    rw [hp.2]
  have h1 := hb.toB hlo
  refine ⟨_, t_X8_trace S1 h1.mi, fun r' S2 hq => ?_⟩
  have hhi : ∀ c, c < 118 → S2 c = S1 c := by
    intro c hc
    rw [hq.2]
  exact Rls.toA (rq_trace h1 hp.1 hq.1 (by rw [hp.2]; exact KA.rf) (by rw [hq.2]; exact KB.rf)) hhi
theorem pr_type {S : St} (hR : Rl S) (l : Int) (r_l : InR l) : Pair mX7_type mX8_type [vi l] S := by
  obtain ⟨b, hb⟩ := hR
  refine ⟨_, t_X7_type S l r_l hb.2.1.2.1.1, fun r S1 hp => ?_⟩
  have hlo : ∀ c, 118 ≤ c → S1 c = S c := by
    intro c hc
    rcases hp with ⟨_, _, z⟩ | ⟨_, _, _, z⟩ | ⟨_, _, _, z⟩
    · rw [z]
    · rw [z]
    · rw [z, up_row (by omega), up_row (by omega)]
  have h1 := hb.toB hlo
  refine ⟨_, t_X8_type S1 l r_l h1.mi (by rw [← h1.2.1.1]; exact h1.2.1.2.1.1) (by rw [← h1.2.1.1]; exact h1.2.1.2.1.2), fun r' S2 hq => ?_⟩
  have hhi : ∀ c, c < 118 → S2 c = S1 c := by
    intro c hc
    rcases hq with ⟨_, _, z⟩ | ⟨_, _, _, z⟩ | ⟨_, _, _, z⟩
    · rw [z]
    · rw [z]
    · rw [z, up_row (by omega), up_row (by omega)]
  exact Rls.toA (rl_type h1 hp hq) hhi
theorem pr_clear {S : St} (hR : Rl S)  : Pair mX7_clear mX8_clear [] S := by
  obtain ⟨b, hb⟩ := hR
  refine ⟨_, t_X7_clear S , fun r S1 hp => ?_⟩
  have hlo : ∀ c, 118 ≤ c → S1 c = S c := by
    intro c hc
    rw [hp.2, up_row (by omega)]
  have h1 := hb.toB hlo
  refine ⟨_, t_X8_clear S1 h1.mi, fun r' S2 hq => ?_⟩
  have hhi : ∀ c, c < 118 → S2 c = S1 c := by
    intro c hc
    rw [hq.2, up_row (by omega)]
  exact Rls.toA (by rw [hp.1, hp.2, hq.1, hq.2]; exact rl_clear h1) hhi
theorem pr_forget {S : St} (hR : Rl S)  : Pair mX7_forget mX8_forget [] S := by
  obtain ⟨b, hb⟩ := hR
  refine ⟨_, t_X7_forget S , fun r S1 hp => ?_⟩
  have hlo : ∀ c, 118 ≤ c → S1 c = S c := by
    intro c hc
    rw [hp.2, up_row (by omega)]
  have h1 := hb.toB hlo
  refine ⟨_, t_X8_forget S1 h1.mi, fun r' S2 hq => ?_⟩
  have hhi : ∀ c, c < 118 → S2 c = S1 c := by
    intro c hc
    rw [hq.2, up_row (by omega)]
  exact Rls.toA (by rw [hp.1, hp.2, hq.1, hq.2]; exact rl_forget h1) hhi
theorem pr_saw {S : St} (hR : Rl S) (k m : Int) (r_k : InR k) (r_m : InR m) : Pair mX7_saw mX8_saw [vi k, vi m] S := by
  obtain ⟨b, hb⟩ := hR
  refine ⟨_, t_X7_saw S k m r_k r_m hb.2.2.2.2.2.2.1.2.1.1, fun r S1 hp => ?_⟩
  have hlo : ∀ c, 118 ≤ c → S1 c = S c := by
    intro c hc
    rcases hp with ⟨_, _, z⟩ | ⟨_, _, _, z⟩ | ⟨_, _, _, z⟩
    · rw [z]
    · rw [z]
    · rw [z, up_row (by omega), up_row (by omega), up_row (by omega)]
  have h1 := hb.toB hlo
  refine ⟨_, t_X8_saw S1 k m r_k r_m h1.mi (by rw [← h1.2.2.2.2.2.2.1.1]; exact h1.2.2.2.2.2.2.1.2.1.1) (by rw [← h1.2.2.2.2.2.2.1.1]; exact h1.2.2.2.2.2.2.1.2.1.2), fun r' S2 hq => ?_⟩
  have hhi : ∀ c, c < 118 → S2 c = S1 c := by
    intro c hc
    rcases hq with ⟨_, _, z⟩ | ⟨_, _, _, z⟩ | ⟨_, _, _, z⟩
    · rw [z]
    · rw [z]
    · rw [z, up_row (by omega), up_row (by omega), up_row (by omega)]
  exact Rls.toA (rl_saw h1 hp hq) hhi
theorem pr_rate {S : St} (hR : Rl S) (kind p : Int) (r_kind : InR kind) (r_p : InR p) : Pair mX7_rate mX8_rate [vi kind, vi p] S := by
  obtain ⟨b, hb⟩ := hR
  refine ⟨_, t_X7_rate S kind p r_kind r_p hb.xi, fun r S1 hp => ?_⟩
  have hlo : ∀ c, 118 ≤ c → S1 c = S c := by
    intro c hc
    rcases hp with ⟨_, _, z⟩ | ⟨_, _, z⟩
    · rw [z, up_row (by omega)]
    · rw [z]
  have h1 := hb.toB hlo
  refine ⟨_, t_X8_rate S1 kind p r_kind r_p h1.mi, fun r' S2 hq => ?_⟩
  have hhi : ∀ c, c < 118 → S2 c = S1 c := by
    intro c hc
    rcases hq with ⟨_, _, z⟩ | ⟨_, _, z⟩
    · rw [z, up_row (by omega)]
    · rw [z]
  exact Rls.toA (rl_rate h1 hp hq) hhi
theorem pr_becomes {S : St} (hR : Rl S) (s law m k : Int) (r_s : InR s) (r_law : InR law) (r_m : InR m) (r_k : InR k) : Pair mX7_becomes mX8_becomes [vi s, vi law, vi m, vi k] S := by
  obtain ⟨b, hb⟩ := hR
  refine ⟨_, t_X7_becomes S s law m k r_s r_law r_m r_k hb.xi, fun r S1 hp => ?_⟩
  have hlo : ∀ c, 118 ≤ c → S1 c = S c := by
    rcases hp with ⟨_, _, z⟩ | ⟨_, _, z⟩
    · intro c hc; rw [z]
    · exact lowS z (by decide)
  have h1 := hb.toB hlo
  refine ⟨_, t_X8_becomes S1 s law m k r_s r_law r_m r_k h1.mi, fun r' S2 hq => ?_⟩
  have hhi : ∀ c, c < 118 → S2 c = S1 c := by
    rcases hq with ⟨_, _, z⟩ | ⟨_, _, z⟩
    · intro c hc; rw [z]
    · exact highS z (by decide)
  exact Rls.toA (rl_becomes h1 hp hq) hhi
theorem pr_replace {S : St} (hR : Rl S) (s p : Int) (r_s : InR s) (r_p : InR p) : Pair mX7_replace mX8_replace [vi s, vi p] S := by
  obtain ⟨b, hb⟩ := hR
  refine ⟨_, t_X7_replace S s p r_s r_p hb.xi hb.pi, fun r S1 hp => ?_⟩
  have hlo : ∀ c, 118 ≤ c → S1 c = S c := by
    intro c hc
    rcases hp with ⟨_, _, z⟩ | ⟨_, _, _, z⟩ | ⟨_, _, _, T, y, z⟩
    · rw [z]
    · rw [z]
    · rw [z, up_row (by omega), up_row (by omega), up_row (by omega)]; exact y.high hb.pi.1 c hc
  have h1 := hb.toB hlo
  refine ⟨_, t_X8_replace S1 s p r_s r_p h1.mi (by rw [← h1.2.2.2.2.1.1]; exact h1.2.2.2.2.1.2.1.1) (by rw [← h1.2.2.2.2.1.1]; exact h1.2.2.2.2.1.2.1.2), fun r' S2 hq => ?_⟩
  have hhi : ∀ c, c < 118 → S2 c = S1 c := by
    intro c hc
    rcases hq with ⟨_, _, z⟩ | ⟨_, _, _, z⟩ | ⟨_, _, _, T, y, z⟩
    · rw [z]
    · rw [z]
    · rw [z, up_row (by omega), up_row (by omega), up_row (by omega)]; exact highS y.same (by decide) c hc
  exact Rls.toA (rl_replace h1 hp hq) hhi
theorem pr_fresh {S : St} (hR : Rl S) (k : Int) (r_k : InR k) : Pair mX7_fresh mX8_fresh [vi k] S := by
  obtain ⟨b, hb⟩ := hR
  refine ⟨_, t_X7_fresh S k r_k hb.xi hb.pi, fun r S1 hp => ?_⟩
  have hlo : ∀ c, 118 ≤ c → S1 c = S c := by
    intro c hc
    rcases hp with ⟨_, _, z⟩ | ⟨_, _, _, z⟩ | ⟨_, _, _, T, y, z⟩
    · rw [z]
    · rw [z]
    · rw [z, up_row (by omega), up_row (by omega), up_row (by omega), up_row (by omega), up_row (by omega)]; exact y.high hb.pi.1 c hc
  have h1 := hb.toB hlo
  refine ⟨_, t_X8_fresh S1 k r_k h1.mi (by rw [← h1.2.2.2.2.1.1]; exact h1.2.2.2.2.1.2.1.1) (by rw [← h1.2.2.2.2.1.1]; exact h1.2.2.2.2.1.2.1.2), fun r' S2 hq => ?_⟩
  have hhi : ∀ c, c < 118 → S2 c = S1 c := by
    intro c hc
    rcases hq with ⟨_, _, z⟩ | ⟨_, _, _, z⟩ | ⟨_, _, _, T, y, z⟩
    · rw [z]
    · rw [z]
    · rw [z]; unfold cmS; rw [up_row (by omega), up_row (by omega), up_row (by omega), up_row (by omega), up_row (by omega)]; exact highS y.same (by decide) c hc
  exact Rls.toA (rl_fresh h1 hp hq) hhi
theorem pr_build {S : St} (hR : Rl S)  : Pair mX7_build mX8_build [] S := by
  obtain ⟨b, hb⟩ := hR
  refine ⟨_, t_X7_build S hb.xi hb.pi, fun r S1 hp => ?_⟩
  have hlo : ∀ c, 118 ≤ c → S1 c = S c := by
    intro c hc
    rcases hp with ⟨_, _, z⟩ | ⟨_, _, _, z⟩ | ⟨_, _, _, T, y, z, _⟩
    · rw [z]
    · rw [z]
    · rw [lowS z (by decide) c hc]; exact y.high hb.pi.1 c hc
  have h1 := hb.toB hlo
  refine ⟨_, t_X8_build S1 h1.mi (by rw [← h1.2.2.2.2.1.1]; exact h1.2.2.2.2.1.2.1.1) (by rw [← h1.2.2.2.2.1.1]; exact h1.2.2.2.2.1.2.1.2), fun r' S2 hq => ?_⟩
  have hhi : ∀ c, c < 118 → S2 c = S1 c := by
    intro c hc
    rcases hq with ⟨_, _, z⟩ | ⟨_, _, _, z⟩ | ⟨_, _, _, T, T2, y, y2, _, z⟩
    · rw [z]
    · rw [z]
    · rw [z, up_row (by omega), up_row (by omega), highS y2 (by decide) c hc]; exact highS y.same (by decide) c hc
  exact Rls.toA (rl_build h1 hp hq) hhi
theorem pr_year {S : St} (hR : Rl S)  : Pair mX7_year mX8_year [] S := by
  obtain ⟨b, hb⟩ := hR
  refine ⟨_, t_X7_year S hb.xi hb.pi, fun r S1 hp => ?_⟩
  have hlo : ∀ c, 118 ≤ c → S1 c = S c := by
    intro c hc
    rcases hp with ⟨_, _, z⟩ | ⟨_, T, y, z, _⟩
    · rw [z]
    · rw [lowS z (by decide) c hc]; exact y.high hb.pi.1 c hc
  have h1 := hb.toB hlo
  refine ⟨_, t_X8_year S1 h1.mi (by rw [← h1.2.2.2.2.1.1]; exact h1.2.2.2.2.1.2.1.1) (by rw [← h1.2.2.2.2.1.1]; exact h1.2.2.2.2.1.2.1.2), fun r' S2 hq => ?_⟩
  have hhi : ∀ c, c < 118 → S2 c = S1 c := by
    intro c hc
    rcases hq with ⟨_, _, z⟩ | ⟨_, T, T2, y, y2, _, z⟩
    · rw [z]
    · rw [z, up_row (by omega), highS y2 (by decide) c hc]; exact highS y.same (by decide) c hc
  exact Rls.toA (rl_year h1 hp hq) hhi
theorem pr_undo {S : St} (hR : Rl S)  : Pair mX7_undo mX8_undo [] S := by
  obtain ⟨b, hb⟩ := hR
  refine ⟨_, t_X7_undo S hb.xi hb.pi hb.uq, fun r S1 hp => ?_⟩
  have hlo : ∀ c, 118 ≤ c → S1 c = S c := by
    intro c hc
    rcases hp with ⟨_, _, z⟩ | ⟨_, _, z⟩
    · rw [z]
    · rw [z.2.2.2.2.2.2 c (by omega), up_row (by omega), up_row (by omega)]
  have h1 := hb.toB hlo
  refine ⟨_, t_X8_undo S1 h1.mi (by rw [← h1.2.2.2.2.1.1]; exact h1.2.2.2.2.1.2.1.1) (by rw [← h1.2.2.2.2.1.1]; exact h1.2.2.2.2.1.2.1.2), fun r' S2 hq => ?_⟩
  have hhi : ∀ c, c < 118 → S2 c = S1 c := by
    intro c hc
    rcases hq with ⟨_, _, z⟩ | ⟨_, _, z⟩
    · rw [z]
    · rw [highS z.1 (by decide) c hc, up_row (by omega)]
  exact Rls.toA (rl_undo h1 hp hq) hhi
theorem pr_keep {S : St} (hR : Rl S) (i : Int) (r_i : InR i) : Pair mX7_keep mX8_keep [vi i] S := by
  obtain ⟨b, hb⟩ := hR
  refine ⟨_, t_X7_keep S i r_i hb.xi hb.pi, fun r S1 hp => ?_⟩
  have hlo : ∀ c, 118 ≤ c → S1 c = S c := by
    intro c hc
    rcases hp with ⟨_, _, z⟩ | ⟨q, _, T, y, z⟩
    · rw [z]
    · rw [z, up_row (by omega)]; exact y.2.2.2.2.2.2 c (by omega)
  have h1 := hb.toB hlo
  refine ⟨_, t_X8_keep S1 i r_i h1.mi, fun r' S2 hq => ?_⟩
  have hhi : ∀ c, c < 118 → S2 c = S1 c := by
    intro c hc
    rcases hq with ⟨_, _, z⟩ | ⟨_, _, T, y, z⟩
    · rw [z]
    · rw [z, up_row (by omega)]; exact highS y.1 (by decide) c hc
  exact Rls.toA (rl_keep h1 hp hq) hhi
theorem pr_back {S : St} (hR : Rl S) (i : Int) (r_i : InR i) : Pair mX7_back mX8_back [vi i] S := by
  obtain ⟨b, hb⟩ := hR
  refine ⟨_, t_X7_back S i r_i hb.xi hb.pi hb.gq, fun r S1 hp => ?_⟩
  have hlo : ∀ c, 118 ≤ c → S1 c = S c := by
    intro c hc
    rcases hp with ⟨_, _, z⟩ | ⟨_, _, _, z⟩ | ⟨_, _, _, T, y, z⟩
    · rw [z]
    · rw [z]
    · rw [z, up_row (by omega)]; exact y.2.2.2.2.2.2 c (by omega)
  have h1 := hb.toB hlo
  refine ⟨_, t_X8_back S1 i r_i h1.mi, fun r' S2 hq => ?_⟩
  have hhi : ∀ c, c < 118 → S2 c = S1 c := by
    intro c hc
    rcases hq with ⟨_, _, z⟩ | ⟨_, _, _, z⟩ | ⟨_, _, _, T, y, z⟩
    · rw [z]
    · rw [z]
    · rw [z, up_row (by omega)]; exact highS y.1 (by decide) c hc
  exact Rls.toA (rl_back h1 hp hq) hhi
theorem pr_port {S : St} (hR : Rl S)  : Pair mX7_port mX8_port [] S := by
  obtain ⟨b, hb⟩ := hR
  refine ⟨_, t_X7_port S hb.2.1.2.1.1 hb.2.1.2.1.2 hb.2.1.2.2.2 hb.yq, fun r S1 hp => ?_⟩
  have hlo : ∀ c, 118 ≤ c → S1 c = S c := by
    rcases hp with ⟨_, _, z⟩ | ⟨_, _, _, z, _⟩
    · exact lowS z (by decide)
    · exact lowS z (by decide)
  have h1 := hb.toB hlo
  refine ⟨_, t_X8_port S1 h1.2.2.2.2.2.2.2.2 h1.mtx, fun r' S2 hq => ?_⟩
  have hhi : ∀ c, c < 118 → S2 c = S1 c := by
    rcases hq with ⟨_, _, z⟩ | ⟨_, _, _, z, _⟩
    · exact highS z.1 (by decide)
    · exact highS z (by decide)
  exact Rls.toA (rl_port h1 hp hq) hhi
