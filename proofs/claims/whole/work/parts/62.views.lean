/-! two views of one fleet answer alike -/
def VE (n N P : Int) (wt lf mk ag wh pl hd ow wt' lf' mk' ag' wh' pl' hd' ow' : Int → Int) : Prop :=
  2 ≤ n ∧ (∀ k, 0 ≤ k → k < n → wt k = wt' k ∧ lf k = lf' k) ∧ (∀ p, 0 ≤ p → p < P → (mk p = mk' p ∧ ag p = ag' p ∧ wh p = wh' p ∧ pl p = pl' p) ∧ 0 ≤ pl p ∧ pl p < n) ∧ (∀ s, 0 ≤ s → s < N → ow s = ow' s) ∧ ∀ s k, 0 ≤ s → s < N → 0 ≤ k → k < n → hd (s * 6 + k) = hd' (s * 6 + k) ∧ 0 ≤ hd (s * 6 + k) ∧ hd (s * 6 + k) < P
section
variable {n N P : Int} {wt lf mk ag wh pl hd ow wt' lf' mk' ag' wh' pl' hd' ow' : Int → Int}
theorem VE.sh (h : VE n N P wt lf mk ag wh pl hd ow wt' lf' mk' ag' wh' pl' hd' ow') {s k : Int} (s0 : 0 ≤ s) (s1 : s < N) (k0 : 0 ≤ k) (k1 : k < n) : mk (hd (s * 6 + k)) = mk' (hd' (s * 6 + k)) ∧ ag (hd (s * 6 + k)) = ag' (hd' (s * 6 + k)) := by
  obtain ⟨e, h0, h1⟩ := h.2.2.2.2 s k s0 s1 k0 k1
  have := (h.2.2.1 _ h0 h1).1
  rw [← e]
  exact ⟨this.1, this.2.1⟩
theorem VE.qly (h : VE n N P wt lf mk ag wh pl hd ow wt' lf' mk' ag' wh' pl' hd' ow') (k : Int) : lyO P wh pl k = lyO P wh' pl' k := by
  unfold lyO
  apply sm_congr
  intro p p0 p1
  have := (h.2.2.1 p p0 (by omega)).1
  rw [this.2.2.1, this.2.2.2]
theorem VE.qyA (h : VE n N P wt lf mk ag wh pl hd ow wt' lf' mk' ag' wh' pl' hd' ow') : lyA P wh = lyA P wh' := by
  unfold lyA
  apply sm_congr
  intro p p0 p1
  have := (h.2.2.1 p p0 (by omega)).1
  rw [this.2.2.1]
theorem VE.qwS (h : VE n N P wt lf mk ag wh pl hd ow wt' lf' mk' ag' wh' pl' hd' ow') {s : Int} (s0 : 0 ≤ s) (s1 : s < N) (law : Int) : whoS n mk ag wt hd s law = whoS n mk' ag' wt' hd' s law := by
  unfold whoS
  have := h.1
  exact who_congr (by omega) (fun k a b => ⟨(h.sh s0 s1 a b).1, (h.sh s0 s1 a b).2, (h.2.1 k a b).1⟩)
theorem VE.qrS (h : VE n N P wt lf mk ag wh pl hd ow wt' lf' mk' ag' wh' pl' hd' ow') {s : Int} (s0 : 0 ≤ s) (s1 : s < N) : rotS n lf ag hd s = rotS n lf' ag' hd' s := by
  unfold rotS
  apply sm_congr
  intro k k0 k1
  rw [(h.sh s0 s1 k0 (by omega)).2, (h.2.1 k k0 (by omega)).2]
theorem VE.qPlace (h : VE n N P wt lf mk ag wh pl hd ow wt' lf' mk' ag' wh' pl' hd' ow') (k what : Int) : fPlace n wt lf P wh pl k what = fPlace n wt' lf' P wh' pl' k what := by
  unfold fPlace
  rw [h.qly]
  by_cases q : 0 ≤ k ∧ k < n
  · rw [if_pos q, if_pos q, (h.2.1 k q.1 q.2).1, (h.2.1 k q.1 q.2).2]
  · rw [if_neg q, if_neg q]
theorem VE.qPart (h : VE n N P wt lf mk ag wh pl hd ow wt' lf' mk' ag' wh' pl' hd' ow') (p what : Int) : fPart P pl mk ag wh p what = fPart P pl' mk' ag' wh' p what := by
  unfold fPart
  by_cases q : 0 ≤ p ∧ p < P
  · have := (h.2.2.1 p q.1 q.2).1
    rw [if_pos q, if_pos q, this.1, this.2.1, this.2.2.1, this.2.2.2]
  · rw [if_neg q, if_neg q]
theorem VE.qIn (h : VE n N P wt lf mk ag wh pl hd ow wt' lf' mk' ag' wh' pl' hd' ow') (s k : Int) : fInPlace n N hd s k = fInPlace n N hd' s k := by
  unfold fInPlace
  by_cases q : (0 ≤ s ∧ s < N) ∧ 0 ≤ k ∧ k < n
  · rw [if_pos q, if_pos q, (h.2.2.2.2 s k q.1.1 q.1.2 q.2.1 q.2.2).1]
  · rw [if_neg q, if_neg q]
theorem VE.qShip (h : VE n N P wt lf mk ag wh pl hd ow wt' lf' mk' ag' wh' pl' hd' ow') (s what : Int) : fShip n N lf ag hd ow s what = fShip n N lf' ag' hd' ow' s what := by
  unfold fShip
  by_cases q : 0 ≤ s ∧ s < N
  · rw [if_pos q, if_pos q, h.qrS q.1 q.2, h.2.2.2.1 s q.1 q.2]
  · rw [if_neg q, if_neg q]
theorem VE.qIs (h : VE n N P wt lf mk ag wh pl hd ow wt' lf' mk' ag' wh' pl' hd' ow') (s law : Int) : fIs n N mk ag wt hd s law = fIs n N mk' ag' wt' hd' s law := by
  unfold fIs
  by_cases q : (0 ≤ s ∧ s < N) ∧ 0 ≤ law ∧ law < 5
  · rw [if_pos q, if_pos q, h.qwS q.1.1 q.1.2]
  · rw [if_neg q, if_neg q]
theorem VE.qtw (h : VE n N P wt lf mk ag wh pl hd ow wt' lf' mk' ag' wh' pl' hd' ow') (law : Int) : twB n N mk ag wt hd law = twB n N mk' ag' wt' hd' law := by
  unfold twB tw
  congr 1
  funext r
  apply propext
  exact ⟨fun t => t.congr (fun s a b => h.qwS a b law), fun t => t.congr (fun s a b => (h.qwS a b law).symm)⟩
theorem VE.qTwins (h : VE n N P wt lf mk ag wh pl hd ow wt' lf' mk' ag' wh' pl' hd' ow') (law : Int) : fTwins n N mk ag wt hd law = fTwins n N mk' ag' wt' hd' law := by
  unfold fTwins
  rw [h.qtw]
theorem VE.qNow (h : VE n N P wt lf mk ag wh pl hd ow wt' lf' mk' ag' wh' pl' hd' ow') (yr kn what : Int) : fNow n N P yr kn wt lf mk ag wh hd what = fNow n N P yr kn wt' lf' mk' ag' wh' hd' what := by
  have e1 : rotA n N lf ag hd = rotA n N lf' ag' hd' := by
    unfold rotA
    apply sm_congr
    intro s s0 s1
    rw [h.qrS s0 (by omega)]
  have e2 : fair n N mk ag wt hd = fair n N mk' ag' wt' hd' := by
    unfold fair
    apply sm_congr
    intro s s0 s1
    rw [h.qtw]
  unfold fNow
  rw [e1, e2, h.qyA]
theorem VE.qStays (h : VE n N P wt lf mk ag wh pl hd ow wt' lf' mk' ag' wh' pl' hd' ow') (s law : Int) : fStays n N lf mk ag wt hd s law = fStays n N lf' mk' ag' wt' hd' s law := by
  unfold fStays
  by_cases q : (0 ≤ s ∧ s < N) ∧ 0 ≤ law ∧ law < 5
  · rw [if_pos q, if_pos q]
    have e : whoSY n lf mk ag wt hd s law = whoSY n lf' mk' ag' wt' hd' s law := by
      funext y
      unfold whoSY whoY
      have := h.1
      exact who_congr (by omega) (fun k a b => ⟨yMk_congr (h.2.1 k a b).2 (h.sh q.1.1 q.1.2 a b).2 (h.sh q.1.1 q.1.2 a b).1 y, yAg_congr (h.2.1 k a b).2 (h.sh q.1.1 q.1.2 a b).2 y, (h.2.1 k a b).1⟩)
    rw [e]
  · rw [if_neg q, if_neg q]
theorem VE.qRep (h : VE n N P wt lf mk ag wh pl hd ow wt' lf' mk' ag' wh' pl' hd' ow') (s y what : Int) : fRep n N lf ag hd s y what = fRep n N lf' ag' hd' s y what := by
  unfold fRep
  by_cases q : (0 ≤ s ∧ s < N) ∧ (0 ≤ y ∧ y ≤ 40) ∧ 0 ≤ what ∧ what ≤ 1
  · rw [if_pos q, if_pos q]
    have e : cntS n lf ag hd s = cntS n lf' ag' hd' s := by
      funext y
      unfold cntS cntR
      apply sm_congr
      intro k a b
      have hl := (h.2.1 k a (by omega)).2
      rw [yAg_congr (lf := lf) (lf' := lf') (ag := fun k => ag (hd (s * 6 + k))) (ag' := fun k => ag' (hd' (s * 6 + k))) hl (h.sh q.1.1 q.1.2 a (by omega)).2 y.toNat, hl]
    rw [e]
  · rw [if_neg q, if_neg q]
theorem st9_congr {f g : Int → Int} {j v v' k : Int} (hv : v = v') (h : f j = g j) : st9 f k v j = st9 g k v' j := by
  unfold st9
  rw [hv, h]
theorem VE.qDec (h : VE n N P wt lf mk ag wh pl hd ow wt' lf' mk' ag' wh' pl' hd' ow') (s law : Int) : fDec n N mk ag wt hd s law = fDec n N mk' ag' wt' hd' s law := by
  unfold fDec
  by_cases q : (0 ≤ s ∧ s < N) ∧ 0 ≤ law ∧ law < 5
  · rw [if_pos q, if_pos q]
    unfold decS decF
    apply sm_congr
    intro k a b
    have := h.1
    rw [who_congr (n := n) (law := law) (mk' := st9 (fun k => mk' (hd' (s * 6 + k))) k 9) (ag' := st9 (fun k => ag' (hd' (s * 6 + k))) k 0) (wt' := wt') (by omega) (fun j x y => ⟨st9_congr (k := k) (v := 9) rfl (h.sh q.1.1 q.1.2 x y).1, st9_congr (k := k) (v := 0) rfl (h.sh q.1.1 q.1.2 x y).2, (h.2.1 j x y).1⟩), who_congr (n := n) (law := law) (by omega) (fun j x y => ⟨(h.sh q.1.1 q.1.2 x y).1, (h.sh q.1.1 q.1.2 x y).2, (h.2.1 j x y).1⟩)]
  · rw [if_neg q, if_neg q]
theorem VE.qShare (h : VE n N P wt lf mk ag wh pl hd ow wt' lf' mk' ag' wh' pl' hd' ow') (s m what : Int) : fShare n N mk wt hd s m what = fShare n N mk' wt' hd' s m what := by
  unfold fShare
  by_cases q : (0 ≤ s ∧ s < N) ∧ isMk m ∧ (what = 0 ∨ what = 1)
  · rw [if_pos q, if_pos q, wgt_congr (n := n) (m := m) (fun j x y => ⟨(h.sh q.1.1 q.1.2 x y).1, (h.2.1 j x y).1⟩), sm_congr (n := n.toNat) (fun j x y => (h.2.1 j x (by omega)).1)]
  · rw [if_neg q, if_neg q]
theorem thL_congr {li li' : Int → Int} : ∀ {n : Nat}, (∀ k : Int, 0 ≤ k → k < n → li k = li' k) → thL li n = thL li' n
  | 0, _ => rfl
  | n + 1, h => by
    show thL li n * li n = thL li' n * li' n
    rw [thL_congr (n := n) (fun k a b => h k a (by omega)), h n (by omega) (by omega)]
theorem thU_congr {li li' st st' : Int → Int} : ∀ {n : Nat}, (∀ k : Int, 0 ≤ k → k < n → li k = li' k ∧ st k = st' k) → thU li st n = thU li' st' n
  | 0, _ => rfl
  | n + 1, h => by
    show thU li st n * li n + st n * thL li n = thU li' st' n * li' n + st' n * thL li' n
    rw [thU_congr (n := n) (fun k a b => h k a (by omega)), thL_congr (li := li) (li' := li') (n := n) (fun k a b => (h k a (by omega)).1), (h n (by omega) (by omega)).1, (h n (by omega) (by omega)).2]
theorem VE.qThief (h : VE n N P wt lf mk ag wh pl hd ow wt' lf' mk' ag' wh' pl' hd' ow') (s law what : Int) : fThief n N P mk ag wh pl wt hd s law what = fThief n N P mk' ag' wh' pl' wt' hd' s law what := by
  unfold fThief
  by_cases q : (0 ≤ s ∧ s < N) ∧ (0 ≤ law ∧ law < 5) ∧ (what = 0 ∨ what = 1)
  · rw [if_pos q, if_pos q]
    have hli : liF P wh pl = liF P wh' pl' := by
      funext k
      unfold liF
      rw [h.qly]
    have hn := h.1
    have hst : ∀ k, 0 ≤ k → k < n → stF n P mk ag wh pl wt (fun k => mk (hd (s * 6 + k))) (fun k => ag (hd (s * 6 + k))) k law = stF n P mk' ag' wh' pl' wt' (fun k => mk' (hd' (s * 6 + k))) (fun k => ag' (hd' (s * 6 + k))) k law := by
      intro k k0 k1
      unfold stF
      rw [h.qly]
      split
      · rfl
      · apply sm_congr
        intro p p0 p1
        have hp := (h.2.2.1 p p0 (by omega)).1
        rw [hp.2.2.1, hp.2.2.2, who_congr (n := n) (law := law) (mk' := st9 (fun k => mk' (hd' (s * 6 + k))) k (mk' p)) (ag' := st9 (fun k => ag' (hd' (s * 6 + k))) k (ag' p)) (wt' := wt') (by omega) (fun j x y => ⟨st9_congr (k := k) hp.1 (h.sh q.1.1 q.1.2 x y).1, st9_congr (k := k) hp.2.1 (h.sh q.1.1 q.1.2 x y).2, (h.2.1 j x y).1⟩), who_congr (n := n) (law := law) (by omega) (fun j x y => ⟨(h.sh q.1.1 q.1.2 x y).1, (h.sh q.1.1 q.1.2 x y).2, (h.2.1 j x y).1⟩)]
    unfold thieF
    rw [hli, thU_congr (li := liF P wh' pl') (li' := liF P wh' pl') (n := n.toNat) (fun k a b => ⟨rfl, hst k a (by omega)⟩)]
  · rw [if_neg q, if_neg q]
theorem VE.qMay (h : VE n N P wt lf mk ag wh pl hd ow wt' lf' mk' ag' wh' pl' hd' ow') {sn : Int} {sp sk sp' sk' : Int → Int} (hs : ∀ i, 0 ≤ i → i < sn → (sp i = sp' i ∧ sk i = sk' i) ∧ 0 ≤ sp i ∧ sp i < n) : mayB N sn mk hd sp sk = mayB N sn mk' hd' sp' sk' := by
  unfold mayB
  apply sm_congr
  intro s s0 s1
  apply cb_iff
  unfold asSn
  constructor
  · intro z i i0 i1
    obtain ⟨⟨e1, e2⟩, e3, e4⟩ := hs i i0 i1
    have := z i i0 i1
    rw [← e1, ← e2, ← this]
    exact (h.sh s0 (by omega) e3 e4).1.symm
  · intro z i i0 i1
    obtain ⟨⟨e1, e2⟩, e3, e4⟩ := hs i i0 i1
    have := z i i0 i1
    rw [← e1, ← e2] at this
    rw [← this]
    exact (h.sh s0 (by omega) e3 e4).1
theorem VE.qLeast (h : VE n N P wt lf mk ag wh pl hd ow wt' lf' mk' ag' wh' pl' hd' ow') (s : Int) : fLeast n N mk hd s = fLeast n N mk' hd' s := by
  unfold fLeast
  by_cases q : 0 ≤ s ∧ s < N
  · rw [if_pos q, if_pos q]
    apply lsF_congr
    intro b b0 b1
    unfold tels difr
    constructor
    · intro z t t0 t1 t2
      obtain ⟨k, k0, k1, k2, k3⟩ := z t t0 t1 t2
      exact ⟨k, k0, k1, k2, by rw [← (h.sh q.1 q.2 k0 k1).1, ← (h.sh t0 t1 k0 k1).1]; exact k3⟩
    · intro z t t0 t1 t2
      obtain ⟨k, k0, k1, k2, k3⟩ := z t t0 t1 t2
      exact ⟨k, k0, k1, k2, by rw [(h.sh q.1 q.2 k0 k1).1, (h.sh t0 t1 k0 k1).1]; exact k3⟩
  · rw [if_neg q, if_neg q]
theorem BecA.iff {n : Int} {D D' G G' : (Int → Int) → Prop} {k r : Int} (h : BecA n D G k r) (hd : ∀ c, D c ↔ D' c) (hg : ∀ c, D c → (G c ↔ G' c)) : BecA n D' G' k r := by
  obtain ⟨f, few, best, h1, h2⟩ := h
  refine ⟨f, few, best, ?_, h2⟩
  rcases h1 with ⟨a1, a2⟩ | ⟨a1, a2, a3, a4, a5⟩
  · exact Or.inl ⟨a1, fun c hc z => a2 c ((hd c).mpr hc) ((hg c ((hd c).mpr hc)).mpr z)⟩
  · exact Or.inr ⟨a1, (hd _).mp a2, (hg _ a2).mp a3, a4, fun c hc z => a5 c ((hd c).mpr hc) ((hg c ((hd c).mpr hc)).mpr z)⟩
theorem VE.qBec (h : VE n N P wt lf mk ag wh pl hd ow wt' lf' mk' ag' wh' pl' hd' ow') {s law m k r r' : Int} (s0 : 0 ≤ s) (s1 : s < N) (hk : k = -1 ∨ (0 ≤ k ∧ k < n)) (h1 : BecA n (okC n P wh pl) (GoC n (fun j => mk (hd (s * 6 + j))) (fun j => ag (hd (s * 6 + j))) mk ag wt law m) k r) (h2 : BecA n (okC n P wh' pl') (GoC n (fun j => mk' (hd' (s * 6 + j))) (fun j => ag' (hd' (s * 6 + j))) mk' ag' wt' law m) k r') : r = r' := by
  refine BecA.uniq hk h1 (h2.iff (fun c => ?_) (fun c hc => ?_))
  · unfold okC
    constructor
    · intro z j j0 j1
      rcases z j j0 j1 with e | ⟨e1, e2, e3⟩
      · exact Or.inl e
      · have := (h.2.2.1 _ e1.1 e1.2).1
        exact Or.inr ⟨e1, by rw [this.2.2.1]; exact e2, by rw [this.2.2.2]; exact e3⟩
    · intro z j j0 j1
      rcases z j j0 j1 with e | ⟨e1, e2, e3⟩
      · exact Or.inl e
      · have := (h.2.2.1 _ e1.1 e1.2).1
        exact Or.inr ⟨e1, by rw [← this.2.2.1]; exact e2, by rw [← this.2.2.2]; exact e3⟩
  · have hn := h.1
    have e : who n (rowF (fun j => mk' (hd' (s * 6 + j))) mk' c) (rowF (fun j => ag' (hd' (s * 6 + j))) ag' c) wt' law = who n (rowF (fun j => mk (hd (s * 6 + j))) mk c) (rowF (fun j => ag (hd (s * 6 + j))) ag c) wt law := by
      symm
      refine who_congr (by omega) (fun j a b => ?_)
      have hs := h.sh s0 s1 a b
      unfold rowF
      by_cases e : c j = -5
      · rw [if_pos e, if_pos e, if_pos e, if_pos e]
        exact ⟨hs.1, hs.2, (h.2.1 j a b).1⟩
      · rw [if_neg e, if_neg e, if_neg e, if_neg e]
        rcases hc j a b with z | z
        · exact absurd z e
        · have := (h.2.2.1 _ z.1.1 z.1.2).1
          exact ⟨this.1, this.2.1, (h.2.1 j a b).1⟩
    unfold GoC
    rw [e]
end
