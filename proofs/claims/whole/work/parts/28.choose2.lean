theorem chp_next {S V : St} {k rep q : Int} (h : ChP S k rep) (hk : k < S 1 0) (hS : ChS S V) (h9k : V 9 k = q) (h9 : ∀ j, 0 ≤ j → j < k → V 9 j = S 9 j) (hq : q = -5 ∨ ((0 ≤ q ∧ q < S 27 1) ∧ S 31 q = 8 ∧ S 28 q = k)) (hu : ∀ j, 0 ≤ j → j < S 1 0 → j ≠ k → V 5 j = S 5 j ∧ V 6 j = S 6 j) (huk : V 5 k = (if q = -5 then cMK S k else S 29 q) ∧ V 6 k = (if q = -5 then cAG S k else S 30 q)) : ChP V (k + 1) (rep + if q = -5 then 0 else 1) := by
  obtain ⟨hK, h3, ⟨hk0, hk1⟩, hrep, hok, hh⟩ := h
  obtain ⟨hK', eM, eA, eG, eD⟩ := hK.tr hS
  have e1 := hS.1 1 (by decide); have e27 := hS.1 27 (by decide); have e28 := hS.1 28 (by decide)
  have e29 := hS.1 29 (by decide); have e30 := hS.1 30 (by decide); have e31 := hS.1 31 (by decide)
  refine ⟨hK', by rw [hS.2.1 8 (by decide) (by decide)]; exact h3, ⟨by omega, by rw [e1]; omega⟩, ?_, ?_, ?_⟩
  · rw [cnC_s hk0, h9k, cnC_congr h9, ← hrep]
  · intro j a b
    rw [e27, e31, e28]
    by_cases e : j = k
    · rw [e, h9k]; exact hq
    · rw [h9 j a (by omega)]; exact hok j a (by omega)
  · intro j a b
    rw [e1] at b
    rw [eM, eA, e29, e30]
    by_cases e : j = k
    · rw [e, if_pos (by omega), if_pos (by omega)]
      unfold rowF
      rw [h9k]
      exact huk
    · rw [(hu j a b e).1, (hu j a b e).2, (hh j a b).1, (hh j a b).2]
      by_cases e2 : j < k
      · rw [if_pos e2, if_pos e2, if_pos (by omega), if_pos (by omega), rowF_congr (h9 j a e2), rowF_congr (h9 j a e2)]
        exact ⟨rfl, rfl⟩
      · rw [if_neg e2, if_neg e2, if_neg (by omega), if_neg (by omega)]
        exact ⟨rfl, rfl⟩
theorem Dk_next {n P : Int} {wh pl r r' : Int → Int} {k q : Int} (hk : 0 ≤ k) (h9k : r' k = q) (h9 : ∀ j, 0 ≤ j → j < k → r' j = r j) (c : Int → Int) : Dk n P wh pl r' (k + 1) c ↔ Dk n P wh pl r k c ∧ c k = q := by
  constructor
  · intro h
    exact ⟨⟨h.1, fun j a b => (h.2 j a (by omega)).trans (h9 j a b)⟩, (h.2 k hk (by omega)).trans h9k⟩
  · intro ⟨h, h2⟩
    refine ⟨h.1, fun j a b => ?_⟩
    by_cases e : j = k
    · rw [e, h2, h9k]
    · rw [h.2 j a (by omega), h9 j a (by omega)]
theorem ChR.iff {n : Int} {D D' G G' : (Int → Int) → Prop} {f few f1 few1 : Int} {b b1 : Int → Int} (hd : ∀ c, D c ↔ D' c) (hg : G = G') (h : ChR n D G f few b f1 few1 b1) : ChR n D' G' f few b f1 few1 b1 := by
  have : D = D' := funext fun c => propext (hd c)
  subst this
  subst hg
  exact h
def LpI (S T : St) (k tr p : Int) : Prop := ChR (S 1 0) (Dp (S 1 0) (S 27 1) (S 31) (S 28) (S 9) k p) (cG S) (S 8 5) (S 8 6) (S 10) (T 8 5) (T 8 6) (T 10) ∧ (∀ j, 0 ≤ j → j < S 1 0 → j ≠ k → T 5 j = S 5 j ∧ T 6 j = S 6 j) ∧ (∀ j, 0 ≤ j → j < k → T 9 j = S 9 j) ∧ ChS S T ∧ TrB (S 29) (S 31) (S 28) k (cMK S k) tr p
def ChQ (S : St) (k : Int) (S' : St) : Prop := ChR (S 1 0) (cD S (S 9) k) (cG S) (S 8 5) (S 8 6) (S 10) (S' 8 5) (S' 8 6) (S' 10) ∧ (∀ j, 0 ≤ j → j < S 1 0 → S' 5 j = S 5 j ∧ S' 6 j = S 6 j) ∧ (∀ j, 0 ≤ j → j < k → S' 9 j = S 9 j) ∧ ChS S S'
theorem lp_start {S S1 : St} {k rep : Int} (h : ChP S k rep) (hk : k < S 1 0) (hq : ChQ (up S 9 k (-5)) (k + 1) S1) : LpI S S1 k ((2 ^ (cMK S k).toNat : Nat) : Int) 0 := by
  obtain ⟨hK, h3, ⟨hk0, hk1⟩, hrep, hok, hh⟩ := h
  obtain ⟨hX, ⟨sh0, sh1⟩, hl, hg, hf, hw⟩ := id hK
  have hS : ChS S (up S 9 k (-5)) := ChS.up ⟨Same.rf, fun _ _ _ => rfl, hf, hw⟩ (by decide)
  obtain ⟨hK', eM, eA, eG, eD⟩ := hK.tr hS
  obtain ⟨q1, q2, q3, q4⟩ := hq
  have hmk : isMk (cMK S k) := by
    have g := hX.2.2.2.2.2.2 (S 8 7) k sh0 sh1 hk0 hk
    exact (hX.2.2.2.2.2.1 _ g.1 g.2).2.1
  refine ⟨ChR.iff (fun c => ?_) eG q1, fun j a b e => q2 j a b, fun j a b => (q3 j a (by omega)).trans (up_i (by omega)), hS.tr q4, TrB.start (by omega) (by omega)⟩
  show Dk (S 1 0) (S 27 1) (S 31) (S 28) (up S 9 k (-5) 9) (k + 1) c ↔ _
  rw [Dk_next hk0 (up_s _ _ _ _) (fun j a b => up_i (by omega))]
  unfold Dp
  constructor
  · intro ⟨a, b⟩
    exact ⟨a, Or.inl b⟩
  · intro ⟨a, b⟩
    refine ⟨a, ?_⟩
    rcases a.1 k hk0 hk with z | z
    · exact z
    · omega
theorem lp_skip {S T : St} {k rep tr p : Int} (hP : ChP S k rep) (hk : k < S 1 0) (hp0 : 0 ≤ p) (hp1 : p < S 27 1) (h : LpI S T k tr p) (hno : ¬ (S 31 p = 8 ∧ S 28 p = k) ∨ tr.toNat.testBit (S 29 p).toNat = true) : LpI S T k tr (p + 1) := by
  obtain ⟨hK, h3, ⟨hk0, hk1⟩, hrep, hok, hh⟩ := hP
  obtain ⟨hX, ⟨sh0, sh1⟩, hl, hg, hf, hw⟩ := id hK
  have hmp := (hX.2.2.2.2.2.1 p hp0 hp1).2.1
  obtain ⟨q1, q2, q3, q4, q5⟩ := h
  refine ⟨ChR.more q1 (fun c hc => ⟨hc.1, by have := hc.2; omega⟩) (fun c hc hG => ?_), q2, q3, q4, q5.same ?_⟩
  · by_cases e : c k = p
    · have hv := hc.1.1 k hk0 hk
      rcases hv with hv | hv
      · exact ⟨c, ⟨hc.1, Or.inl hv⟩, hG, Or.inr ⟨rfl, lex_rf⟩⟩
      · rcases hno with hno | hno
        · rw [e] at hv; exact absurd hv.2 hno
        · rcases (q5.2 (S 29 p).toNat (by omega)).mp hno with z | ⟨q, ⟨z1, z2⟩, z3, z4⟩
          · have := alike (q := -5) hk0 hk h3 hc.1 hG (by omega) (Or.inl ⟨rfl, by rw [e]; omega⟩) (by omega)
            exact ⟨_, ⟨this.1, Or.inl (by unfold st9; rw [if_pos rfl])⟩, this.2⟩
          · have := alike (q := q) hk0 hk h3 hc.1 hG (by omega) (Or.inr ⟨⟨⟨z1, by omega⟩, z3⟩, by rw [e]; omega⟩) (by omega)
            exact ⟨_, ⟨this.1, Or.inr (by unfold st9; rw [if_pos rfl]; exact z2)⟩, this.2⟩
    · exact ⟨c, ⟨hc.1, by have := hc.2; omega⟩, hG, Or.inr ⟨rfl, lex_rf⟩⟩
  · rcases hno with z | z
    · exact Or.inl z
    · exact Or.inr ⟨by omega, by omega, z⟩
theorem lp_put {S T : St} {k tr p : Int} (h : LpI S T k tr p) : ChS S (up (up (up T 9 k p) 5 k (S 29 p)) 6 k (S 30 p)) := ChS.up (ChS.up (ChS.up h.2.2.2.1 (by decide)) (by decide)) (by decide)
theorem lp_pre {S T : St} {k rep tr p : Int} (hP : ChP S k rep) (hk : k < S 1 0) (hp0 : 0 ≤ p) (hp1 : p < S 27 1) (h : LpI S T k tr p) (hl : S 31 p = 8 ∧ S 28 p = k) : ChP (up (up (up T 9 k p) 5 k (S 29 p)) 6 k (S 30 p)) (k + 1) (rep + 1) := by
  have := chp_next (q := p) hP hk (lp_put h) (by rw [up_c (by decide), up_c (by decide), up_s]) (fun j a b => by rw [up_c (by decide), up_c (by decide), up_i (by omega)]; exact h.2.2.1 j a b) (Or.inr ⟨⟨hp0, hp1⟩, hl⟩) (fun j a b e => by rw [up_c (by decide), up_i e, up_i e, up_c (by decide), up_c (by decide), up_c (by decide)]; exact h.2.1 j a b e) ⟨by rw [up_c (by decide), up_s, if_neg (by omega)], by rw [up_s, if_neg (by omega)]⟩
  rw [if_neg (by omega)] at this
  exact this
theorem lp_take {S T S1 : St} {k rep tr p : Int} (hP : ChP S k rep) (hk : k < S 1 0) (hp0 : 0 ≤ p) (hp1 : p < S 27 1) (h : LpI S T k tr p) (hl : S 31 p = 8 ∧ S 28 p = k) (hq : ChQ (up (up (up T 9 k p) 5 k (S 29 p)) 6 k (S 30 p)) (k + 1) S1) : LpI S S1 k ((tr.toNat ||| (((2 ^ (S 29 p).toNat : Nat) : Int)).toNat : Nat) : Int) (p + 1) := by
  have hS := lp_put h
  obtain ⟨hK, h3, ⟨hk0, hk1⟩, hrep, hok, hh⟩ := hP
  obtain ⟨hX, ⟨sh0, sh1⟩, hll, hg, hf, hw⟩ := id hK
  have hmp := (hX.2.2.2.2.2.1 p hp0 hp1).2.1
  obtain ⟨hK', eM, eA, eG, eD⟩ := hK.tr hS
  obtain ⟨q1, q2, q3, q4⟩ := hq
  obtain ⟨p1, p2, p3, p4, p5⟩ := h
  have e1 := hS.1 1 (by decide); have e27 := hS.1 27 (by decide); have e28 := hS.1 28 (by decide); have e31 := hS.1 31 (by decide)
  rw [e1] at q1 q2
  have q1' : ChR (S 1 0) (fun c => Dk (S 1 0) (S 27 1) (S 31) (S 28) (S 9) k c ∧ c k = p) (cG S) (T 8 5) (T 8 6) (T 10) (S1 8 5) (S1 8 6) (S1 10) := by
    refine ChR.iff (fun c => ?_) eG q1
    rw [eD]
    exact Dk_next hk0 (by rw [up_c (by decide), up_c (by decide), up_s]) (fun j a b => by rw [up_c (by decide), up_c (by decide), up_i (by omega)]; exact p3 j a b) c
  refine ⟨ChR.app p1 q1' (fun c hc => ?_) (fun c hc => ⟨hc.1, by have := hc.2; omega⟩) (fun c hc => ⟨hc.1, by have := hc.2; omega⟩) (fun x y hx hy => ?_) (fun x y hxy => ⟨fun g => g.ext hk0 hk hxy, fun g => GoC.ext (by omega) hxy g⟩), fun j a b e => ?_, fun j a b => ?_, hS.tr q4, p5.add hp0 hl (by omega) (by omega)⟩
  · by_cases e : c k = p
    · exact Or.inr ⟨hc.1, e⟩
    · exact Or.inl ⟨hc.1, by have := hc.2; omega⟩
  · exact Or.inr ⟨k, hk0, hk, by have := hx.2; have := hy.2; omega, fun j a b => (hx.1.2 j a b).trans (hy.1.2 j a b).symm⟩
  · rw [(q2 j a b).1, (q2 j a b).2, up_c (by decide), up_i e, up_i e, up_c (by decide), up_c (by decide), up_c (by decide)]
    exact p2 j a b e
  · rw [q3 j a (by omega), up_c (by decide), up_c (by decide), up_i (by omega)]
    exact p3 j a b
theorem lp_end {S T : St} {k rep tr : Int} (hP : ChP S k rep) (hk : k < S 1 0) (h : LpI S T k tr (S 27 1)) : ChQ S k (up (up T 5 k (cMK S k)) 6 k (cAG S k)) := by
  obtain ⟨hK, h3, ⟨hk0, hk1⟩, hrep, hok, hh⟩ := hP
  obtain ⟨q1, q2, q3, q4, q5⟩ := h
  refine ⟨?_, fun j a b => ?_, fun j a b => ?_, ChS.up (ChS.up q4 (by decide)) (by decide)⟩
  · rw [up_c (by decide), up_c (by decide), up_c (by decide), up_c (by decide), up_row (by decide), up_row (by decide)]
    refine ChR.iff (fun c => ⟨fun z => z.1, fun z => ⟨z, ?_⟩⟩) rfl q1
    rcases z.1 k hk0 hk with w | w <;> omega
  · by_cases e : j = k
    · subst e
      have := hh j a b
      rw [if_neg (by omega), if_neg (by omega)] at this
      rw [up_c (by decide), up_s, up_s, this.1, this.2]
      exact ⟨rfl, rfl⟩
    · rw [up_c (by decide), up_i e, up_i e, up_c (by decide)]; exact q2 j a b e
  · rw [up_c (by decide), up_c (by decide)]; exact q3 j a b
theorem ch_cut {S : St} {k rep : Int} (hP : ChP S k rep) (h : S 8 6 ≤ rep) : ChQ S k S := by
  obtain ⟨hK, h3, ⟨hk0, hk1⟩, hrep, hok, hh⟩ := hP
  obtain ⟨hX, _, _, _, hf, hw⟩ := id hK
  exact ⟨Or.inl ⟨rfl, rfl, fun _ _ _ => rfl, fun c hc _ => by have := Dk.cn hk0 hk1 hc; omega⟩, fun _ _ _ => ⟨rfl, rfl⟩, fun _ _ _ => rfl, Same.rf, fun _ _ _ => rfl, hf, hw⟩
theorem ch_no {S S1 : St} {rep : Int} (hP : ChP S (S 1 0) rep) (hS : Same [7] S S1) (h : who (S 1 0) (S 5) (S 6) (S 2) (S 8 8) ≠ S 8 9) : ChQ S (S 1 0) S1 := by
  obtain ⟨hK, h3, ⟨hk0, hk1⟩, hrep, hok, hh⟩ := hP
  obtain ⟨hX, _, _, _, hf, hw⟩ := id hK
  have e8 := hS 8 (by decide)
  refine ⟨?_, fun j a b => ⟨by rw [hS 5 (by decide)], by rw [hS 6 (by decide)]⟩, fun j a b => by rw [hS 9 (by decide)], hS.mono (by decide), fun i _ _ => by rw [e8], by rw [e8]; exact hf, by rw [e8]; exact hw⟩
  rw [e8, hS 10 (by decide)]
  refine Or.inl ⟨rfl, rfl, fun _ _ _ => rfl, fun c hc hg => ?_⟩
  exfalso
  apply h
  have h1 : 1 ≤ S 1 0 := by have := hX.1; omega
  have g2 : cG S (S 9) := GoC.ext h1 (fun j a b => hc.2 j a b) hg
  rw [← GoC.at h1 (MK := cMK S) (AG := cAG S) (mk := S 29) (ag := S 30) (c := S 9) (fun j a b => by have := hh j a b; rw [if_pos b, if_pos b] at this; exact this)]
  exact g2
theorem ch_yes {S S1 : St} {rep : Int} (hP : ChP S (S 1 0) rep) (hS : Same [7] S S1) (hlt : rep < S 8 6) (h : who (S 1 0) (S 5) (S 6) (S 2) (S 8 8) = S 8 9) : ChQ S (S 1 0) (cpy (up (up S1 8 5 1) 8 6 rep) 9 10 (S 1 0)) := by
  obtain ⟨hK, h3, ⟨hk0, hk1⟩, hrep, hok, hh⟩ := hP
  obtain ⟨hX, _, _, _, hf, hw⟩ := id hK
  have h1 : 1 ≤ S 1 0 := by have := hX.1; omega
  have hb : ∀ j, 0 ≤ j → j < S 1 0 → cpy (up (up S1 8 5 1) 8 6 rep) 9 10 (S 1 0) 10 j = S 9 j := fun j a b => by rw [cpy_in a b, up_c (by decide), up_c (by decide), hS 9 (by decide)]
  have hcb := cnC_bd (S 1 0) hk0 (S 9)
  refine ⟨?_, fun j a b => ?_, fun j a b => ?_, ?_, fun i a b => ?_, ?_, ?_⟩
  · rw [cpy_c (by decide), up_i (by decide), up_s, up_s]
    refine Or.inr ⟨rfl, Dk.ext (Int.le_refl _) (fun j a b => (hb j a b).symm) ⟨hok, fun _ _ _ => rfl⟩, GoC.ext h1 (fun j a b => (hb j a b).symm) ?_, ?_, hlt, fun c hc hg => ?_⟩
    · show who _ _ _ _ _ = _
      rw [GoC.at h1 (MK := cMK S) (AG := cAG S) (mk := S 29) (ag := S 30) (c := S 9) (fun j a b => by have := hh j a b; rw [if_pos b, if_pos b] at this; exact this)]
      exact h
    · rw [cnC_congr hb]; exact hrep
    · exact Or.inr ⟨cnC_congr (fun j a b => (hb j a b).trans (hc.2 j a b).symm), Or.inl (fun j a b => (hb j a b).trans (hc.2 j a b).symm)⟩
  · rw [cpy_c (by decide), cpy_c (by decide), up_c (by decide), up_c (by decide), up_c (by decide), up_c (by decide), hS 5 (by decide), hS 6 (by decide)]; exact ⟨rfl, rfl⟩
  · rw [cpy_c (by decide), up_c (by decide), up_c (by decide), hS 9 (by decide)]
  · intro c hc
    have h10 : c ≠ 10 := fun z => hc (by rw [z]; decide)
    have h8 : c ≠ 8 := fun z => hc (by rw [z]; decide)
    rw [cpy_c h10, up_row h8, up_row h8]
    exact hS c (fun z => hc (by revert z; simp; omega))
  · rw [cpy_c (by decide), up_i b, up_i a, hS 8 (by decide)]
  · rw [cpy_c (by decide), up_i (by decide), up_s]; exact Or.inr rfl
  · rw [cpy_c (by decide), up_s]; omega
