/-! the model's becomes: rows r of choices (negative: none), one after the other in their order -/
def cR (r : Int → Int) : Int → Int := fun k => if r k < 0 then -5 else r k
def okR (n P : Int) (wh pl r : Int → Int) : Prop := ∀ k, 0 ≤ k → k < n → r k = -1 ∨ ((0 ≤ r k ∧ r k < P) ∧ wh (r k) = 8 ∧ pl (r k) = k)
def lxl (n : Int) (a b : Int → Int) : Prop := ∃ k, 0 ≤ k ∧ k < n ∧ a k < b k ∧ ∀ j, 0 ≤ j → j < k → a j = b j
theorem cR_cong {r r' : Int → Int} {k : Int} (h : r k = r' k) : cR r k = cR r' k := by unfold cR; rw [h]
theorem cR_n {r : Int → Int} {k : Int} (h : r k < 0) : cR r k = -5 := by unfold cR; rw [if_pos h]
theorem cR_p {r : Int → Int} {k : Int} (h : 0 ≤ r k) : cR r k = r k := by unfold cR; rw [if_neg (by omega)]
theorem okR.c {n P : Int} {wh pl r : Int → Int} (h : okR n P wh pl r) : okC n P wh pl (cR r) := by
  intro k a b
  rcases h k a b with e | e
  · exact Or.inl (cR_n (by omega))
  · right
    rw [cR_p e.1.1]
    exact e
def NxtR (n P : Int) (wh pl r r' : Int → Int) : Prop := ∃ k, (0 ≤ k ∧ k < n) ∧ (∀ j, 0 ≤ j → j < k → r' j = r j) ∧ ((r k < r' k ∧ r' k < P ∧ (wh (r' k) = 8 ∧ pl (r' k) = k)) ∧ ∀ q, r k < q → q < r' k → ¬ (wh q = 8 ∧ pl q = k)) ∧ (∀ j, k < j → j < n → r' j = -1) ∧ ∀ j, k < j → j < n → ∀ q, r j < q → q < P → ¬ (wh q = 8 ∧ pl q = j)
def LstR (n P : Int) (wh pl r : Int → Int) : Prop := ∀ j, 0 ≤ j → j < n → ∀ q, r j < q → q < P → ¬ (wh q = 8 ∧ pl q = j)
theorem NxtR.ok {n P : Int} {wh pl r r' : Int → Int} (h : NxtR n P wh pl r r') (ho : okR n P wh pl r) : okR n P wh pl r' := by
  obtain ⟨k, k0, k1, ⟨k2, _⟩, k3, _⟩ := h
  intro j a b
  rcases Int.lt_trichotomy j k with e | e | e
  · rw [k1 j a e]; exact ho j a b
  · subst e
    have := ho j a b
    exact Or.inr ⟨⟨by omega, k2.2.1⟩, k2.2.2⟩
  · exact Or.inl (k3 j e b)
theorem ple_lex {n : Int} {a b : Int → Int} (h : ∀ j, 0 ≤ j → j < n → a j ≤ b j) : lex n a b := by
  rcases lex_tot (n := n) a b with q | q
  · exact q
  · rcases q with q | ⟨k, k0, k1, k2, _⟩
    · exact Or.inl fun k x y => (q k x y).symm
    · have := h k k0 k1; omega
theorem okC_ge {n P : Int} {wh pl c : Int → Int} (h : okC n P wh pl c) {k : Int} (a : 0 ≤ k) (b : k < n) : -5 ≤ c k := by
  rcases h k a b with e | e <;> omega
theorem last_le {n P : Int} {wh pl c r : Int → Int} (hc : okC n P wh pl c) (ho : okR n P wh pl r) {j : Int} (a : 0 ≤ j) (b : j < n) (h : ∀ q, r j < q → q < P → ¬ (wh q = 8 ∧ pl q = j)) : c j ≤ cR r j := by
  rcases hc j a b with e | e
  · rw [e]
    unfold cR
    split <;> omega
  · have : c j ≤ r j := Classical.byContradiction fun z => h (c j) (by omega) e.1.2 e.2
    rw [cR_p (by omega)]
    exact this
theorem NxtR.lt {n P : Int} {wh pl r r' c : Int → Int} (h : NxtR n P wh pl r r') (ho : okR n P wh pl r) (hc : okC n P wh pl c) (hl : lxl n c (cR r')) : lex n c (cR r) := by
  obtain ⟨k, k0, k1, ⟨k2, k3⟩, k4, k5⟩ := h
  obtain ⟨i, i0, i1, i2, i3⟩ := hl
  rcases Int.lt_or_le i k with e | e
  · exact Or.inr ⟨i, i0, i1, by rw [← cR_cong (k1 i i0 e)]; exact i2, fun j x y => by rw [i3 j x y, cR_cong (k1 j x (by omega))]⟩
  · have hk : c k ≤ cR r k := by
      rcases Int.lt_or_eq_of_le e with e | e
      · exfalso
        rw [cR_n (by rw [k4 i e i1]; decide)] at i2
        have := okC_ge hc i0 i1
        omega
      · subst e
        have o := ho k k0.1 k0.2
        rw [cR_p (by omega)] at i2
        rcases hc k k0.1 k0.2 with z | z
        · rw [z]; unfold cR; split <;> omega
        · have : c k ≤ r k := Classical.byContradiction fun y => k3 (c k) (by omega) i2 z.2
          rw [cR_p (by omega)]
          exact this
    apply ple_lex
    intro j x y
    rcases Int.lt_trichotomy j k with q | q | q
    · rw [i3 j x (by omega), cR_cong (k1 j x q)]; exact Int.le_refl _
    · subst q; exact hk
    · exact last_le hc ho x y (k5 j q y)
theorem NxtR.up {n P : Int} {wh pl r r' : Int → Int} (h : NxtR n P wh pl r r') (ho : okR n P wh pl r) : lxl n (cR r) (cR r') := by
  obtain ⟨k, k0, k1, ⟨k2, k3⟩, k4, k5⟩ := h
  have o := ho k k0.1 k0.2
  refine ⟨k, k0.1, k0.2, ?_, fun j x y => (cR_cong (k1 j x y)).symm⟩
  rw [cR_p (r := r') (by omega)]
  unfold cR
  split <;> omega
theorem lex_lxl {n : Int} {a b c : Int → Int} (h : lex n a b) (h2 : lxl n b c) : lxl n a c := by
  obtain ⟨j, j0, j1, j2, j3⟩ := h2
  rcases h with h | ⟨k, k0, k1, k2, k3⟩
  · exact ⟨j, j0, j1, by rw [h j j0 j1]; exact j2, fun i x y => (h i x (by omega)).trans (j3 i x y)⟩
  · rcases Int.lt_trichotomy k j with q | q | q
    · exact ⟨k, k0, k1, by rw [← j3 k k0 q]; exact k2, fun i x y => (k3 i x y).trans (j3 i x (by omega))⟩
    · subst q; exact ⟨k, k0, k1, by omega, fun i x y => (k3 i x y).trans (j3 i x y)⟩
    · exact ⟨j, j0, j1, by rw [k3 j j0 q]; exact j2, fun i x y => (k3 i x (by omega)).trans (j3 i x y)⟩
def BecM (n : Int) (D G : (Int → Int) → Prop) (few : Int) (best : Int → Int) : Prop := (few = -9 ∧ ∀ c, D c → ¬ G c) ∨ ((0 ≤ few ∧ few ≤ n) ∧ D best ∧ G best ∧ few = cnC n best ∧ ∀ c, D c → G c → bett n best c)
def DM (n P : Int) (wh pl r c : Int → Int) : Prop := okC n P wh pl c ∧ lxl n c (cR r)
def DL (n P : Int) (wh pl r c : Int → Int) : Prop := okC n P wh pl c ∧ lex n c (cR r)
theorem BecM.iff {n : Int} {D D' G : (Int → Int) → Prop} {few : Int} {best : Int → Int} (h : BecM n D G few best) (hd : ∀ c, D c ↔ D' c) : BecM n D' G few best := by
  have : D = D' := funext fun c => propext (hd c)
  rw [← this]; exact h
theorem BecM.start {n P : Int} {wh pl r best : Int → Int} {G : (Int → Int) → Prop} (h : ∀ k, 0 ≤ k → k < n → r k = -1) : BecM n (DM n P wh pl r) G (-9) best := by
  refine Or.inl ⟨rfl, fun c ⟨hc, k, k0, k1, k2, _⟩ => ?_⟩
  rw [cR_n (by rw [h k k0 k1]; decide)] at k2
  have := okC_ge hc k0 k1
  omega
theorem BecM.next {n P : Int} {wh pl r r' best : Int → Int} {G : (Int → Int) → Prop} {few : Int} (h : BecM n (DL n P wh pl r) G few best) (ho : okR n P wh pl r) (hn : NxtR n P wh pl r r') : BecM n (DM n P wh pl r') G few best :=
  h.iff fun c => ⟨fun ⟨x, y⟩ => ⟨x, lex_lxl y (hn.up ho)⟩, fun ⟨x, y⟩ => ⟨x, hn.lt ho x y⟩⟩
theorem BecM.last {n P : Int} {wh pl r best : Int → Int} {G : (Int → Int) → Prop} {few : Int} (h : BecM n (DL n P wh pl r) G few best) (ho : okR n P wh pl r) (hn : LstR n P wh pl r) : BecM n (okC n P wh pl) G few best :=
  h.iff fun _ => ⟨fun x => x.1, fun x => ⟨x, ple_lex fun j a b => last_le x ho a b (hn j a b)⟩⟩
theorem lxl_lex {n : Int} {a b : Int → Int} (h : lxl n a b) : lex n a b := Or.inr h
theorem DL_c {n P : Int} {wh pl r c : Int → Int} (h : DL n P wh pl r c) : DM n P wh pl r c ∨ ∀ k, 0 ≤ k → k < n → c k = cR r k := by
  rcases h.2 with q | q
  · exact Or.inr q
  · exact Or.inl ⟨h.1, q⟩
theorem BecM.skip {n P : Int} (hn : 1 ≤ n) {wh pl r best MK AG mk ag wt : Int → Int} {law goal few : Int} (h : BecM n (DM n P wh pl r) (GoC n MK AG mk ag wt law goal) few best) (hno : ¬ GoC n MK AG mk ag wt law goal (cR r) ∨ (few ≠ -9 ∧ few ≤ cnC n (cR r))) : BecM n (DL n P wh pl r) (GoC n MK AG mk ag wt law goal) few best := by
  rcases h with ⟨a1, a2⟩ | ⟨a1, a2, a3, a4, a5⟩
  · refine Or.inl ⟨a1, fun c hc hg => ?_⟩
    rcases DL_c hc with q | q
    · exact a2 c q hg
    · rcases hno with z | z
      · exact z (hg.ext hn q)
      · exact z.1 a1
  · refine Or.inr ⟨a1, ⟨a2.1, lxl_lex a2.2⟩, a3, a4, fun c hc hg => ?_⟩
    rcases DL_c hc with q | q
    · exact a5 c q hg
    · rcases hno with z | z
      · exact absurd (hg.ext hn q) z
      · have e : cnC n c = cnC n (cR r) := cnC_congr q
        rcases Int.lt_or_eq_of_le z.2 with y | y
        · exact Or.inl (by omega)
        · exact Or.inr ⟨by omega, lex_tr (lxl_lex a2.2) (Or.inl fun k x w => (q k x w).symm)⟩
theorem BecM.take {n P : Int} (hn : 1 ≤ n) {wh pl r best b MK AG mk ag wt : Int → Int} {law goal few : Int} (h : BecM n (DM n P wh pl r) (GoC n MK AG mk ag wt law goal) few best) (ho : okR n P wh pl r) (hg : GoC n MK AG mk ag wt law goal (cR r)) (hlt : few = -9 ∨ cnC n (cR r) < few) (hb : ∀ k, 0 ≤ k → k < n → b k = r k) : BecM n (DL n P wh pl r) (GoC n MK AG mk ag wt law goal) (cnC n (cR r)) (cR b) := by
  have hbc : ∀ k, 0 ≤ k → k < n → cR r k = cR b k := fun k x y => cR_cong (hb k x y).symm
  have hl : lex n (cR b) (cR r) := Or.inl fun k x y => (hbc k x y).symm
  have hcn : cnC n (cR b) = cnC n (cR r) := (cnC_congr hbc).symm
  have hbd := cnC_bd n (by omega) (cR r)
  refine Or.inr ⟨hbd, ⟨ho.c.ext hbc, hl⟩, hg.ext hn hbc, hcn.symm, fun c hc hgc => ?_⟩
  rcases DL_c hc with q | q
  · rcases h with ⟨a1, a2⟩ | ⟨a1, a2, a3, a4, a5⟩
    · exact absurd hgc (a2 c q)
    · have := bett_le (a5 c q hgc)
      exact Or.inl (by omega)
  · exact Or.inr ⟨by rw [hcn]; exact (cnC_congr q).symm, lex_tr hl (Or.inl fun k x y => (q k x y).symm)⟩
theorem BecM.ans {n : Int} {D G : (Int → Int) → Prop} {few : Int} {b : Int → Int} {k : Int} (h : BecM n D G few (cR b)) : BecA n D G k (if few = -9 then -9 else if k = -1 then few else if b k < 0 then -5 else b k) := by
  rcases h with ⟨a1, a2⟩ | ⟨a1, a2, a3, a4, a5⟩
  · exact ⟨0, few, cR b, Or.inl ⟨rfl, a2⟩, by rw [if_pos a1, if_pos rfl]⟩
  · refine ⟨1, few, cR b, Or.inr ⟨rfl, a2, a3, a4, a5⟩, ?_⟩
    rw [if_neg (show ¬ few = -9 by omega), if_neg (show ¬ (1 : Int) = 0 by decide)]
    rfl
/-- a row as a number: the order's measure -/
def rwV (r : Int → Int) : Nat → Nat
  | 0 => 0
  | n + 1 => rwV r n * 50 + (r n + 1).toNat
theorem rwV_bd {r : Int → Int} : ∀ {n : Nat}, (∀ k : Int, 0 ≤ k → k < n → -1 ≤ r k ∧ r k < 48) → rwV r n < 50 ^ n
  | 0, _ => by simp [rwV]
  | n + 1, h => by
    have h1 := rwV_bd (r := r) (n := n) (fun k a b => h k a (by omega))
    have h2 := h n (by omega) (by omega)
    unfold rwV
    rw [Nat.pow_succ]
    omega
theorem rwV_eq {r r' : Int → Int} : ∀ {n : Nat}, (∀ k : Int, 0 ≤ k → k < n → r k = r' k) → rwV r n = rwV r' n
  | 0, _ => rfl
  | n + 1, h => by
    unfold rwV
    rw [rwV_eq (n := n) (fun k a b => h k a (by omega)), h n (by omega) (by omega)]
theorem rwV_lt {r r' : Int → Int} {k : Int} (k0 : 0 ≤ k) (hlt : r k < r' k) (he : ∀ j : Int, 0 ≤ j → j < k → r' j = r j) : ∀ {n : Nat}, k < n → (∀ j : Int, 0 ≤ j → j < n → (-1 ≤ r j ∧ r j < 48) ∧ -1 ≤ r' j) → rwV r n < rwV r' n
  | 0, h, _ => by omega
  | n + 1, h, hb => by
    have b := hb n (by omega) (by omega)
    unfold rwV
    by_cases e : k = n
    · subst e
      rw [rwV_eq (r := r) (r' := r') (n := n) (fun j x y => (he j x y).symm)]
      omega
    · have := rwV_lt k0 hlt he (n := n) (by omega) (fun j x y => hb j x (by omega))
      omega
def msR (n : Int) (r : Int → Int) : Nat := 50 ^ n.toNat - rwV r n.toNat
theorem msR_lt {n P : Int} {wh pl r r' : Int → Int} {m : Nat} (hP : P ≤ 48) (h : NxtR n P wh pl r r') (ho : okR n P wh pl r) (hm : msR n r < m + 1) : msR n r' < m := by
  have ho' := h.ok ho
  obtain ⟨k, k0, k1, ⟨k2, k3⟩, k4, k5⟩ := h
  have b : ∀ j : Int, 0 ≤ j → j < n.toNat → -1 ≤ r j ∧ r j < 48 := fun j x y => by have := ho j x (by omega); omega
  have b' : ∀ j : Int, 0 ≤ j → j < n.toNat → -1 ≤ r' j ∧ r' j < 48 := fun j x y => by have := ho' j x (by omega); omega
  have h1 := rwV_bd (r := r') (n := n.toNat) b'
  have h2 := rwV_lt (r := r) (r' := r') k0.1 k2.1 k1 (n := n.toNat) (by omega) (fun j x y => ⟨b j x y, (b' j x y).1⟩)
  unfold msR at hm ⊢
  omega
theorem rowF_n {b f r : Int → Int} {k : Int} (h : r k < 0) : rowF b f (cR r) k = b k := by unfold rowF; rw [cR_n h, if_pos rfl]
theorem rowF_p {b f r : Int → Int} {k : Int} (h : 0 ≤ r k) : rowF b f (cR r) k = f (r k) := by unfold rowF; rw [cR_p h, if_neg (by omega)]
set_option maxRecDepth 100000 in
set_option maxHeartbeats 4000000 in
theorem t_X8_putsRow (S : St) (s : Int) (hM : MI S) (h0 : 0 ≤ s) (h1 : s < S 125 2) (ho : okR (S 118 13) (S 125 1) (mWh S) (mPl S) (S 133)) : EX mX8_putsRow [.ref 118, vi s] S (fun r S' => r = cnC (S 118 13) (cR (S 133)) ∧ Same [131, 132] S S' ∧ ∀ j, 0 ≤ j → j < S 118 13 → S' 131 j = rowF (fun k => S 124 (mHd S (s * 6 + k))) (S 124) (cR (S 133)) j ∧ S' 132 j = rowF (fun k => mAg S (mHd S (s * 6 + k))) (mAg S) (cR (S 133)) j) := by
  suffices hh : ∀ P : Int → St → Prop, (∀ r S', (r = cnC (S 118 13) (cR (S 133)) ∧ Same [131, 132] S S' ∧ ∀ j, 0 ≤ j → j < S 118 13 → S' 131 j = rowF (fun k => S 124 (mHd S (s * 6 + k))) (S 124) (cR (S 133)) j ∧ S' 132 j = rowF (fun k => mAg S (mHd S (s * 6 + k))) (mAg S) (cR (S 133)) j) → P r S') → EX mX8_putsRow [.ref 118, vi s] S P from hh _ (fun _ _ h => h)
  intro P hP
  refine EX.of (L := [(0, .ref 118), (1, vi s)]) rfl rfl (Nat.le_of_ble_eq_true rfl) rfl ?_
  obtain ⟨⟨hn0, hn1⟩, hwl, ⟨hp0, hp1⟩, ⟨hs0, hs1⟩, hyr, hpt, hhd, hth⟩ := id hM
  have hwt : ∀ k, 0 ≤ k → k < 6 → 1 ≤ S 120 k ∧ S 120 k ≤ 9 := fun k a b => ⟨(hwl k a b).1, (hwl k a b).2.1⟩
  refine j_aload_n dX8_putsRow_0 rfl ?_
  refine j_iload_n dX8_putsRow_1 rfl ?_
  refine j_callVv (As := [vi s]) (rest := []) (t_X8_asIs _ s hM h0 h1) rfl cm_X8_asIs ci_X8_asIs ml_X8_178 oq_118 rfl (Nat.le_of_ble_eq_true rfl) (Nat.le_of_ble_eq_true rfl) dX8_putsRow_2 (fun r2 S2 hp2 => ?_)
  obtain ⟨hsm2, hl2⟩ := hp2
  have eS2_118 : S2 118 = S 118 := hsm2 118 (by decide)
  have eS2_119 : S2 119 = S 119 := hsm2 119 (by decide)
  have eS2_120 : S2 120 = S 120 := hsm2 120 (by decide)
  have eS2_121 : S2 121 = S 121 := hsm2 121 (by decide)
  have eS2_124 : S2 124 = S 124 := hsm2 124 (by decide)
  have eS2_125 : S2 125 = S 125 := hsm2 125 (by decide)
  have eS2_126 : S2 126 = S 126 := hsm2 126 (by decide)
  have eS2_127 : S2 127 = S 127 := hsm2 127 (by decide)
  have eS2_128 : S2 128 = S 128 := hsm2 128 (by decide)
  have eS2_129 : S2 129 = S 129 := hsm2 129 (by decide)
  have eS2_130 : S2 130 = S 130 := hsm2 130 (by decide)
  have eS2_133 : S2 133 = S 133 := hsm2 133 (by decide)
  have eS2_134 : S2 134 = S 134 := hsm2 134 (by decide)
  refine j_iconst dX8_putsRow_5 ?_
  refine j_istore_n (L' := [(0, .ref 118), (1, vi s), (2, vi 0)]) dX8_putsRow_6 (Nat.le_of_ble_eq_true rfl) rfl ?_
  refine j_iconst dX8_putsRow_7 ?_
  refine j_istore_n (L' := [(0, .ref 118), (1, vi s), (2, vi 0), (3, vi 0)]) dX8_putsRow_8 (Nat.le_of_ble_eq_true rfl) rfl ?_
  have lp9 : ∀ (n : Nat) (c k : Int) (T : St), (S 118 13 - k).toNat < n → (0 ≤ k ∧ k ≤ S 118 13 ∧ Same [131, 132] S T ∧ c = cnC k (cR (S 133)) ∧ (∀ j, 0 ≤ j → j < S 118 13 → T 131 j = (if j < k then rowF (fun k => S 124 (mHd S (s * 6 + k))) (S 124) (cR (S 133)) j else S 124 (mHd S (s * 6 + j))) ∧ T 132 j = (if j < k then rowF (fun k => mAg S (mHd S (s * 6 + k))) (mAg S) (cR (S 133)) j else mAg S (mHd S (s * 6 + j))))) → JJ mX8_putsRow (RX mX8_putsRow P) 9 [(0, .ref 118), (1, vi s), (2, vi c), (3, vi k)] [] T := by
    intro n
    induction n with
    | zero => intro c k T hm; exact absurd hm (Nat.not_lt_zero _)
    | succ n ih9 =>
      intro c k T hm9 hv9
      obtain ⟨hv1, hv2, hv3, hv4, hv5⟩ := hv9
      have eT_118 : T 118 = S 118 := hv3 118 (by decide)
      have eT_119 : T 119 = S 119 := hv3 119 (by decide)
      have eT_120 : T 120 = S 120 := hv3 120 (by decide)
      have eT_121 : T 121 = S 121 := hv3 121 (by decide)
      have eT_124 : T 124 = S 124 := hv3 124 (by decide)
      have eT_125 : T 125 = S 125 := hv3 125 (by decide)
      have eT_126 : T 126 = S 126 := hv3 126 (by decide)
      have eT_127 : T 127 = S 127 := hv3 127 (by decide)
      have eT_128 : T 128 = S 128 := hv3 128 (by decide)
      have eT_129 : T 129 = S 129 := hv3 129 (by decide)
      have eT_130 : T 130 = S 130 := hv3 130 (by decide)
      have eT_133 : T 133 = S 133 := hv3 133 (by decide)
      have eT_134 : T 134 = S 134 := hv3 134 (by decide)
      refine j_iload_n dX8_putsRow_9 rfl ?_
      refine j_aload_n dX8_putsRow_10 rfl ?_
      refine j_getI (x := S 118 13) dX8_putsRow_11 fg_X8_59 fq_118_13 (congrFun eT_118 _) (fun hi11 => ?_)
      refine j_icmp_ge (tgt := 72) dX8_putsRow_14 (by decide) (by omega) (by omega) (fun h14 => ?_) (fun h14 => ?_)
      · refine j_iload_n dX8_putsRow_72 rfl ?_
        exact j_iret rfl dX8_putsRow_73 (fun h => by cases h) (hP _ _ ⟨by rw [hv4]; congr 1; omega, hv3, fun j a b => by have := hv5 j a b; rw [if_pos (by omega), if_pos (by omega)] at this; exact this⟩)
      · have hok := ho k (by omega) (by omega)
        have hcb := cnC_bd k (by omega) (cR (S 133))
        refine j_aload_n dX8_putsRow_17 rfl ?_
        refine j_getR dX8_putsRow_18 fg_X8_53 fq_118_28 ?_
        refine j_iload_n dX8_putsRow_21 rfl ?_
        refine j_iald (x := S 133 k) dX8_putsRow_22 aq_133 (by omega) (by omega) (congrFun eT_133 _) (fun hi22 => ?_)
        refine j_if_lt (tgt := 66) dX8_putsRow_23 (by decide) (by omega)  (fun h23 => ?_) (fun h23 => ?_)
        · have hnew : (∀ j, 0 ≤ j → j < S 118 13 → T 131 j = (if j < (k + 1) then rowF (fun k => S 124 (mHd S (s * 6 + k))) (S 124) (cR (S 133)) j else S 124 (mHd S (s * 6 + j))) ∧ T 132 j = (if j < (k + 1) then rowF (fun k => mAg S (mHd S (s * 6 + k))) (mAg S) (cR (S 133)) j else mAg S (mHd S (s * 6 + j)))) := fun j a b => by
            by_cases e : j = k
            · subst e
              have := hv5 j a b
              rw [if_neg (by omega), if_neg (by omega)] at this
              rw [if_pos (by omega), if_pos (by omega), rowF_n h23, rowF_n h23]
              exact this
            · have := hv5 j a b
              by_cases q : j < k
              · rw [if_pos q, if_pos q] at this
                rw [if_pos (by omega), if_pos (by omega)]
                exact this
              · rw [if_neg q, if_neg q] at this
                rw [if_neg (by omega), if_neg (by omega)]
                exact this
          refine j_iinc (L' := [(0, .ref 118), (1, vi s), (2, vi c), (3, vi (k + 1))]) dX8_putsRow_66 (Nat.le_of_ble_eq_true rfl) rfl rfl ?_
          refine j_goto (tgt := 9) dX8_putsRow_69 (by decide) ?_
          exact ih9 c (k + 1) T (by omega) ⟨by omega, by omega, hv3, by rw [cnC_s (by omega), ← hv4, cR_n h23, if_pos rfl, Int.add_zero], hnew⟩
        · refine j_aload_n dX8_putsRow_26 rfl ?_
          refine j_getR dX8_putsRow_27 fg_X8_47 fq_118_26 ?_
          refine j_iload_n dX8_putsRow_30 rfl ?_
          refine j_aload_n dX8_putsRow_31 rfl ?_
          refine j_getR dX8_putsRow_32 fg_X8_25 fq_118_17 ?_
          refine j_aload_n dX8_putsRow_35 rfl ?_
          refine j_getR dX8_putsRow_36 fg_X8_53 fq_118_28 ?_
          refine j_iload_n dX8_putsRow_39 rfl ?_
          refine j_iald (x := S 133 k) dX8_putsRow_40 aq_133 (by omega) (by omega) (congrFun eT_133 _) (fun hi40 => ?_)
          refine j_iald (x := S 124 (S 133 k)) dX8_putsRow_41 aq_124 (by omega) (by omega) (congrFun eT_124 _) (fun hi41 => ?_)
          refine j_iast dX8_putsRow_42 aq_131 (by omega) (by omega) (by omega) ?_
          refine j_aload_n dX8_putsRow_43 rfl ?_
          refine j_getR dX8_putsRow_44 fg_X8_50 fq_118_27 ?_
          refine j_iload_n dX8_putsRow_47 rfl ?_
          refine j_aload_n dX8_putsRow_48 rfl ?_
          refine j_getR dX8_putsRow_49 fg_X8_28 fq_118_18 ?_
          refine j_bipush dX8_putsRow_52 (by decide) ?_
          refine j_aload_n dX8_putsRow_54 rfl ?_
          refine j_getR dX8_putsRow_55 fg_X8_53 fq_118_28 ?_
          refine j_iload_n dX8_putsRow_58 rfl ?_
          refine j_iald (x := S 133 k) dX8_putsRow_59 aq_133 (by omega) (by omega) (congrFun eT_133 _) (fun hi59 => ?_)
          refine j_iadd dX8_putsRow_60 ?_
          refine j_iald (x := mAg S (S 133 k)) dX8_putsRow_61 aq_125 (by omega) (by omega) (congrFun eT_125 _) (fun hi61 => ?_)
          refine j_iast dX8_putsRow_62 aq_132 (by omega) (by omega) (by omega) ?_
          refine j_iinc (L' := [(0, .ref 118), (1, vi s), (2, vi (c + 1)), (3, vi k)]) dX8_putsRow_63 (Nat.le_of_ble_eq_true rfl) rfl rfl ?_
          have hnew : (∀ j, 0 ≤ j → j < S 118 13 → (up (up T 131 k (S 124 (S 133 k))) 132 k (mAg S (S 133 k))) 131 j = (if j < (k + 1) then rowF (fun k => S 124 (mHd S (s * 6 + k))) (S 124) (cR (S 133)) j else S 124 (mHd S (s * 6 + j))) ∧ (up (up T 131 k (S 124 (S 133 k))) 132 k (mAg S (S 133 k))) 132 j = (if j < (k + 1) then rowF (fun k => mAg S (mHd S (s * 6 + k))) (mAg S) (cR (S 133)) j else mAg S (mHd S (s * 6 + j)))) := fun j a b => by
            by_cases e : j = k
            · subst e
              rw [if_pos (by omega), if_pos (by omega), rowF_p h23, rowF_p h23]
              exact ⟨by simp [up], by simp [up]⟩
            · have := hv5 j a b
              rw [up_c (by decide), up_i e, up_i e, up_c (by decide)]
              by_cases q : j < k
              · rw [if_pos q, if_pos q] at this
                rw [if_pos (by omega), if_pos (by omega)]
                exact this
              · rw [if_neg q, if_neg q] at this
                rw [if_neg (by omega), if_neg (by omega)]
                exact this
          refine j_iinc (L' := [(0, .ref 118), (1, vi s), (2, vi (c + 1)), (3, vi (k + 1))]) dX8_putsRow_66 (Nat.le_of_ble_eq_true rfl) rfl rfl ?_
          refine j_goto (tgt := 9) dX8_putsRow_69 (by decide) ?_
          exact ih9 (c + 1) (k + 1) (up (up T 131 k (S 124 (S 133 k))) 132 k (mAg S (S 133 k))) (by omega) ⟨by omega, by omega, same_up (same_up hv3 (by decide)) (by decide), by rw [cnC_s (by omega), ← hv4, cR_p h23, if_neg (by omega)], hnew⟩
  exact lp9 _ 0 0 S2 (Nat.lt_succ_self _) ⟨by omega, by omega, hsm2, rfl, fun j a b => by rw [if_neg (by omega), if_neg (by omega)]; exact hl2 j a b⟩
set_option maxRecDepth 100000 in
set_option maxHeartbeats 4000000 in
theorem t_X8_steps (S : St) (hM : MI S) (ho : okR (S 118 13) (S 125 1) (mWh S) (mPl S) (S 133)) : EX mX8_steps [.ref 118] S (fun r S' => ((r = 1 ∧ NxtR (S 118 13) (S 125 1) (mWh S) (mPl S) (S 133) (S' 133)) ∨ (r = 0 ∧ LstR (S 118 13) (S 125 1) (mWh S) (mPl S) (S 133))) ∧ Same [133] S S') := by
  suffices hh : ∀ P : Int → St → Prop, (∀ r S', (((r = 1 ∧ NxtR (S 118 13) (S 125 1) (mWh S) (mPl S) (S 133) (S' 133)) ∨ (r = 0 ∧ LstR (S 118 13) (S 125 1) (mWh S) (mPl S) (S 133))) ∧ Same [133] S S') → P r S') → EX mX8_steps [.ref 118] S P from hh _ (fun _ _ h => h)
  intro P hP
  refine EX.of (L := [(0, .ref 118)]) rfl rfl (Nat.le_of_ble_eq_true rfl) rfl ?_
  obtain ⟨⟨hn0, hn1⟩, hwl, ⟨hp0, hp1⟩, ⟨hs0, hs1⟩, hyr, hpt, hhd, hth⟩ := id hM
  have hwt : ∀ k, 0 ≤ k → k < 6 → 1 ≤ S 120 k ∧ S 120 k ≤ 9 := fun k a b => ⟨(hwl k a b).1, (hwl k a b).2.1⟩
  refine j_aload_n dX8_steps_0 rfl ?_
  refine j_getI (x := S 118 13) dX8_steps_1 fg_X8_59 fq_118_13 rfl (fun hi1 => ?_)
  refine j_iconst dX8_steps_4 ?_
  refine j_isub dX8_steps_5 ?_
  refine j_istore_n (L' := [(0, .ref 118), (1, vi ((S 118 13) - 1))]) dX8_steps_6 (Nat.le_of_ble_eq_true rfl) rfl ?_
  have lp7 : ∀ (n : Nat) (k : Int) (T : St), (k + 1).toNat < n → (-1 ≤ k ∧ k < S 118 13 ∧ Same [133] S T ∧ (∀ j, 0 ≤ j → j ≤ k → T 133 j = S 133 j) ∧ (∀ j, k < j → j < S 118 13 → T 133 j = -1) ∧ ∀ j, k < j → j < S 118 13 → ∀ q, S 133 j < q → q < S 125 1 → ¬ (mWh S q = 8 ∧ mPl S q = j)) → JJ mX8_steps (RX mX8_steps P) 7 [(0, .ref 118), (1, vi k)] [] T := by
    intro n
    induction n with
    | zero => intro k T hm; exact absurd hm (Nat.not_lt_zero _)
    | succ n ih7 =>
      intro k T hm7 hv7
      obtain ⟨hv1, hv2, hv3, hv4, hv5, hv6⟩ := hv7
      have eT_118 : T 118 = S 118 := hv3 118 (by decide)
      have eT_119 : T 119 = S 119 := hv3 119 (by decide)
      have eT_120 : T 120 = S 120 := hv3 120 (by decide)
      have eT_121 : T 121 = S 121 := hv3 121 (by decide)
      have eT_124 : T 124 = S 124 := hv3 124 (by decide)
      have eT_125 : T 125 = S 125 := hv3 125 (by decide)
      have eT_126 : T 126 = S 126 := hv3 126 (by decide)
      have eT_127 : T 127 = S 127 := hv3 127 (by decide)
      have eT_128 : T 128 = S 128 := hv3 128 (by decide)
      have eT_129 : T 129 = S 129 := hv3 129 (by decide)
      have eT_130 : T 130 = S 130 := hv3 130 (by decide)
      have eT_131 : T 131 = S 131 := hv3 131 (by decide)
      have eT_132 : T 132 = S 132 := hv3 132 (by decide)
      have eT_134 : T 134 = S 134 := hv3 134 (by decide)
      refine j_iload_n dX8_steps_7 rfl ?_
      refine j_if_lt (tgt := 51) dX8_steps_8 (by decide) (by omega)  (fun h8 => ?_) (fun h8 => ?_)
      · refine j_iconst dX8_steps_51 ?_
        exact j_iret rfl dX8_steps_52 (fun _ => Or.inl rfl) (hP _ _ ⟨Or.inr ⟨rfl, fun j a b => hv6 j (by omega) b⟩, hv3⟩)
      · have hok := ho k (by omega) (by omega)
        refine j_aload_n dX8_steps_11 rfl ?_
        refine j_iload_n dX8_steps_12 rfl ?_
        refine j_aload_n dX8_steps_13 rfl ?_
        refine j_getR dX8_steps_14 fg_X8_53 fq_118_28 ?_
        refine j_iload_n dX8_steps_17 rfl ?_
        refine j_iald (x := S 133 k) dX8_steps_18 aq_133 (by omega) (by omega) (hv4 k (by omega) (by omega)) (fun hi18 => ?_)
        refine j_callVi (As := [vi k, vi (S 133 k)]) (rest := []) (t_X8_nextOf _ k (S 133 k) (hM.same hv3 (by decide)) (by omega) (by omega) (by rw [hv3 125 (by decide)]; omega)) rfl cm_X8_nextOf ci_X8_nextOf ml_X8_208 oq_118 rfl (Nat.le_of_ble_eq_true rfl) (Nat.le_of_ble_eq_true rfl) dX8_steps_19 (fun r19 S19 hp19 => ?_)
        obtain ⟨hr19, he19⟩ := hp19
        rw [he19]
        obtain ⟨v1, v2, v3, v4, v5⟩ := mv_same hv3 (by decide)
        rw [hv3 125 (by decide), v1, v5] at hr19
        have hrb19 : r19 = -9 ∨ (S 133 k < r19 ∧ r19 < S 125 1) := by rcases hr19 with z | z; exact Or.inr ⟨z.1, z.2.1⟩; exact Or.inl z.1
        refine j_istore_n (L' := [(0, .ref 118), (1, vi k), (2, vi r19)]) dX8_steps_22 (Nat.le_of_ble_eq_true rfl) rfl ?_
        refine j_iload_n dX8_steps_23 rfl ?_
        refine j_bipush dX8_steps_24 (by decide) ?_
        refine j_icmp_eq (tgt := 38) dX8_steps_26 (by decide) (by omega) (by omega) (fun h26 => ?_) (fun h26 => ?_)
        · refine j_aload_n dX8_steps_38 rfl ?_
          refine j_getR dX8_steps_39 fg_X8_53 fq_118_28 ?_
          refine j_iload_n dX8_steps_42 rfl ?_
          refine j_iconst dX8_steps_43 ?_
          refine j_iast dX8_steps_44 aq_133 (by omega) (by omega) (by omega) ?_
          refine j_iinc (L' := [(0, .ref 118), (1, vi (k + (-1))), (2, vi r19)]) dX8_steps_45 (Nat.le_of_ble_eq_true rfl) rfl rfl ?_
          refine j_goto (tgt := 7) dX8_steps_48 (by decide) ?_
          refine j_sub (L' := [(0, .ref 118), (1, vi (k + (-1)))]) (by simp) ?_
          exact ih7 (k + (-1)) (up T 133 k (-1)) (by omega) ⟨by omega, by omega, same_up hv3 (by decide), fun j a b => by rw [up_i (by omega)]; exact hv4 j a (by omega), fun j a b => if e : j = k then by rw [e, up_s] else by rw [up_i e]; exact hv5 j (by omega) b, fun j a b => if e : j = k then by rw [e]; rcases hr19 with z | z; omega; exact z.2 else hv6 j (by omega) b⟩
        · refine j_aload_n dX8_steps_29 rfl ?_
          refine j_getR dX8_steps_30 fg_X8_53 fq_118_28 ?_
          refine j_iload_n dX8_steps_33 rfl ?_
          refine j_iload_n dX8_steps_34 rfl ?_
          refine j_iast dX8_steps_35 aq_133 (by omega) (by omega) (by omega) ?_
          refine j_iconst dX8_steps_36 ?_
          exact j_iret rfl dX8_steps_37 (fun _ => Or.inr rfl) (hP _ _ ⟨Or.inl ⟨rfl, k, by omega, fun j a b => by rw [up_i (by omega)]; exact hv4 j a (by omega), by rw [up_s]; rcases hr19 with z | z; exact ⟨⟨z.1, z.2.1, z.2.2.1⟩, z.2.2.2⟩; omega, fun j a b => by rw [up_i (by omega)]; exact hv5 j a b, hv6⟩, same_up hv3 (by decide)⟩)
  exact lp7 _ ((S 118 13) - 1) S (Nat.lt_succ_self _) ⟨by omega, by omega, Same.rf, fun j a b => rfl, fun j a b => by omega, fun j a b => by omega⟩
set_option maxRecDepth 100000 in
set_option maxHeartbeats 4000000 in
theorem t_X8_becomes (S : St) (s law mk k : Int) (r_s : InR s) (r_law : InR law) (r_mk : InR mk) (r_k : InR k) (hM : MI S) : EX mX8_becomes [.ref 118, vi s, vi law, vi mk, vi k] S (fun r S' => (¬ (((0 ≤ s ∧ s < S 125 2) ∧ (0 ≤ law ∧ law < 5) ∧ (0 ≤ mk ∧ mk ≤ 3)) ∧ (k = -1 ∨ (0 ≤ k ∧ k < S 118 13))) ∧ r = -1 ∧ S' = S) ∨ ((((0 ≤ s ∧ s < S 125 2) ∧ (0 ≤ law ∧ law < 5) ∧ (0 ≤ mk ∧ mk ≤ 3)) ∧ (k = -1 ∨ (0 ≤ k ∧ k < S 118 13))) ∧ BecA (S 118 13) (okC (S 118 13) (S 125 1) (mWh S) (mPl S)) (GoC (S 118 13) (fun k => S 124 (mHd S (s * 6 + k))) (fun k => mAg S (mHd S (s * 6 + k))) (S 124) (mAg S) (S 120) law mk) k r ∧ Same [131, 132, 133, 134] S S')) := by
  suffices hh : ∀ P : Int → St → Prop, (∀ r S', ((¬ (((0 ≤ s ∧ s < S 125 2) ∧ (0 ≤ law ∧ law < 5) ∧ (0 ≤ mk ∧ mk ≤ 3)) ∧ (k = -1 ∨ (0 ≤ k ∧ k < S 118 13))) ∧ r = -1 ∧ S' = S) ∨ ((((0 ≤ s ∧ s < S 125 2) ∧ (0 ≤ law ∧ law < 5) ∧ (0 ≤ mk ∧ mk ≤ 3)) ∧ (k = -1 ∨ (0 ≤ k ∧ k < S 118 13))) ∧ BecA (S 118 13) (okC (S 118 13) (S 125 1) (mWh S) (mPl S)) (GoC (S 118 13) (fun k => S 124 (mHd S (s * 6 + k))) (fun k => mAg S (mHd S (s * 6 + k))) (S 124) (mAg S) (S 120) law mk) k r ∧ Same [131, 132, 133, 134] S S')) → P r S') → EX mX8_becomes [.ref 118, vi s, vi law, vi mk, vi k] S P from hh _ (fun _ _ h => h)
  intro P hP
  refine EX.of (L := [(0, .ref 118), (1, vi s), (2, vi law), (3, vi mk), (4, vi k)]) rfl rfl (Nat.le_of_ble_eq_true rfl) rfl ?_
  obtain ⟨⟨hn0, hn1⟩, hwl, ⟨hp0, hp1⟩, ⟨hs0, hs1⟩, hyr, hpt, hhd, hth⟩ := id hM
  have hwt : ∀ k, 0 ≤ k → k < 6 → 1 ≤ S 120 k ∧ S 120 k ≤ 9 := fun k a b => ⟨(hwl k a b).1, (hwl k a b).2.1⟩
  refine j_aload_n dX8_becomes_0 rfl ?_
  refine j_iconst dX8_becomes_1 ?_
  refine j_putI (i := 0) dX8_becomes_2 fg_X8_63 ft_8_0 fq_118_0 rfl (by omega) ?_
  rw [up_thr hth]
  refine j_aload_n dX8_becomes_5 rfl ?_
  refine j_iload_n dX8_becomes_6 rfl ?_
  refine j_callVi (As := [vi s]) (rest := []) (t_X8_isShip _ s (by omega) (by omega)) rfl cm_X8_isShip ci_X8_isShip ml_X8_156 oq_118 rfl (Nat.le_of_ble_eq_true rfl) (Nat.le_of_ble_eq_true rfl) dX8_becomes_7 (fun r7 S7 hp7 => ?_)
  obtain ⟨⟨rfl, hc7⟩ | ⟨rfl, hc7⟩, he7⟩ := hp7
  · rw [he7]
    refine j_if_eq (tgt := 44) dX8_becomes_10 (by decide) (by omega)  (fun h => absurd h (by decide)) (fun _ => ?_)
    refine j_iload_n dX8_becomes_13 rfl ?_
    refine j_callSi (As := [vi law]) (rest := []) (t_X8_isLaw _ law (by omega)) rfl cm_X8_isLaw cs_X8_isLaw ml_X8_184 rfl (Nat.le_of_ble_eq_true rfl) (Nat.le_of_ble_eq_true rfl) dX8_becomes_14 (fun r14 S14 hp14 => ?_)
    obtain ⟨⟨rfl, hc14⟩ | ⟨rfl, hc14⟩, he14⟩ := hp14
    · rw [he14]
      refine j_if_eq (tgt := 44) dX8_becomes_17 (by decide) (by omega)  (fun h => absurd h (by decide)) (fun _ => ?_)
      refine j_iload_n dX8_becomes_20 rfl ?_
      refine j_iconst dX8_becomes_21 ?_
      refine j_iconst dX8_becomes_22 ?_
      refine j_callSi (As := [vi mk, vi 0, vi 3]) (rest := []) (t_X8_in _ mk 0 3 (by omega) (by omega) (by omega)) rfl cm_X8_in cs_X8_in ml_X8_66 rfl (Nat.le_of_ble_eq_true rfl) (Nat.le_of_ble_eq_true rfl) dX8_becomes_23 (fun r23 S23 hp23 => ?_)
      obtain ⟨⟨rfl, hc23⟩ | ⟨rfl, hc23⟩, he23⟩ := hp23
      · rw [he23]
        refine j_if_eq (tgt := 44) dX8_becomes_26 (by decide) (by omega)  (fun h => absurd h (by decide)) (fun _ => ?_)
        refine j_iload dX8_becomes_29 rfl ?_
        refine j_iconst dX8_becomes_31 ?_
        refine j_icmp_eq (tgt := 46) dX8_becomes_32 (by decide) (by omega) (by omega) (fun h32 => ?_) (fun h32 => ?_)
        · refine j_iconst dX8_becomes_46 ?_
          refine j_istore (L' := [(0, .ref 118), (1, vi s), (2, vi law), (3, vi mk), (4, vi k), (5, vi 0)]) dX8_becomes_47 (Nat.le_of_ble_eq_true rfl) rfl ?_
          have lp49 : ∀ (n : Nat) (e : Int) (T : St), (6 - e).toNat < n → (0 ≤ e ∧ e ≤ 6 ∧ Same [131, 132, 133, 134] S T ∧ ∀ j, 0 ≤ j → j < e → T 133 j = -1) → JJ mX8_becomes (RX mX8_becomes P) 49 [(0, .ref 118), (1, vi s), (2, vi law), (3, vi mk), (4, vi k), (5, vi e)] [] T := by
            intro n
            induction n with
            | zero => intro e T hm; exact absurd hm (Nat.not_lt_zero _)
            | succ n ih49 =>
              intro e T hm49 hv49
              obtain ⟨hv1, hv2, hv3, hv4⟩ := hv49
              have eT_118 : T 118 = S 118 := hv3 118 (by decide)
              have eT_119 : T 119 = S 119 := hv3 119 (by decide)
              have eT_120 : T 120 = S 120 := hv3 120 (by decide)
              have eT_121 : T 121 = S 121 := hv3 121 (by decide)
              have eT_124 : T 124 = S 124 := hv3 124 (by decide)
              have eT_125 : T 125 = S 125 := hv3 125 (by decide)
              have eT_126 : T 126 = S 126 := hv3 126 (by decide)
              have eT_127 : T 127 = S 127 := hv3 127 (by decide)
              have eT_128 : T 128 = S 128 := hv3 128 (by decide)
              have eT_129 : T 129 = S 129 := hv3 129 (by decide)
              have eT_130 : T 130 = S 130 := hv3 130 (by decide)
              refine j_iload dX8_becomes_49 rfl ?_
              refine j_bipush dX8_becomes_51 (by decide) ?_
              refine j_icmp_ge (tgt := 70) dX8_becomes_53 (by decide) (by omega) (by omega) (fun h53 => ?_) (fun h53 => ?_)
              · refine j_bipush dX8_becomes_70 (by decide) ?_
                refine j_istore (L' := [(0, .ref 118), (1, vi s), (2, vi law), (3, vi mk), (4, vi k), (5, vi (-9))]) dX8_becomes_72 (Nat.le_of_ble_eq_true rfl) rfl ?_
                refine j_iconst dX8_becomes_74 ?_
                refine j_istore (L' := [(0, .ref 118), (1, vi s), (2, vi law), (3, vi mk), (4, vi k), (5, vi (-9)), (6, vi 1)]) dX8_becomes_75 (Nat.le_of_ble_eq_true rfl) rfl ?_
                refine j_iload dX8_becomes_77 rfl ?_
                refine j_if_eq (tgt := 155) dX8_becomes_79 (by decide) (by omega)  (fun h => absurd h (by decide)) (fun _ => ?_)
                have lp82 : ∀ (n : Nat) (few : Int) (U : St), msR (S 118 13) (U 133) < n → (InR few ∧ Same [131, 132, 133, 134] S U ∧ okR (S 118 13) (S 125 1) (mWh S) (mPl S) (U 133) ∧ BecM (S 118 13) (DM (S 118 13) (S 125 1) (mWh S) (mPl S) (U 133)) (GoC (S 118 13) (fun k => S 124 (mHd S (s * 6 + k))) (fun k => mAg S (mHd S (s * 6 + k))) (S 124) (mAg S) (S 120) law mk) few (cR (U 134))) → JJ mX8_becomes (RX mX8_becomes P) 82 [(0, .ref 118), (1, vi s), (2, vi law), (3, vi mk), (4, vi k), (5, vi few), (6, vi 1)] [] U := by
                  intro n
                  induction n with
                  | zero => intro few U hm; exact absurd hm (Nat.not_lt_zero _)
                  | succ n ih82 =>
                    intro few U hm82 hv82
                    obtain ⟨hw1, hw2, hw3, hw4⟩ := hv82
                    have eU_118 : U 118 = S 118 := hw2 118 (by decide)
                    have eU_119 : U 119 = S 119 := hw2 119 (by decide)
                    have eU_120 : U 120 = S 120 := hw2 120 (by decide)
                    have eU_121 : U 121 = S 121 := hw2 121 (by decide)
                    have eU_124 : U 124 = S 124 := hw2 124 (by decide)
                    have eU_125 : U 125 = S 125 := hw2 125 (by decide)
                    have eU_126 : U 126 = S 126 := hw2 126 (by decide)
                    have eU_127 : U 127 = S 127 := hw2 127 (by decide)
                    have eU_128 : U 128 = S 128 := hw2 128 (by decide)
                    have eU_129 : U 129 = S 129 := hw2 129 (by decide)
                    have eU_130 : U 130 = S 130 := hw2 130 (by decide)
                    refine j_aload_n dX8_becomes_82 rfl ?_
                    refine j_iload_n dX8_becomes_83 rfl ?_
                    refine j_callVi (As := [vi s]) (rest := []) (t_X8_putsRow _ s (hM.same hw2 (by decide)) (by omega) (by rw [hw2 125 (by decide)]; omega) (by obtain ⟨v1, v2, v3, v4, v5⟩ := mv_same hw2 (by decide); rw [hw2 118 (by decide), hw2 125 (by decide), v1, v5]; exact hw3)) rfl cm_X8_putsRow ci_X8_putsRow ml_X8_211 oq_118 rfl (Nat.le_of_ble_eq_true rfl) (Nat.le_of_ble_eq_true rfl) dX8_becomes_84 (fun r84 S84 hp84 => ?_)
                    obtain ⟨hr84, hsm84, hl84⟩ := hp84
                    obtain ⟨v1, v2, v3, v4, v5⟩ := mv_same hw2 (by decide)
                    rw [hw2 118 (by decide)] at hr84
                    rw [hw2 118 (by decide), hw2 124 (by decide), v2, v3] at hl84
                    have hcb := cnC_bd (S 118 13) (by omega) (cR (U 133))
                    rw [← hr84] at hcb
                    have eS84_118 : S84 118 = S 118 := (hsm84 118 (by decide)).trans eU_118
                    have eS84_119 : S84 119 = S 119 := (hsm84 119 (by decide)).trans eU_119
                    have eS84_120 : S84 120 = S 120 := (hsm84 120 (by decide)).trans eU_120
                    have eS84_121 : S84 121 = S 121 := (hsm84 121 (by decide)).trans eU_121
                    have eS84_124 : S84 124 = S 124 := (hsm84 124 (by decide)).trans eU_124
                    have eS84_125 : S84 125 = S 125 := (hsm84 125 (by decide)).trans eU_125
                    have eS84_126 : S84 126 = S 126 := (hsm84 126 (by decide)).trans eU_126
                    have eS84_127 : S84 127 = S 127 := (hsm84 127 (by decide)).trans eU_127
                    have eS84_128 : S84 128 = S 128 := (hsm84 128 (by decide)).trans eU_128
                    have eS84_129 : S84 129 = S 129 := (hsm84 129 (by decide)).trans eU_129
                    have eS84_130 : S84 130 = S 130 := (hsm84 130 (by decide)).trans eU_130
                    have eS84_133 : S84 133 = U 133 := hsm84 133 (by decide)
                    have eS84_134 : S84 134 = U 134 := hsm84 134 (by decide)
                    refine j_istore (L' := [(0, .ref 118), (1, vi s), (2, vi law), (3, vi mk), (4, vi k), (5, vi few), (6, vi 1), (7, vi r84)]) dX8_becomes_87 (Nat.le_of_ble_eq_true rfl) rfl ?_
                    refine j_iload dX8_becomes_89 rfl ?_
                    refine j_bipush dX8_becomes_91 (by decide) ?_
                    refine j_icmp_eq (tgt := 103) dX8_becomes_93 (by decide) (by omega) (by omega) (fun h93 => ?_) (fun h93 => ?_)
                    · refine j_aload_n dX8_becomes_103 rfl ?_
                      refine j_iload_n dX8_becomes_104 rfl ?_
                      have hrowmk : ∀ j, 0 ≤ j → j < S 118 13 → isMk (rowF (fun k => S 124 (mHd S (s * 6 + k))) (S 124) (cR (U 133)) j) := fun j a b => by
                        rcases hw3 j a b with z | z
                        · rw [rowF_n (by omega)]; have g := hhd s j (by omega) (by omega) a b; exact (hpt _ g.1 g.2).2.1
                        · rw [rowF_p z.1.1]; exact (hpt _ z.1.1 z.1.2).2.1
                      refine j_callVi (As := [vi law]) (rest := []) (t_X8_isBy _ law (by rw [eS84_118]; exact hn0) (by rw [eS84_118]; exact hn1) (by rw [eS84_120]; exact hwt) (by rw [eS84_118]; intro j a b; rw [(hl84 j a b).1]; exact hrowmk j a b) (by omega) (by omega)) rfl cm_X8_isBy ci_X8_isBy ml_X8_181 oq_118 rfl (Nat.le_of_ble_eq_true rfl) (Nat.le_of_ble_eq_true rfl) dX8_becomes_105 (fun r105 S105 hp105 => ?_)
                      obtain ⟨hr105, he105⟩ := hp105
                      rw [he105]
                      have hw105 : r105 = who (S 118 13) (rowF (fun k => S 124 (mHd S (s * 6 + k))) (S 124) (cR (U 133))) (rowF (fun k => mAg S (mHd S (s * 6 + k))) (mAg S) (cR (U 133))) (S 120) law := by rw [hr105, eS84_118, eS84_120]; exact who_congr (by omega) (fun j a b => ⟨(hl84 j a b).1, (hl84 j a b).2, rfl⟩)
                      have hwb105 := who_bd (n := S 118 13) (mk := rowF (fun k => S 124 (mHd S (s * 6 + k))) (S 124) (cR (U 133))) (ag := rowF (fun k => mAg S (mHd S (s * 6 + k))) (mAg S) (cR (U 133))) (wt := S 120) (law := law) (by omega) hrowmk
                      rw [← hw105] at hwb105
                      refine j_iload_n dX8_becomes_108 rfl ?_
                      refine j_icmp_ne (tgt := 146) dX8_becomes_109 (by decide) (by omega) (by omega) (fun h109 => ?_) (fun h109 => ?_)
                      · refine j_aload_n dX8_becomes_146 rfl ?_
                        have hsx : Same [131, 132, 133, 134] S S84 := hw2.tr (hsm84.mono (by decide))
                        have hx133 : S84 133 = U 133 := hsm84 133 (by decide)
                        have hbm : BecM (S 118 13) (DL (S 118 13) (S 125 1) (mWh S) (mPl S) (U 133)) (GoC (S 118 13) (fun k => S 124 (mHd S (s * 6 + k))) (fun k => mAg S (mHd S (s * 6 + k))) (S 124) (mAg S) (S 120) law mk) few (cR (S84 134)) := by rw [show S84 134 = U 134 from hsm84 134 (by decide)]; exact hw4.skip (by omega) (by first | exact Or.inr ⟨by omega, by rw [← hr84]; omega⟩ | exact Or.inl (by unfold GoC; rw [← hw105]; omega))
                        refine j_callVi (As := []) (rest := []) (t_X8_steps _ (hM.same hsx (by decide)) (by obtain ⟨v1, v2, v3, v4, v5⟩ := mv_same hsx (by decide); rw [hsx 118 (by decide), hsx 125 (by decide), v1, v5, hx133]; exact hw3)) rfl cm_X8_steps ci_X8_steps ml_X8_214 oq_118 rfl (Nat.le_of_ble_eq_true rfl) (Nat.le_of_ble_eq_true rfl) dX8_becomes_147 (fun r147 S147 hp147 => ?_)
                        obtain ⟨⟨rfl, hc147⟩ | ⟨rfl, hc147⟩, hq147⟩ := hp147
                        · have hs147 : Same [131, 132, 133, 134] S S147 := hsx.tr (hq147.mono (by decide))
                          have h134 : S147 134 = S84 134 := hq147 134 (by decide)
                          obtain ⟨v1, v2, v3, v4, v5⟩ := mv_same hsx (by decide)
                          rw [hsx 118 (by decide), hsx 125 (by decide), v1, v5] at hc147
                          have h133 := hx133
                          refine j_istore (L' := [(0, .ref 118), (1, vi s), (2, vi law), (3, vi mk), (4, vi k), (5, vi few), (6, vi 1), (7, vi r84)]) dX8_becomes_150 (Nat.le_of_ble_eq_true rfl) rfl ?_
                          refine j_goto (tgt := 77) dX8_becomes_152 (by decide) ?_
                          refine j_iload dX8_becomes_77 rfl ?_
                          refine j_if_eq (tgt := 155) dX8_becomes_79 (by decide) (by omega)  (fun h => absurd h (by decide)) (fun _ => ?_)
                          refine j_sub (L' := [(0, .ref 118), (1, vi s), (2, vi law), (3, vi mk), (4, vi k), (5, vi few), (6, vi 1)]) (by simp) ?_
                          exact ih82 few S147 (msR_lt hp1 (by rw [h133] at hc147; exact hc147) hw3 hm82) ⟨by omega, hs147, by rw [h133] at hc147; exact hc147.ok hw3, by rw [h133] at hc147; rw [h134]; exact hbm.next hw3 hc147⟩
                        · have hs147 : Same [131, 132, 133, 134] S S147 := hsx.tr (hq147.mono (by decide))
                          have h134 : S147 134 = S84 134 := hq147 134 (by decide)
                          obtain ⟨v1, v2, v3, v4, v5⟩ := mv_same hsx (by decide)
                          rw [hsx 118 (by decide), hsx 125 (by decide), v1, v5] at hc147
                          have h133 := hx133
                          refine j_istore (L' := [(0, .ref 118), (1, vi s), (2, vi law), (3, vi mk), (4, vi k), (5, vi few), (6, vi 0), (7, vi r84)]) dX8_becomes_150 (Nat.le_of_ble_eq_true rfl) rfl ?_
                          refine j_goto (tgt := 77) dX8_becomes_152 (by decide) ?_
                          refine j_iload dX8_becomes_77 rfl ?_
                          refine j_if_eq (tgt := 155) dX8_becomes_79 (by decide) (by omega)  (fun _ => ?_) (fun h => absurd h (by decide))
                          have hfin : BecM (S 118 13) (okC (S 118 13) (S 125 1) (mWh S) (mPl S)) (GoC (S 118 13) (fun k => S 124 (mHd S (s * 6 + k))) (fun k => mAg S (mHd S (s * 6 + k))) (S 124) (mAg S) (S 120) law mk) few (cR (S147 134)) := by rw [h133] at hc147; rw [h134]; exact hbm.last hw3 hc147
                          refine j_iload dX8_becomes_155 rfl ?_
                          refine j_bipush dX8_becomes_157 (by decide) ?_
                          refine j_icmp_eq (tgt := 168) dX8_becomes_159 (by decide) (by omega) (by omega) (fun h159 => ?_) (fun h159 => ?_)
                          · refine j_iload dX8_becomes_168 rfl ?_
                            refine j_goto (tgt := 195) dX8_becomes_170 (by decide) ?_
                            refine j_top (fun ra era => ?_)
                            have hans : (if few = -9 then -9 else if k = -1 then few else if S147 134 k < 0 then -5 else S147 134 k) = ra := by rw [era]; (repeat' split) <;> first | omega | rfl
                            exact j_iret rfl dX8_becomes_195 (fun h => by cases h) (hP _ _ (Or.inr ⟨by omega, by rw [← hans]; exact hfin.ans, hs147⟩))
                          · refine j_iload dX8_becomes_162 rfl ?_
                            refine j_iconst dX8_becomes_164 ?_
                            refine j_icmp_ne (tgt := 173) dX8_becomes_165 (by decide) (by omega) (by omega) (fun h165 => ?_) (fun h165 => ?_)
                            · refine j_aload_n dX8_becomes_173 rfl ?_
                              refine j_getR dX8_becomes_174 fg_X8_56 fq_118_29 ?_
                              refine j_iload dX8_becomes_177 rfl ?_
                              refine j_iald (x := S147 134 k) dX8_becomes_179 aq_134 (by omega) (by omega) rfl (fun hi179 => ?_)
                              refine j_if_ge (tgt := 188) dX8_becomes_180 (by decide) (by omega)  (fun h180 => ?_) (fun h180 => ?_)
                              · refine j_aload_n dX8_becomes_188 rfl ?_
                                refine j_getR dX8_becomes_189 fg_X8_56 fq_118_29 ?_
                                refine j_iload dX8_becomes_192 rfl ?_
                                refine j_iald (x := S147 134 k) dX8_becomes_194 aq_134 (by omega) (by omega) rfl (fun hi194 => ?_)
                                refine j_top (fun ra era => ?_)
                                have hans : (if few = -9 then -9 else if k = -1 then few else if S147 134 k < 0 then -5 else S147 134 k) = ra := by rw [era]; (repeat' split) <;> first | omega | rfl
                                exact j_iret rfl dX8_becomes_195 (fun h => by cases h) (hP _ _ (Or.inr ⟨by omega, by rw [← hans]; exact hfin.ans, hs147⟩))
                              · refine j_bipush dX8_becomes_183 (by decide) ?_
                                refine j_goto (tgt := 195) dX8_becomes_185 (by decide) ?_
                                refine j_top (fun ra era => ?_)
                                have hans : (if few = -9 then -9 else if k = -1 then few else if S147 134 k < 0 then -5 else S147 134 k) = ra := by rw [era]; (repeat' split) <;> first | omega | rfl
                                exact j_iret rfl dX8_becomes_195 (fun h => by cases h) (hP _ _ (Or.inr ⟨by omega, by rw [← hans]; exact hfin.ans, hs147⟩))
                            · refine j_iload dX8_becomes_168 rfl ?_
                              refine j_goto (tgt := 195) dX8_becomes_170 (by decide) ?_
                              refine j_top (fun ra era => ?_)
                              have hans : (if few = -9 then -9 else if k = -1 then few else if S147 134 k < 0 then -5 else S147 134 k) = ra := by rw [era]; (repeat' split) <;> first | omega | rfl
                              exact j_iret rfl dX8_becomes_195 (fun h => by cases h) (hP _ _ (Or.inr ⟨by omega, by rw [← hans]; exact hfin.ans, hs147⟩))
                      · refine j_iload dX8_becomes_112 rfl ?_
                        refine j_istore (L' := [(0, .ref 118), (1, vi s), (2, vi law), (3, vi mk), (4, vi k), (5, vi r84), (6, vi 1), (7, vi r84)]) dX8_becomes_114 (Nat.le_of_ble_eq_true rfl) rfl ?_
                        refine j_iconst dX8_becomes_116 ?_
                        refine j_istore (L' := [(0, .ref 118), (1, vi s), (2, vi law), (3, vi mk), (4, vi k), (5, vi r84), (6, vi 1), (7, vi r84), (8, vi 0)]) dX8_becomes_117 (Nat.le_of_ble_eq_true rfl) rfl ?_
                        have lp119 : ∀ (n : Nat) (e : Int) (V : St), (6 - e).toNat < n → (0 ≤ e ∧ e ≤ 6 ∧ Same [134] S84 V ∧ ∀ j, 0 ≤ j → j < e → V 134 j = U 133 j) → JJ mX8_becomes (RX mX8_becomes P) 119 [(0, .ref 118), (1, vi s), (2, vi law), (3, vi mk), (4, vi k), (5, vi r84), (6, vi 1), (7, vi r84), (8, vi e)] [] V := by
                          intro n
                          induction n with
                          | zero => intro e V hm; exact absurd hm (Nat.not_lt_zero _)
                          | succ n ih119 =>
                            intro e V hm119 hv119
                            obtain ⟨hx1, hx2, hx3, hx4⟩ := hv119
                            have eV_118 : V 118 = S84 118 := hx3 118 (by decide)
                            have eV_119 : V 119 = S84 119 := hx3 119 (by decide)
                            have eV_120 : V 120 = S84 120 := hx3 120 (by decide)
                            have eV_121 : V 121 = S84 121 := hx3 121 (by decide)
                            have eV_124 : V 124 = S84 124 := hx3 124 (by decide)
                            have eV_125 : V 125 = S84 125 := hx3 125 (by decide)
                            have eV_126 : V 126 = S84 126 := hx3 126 (by decide)
                            have eV_127 : V 127 = S84 127 := hx3 127 (by decide)
                            have eV_128 : V 128 = S84 128 := hx3 128 (by decide)
                            have eV_129 : V 129 = S84 129 := hx3 129 (by decide)
                            have eV_130 : V 130 = S84 130 := hx3 130 (by decide)
                            have eV_133 : V 133 = S84 133 := hx3 133 (by decide)
                            refine j_iload dX8_becomes_119 rfl ?_
                            refine j_bipush dX8_becomes_121 (by decide) ?_
                            refine j_icmp_ge (tgt := 146) dX8_becomes_123 (by decide) (by omega) (by omega) (fun h123 => ?_) (fun h123 => ?_)
                            · refine j_aload_n dX8_becomes_146 rfl ?_
                              have hsx : Same [131, 132, 133, 134] S V := (hw2.tr (hsm84.mono (by decide))).tr (hx3.mono (by decide))
                              have hx133 : V 133 = U 133 := by rw [hx3 133 (by decide), hsm84 133 (by decide)]
                              have hbm : BecM (S 118 13) (DL (S 118 13) (S 125 1) (mWh S) (mPl S) (U 133)) (GoC (S 118 13) (fun k => S 124 (mHd S (s * 6 + k))) (fun k => mAg S (mHd S (s * 6 + k))) (S 124) (mAg S) (S 120) law mk) r84 (cR (V 134)) := by rw [hr84]; exact hw4.take (by omega) hw3 (by unfold GoC; rw [← hw105]; omega) (by rw [← hr84]; omega) (fun j a b => hx4 j a (by omega))
                              refine j_callVi (As := []) (rest := []) (t_X8_steps _ (hM.same hsx (by decide)) (by obtain ⟨v1, v2, v3, v4, v5⟩ := mv_same hsx (by decide); rw [hsx 118 (by decide), hsx 125 (by decide), v1, v5, hx133]; exact hw3)) rfl cm_X8_steps ci_X8_steps ml_X8_214 oq_118 rfl (Nat.le_of_ble_eq_true rfl) (Nat.le_of_ble_eq_true rfl) dX8_becomes_147 (fun r147 S147 hp147 => ?_)
                              obtain ⟨⟨rfl, hc147⟩ | ⟨rfl, hc147⟩, hq147⟩ := hp147
                              · have hs147 : Same [131, 132, 133, 134] S S147 := hsx.tr (hq147.mono (by decide))
                                have h134 : S147 134 = V 134 := hq147 134 (by decide)
                                obtain ⟨v1, v2, v3, v4, v5⟩ := mv_same hsx (by decide)
                                rw [hsx 118 (by decide), hsx 125 (by decide), v1, v5] at hc147
                                have h133 := hx133
                                refine j_istore (L' := [(0, .ref 118), (1, vi s), (2, vi law), (3, vi mk), (4, vi k), (5, vi r84), (6, vi 1), (7, vi r84), (8, vi e)]) dX8_becomes_150 (Nat.le_of_ble_eq_true rfl) rfl ?_
                                refine j_goto (tgt := 77) dX8_becomes_152 (by decide) ?_
                                refine j_iload dX8_becomes_77 rfl ?_
                                refine j_if_eq (tgt := 155) dX8_becomes_79 (by decide) (by omega)  (fun h => absurd h (by decide)) (fun _ => ?_)
                                refine j_sub (L' := [(0, .ref 118), (1, vi s), (2, vi law), (3, vi mk), (4, vi k), (5, vi r84), (6, vi 1)]) (by simp) ?_
                                exact ih82 r84 S147 (msR_lt hp1 (by rw [h133] at hc147; exact hc147) hw3 hm82) ⟨by omega, hs147, by rw [h133] at hc147; exact hc147.ok hw3, by rw [h133] at hc147; rw [h134]; exact hbm.next hw3 hc147⟩
                              · have hs147 : Same [131, 132, 133, 134] S S147 := hsx.tr (hq147.mono (by decide))
                                have h134 : S147 134 = V 134 := hq147 134 (by decide)
                                obtain ⟨v1, v2, v3, v4, v5⟩ := mv_same hsx (by decide)
                                rw [hsx 118 (by decide), hsx 125 (by decide), v1, v5] at hc147
                                have h133 := hx133
                                refine j_istore (L' := [(0, .ref 118), (1, vi s), (2, vi law), (3, vi mk), (4, vi k), (5, vi r84), (6, vi 0), (7, vi r84), (8, vi e)]) dX8_becomes_150 (Nat.le_of_ble_eq_true rfl) rfl ?_
                                refine j_goto (tgt := 77) dX8_becomes_152 (by decide) ?_
                                refine j_iload dX8_becomes_77 rfl ?_
                                refine j_if_eq (tgt := 155) dX8_becomes_79 (by decide) (by omega)  (fun _ => ?_) (fun h => absurd h (by decide))
                                have hfin : BecM (S 118 13) (okC (S 118 13) (S 125 1) (mWh S) (mPl S)) (GoC (S 118 13) (fun k => S 124 (mHd S (s * 6 + k))) (fun k => mAg S (mHd S (s * 6 + k))) (S 124) (mAg S) (S 120) law mk) r84 (cR (S147 134)) := by rw [h133] at hc147; rw [h134]; exact hbm.last hw3 hc147
                                refine j_iload dX8_becomes_155 rfl ?_
                                refine j_bipush dX8_becomes_157 (by decide) ?_
                                refine j_icmp_eq (tgt := 168) dX8_becomes_159 (by decide) (by omega) (by omega) (fun h159 => ?_) (fun h159 => ?_)
                                · refine j_iload dX8_becomes_168 rfl ?_
                                  refine j_goto (tgt := 195) dX8_becomes_170 (by decide) ?_
                                  refine j_top (fun ra era => ?_)
                                  have hans : (if r84 = -9 then -9 else if k = -1 then r84 else if S147 134 k < 0 then -5 else S147 134 k) = ra := by rw [era]; (repeat' split) <;> first | omega | rfl
                                  exact j_iret rfl dX8_becomes_195 (fun h => by cases h) (hP _ _ (Or.inr ⟨by omega, by rw [← hans]; exact hfin.ans, hs147⟩))
                                · refine j_iload dX8_becomes_162 rfl ?_
                                  refine j_iconst dX8_becomes_164 ?_
                                  refine j_icmp_ne (tgt := 173) dX8_becomes_165 (by decide) (by omega) (by omega) (fun h165 => ?_) (fun h165 => ?_)
                                  · refine j_aload_n dX8_becomes_173 rfl ?_
                                    refine j_getR dX8_becomes_174 fg_X8_56 fq_118_29 ?_
                                    refine j_iload dX8_becomes_177 rfl ?_
                                    refine j_iald (x := S147 134 k) dX8_becomes_179 aq_134 (by omega) (by omega) rfl (fun hi179 => ?_)
                                    refine j_if_ge (tgt := 188) dX8_becomes_180 (by decide) (by omega)  (fun h180 => ?_) (fun h180 => ?_)
                                    · refine j_aload_n dX8_becomes_188 rfl ?_
                                      refine j_getR dX8_becomes_189 fg_X8_56 fq_118_29 ?_
                                      refine j_iload dX8_becomes_192 rfl ?_
                                      refine j_iald (x := S147 134 k) dX8_becomes_194 aq_134 (by omega) (by omega) rfl (fun hi194 => ?_)
                                      refine j_top (fun ra era => ?_)
                                      have hans : (if r84 = -9 then -9 else if k = -1 then r84 else if S147 134 k < 0 then -5 else S147 134 k) = ra := by rw [era]; (repeat' split) <;> first | omega | rfl
                                      exact j_iret rfl dX8_becomes_195 (fun h => by cases h) (hP _ _ (Or.inr ⟨by omega, by rw [← hans]; exact hfin.ans, hs147⟩))
                                    · refine j_bipush dX8_becomes_183 (by decide) ?_
                                      refine j_goto (tgt := 195) dX8_becomes_185 (by decide) ?_
                                      refine j_top (fun ra era => ?_)
                                      have hans : (if r84 = -9 then -9 else if k = -1 then r84 else if S147 134 k < 0 then -5 else S147 134 k) = ra := by rw [era]; (repeat' split) <;> first | omega | rfl
                                      exact j_iret rfl dX8_becomes_195 (fun h => by cases h) (hP _ _ (Or.inr ⟨by omega, by rw [← hans]; exact hfin.ans, hs147⟩))
                                  · refine j_iload dX8_becomes_168 rfl ?_
                                    refine j_goto (tgt := 195) dX8_becomes_170 (by decide) ?_
                                    refine j_top (fun ra era => ?_)
                                    have hans : (if r84 = -9 then -9 else if k = -1 then r84 else if S147 134 k < 0 then -5 else S147 134 k) = ra := by rw [era]; (repeat' split) <;> first | omega | rfl
                                    exact j_iret rfl dX8_becomes_195 (fun h => by cases h) (hP _ _ (Or.inr ⟨by omega, by rw [← hans]; exact hfin.ans, hs147⟩))
                            · refine j_aload_n dX8_becomes_126 rfl ?_
                              refine j_getR dX8_becomes_127 fg_X8_56 fq_118_29 ?_
                              refine j_iload dX8_becomes_130 rfl ?_
                              refine j_aload_n dX8_becomes_132 rfl ?_
                              refine j_getR dX8_becomes_133 fg_X8_53 fq_118_28 ?_
                              refine j_iload dX8_becomes_136 rfl ?_
                              refine j_iald (x := U 133 e) dX8_becomes_138 aq_133 (by omega) (by omega) (by rw [hx3 133 (by decide), hsm84 133 (by decide)]) (fun hi138 => ?_)
                              refine j_iast dX8_becomes_139 aq_134 (by omega) (by omega) (by omega) ?_
                              refine j_iinc (L' := [(0, .ref 118), (1, vi s), (2, vi law), (3, vi mk), (4, vi k), (5, vi r84), (6, vi 1), (7, vi r84), (8, vi (e + 1))]) dX8_becomes_140 (Nat.le_of_ble_eq_true rfl) rfl rfl ?_
                              refine j_goto (tgt := 119) dX8_becomes_143 (by decide) ?_
                              exact ih119 (e + 1) (up V 134 e (U 133 e)) (by omega) ⟨by omega, by omega, same_up hx3 (by decide), fun j a b => if q : j = e then by rw [q, up_s] else by rw [up_i q]; exact hx4 j a (by omega)⟩
                        exact lp119 _ 0 S84 (Nat.lt_succ_self _) ⟨by omega, by omega, Same.rf, fun j a b => by omega⟩
                    · refine j_iload dX8_becomes_96 rfl ?_
                      refine j_iload dX8_becomes_98 rfl ?_
                      refine j_icmp_ge (tgt := 146) dX8_becomes_100 (by decide) (by omega) (by omega) (fun h100 => ?_) (fun h100 => ?_)
                      · refine j_aload_n dX8_becomes_146 rfl ?_
                        have hsx : Same [131, 132, 133, 134] S S84 := hw2.tr (hsm84.mono (by decide))
                        have hx133 : S84 133 = U 133 := hsm84 133 (by decide)
                        have hbm : BecM (S 118 13) (DL (S 118 13) (S 125 1) (mWh S) (mPl S) (U 133)) (GoC (S 118 13) (fun k => S 124 (mHd S (s * 6 + k))) (fun k => mAg S (mHd S (s * 6 + k))) (S 124) (mAg S) (S 120) law mk) few (cR (S84 134)) := by rw [show S84 134 = U 134 from hsm84 134 (by decide)]; exact hw4.skip (by omega) (by first | exact Or.inr ⟨by omega, by rw [← hr84]; omega⟩ | exact Or.inl (by unfold GoC; rw [← hw105]; omega))
                        refine j_callVi (As := []) (rest := []) (t_X8_steps _ (hM.same hsx (by decide)) (by obtain ⟨v1, v2, v3, v4, v5⟩ := mv_same hsx (by decide); rw [hsx 118 (by decide), hsx 125 (by decide), v1, v5, hx133]; exact hw3)) rfl cm_X8_steps ci_X8_steps ml_X8_214 oq_118 rfl (Nat.le_of_ble_eq_true rfl) (Nat.le_of_ble_eq_true rfl) dX8_becomes_147 (fun r147 S147 hp147 => ?_)
                        obtain ⟨⟨rfl, hc147⟩ | ⟨rfl, hc147⟩, hq147⟩ := hp147
                        · have hs147 : Same [131, 132, 133, 134] S S147 := hsx.tr (hq147.mono (by decide))
                          have h134 : S147 134 = S84 134 := hq147 134 (by decide)
                          obtain ⟨v1, v2, v3, v4, v5⟩ := mv_same hsx (by decide)
                          rw [hsx 118 (by decide), hsx 125 (by decide), v1, v5] at hc147
                          have h133 := hx133
                          refine j_istore (L' := [(0, .ref 118), (1, vi s), (2, vi law), (3, vi mk), (4, vi k), (5, vi few), (6, vi 1), (7, vi r84)]) dX8_becomes_150 (Nat.le_of_ble_eq_true rfl) rfl ?_
                          refine j_goto (tgt := 77) dX8_becomes_152 (by decide) ?_
                          refine j_iload dX8_becomes_77 rfl ?_
                          refine j_if_eq (tgt := 155) dX8_becomes_79 (by decide) (by omega)  (fun h => absurd h (by decide)) (fun _ => ?_)
                          refine j_sub (L' := [(0, .ref 118), (1, vi s), (2, vi law), (3, vi mk), (4, vi k), (5, vi few), (6, vi 1)]) (by simp) ?_
                          exact ih82 few S147 (msR_lt hp1 (by rw [h133] at hc147; exact hc147) hw3 hm82) ⟨by omega, hs147, by rw [h133] at hc147; exact hc147.ok hw3, by rw [h133] at hc147; rw [h134]; exact hbm.next hw3 hc147⟩
                        · have hs147 : Same [131, 132, 133, 134] S S147 := hsx.tr (hq147.mono (by decide))
                          have h134 : S147 134 = S84 134 := hq147 134 (by decide)
                          obtain ⟨v1, v2, v3, v4, v5⟩ := mv_same hsx (by decide)
                          rw [hsx 118 (by decide), hsx 125 (by decide), v1, v5] at hc147
                          have h133 := hx133
                          refine j_istore (L' := [(0, .ref 118), (1, vi s), (2, vi law), (3, vi mk), (4, vi k), (5, vi few), (6, vi 0), (7, vi r84)]) dX8_becomes_150 (Nat.le_of_ble_eq_true rfl) rfl ?_
                          refine j_goto (tgt := 77) dX8_becomes_152 (by decide) ?_
                          refine j_iload dX8_becomes_77 rfl ?_
                          refine j_if_eq (tgt := 155) dX8_becomes_79 (by decide) (by omega)  (fun _ => ?_) (fun h => absurd h (by decide))
                          have hfin : BecM (S 118 13) (okC (S 118 13) (S 125 1) (mWh S) (mPl S)) (GoC (S 118 13) (fun k => S 124 (mHd S (s * 6 + k))) (fun k => mAg S (mHd S (s * 6 + k))) (S 124) (mAg S) (S 120) law mk) few (cR (S147 134)) := by rw [h133] at hc147; rw [h134]; exact hbm.last hw3 hc147
                          refine j_iload dX8_becomes_155 rfl ?_
                          refine j_bipush dX8_becomes_157 (by decide) ?_
                          refine j_icmp_eq (tgt := 168) dX8_becomes_159 (by decide) (by omega) (by omega) (fun h159 => ?_) (fun h159 => ?_)
                          · refine j_iload dX8_becomes_168 rfl ?_
                            refine j_goto (tgt := 195) dX8_becomes_170 (by decide) ?_
                            refine j_top (fun ra era => ?_)
                            have hans : (if few = -9 then -9 else if k = -1 then few else if S147 134 k < 0 then -5 else S147 134 k) = ra := by rw [era]; (repeat' split) <;> first | omega | rfl
                            exact j_iret rfl dX8_becomes_195 (fun h => by cases h) (hP _ _ (Or.inr ⟨by omega, by rw [← hans]; exact hfin.ans, hs147⟩))
                          · refine j_iload dX8_becomes_162 rfl ?_
                            refine j_iconst dX8_becomes_164 ?_
                            refine j_icmp_ne (tgt := 173) dX8_becomes_165 (by decide) (by omega) (by omega) (fun h165 => ?_) (fun h165 => ?_)
                            · refine j_aload_n dX8_becomes_173 rfl ?_
                              refine j_getR dX8_becomes_174 fg_X8_56 fq_118_29 ?_
                              refine j_iload dX8_becomes_177 rfl ?_
                              refine j_iald (x := S147 134 k) dX8_becomes_179 aq_134 (by omega) (by omega) rfl (fun hi179 => ?_)
                              refine j_if_ge (tgt := 188) dX8_becomes_180 (by decide) (by omega)  (fun h180 => ?_) (fun h180 => ?_)
                              · refine j_aload_n dX8_becomes_188 rfl ?_
                                refine j_getR dX8_becomes_189 fg_X8_56 fq_118_29 ?_
                                refine j_iload dX8_becomes_192 rfl ?_
                                refine j_iald (x := S147 134 k) dX8_becomes_194 aq_134 (by omega) (by omega) rfl (fun hi194 => ?_)
                                refine j_top (fun ra era => ?_)
                                have hans : (if few = -9 then -9 else if k = -1 then few else if S147 134 k < 0 then -5 else S147 134 k) = ra := by rw [era]; (repeat' split) <;> first | omega | rfl
                                exact j_iret rfl dX8_becomes_195 (fun h => by cases h) (hP _ _ (Or.inr ⟨by omega, by rw [← hans]; exact hfin.ans, hs147⟩))
                              · refine j_bipush dX8_becomes_183 (by decide) ?_
                                refine j_goto (tgt := 195) dX8_becomes_185 (by decide) ?_
                                refine j_top (fun ra era => ?_)
                                have hans : (if few = -9 then -9 else if k = -1 then few else if S147 134 k < 0 then -5 else S147 134 k) = ra := by rw [era]; (repeat' split) <;> first | omega | rfl
                                exact j_iret rfl dX8_becomes_195 (fun h => by cases h) (hP _ _ (Or.inr ⟨by omega, by rw [← hans]; exact hfin.ans, hs147⟩))
                            · refine j_iload dX8_becomes_168 rfl ?_
                              refine j_goto (tgt := 195) dX8_becomes_170 (by decide) ?_
                              refine j_top (fun ra era => ?_)
                              have hans : (if few = -9 then -9 else if k = -1 then few else if S147 134 k < 0 then -5 else S147 134 k) = ra := by rw [era]; (repeat' split) <;> first | omega | rfl
                              exact j_iret rfl dX8_becomes_195 (fun h => by cases h) (hP _ _ (Or.inr ⟨by omega, by rw [← hans]; exact hfin.ans, hs147⟩))
                      · refine j_aload_n dX8_becomes_103 rfl ?_
                        refine j_iload_n dX8_becomes_104 rfl ?_
                        have hrowmk : ∀ j, 0 ≤ j → j < S 118 13 → isMk (rowF (fun k => S 124 (mHd S (s * 6 + k))) (S 124) (cR (U 133)) j) := fun j a b => by
                          rcases hw3 j a b with z | z
                          · rw [rowF_n (by omega)]; have g := hhd s j (by omega) (by omega) a b; exact (hpt _ g.1 g.2).2.1
                          · rw [rowF_p z.1.1]; exact (hpt _ z.1.1 z.1.2).2.1
                        refine j_callVi (As := [vi law]) (rest := []) (t_X8_isBy _ law (by rw [eS84_118]; exact hn0) (by rw [eS84_118]; exact hn1) (by rw [eS84_120]; exact hwt) (by rw [eS84_118]; intro j a b; rw [(hl84 j a b).1]; exact hrowmk j a b) (by omega) (by omega)) rfl cm_X8_isBy ci_X8_isBy ml_X8_181 oq_118 rfl (Nat.le_of_ble_eq_true rfl) (Nat.le_of_ble_eq_true rfl) dX8_becomes_105 (fun r105 S105 hp105 => ?_)
                        obtain ⟨hr105, he105⟩ := hp105
                        rw [he105]
                        have hw105 : r105 = who (S 118 13) (rowF (fun k => S 124 (mHd S (s * 6 + k))) (S 124) (cR (U 133))) (rowF (fun k => mAg S (mHd S (s * 6 + k))) (mAg S) (cR (U 133))) (S 120) law := by rw [hr105, eS84_118, eS84_120]; exact who_congr (by omega) (fun j a b => ⟨(hl84 j a b).1, (hl84 j a b).2, rfl⟩)
                        have hwb105 := who_bd (n := S 118 13) (mk := rowF (fun k => S 124 (mHd S (s * 6 + k))) (S 124) (cR (U 133))) (ag := rowF (fun k => mAg S (mHd S (s * 6 + k))) (mAg S) (cR (U 133))) (wt := S 120) (law := law) (by omega) hrowmk
                        rw [← hw105] at hwb105
                        refine j_iload_n dX8_becomes_108 rfl ?_
                        refine j_icmp_ne (tgt := 146) dX8_becomes_109 (by decide) (by omega) (by omega) (fun h109 => ?_) (fun h109 => ?_)
                        · refine j_aload_n dX8_becomes_146 rfl ?_
                          have hsx : Same [131, 132, 133, 134] S S84 := hw2.tr (hsm84.mono (by decide))
                          have hx133 : S84 133 = U 133 := hsm84 133 (by decide)
                          have hbm : BecM (S 118 13) (DL (S 118 13) (S 125 1) (mWh S) (mPl S) (U 133)) (GoC (S 118 13) (fun k => S 124 (mHd S (s * 6 + k))) (fun k => mAg S (mHd S (s * 6 + k))) (S 124) (mAg S) (S 120) law mk) few (cR (S84 134)) := by rw [show S84 134 = U 134 from hsm84 134 (by decide)]; exact hw4.skip (by omega) (by first | exact Or.inr ⟨by omega, by rw [← hr84]; omega⟩ | exact Or.inl (by unfold GoC; rw [← hw105]; omega))
                          refine j_callVi (As := []) (rest := []) (t_X8_steps _ (hM.same hsx (by decide)) (by obtain ⟨v1, v2, v3, v4, v5⟩ := mv_same hsx (by decide); rw [hsx 118 (by decide), hsx 125 (by decide), v1, v5, hx133]; exact hw3)) rfl cm_X8_steps ci_X8_steps ml_X8_214 oq_118 rfl (Nat.le_of_ble_eq_true rfl) (Nat.le_of_ble_eq_true rfl) dX8_becomes_147 (fun r147 S147 hp147 => ?_)
                          obtain ⟨⟨rfl, hc147⟩ | ⟨rfl, hc147⟩, hq147⟩ := hp147
                          · have hs147 : Same [131, 132, 133, 134] S S147 := hsx.tr (hq147.mono (by decide))
                            have h134 : S147 134 = S84 134 := hq147 134 (by decide)
                            obtain ⟨v1, v2, v3, v4, v5⟩ := mv_same hsx (by decide)
                            rw [hsx 118 (by decide), hsx 125 (by decide), v1, v5] at hc147
                            have h133 := hx133
                            refine j_istore (L' := [(0, .ref 118), (1, vi s), (2, vi law), (3, vi mk), (4, vi k), (5, vi few), (6, vi 1), (7, vi r84)]) dX8_becomes_150 (Nat.le_of_ble_eq_true rfl) rfl ?_
                            refine j_goto (tgt := 77) dX8_becomes_152 (by decide) ?_
                            refine j_iload dX8_becomes_77 rfl ?_
                            refine j_if_eq (tgt := 155) dX8_becomes_79 (by decide) (by omega)  (fun h => absurd h (by decide)) (fun _ => ?_)
                            refine j_sub (L' := [(0, .ref 118), (1, vi s), (2, vi law), (3, vi mk), (4, vi k), (5, vi few), (6, vi 1)]) (by simp) ?_
                            exact ih82 few S147 (msR_lt hp1 (by rw [h133] at hc147; exact hc147) hw3 hm82) ⟨by omega, hs147, by rw [h133] at hc147; exact hc147.ok hw3, by rw [h133] at hc147; rw [h134]; exact hbm.next hw3 hc147⟩
                          · have hs147 : Same [131, 132, 133, 134] S S147 := hsx.tr (hq147.mono (by decide))
                            have h134 : S147 134 = S84 134 := hq147 134 (by decide)
                            obtain ⟨v1, v2, v3, v4, v5⟩ := mv_same hsx (by decide)
                            rw [hsx 118 (by decide), hsx 125 (by decide), v1, v5] at hc147
                            have h133 := hx133
                            refine j_istore (L' := [(0, .ref 118), (1, vi s), (2, vi law), (3, vi mk), (4, vi k), (5, vi few), (6, vi 0), (7, vi r84)]) dX8_becomes_150 (Nat.le_of_ble_eq_true rfl) rfl ?_
                            refine j_goto (tgt := 77) dX8_becomes_152 (by decide) ?_
                            refine j_iload dX8_becomes_77 rfl ?_
                            refine j_if_eq (tgt := 155) dX8_becomes_79 (by decide) (by omega)  (fun _ => ?_) (fun h => absurd h (by decide))
                            have hfin : BecM (S 118 13) (okC (S 118 13) (S 125 1) (mWh S) (mPl S)) (GoC (S 118 13) (fun k => S 124 (mHd S (s * 6 + k))) (fun k => mAg S (mHd S (s * 6 + k))) (S 124) (mAg S) (S 120) law mk) few (cR (S147 134)) := by rw [h133] at hc147; rw [h134]; exact hbm.last hw3 hc147
                            refine j_iload dX8_becomes_155 rfl ?_
                            refine j_bipush dX8_becomes_157 (by decide) ?_
                            refine j_icmp_eq (tgt := 168) dX8_becomes_159 (by decide) (by omega) (by omega) (fun h159 => ?_) (fun h159 => ?_)
                            · refine j_iload dX8_becomes_168 rfl ?_
                              refine j_goto (tgt := 195) dX8_becomes_170 (by decide) ?_
                              refine j_top (fun ra era => ?_)
                              have hans : (if few = -9 then -9 else if k = -1 then few else if S147 134 k < 0 then -5 else S147 134 k) = ra := by rw [era]; (repeat' split) <;> first | omega | rfl
                              exact j_iret rfl dX8_becomes_195 (fun h => by cases h) (hP _ _ (Or.inr ⟨by omega, by rw [← hans]; exact hfin.ans, hs147⟩))
                            · refine j_iload dX8_becomes_162 rfl ?_
                              refine j_iconst dX8_becomes_164 ?_
                              refine j_icmp_ne (tgt := 173) dX8_becomes_165 (by decide) (by omega) (by omega) (fun h165 => ?_) (fun h165 => ?_)
                              · refine j_aload_n dX8_becomes_173 rfl ?_
                                refine j_getR dX8_becomes_174 fg_X8_56 fq_118_29 ?_
                                refine j_iload dX8_becomes_177 rfl ?_
                                refine j_iald (x := S147 134 k) dX8_becomes_179 aq_134 (by omega) (by omega) rfl (fun hi179 => ?_)
                                refine j_if_ge (tgt := 188) dX8_becomes_180 (by decide) (by omega)  (fun h180 => ?_) (fun h180 => ?_)
                                · refine j_aload_n dX8_becomes_188 rfl ?_
                                  refine j_getR dX8_becomes_189 fg_X8_56 fq_118_29 ?_
                                  refine j_iload dX8_becomes_192 rfl ?_
                                  refine j_iald (x := S147 134 k) dX8_becomes_194 aq_134 (by omega) (by omega) rfl (fun hi194 => ?_)
                                  refine j_top (fun ra era => ?_)
                                  have hans : (if few = -9 then -9 else if k = -1 then few else if S147 134 k < 0 then -5 else S147 134 k) = ra := by rw [era]; (repeat' split) <;> first | omega | rfl
                                  exact j_iret rfl dX8_becomes_195 (fun h => by cases h) (hP _ _ (Or.inr ⟨by omega, by rw [← hans]; exact hfin.ans, hs147⟩))
                                · refine j_bipush dX8_becomes_183 (by decide) ?_
                                  refine j_goto (tgt := 195) dX8_becomes_185 (by decide) ?_
                                  refine j_top (fun ra era => ?_)
                                  have hans : (if few = -9 then -9 else if k = -1 then few else if S147 134 k < 0 then -5 else S147 134 k) = ra := by rw [era]; (repeat' split) <;> first | omega | rfl
                                  exact j_iret rfl dX8_becomes_195 (fun h => by cases h) (hP _ _ (Or.inr ⟨by omega, by rw [← hans]; exact hfin.ans, hs147⟩))
                              · refine j_iload dX8_becomes_168 rfl ?_
                                refine j_goto (tgt := 195) dX8_becomes_170 (by decide) ?_
                                refine j_top (fun ra era => ?_)
                                have hans : (if few = -9 then -9 else if k = -1 then few else if S147 134 k < 0 then -5 else S147 134 k) = ra := by rw [era]; (repeat' split) <;> first | omega | rfl
                                exact j_iret rfl dX8_becomes_195 (fun h => by cases h) (hP _ _ (Or.inr ⟨by omega, by rw [← hans]; exact hfin.ans, hs147⟩))
                        · refine j_iload dX8_becomes_112 rfl ?_
                          refine j_istore (L' := [(0, .ref 118), (1, vi s), (2, vi law), (3, vi mk), (4, vi k), (5, vi r84), (6, vi 1), (7, vi r84)]) dX8_becomes_114 (Nat.le_of_ble_eq_true rfl) rfl ?_
                          refine j_iconst dX8_becomes_116 ?_
                          refine j_istore (L' := [(0, .ref 118), (1, vi s), (2, vi law), (3, vi mk), (4, vi k), (5, vi r84), (6, vi 1), (7, vi r84), (8, vi 0)]) dX8_becomes_117 (Nat.le_of_ble_eq_true rfl) rfl ?_
                          have lp119 : ∀ (n : Nat) (e : Int) (V : St), (6 - e).toNat < n → (0 ≤ e ∧ e ≤ 6 ∧ Same [134] S84 V ∧ ∀ j, 0 ≤ j → j < e → V 134 j = U 133 j) → JJ mX8_becomes (RX mX8_becomes P) 119 [(0, .ref 118), (1, vi s), (2, vi law), (3, vi mk), (4, vi k), (5, vi r84), (6, vi 1), (7, vi r84), (8, vi e)] [] V := by
                            intro n
                            induction n with
                            | zero => intro e V hm; exact absurd hm (Nat.not_lt_zero _)
                            | succ n ih119 =>
                              intro e V hm119 hv119
                              obtain ⟨hx1, hx2, hx3, hx4⟩ := hv119
                              have eV_118 : V 118 = S84 118 := hx3 118 (by decide)
                              have eV_119 : V 119 = S84 119 := hx3 119 (by decide)
                              have eV_120 : V 120 = S84 120 := hx3 120 (by decide)
                              have eV_121 : V 121 = S84 121 := hx3 121 (by decide)
                              have eV_124 : V 124 = S84 124 := hx3 124 (by decide)
                              have eV_125 : V 125 = S84 125 := hx3 125 (by decide)
                              have eV_126 : V 126 = S84 126 := hx3 126 (by decide)
                              have eV_127 : V 127 = S84 127 := hx3 127 (by decide)
                              have eV_128 : V 128 = S84 128 := hx3 128 (by decide)
                              have eV_129 : V 129 = S84 129 := hx3 129 (by decide)
                              have eV_130 : V 130 = S84 130 := hx3 130 (by decide)
                              have eV_133 : V 133 = S84 133 := hx3 133 (by decide)
                              refine j_iload dX8_becomes_119 rfl ?_
                              refine j_bipush dX8_becomes_121 (by decide) ?_
                              refine j_icmp_ge (tgt := 146) dX8_becomes_123 (by decide) (by omega) (by omega) (fun h123 => ?_) (fun h123 => ?_)
                              · refine j_aload_n dX8_becomes_146 rfl ?_
                                have hsx : Same [131, 132, 133, 134] S V := (hw2.tr (hsm84.mono (by decide))).tr (hx3.mono (by decide))
                                have hx133 : V 133 = U 133 := by rw [hx3 133 (by decide), hsm84 133 (by decide)]
                                have hbm : BecM (S 118 13) (DL (S 118 13) (S 125 1) (mWh S) (mPl S) (U 133)) (GoC (S 118 13) (fun k => S 124 (mHd S (s * 6 + k))) (fun k => mAg S (mHd S (s * 6 + k))) (S 124) (mAg S) (S 120) law mk) r84 (cR (V 134)) := by rw [hr84]; exact hw4.take (by omega) hw3 (by unfold GoC; rw [← hw105]; omega) (by rw [← hr84]; omega) (fun j a b => hx4 j a (by omega))
                                refine j_callVi (As := []) (rest := []) (t_X8_steps _ (hM.same hsx (by decide)) (by obtain ⟨v1, v2, v3, v4, v5⟩ := mv_same hsx (by decide); rw [hsx 118 (by decide), hsx 125 (by decide), v1, v5, hx133]; exact hw3)) rfl cm_X8_steps ci_X8_steps ml_X8_214 oq_118 rfl (Nat.le_of_ble_eq_true rfl) (Nat.le_of_ble_eq_true rfl) dX8_becomes_147 (fun r147 S147 hp147 => ?_)
                                obtain ⟨⟨rfl, hc147⟩ | ⟨rfl, hc147⟩, hq147⟩ := hp147
                                · have hs147 : Same [131, 132, 133, 134] S S147 := hsx.tr (hq147.mono (by decide))
                                  have h134 : S147 134 = V 134 := hq147 134 (by decide)
                                  obtain ⟨v1, v2, v3, v4, v5⟩ := mv_same hsx (by decide)
                                  rw [hsx 118 (by decide), hsx 125 (by decide), v1, v5] at hc147
                                  have h133 := hx133
                                  refine j_istore (L' := [(0, .ref 118), (1, vi s), (2, vi law), (3, vi mk), (4, vi k), (5, vi r84), (6, vi 1), (7, vi r84), (8, vi e)]) dX8_becomes_150 (Nat.le_of_ble_eq_true rfl) rfl ?_
                                  refine j_goto (tgt := 77) dX8_becomes_152 (by decide) ?_
                                  refine j_iload dX8_becomes_77 rfl ?_
                                  refine j_if_eq (tgt := 155) dX8_becomes_79 (by decide) (by omega)  (fun h => absurd h (by decide)) (fun _ => ?_)
                                  refine j_sub (L' := [(0, .ref 118), (1, vi s), (2, vi law), (3, vi mk), (4, vi k), (5, vi r84), (6, vi 1)]) (by simp) ?_
                                  exact ih82 r84 S147 (msR_lt hp1 (by rw [h133] at hc147; exact hc147) hw3 hm82) ⟨by omega, hs147, by rw [h133] at hc147; exact hc147.ok hw3, by rw [h133] at hc147; rw [h134]; exact hbm.next hw3 hc147⟩
                                · have hs147 : Same [131, 132, 133, 134] S S147 := hsx.tr (hq147.mono (by decide))
                                  have h134 : S147 134 = V 134 := hq147 134 (by decide)
                                  obtain ⟨v1, v2, v3, v4, v5⟩ := mv_same hsx (by decide)
                                  rw [hsx 118 (by decide), hsx 125 (by decide), v1, v5] at hc147
                                  have h133 := hx133
                                  refine j_istore (L' := [(0, .ref 118), (1, vi s), (2, vi law), (3, vi mk), (4, vi k), (5, vi r84), (6, vi 0), (7, vi r84), (8, vi e)]) dX8_becomes_150 (Nat.le_of_ble_eq_true rfl) rfl ?_
                                  refine j_goto (tgt := 77) dX8_becomes_152 (by decide) ?_
                                  refine j_iload dX8_becomes_77 rfl ?_
                                  refine j_if_eq (tgt := 155) dX8_becomes_79 (by decide) (by omega)  (fun _ => ?_) (fun h => absurd h (by decide))
                                  have hfin : BecM (S 118 13) (okC (S 118 13) (S 125 1) (mWh S) (mPl S)) (GoC (S 118 13) (fun k => S 124 (mHd S (s * 6 + k))) (fun k => mAg S (mHd S (s * 6 + k))) (S 124) (mAg S) (S 120) law mk) r84 (cR (S147 134)) := by rw [h133] at hc147; rw [h134]; exact hbm.last hw3 hc147
                                  refine j_iload dX8_becomes_155 rfl ?_
                                  refine j_bipush dX8_becomes_157 (by decide) ?_
                                  refine j_icmp_eq (tgt := 168) dX8_becomes_159 (by decide) (by omega) (by omega) (fun h159 => ?_) (fun h159 => ?_)
                                  · refine j_iload dX8_becomes_168 rfl ?_
                                    refine j_goto (tgt := 195) dX8_becomes_170 (by decide) ?_
                                    refine j_top (fun ra era => ?_)
                                    have hans : (if r84 = -9 then -9 else if k = -1 then r84 else if S147 134 k < 0 then -5 else S147 134 k) = ra := by rw [era]; (repeat' split) <;> first | omega | rfl
                                    exact j_iret rfl dX8_becomes_195 (fun h => by cases h) (hP _ _ (Or.inr ⟨by omega, by rw [← hans]; exact hfin.ans, hs147⟩))
                                  · refine j_iload dX8_becomes_162 rfl ?_
                                    refine j_iconst dX8_becomes_164 ?_
                                    refine j_icmp_ne (tgt := 173) dX8_becomes_165 (by decide) (by omega) (by omega) (fun h165 => ?_) (fun h165 => ?_)
                                    · refine j_aload_n dX8_becomes_173 rfl ?_
                                      refine j_getR dX8_becomes_174 fg_X8_56 fq_118_29 ?_
                                      refine j_iload dX8_becomes_177 rfl ?_
                                      refine j_iald (x := S147 134 k) dX8_becomes_179 aq_134 (by omega) (by omega) rfl (fun hi179 => ?_)
                                      refine j_if_ge (tgt := 188) dX8_becomes_180 (by decide) (by omega)  (fun h180 => ?_) (fun h180 => ?_)
                                      · refine j_aload_n dX8_becomes_188 rfl ?_
                                        refine j_getR dX8_becomes_189 fg_X8_56 fq_118_29 ?_
                                        refine j_iload dX8_becomes_192 rfl ?_
                                        refine j_iald (x := S147 134 k) dX8_becomes_194 aq_134 (by omega) (by omega) rfl (fun hi194 => ?_)
                                        refine j_top (fun ra era => ?_)
                                        have hans : (if r84 = -9 then -9 else if k = -1 then r84 else if S147 134 k < 0 then -5 else S147 134 k) = ra := by rw [era]; (repeat' split) <;> first | omega | rfl
                                        exact j_iret rfl dX8_becomes_195 (fun h => by cases h) (hP _ _ (Or.inr ⟨by omega, by rw [← hans]; exact hfin.ans, hs147⟩))
                                      · refine j_bipush dX8_becomes_183 (by decide) ?_
                                        refine j_goto (tgt := 195) dX8_becomes_185 (by decide) ?_
                                        refine j_top (fun ra era => ?_)
                                        have hans : (if r84 = -9 then -9 else if k = -1 then r84 else if S147 134 k < 0 then -5 else S147 134 k) = ra := by rw [era]; (repeat' split) <;> first | omega | rfl
                                        exact j_iret rfl dX8_becomes_195 (fun h => by cases h) (hP _ _ (Or.inr ⟨by omega, by rw [← hans]; exact hfin.ans, hs147⟩))
                                    · refine j_iload dX8_becomes_168 rfl ?_
                                      refine j_goto (tgt := 195) dX8_becomes_170 (by decide) ?_
                                      refine j_top (fun ra era => ?_)
                                      have hans : (if r84 = -9 then -9 else if k = -1 then r84 else if S147 134 k < 0 then -5 else S147 134 k) = ra := by rw [era]; (repeat' split) <;> first | omega | rfl
                                      exact j_iret rfl dX8_becomes_195 (fun h => by cases h) (hP _ _ (Or.inr ⟨by omega, by rw [← hans]; exact hfin.ans, hs147⟩))
                              · refine j_aload_n dX8_becomes_126 rfl ?_
                                refine j_getR dX8_becomes_127 fg_X8_56 fq_118_29 ?_
                                refine j_iload dX8_becomes_130 rfl ?_
                                refine j_aload_n dX8_becomes_132 rfl ?_
                                refine j_getR dX8_becomes_133 fg_X8_53 fq_118_28 ?_
                                refine j_iload dX8_becomes_136 rfl ?_
                                refine j_iald (x := U 133 e) dX8_becomes_138 aq_133 (by omega) (by omega) (by rw [hx3 133 (by decide), hsm84 133 (by decide)]) (fun hi138 => ?_)
                                refine j_iast dX8_becomes_139 aq_134 (by omega) (by omega) (by omega) ?_
                                refine j_iinc (L' := [(0, .ref 118), (1, vi s), (2, vi law), (3, vi mk), (4, vi k), (5, vi r84), (6, vi 1), (7, vi r84), (8, vi (e + 1))]) dX8_becomes_140 (Nat.le_of_ble_eq_true rfl) rfl rfl ?_
                                refine j_goto (tgt := 119) dX8_becomes_143 (by decide) ?_
                                exact ih119 (e + 1) (up V 134 e (U 133 e)) (by omega) ⟨by omega, by omega, same_up hx3 (by decide), fun j a b => if q : j = e then by rw [q, up_s] else by rw [up_i q]; exact hx4 j a (by omega)⟩
                          exact lp119 _ 0 S84 (Nat.lt_succ_self _) ⟨by omega, by omega, Same.rf, fun j a b => by omega⟩
                exact lp82 _ (-9) T (Nat.lt_succ_self _) ⟨by omega, hv3, fun j a b => Or.inl (hv4 j a (by omega)), BecM.start (fun j a b => hv4 j a (by omega))⟩
              · refine j_aload_n dX8_becomes_56 rfl ?_
                refine j_getR dX8_becomes_57 fg_X8_53 fq_118_28 ?_
                refine j_iload dX8_becomes_60 rfl ?_
                refine j_iconst dX8_becomes_62 ?_
                refine j_iast dX8_becomes_63 aq_133 (by omega) (by omega) (by omega) ?_
                refine j_iinc (L' := [(0, .ref 118), (1, vi s), (2, vi law), (3, vi mk), (4, vi k), (5, vi (e + 1))]) dX8_becomes_64 (Nat.le_of_ble_eq_true rfl) rfl rfl ?_
                refine j_goto (tgt := 49) dX8_becomes_67 (by decide) ?_
                exact ih49 (e + 1) (up T 133 e (-1)) (by omega) ⟨by omega, by omega, same_up hv3 (by decide), fun j a b => if q : j = e then by rw [q, up_s] else by rw [up_i q]; exact hv4 j a (by omega)⟩
          exact lp49 _ 0 S (Nat.lt_succ_self _) ⟨by omega, by omega, Same.rf, fun j a b => by omega⟩
        · refine j_aload_n dX8_becomes_35 rfl ?_
          refine j_iload dX8_becomes_36 rfl ?_
          refine j_callVi (As := [vi k]) (rest := []) (t_X8_isPlace _ k (by omega) (by omega)) rfl cm_X8_isPlace ci_X8_isPlace ml_X8_150 oq_118 rfl (Nat.le_of_ble_eq_true rfl) (Nat.le_of_ble_eq_true rfl) dX8_becomes_38 (fun r38 S38 hp38 => ?_)
          obtain ⟨⟨rfl, hc38⟩ | ⟨rfl, hc38⟩, he38⟩ := hp38
          · rw [he38]
            refine j_if_ne (tgt := 46) dX8_becomes_41 (by decide) (by omega)  (fun _ => ?_) (fun h => absurd h (by decide))
            refine j_iconst dX8_becomes_46 ?_
            refine j_istore (L' := [(0, .ref 118), (1, vi s), (2, vi law), (3, vi mk), (4, vi k), (5, vi 0)]) dX8_becomes_47 (Nat.le_of_ble_eq_true rfl) rfl ?_
            have lp49 : ∀ (n : Nat) (e : Int) (T : St), (6 - e).toNat < n → (0 ≤ e ∧ e ≤ 6 ∧ Same [131, 132, 133, 134] S T ∧ ∀ j, 0 ≤ j → j < e → T 133 j = -1) → JJ mX8_becomes (RX mX8_becomes P) 49 [(0, .ref 118), (1, vi s), (2, vi law), (3, vi mk), (4, vi k), (5, vi e)] [] T := by
              intro n
              induction n with
              | zero => intro e T hm; exact absurd hm (Nat.not_lt_zero _)
              | succ n ih49 =>
                intro e T hm49 hv49
                obtain ⟨hv1, hv2, hv3, hv4⟩ := hv49
                have eT_118 : T 118 = S 118 := hv3 118 (by decide)
                have eT_119 : T 119 = S 119 := hv3 119 (by decide)
                have eT_120 : T 120 = S 120 := hv3 120 (by decide)
                have eT_121 : T 121 = S 121 := hv3 121 (by decide)
                have eT_124 : T 124 = S 124 := hv3 124 (by decide)
                have eT_125 : T 125 = S 125 := hv3 125 (by decide)
                have eT_126 : T 126 = S 126 := hv3 126 (by decide)
                have eT_127 : T 127 = S 127 := hv3 127 (by decide)
                have eT_128 : T 128 = S 128 := hv3 128 (by decide)
                have eT_129 : T 129 = S 129 := hv3 129 (by decide)
                have eT_130 : T 130 = S 130 := hv3 130 (by decide)
                refine j_iload dX8_becomes_49 rfl ?_
                refine j_bipush dX8_becomes_51 (by decide) ?_
                refine j_icmp_ge (tgt := 70) dX8_becomes_53 (by decide) (by omega) (by omega) (fun h53 => ?_) (fun h53 => ?_)
                · refine j_bipush dX8_becomes_70 (by decide) ?_
                  refine j_istore (L' := [(0, .ref 118), (1, vi s), (2, vi law), (3, vi mk), (4, vi k), (5, vi (-9))]) dX8_becomes_72 (Nat.le_of_ble_eq_true rfl) rfl ?_
                  refine j_iconst dX8_becomes_74 ?_
                  refine j_istore (L' := [(0, .ref 118), (1, vi s), (2, vi law), (3, vi mk), (4, vi k), (5, vi (-9)), (6, vi 1)]) dX8_becomes_75 (Nat.le_of_ble_eq_true rfl) rfl ?_
                  refine j_iload dX8_becomes_77 rfl ?_
                  refine j_if_eq (tgt := 155) dX8_becomes_79 (by decide) (by omega)  (fun h => absurd h (by decide)) (fun _ => ?_)
                  have lp82 : ∀ (n : Nat) (few : Int) (U : St), msR (S 118 13) (U 133) < n → (InR few ∧ Same [131, 132, 133, 134] S U ∧ okR (S 118 13) (S 125 1) (mWh S) (mPl S) (U 133) ∧ BecM (S 118 13) (DM (S 118 13) (S 125 1) (mWh S) (mPl S) (U 133)) (GoC (S 118 13) (fun k => S 124 (mHd S (s * 6 + k))) (fun k => mAg S (mHd S (s * 6 + k))) (S 124) (mAg S) (S 120) law mk) few (cR (U 134))) → JJ mX8_becomes (RX mX8_becomes P) 82 [(0, .ref 118), (1, vi s), (2, vi law), (3, vi mk), (4, vi k), (5, vi few), (6, vi 1)] [] U := by
                    intro n
                    induction n with
                    | zero => intro few U hm; exact absurd hm (Nat.not_lt_zero _)
                    | succ n ih82 =>
                      intro few U hm82 hv82
                      obtain ⟨hw1, hw2, hw3, hw4⟩ := hv82
                      have eU_118 : U 118 = S 118 := hw2 118 (by decide)
                      have eU_119 : U 119 = S 119 := hw2 119 (by decide)
                      have eU_120 : U 120 = S 120 := hw2 120 (by decide)
                      have eU_121 : U 121 = S 121 := hw2 121 (by decide)
                      have eU_124 : U 124 = S 124 := hw2 124 (by decide)
                      have eU_125 : U 125 = S 125 := hw2 125 (by decide)
                      have eU_126 : U 126 = S 126 := hw2 126 (by decide)
                      have eU_127 : U 127 = S 127 := hw2 127 (by decide)
                      have eU_128 : U 128 = S 128 := hw2 128 (by decide)
                      have eU_129 : U 129 = S 129 := hw2 129 (by decide)
                      have eU_130 : U 130 = S 130 := hw2 130 (by decide)
                      refine j_aload_n dX8_becomes_82 rfl ?_
                      refine j_iload_n dX8_becomes_83 rfl ?_
                      refine j_callVi (As := [vi s]) (rest := []) (t_X8_putsRow _ s (hM.same hw2 (by decide)) (by omega) (by rw [hw2 125 (by decide)]; omega) (by obtain ⟨v1, v2, v3, v4, v5⟩ := mv_same hw2 (by decide); rw [hw2 118 (by decide), hw2 125 (by decide), v1, v5]; exact hw3)) rfl cm_X8_putsRow ci_X8_putsRow ml_X8_211 oq_118 rfl (Nat.le_of_ble_eq_true rfl) (Nat.le_of_ble_eq_true rfl) dX8_becomes_84 (fun r84 S84 hp84 => ?_)
                      obtain ⟨hr84, hsm84, hl84⟩ := hp84
                      obtain ⟨v1, v2, v3, v4, v5⟩ := mv_same hw2 (by decide)
                      rw [hw2 118 (by decide)] at hr84
                      rw [hw2 118 (by decide), hw2 124 (by decide), v2, v3] at hl84
                      have hcb := cnC_bd (S 118 13) (by omega) (cR (U 133))
                      rw [← hr84] at hcb
                      have eS84_118 : S84 118 = S 118 := (hsm84 118 (by decide)).trans eU_118
                      have eS84_119 : S84 119 = S 119 := (hsm84 119 (by decide)).trans eU_119
                      have eS84_120 : S84 120 = S 120 := (hsm84 120 (by decide)).trans eU_120
                      have eS84_121 : S84 121 = S 121 := (hsm84 121 (by decide)).trans eU_121
                      have eS84_124 : S84 124 = S 124 := (hsm84 124 (by decide)).trans eU_124
                      have eS84_125 : S84 125 = S 125 := (hsm84 125 (by decide)).trans eU_125
                      have eS84_126 : S84 126 = S 126 := (hsm84 126 (by decide)).trans eU_126
                      have eS84_127 : S84 127 = S 127 := (hsm84 127 (by decide)).trans eU_127
                      have eS84_128 : S84 128 = S 128 := (hsm84 128 (by decide)).trans eU_128
                      have eS84_129 : S84 129 = S 129 := (hsm84 129 (by decide)).trans eU_129
                      have eS84_130 : S84 130 = S 130 := (hsm84 130 (by decide)).trans eU_130
                      have eS84_133 : S84 133 = U 133 := hsm84 133 (by decide)
                      have eS84_134 : S84 134 = U 134 := hsm84 134 (by decide)
                      refine j_istore (L' := [(0, .ref 118), (1, vi s), (2, vi law), (3, vi mk), (4, vi k), (5, vi few), (6, vi 1), (7, vi r84)]) dX8_becomes_87 (Nat.le_of_ble_eq_true rfl) rfl ?_
                      refine j_iload dX8_becomes_89 rfl ?_
                      refine j_bipush dX8_becomes_91 (by decide) ?_
                      refine j_icmp_eq (tgt := 103) dX8_becomes_93 (by decide) (by omega) (by omega) (fun h93 => ?_) (fun h93 => ?_)
                      · refine j_aload_n dX8_becomes_103 rfl ?_
                        refine j_iload_n dX8_becomes_104 rfl ?_
                        have hrowmk : ∀ j, 0 ≤ j → j < S 118 13 → isMk (rowF (fun k => S 124 (mHd S (s * 6 + k))) (S 124) (cR (U 133)) j) := fun j a b => by
                          rcases hw3 j a b with z | z
                          · rw [rowF_n (by omega)]; have g := hhd s j (by omega) (by omega) a b; exact (hpt _ g.1 g.2).2.1
                          · rw [rowF_p z.1.1]; exact (hpt _ z.1.1 z.1.2).2.1
                        refine j_callVi (As := [vi law]) (rest := []) (t_X8_isBy _ law (by rw [eS84_118]; exact hn0) (by rw [eS84_118]; exact hn1) (by rw [eS84_120]; exact hwt) (by rw [eS84_118]; intro j a b; rw [(hl84 j a b).1]; exact hrowmk j a b) (by omega) (by omega)) rfl cm_X8_isBy ci_X8_isBy ml_X8_181 oq_118 rfl (Nat.le_of_ble_eq_true rfl) (Nat.le_of_ble_eq_true rfl) dX8_becomes_105 (fun r105 S105 hp105 => ?_)
                        obtain ⟨hr105, he105⟩ := hp105
                        rw [he105]
                        have hw105 : r105 = who (S 118 13) (rowF (fun k => S 124 (mHd S (s * 6 + k))) (S 124) (cR (U 133))) (rowF (fun k => mAg S (mHd S (s * 6 + k))) (mAg S) (cR (U 133))) (S 120) law := by rw [hr105, eS84_118, eS84_120]; exact who_congr (by omega) (fun j a b => ⟨(hl84 j a b).1, (hl84 j a b).2, rfl⟩)
                        have hwb105 := who_bd (n := S 118 13) (mk := rowF (fun k => S 124 (mHd S (s * 6 + k))) (S 124) (cR (U 133))) (ag := rowF (fun k => mAg S (mHd S (s * 6 + k))) (mAg S) (cR (U 133))) (wt := S 120) (law := law) (by omega) hrowmk
                        rw [← hw105] at hwb105
                        refine j_iload_n dX8_becomes_108 rfl ?_
                        refine j_icmp_ne (tgt := 146) dX8_becomes_109 (by decide) (by omega) (by omega) (fun h109 => ?_) (fun h109 => ?_)
                        · refine j_aload_n dX8_becomes_146 rfl ?_
                          have hsx : Same [131, 132, 133, 134] S S84 := hw2.tr (hsm84.mono (by decide))
                          have hx133 : S84 133 = U 133 := hsm84 133 (by decide)
                          have hbm : BecM (S 118 13) (DL (S 118 13) (S 125 1) (mWh S) (mPl S) (U 133)) (GoC (S 118 13) (fun k => S 124 (mHd S (s * 6 + k))) (fun k => mAg S (mHd S (s * 6 + k))) (S 124) (mAg S) (S 120) law mk) few (cR (S84 134)) := by rw [show S84 134 = U 134 from hsm84 134 (by decide)]; exact hw4.skip (by omega) (by first | exact Or.inr ⟨by omega, by rw [← hr84]; omega⟩ | exact Or.inl (by unfold GoC; rw [← hw105]; omega))
                          refine j_callVi (As := []) (rest := []) (t_X8_steps _ (hM.same hsx (by decide)) (by obtain ⟨v1, v2, v3, v4, v5⟩ := mv_same hsx (by decide); rw [hsx 118 (by decide), hsx 125 (by decide), v1, v5, hx133]; exact hw3)) rfl cm_X8_steps ci_X8_steps ml_X8_214 oq_118 rfl (Nat.le_of_ble_eq_true rfl) (Nat.le_of_ble_eq_true rfl) dX8_becomes_147 (fun r147 S147 hp147 => ?_)
                          obtain ⟨⟨rfl, hc147⟩ | ⟨rfl, hc147⟩, hq147⟩ := hp147
                          · have hs147 : Same [131, 132, 133, 134] S S147 := hsx.tr (hq147.mono (by decide))
                            have h134 : S147 134 = S84 134 := hq147 134 (by decide)
                            obtain ⟨v1, v2, v3, v4, v5⟩ := mv_same hsx (by decide)
                            rw [hsx 118 (by decide), hsx 125 (by decide), v1, v5] at hc147
                            have h133 := hx133
                            refine j_istore (L' := [(0, .ref 118), (1, vi s), (2, vi law), (3, vi mk), (4, vi k), (5, vi few), (6, vi 1), (7, vi r84)]) dX8_becomes_150 (Nat.le_of_ble_eq_true rfl) rfl ?_
                            refine j_goto (tgt := 77) dX8_becomes_152 (by decide) ?_
                            refine j_iload dX8_becomes_77 rfl ?_
                            refine j_if_eq (tgt := 155) dX8_becomes_79 (by decide) (by omega)  (fun h => absurd h (by decide)) (fun _ => ?_)
                            refine j_sub (L' := [(0, .ref 118), (1, vi s), (2, vi law), (3, vi mk), (4, vi k), (5, vi few), (6, vi 1)]) (by simp) ?_
                            exact ih82 few S147 (msR_lt hp1 (by rw [h133] at hc147; exact hc147) hw3 hm82) ⟨by omega, hs147, by rw [h133] at hc147; exact hc147.ok hw3, by rw [h133] at hc147; rw [h134]; exact hbm.next hw3 hc147⟩
                          · have hs147 : Same [131, 132, 133, 134] S S147 := hsx.tr (hq147.mono (by decide))
                            have h134 : S147 134 = S84 134 := hq147 134 (by decide)
                            obtain ⟨v1, v2, v3, v4, v5⟩ := mv_same hsx (by decide)
                            rw [hsx 118 (by decide), hsx 125 (by decide), v1, v5] at hc147
                            have h133 := hx133
                            refine j_istore (L' := [(0, .ref 118), (1, vi s), (2, vi law), (3, vi mk), (4, vi k), (5, vi few), (6, vi 0), (7, vi r84)]) dX8_becomes_150 (Nat.le_of_ble_eq_true rfl) rfl ?_
                            refine j_goto (tgt := 77) dX8_becomes_152 (by decide) ?_
                            refine j_iload dX8_becomes_77 rfl ?_
                            refine j_if_eq (tgt := 155) dX8_becomes_79 (by decide) (by omega)  (fun _ => ?_) (fun h => absurd h (by decide))
                            have hfin : BecM (S 118 13) (okC (S 118 13) (S 125 1) (mWh S) (mPl S)) (GoC (S 118 13) (fun k => S 124 (mHd S (s * 6 + k))) (fun k => mAg S (mHd S (s * 6 + k))) (S 124) (mAg S) (S 120) law mk) few (cR (S147 134)) := by rw [h133] at hc147; rw [h134]; exact hbm.last hw3 hc147
                            refine j_iload dX8_becomes_155 rfl ?_
                            refine j_bipush dX8_becomes_157 (by decide) ?_
                            refine j_icmp_eq (tgt := 168) dX8_becomes_159 (by decide) (by omega) (by omega) (fun h159 => ?_) (fun h159 => ?_)
                            · refine j_iload dX8_becomes_168 rfl ?_
                              refine j_goto (tgt := 195) dX8_becomes_170 (by decide) ?_
                              refine j_top (fun ra era => ?_)
                              have hans : (if few = -9 then -9 else if k = -1 then few else if S147 134 k < 0 then -5 else S147 134 k) = ra := by rw [era]; (repeat' split) <;> first | omega | rfl
                              exact j_iret rfl dX8_becomes_195 (fun h => by cases h) (hP _ _ (Or.inr ⟨by omega, by rw [← hans]; exact hfin.ans, hs147⟩))
                            · refine j_iload dX8_becomes_162 rfl ?_
                              refine j_iconst dX8_becomes_164 ?_
                              refine j_icmp_ne (tgt := 173) dX8_becomes_165 (by decide) (by omega) (by omega) (fun h165 => ?_) (fun h165 => ?_)
                              · refine j_aload_n dX8_becomes_173 rfl ?_
                                refine j_getR dX8_becomes_174 fg_X8_56 fq_118_29 ?_
                                refine j_iload dX8_becomes_177 rfl ?_
                                refine j_iald (x := S147 134 k) dX8_becomes_179 aq_134 (by omega) (by omega) rfl (fun hi179 => ?_)
                                refine j_if_ge (tgt := 188) dX8_becomes_180 (by decide) (by omega)  (fun h180 => ?_) (fun h180 => ?_)
                                · refine j_aload_n dX8_becomes_188 rfl ?_
                                  refine j_getR dX8_becomes_189 fg_X8_56 fq_118_29 ?_
                                  refine j_iload dX8_becomes_192 rfl ?_
                                  refine j_iald (x := S147 134 k) dX8_becomes_194 aq_134 (by omega) (by omega) rfl (fun hi194 => ?_)
                                  refine j_top (fun ra era => ?_)
                                  have hans : (if few = -9 then -9 else if k = -1 then few else if S147 134 k < 0 then -5 else S147 134 k) = ra := by rw [era]; (repeat' split) <;> first | omega | rfl
                                  exact j_iret rfl dX8_becomes_195 (fun h => by cases h) (hP _ _ (Or.inr ⟨by omega, by rw [← hans]; exact hfin.ans, hs147⟩))
                                · refine j_bipush dX8_becomes_183 (by decide) ?_
                                  refine j_goto (tgt := 195) dX8_becomes_185 (by decide) ?_
                                  refine j_top (fun ra era => ?_)
                                  have hans : (if few = -9 then -9 else if k = -1 then few else if S147 134 k < 0 then -5 else S147 134 k) = ra := by rw [era]; (repeat' split) <;> first | omega | rfl
                                  exact j_iret rfl dX8_becomes_195 (fun h => by cases h) (hP _ _ (Or.inr ⟨by omega, by rw [← hans]; exact hfin.ans, hs147⟩))
                              · refine j_iload dX8_becomes_168 rfl ?_
                                refine j_goto (tgt := 195) dX8_becomes_170 (by decide) ?_
                                refine j_top (fun ra era => ?_)
                                have hans : (if few = -9 then -9 else if k = -1 then few else if S147 134 k < 0 then -5 else S147 134 k) = ra := by rw [era]; (repeat' split) <;> first | omega | rfl
                                exact j_iret rfl dX8_becomes_195 (fun h => by cases h) (hP _ _ (Or.inr ⟨by omega, by rw [← hans]; exact hfin.ans, hs147⟩))
                        · refine j_iload dX8_becomes_112 rfl ?_
                          refine j_istore (L' := [(0, .ref 118), (1, vi s), (2, vi law), (3, vi mk), (4, vi k), (5, vi r84), (6, vi 1), (7, vi r84)]) dX8_becomes_114 (Nat.le_of_ble_eq_true rfl) rfl ?_
                          refine j_iconst dX8_becomes_116 ?_
                          refine j_istore (L' := [(0, .ref 118), (1, vi s), (2, vi law), (3, vi mk), (4, vi k), (5, vi r84), (6, vi 1), (7, vi r84), (8, vi 0)]) dX8_becomes_117 (Nat.le_of_ble_eq_true rfl) rfl ?_
                          have lp119 : ∀ (n : Nat) (e : Int) (V : St), (6 - e).toNat < n → (0 ≤ e ∧ e ≤ 6 ∧ Same [134] S84 V ∧ ∀ j, 0 ≤ j → j < e → V 134 j = U 133 j) → JJ mX8_becomes (RX mX8_becomes P) 119 [(0, .ref 118), (1, vi s), (2, vi law), (3, vi mk), (4, vi k), (5, vi r84), (6, vi 1), (7, vi r84), (8, vi e)] [] V := by
                            intro n
                            induction n with
                            | zero => intro e V hm; exact absurd hm (Nat.not_lt_zero _)
                            | succ n ih119 =>
                              intro e V hm119 hv119
                              obtain ⟨hx1, hx2, hx3, hx4⟩ := hv119
                              have eV_118 : V 118 = S84 118 := hx3 118 (by decide)
                              have eV_119 : V 119 = S84 119 := hx3 119 (by decide)
                              have eV_120 : V 120 = S84 120 := hx3 120 (by decide)
                              have eV_121 : V 121 = S84 121 := hx3 121 (by decide)
                              have eV_124 : V 124 = S84 124 := hx3 124 (by decide)
                              have eV_125 : V 125 = S84 125 := hx3 125 (by decide)
                              have eV_126 : V 126 = S84 126 := hx3 126 (by decide)
                              have eV_127 : V 127 = S84 127 := hx3 127 (by decide)
                              have eV_128 : V 128 = S84 128 := hx3 128 (by decide)
                              have eV_129 : V 129 = S84 129 := hx3 129 (by decide)
                              have eV_130 : V 130 = S84 130 := hx3 130 (by decide)
                              have eV_133 : V 133 = S84 133 := hx3 133 (by decide)
                              refine j_iload dX8_becomes_119 rfl ?_
                              refine j_bipush dX8_becomes_121 (by decide) ?_
                              refine j_icmp_ge (tgt := 146) dX8_becomes_123 (by decide) (by omega) (by omega) (fun h123 => ?_) (fun h123 => ?_)
                              · refine j_aload_n dX8_becomes_146 rfl ?_
                                have hsx : Same [131, 132, 133, 134] S V := (hw2.tr (hsm84.mono (by decide))).tr (hx3.mono (by decide))
                                have hx133 : V 133 = U 133 := by rw [hx3 133 (by decide), hsm84 133 (by decide)]
                                have hbm : BecM (S 118 13) (DL (S 118 13) (S 125 1) (mWh S) (mPl S) (U 133)) (GoC (S 118 13) (fun k => S 124 (mHd S (s * 6 + k))) (fun k => mAg S (mHd S (s * 6 + k))) (S 124) (mAg S) (S 120) law mk) r84 (cR (V 134)) := by rw [hr84]; exact hw4.take (by omega) hw3 (by unfold GoC; rw [← hw105]; omega) (by rw [← hr84]; omega) (fun j a b => hx4 j a (by omega))
                                refine j_callVi (As := []) (rest := []) (t_X8_steps _ (hM.same hsx (by decide)) (by obtain ⟨v1, v2, v3, v4, v5⟩ := mv_same hsx (by decide); rw [hsx 118 (by decide), hsx 125 (by decide), v1, v5, hx133]; exact hw3)) rfl cm_X8_steps ci_X8_steps ml_X8_214 oq_118 rfl (Nat.le_of_ble_eq_true rfl) (Nat.le_of_ble_eq_true rfl) dX8_becomes_147 (fun r147 S147 hp147 => ?_)
                                obtain ⟨⟨rfl, hc147⟩ | ⟨rfl, hc147⟩, hq147⟩ := hp147
                                · have hs147 : Same [131, 132, 133, 134] S S147 := hsx.tr (hq147.mono (by decide))
                                  have h134 : S147 134 = V 134 := hq147 134 (by decide)
                                  obtain ⟨v1, v2, v3, v4, v5⟩ := mv_same hsx (by decide)
                                  rw [hsx 118 (by decide), hsx 125 (by decide), v1, v5] at hc147
                                  have h133 := hx133
                                  refine j_istore (L' := [(0, .ref 118), (1, vi s), (2, vi law), (3, vi mk), (4, vi k), (5, vi r84), (6, vi 1), (7, vi r84), (8, vi e)]) dX8_becomes_150 (Nat.le_of_ble_eq_true rfl) rfl ?_
                                  refine j_goto (tgt := 77) dX8_becomes_152 (by decide) ?_
                                  refine j_iload dX8_becomes_77 rfl ?_
                                  refine j_if_eq (tgt := 155) dX8_becomes_79 (by decide) (by omega)  (fun h => absurd h (by decide)) (fun _ => ?_)
                                  refine j_sub (L' := [(0, .ref 118), (1, vi s), (2, vi law), (3, vi mk), (4, vi k), (5, vi r84), (6, vi 1)]) (by simp) ?_
                                  exact ih82 r84 S147 (msR_lt hp1 (by rw [h133] at hc147; exact hc147) hw3 hm82) ⟨by omega, hs147, by rw [h133] at hc147; exact hc147.ok hw3, by rw [h133] at hc147; rw [h134]; exact hbm.next hw3 hc147⟩
                                · have hs147 : Same [131, 132, 133, 134] S S147 := hsx.tr (hq147.mono (by decide))
                                  have h134 : S147 134 = V 134 := hq147 134 (by decide)
                                  obtain ⟨v1, v2, v3, v4, v5⟩ := mv_same hsx (by decide)
                                  rw [hsx 118 (by decide), hsx 125 (by decide), v1, v5] at hc147
                                  have h133 := hx133
                                  refine j_istore (L' := [(0, .ref 118), (1, vi s), (2, vi law), (3, vi mk), (4, vi k), (5, vi r84), (6, vi 0), (7, vi r84), (8, vi e)]) dX8_becomes_150 (Nat.le_of_ble_eq_true rfl) rfl ?_
                                  refine j_goto (tgt := 77) dX8_becomes_152 (by decide) ?_
                                  refine j_iload dX8_becomes_77 rfl ?_
                                  refine j_if_eq (tgt := 155) dX8_becomes_79 (by decide) (by omega)  (fun _ => ?_) (fun h => absurd h (by decide))
                                  have hfin : BecM (S 118 13) (okC (S 118 13) (S 125 1) (mWh S) (mPl S)) (GoC (S 118 13) (fun k => S 124 (mHd S (s * 6 + k))) (fun k => mAg S (mHd S (s * 6 + k))) (S 124) (mAg S) (S 120) law mk) r84 (cR (S147 134)) := by rw [h133] at hc147; rw [h134]; exact hbm.last hw3 hc147
                                  refine j_iload dX8_becomes_155 rfl ?_
                                  refine j_bipush dX8_becomes_157 (by decide) ?_
                                  refine j_icmp_eq (tgt := 168) dX8_becomes_159 (by decide) (by omega) (by omega) (fun h159 => ?_) (fun h159 => ?_)
                                  · refine j_iload dX8_becomes_168 rfl ?_
                                    refine j_goto (tgt := 195) dX8_becomes_170 (by decide) ?_
                                    refine j_top (fun ra era => ?_)
                                    have hans : (if r84 = -9 then -9 else if k = -1 then r84 else if S147 134 k < 0 then -5 else S147 134 k) = ra := by rw [era]; (repeat' split) <;> first | omega | rfl
                                    exact j_iret rfl dX8_becomes_195 (fun h => by cases h) (hP _ _ (Or.inr ⟨by omega, by rw [← hans]; exact hfin.ans, hs147⟩))
                                  · refine j_iload dX8_becomes_162 rfl ?_
                                    refine j_iconst dX8_becomes_164 ?_
                                    refine j_icmp_ne (tgt := 173) dX8_becomes_165 (by decide) (by omega) (by omega) (fun h165 => ?_) (fun h165 => ?_)
                                    · refine j_aload_n dX8_becomes_173 rfl ?_
                                      refine j_getR dX8_becomes_174 fg_X8_56 fq_118_29 ?_
                                      refine j_iload dX8_becomes_177 rfl ?_
                                      refine j_iald (x := S147 134 k) dX8_becomes_179 aq_134 (by omega) (by omega) rfl (fun hi179 => ?_)
                                      refine j_if_ge (tgt := 188) dX8_becomes_180 (by decide) (by omega)  (fun h180 => ?_) (fun h180 => ?_)
                                      · refine j_aload_n dX8_becomes_188 rfl ?_
                                        refine j_getR dX8_becomes_189 fg_X8_56 fq_118_29 ?_
                                        refine j_iload dX8_becomes_192 rfl ?_
                                        refine j_iald (x := S147 134 k) dX8_becomes_194 aq_134 (by omega) (by omega) rfl (fun hi194 => ?_)
                                        refine j_top (fun ra era => ?_)
                                        have hans : (if r84 = -9 then -9 else if k = -1 then r84 else if S147 134 k < 0 then -5 else S147 134 k) = ra := by rw [era]; (repeat' split) <;> first | omega | rfl
                                        exact j_iret rfl dX8_becomes_195 (fun h => by cases h) (hP _ _ (Or.inr ⟨by omega, by rw [← hans]; exact hfin.ans, hs147⟩))
                                      · refine j_bipush dX8_becomes_183 (by decide) ?_
                                        refine j_goto (tgt := 195) dX8_becomes_185 (by decide) ?_
                                        refine j_top (fun ra era => ?_)
                                        have hans : (if r84 = -9 then -9 else if k = -1 then r84 else if S147 134 k < 0 then -5 else S147 134 k) = ra := by rw [era]; (repeat' split) <;> first | omega | rfl
                                        exact j_iret rfl dX8_becomes_195 (fun h => by cases h) (hP _ _ (Or.inr ⟨by omega, by rw [← hans]; exact hfin.ans, hs147⟩))
                                    · refine j_iload dX8_becomes_168 rfl ?_
                                      refine j_goto (tgt := 195) dX8_becomes_170 (by decide) ?_
                                      refine j_top (fun ra era => ?_)
                                      have hans : (if r84 = -9 then -9 else if k = -1 then r84 else if S147 134 k < 0 then -5 else S147 134 k) = ra := by rw [era]; (repeat' split) <;> first | omega | rfl
                                      exact j_iret rfl dX8_becomes_195 (fun h => by cases h) (hP _ _ (Or.inr ⟨by omega, by rw [← hans]; exact hfin.ans, hs147⟩))
                              · refine j_aload_n dX8_becomes_126 rfl ?_
                                refine j_getR dX8_becomes_127 fg_X8_56 fq_118_29 ?_
                                refine j_iload dX8_becomes_130 rfl ?_
                                refine j_aload_n dX8_becomes_132 rfl ?_
                                refine j_getR dX8_becomes_133 fg_X8_53 fq_118_28 ?_
                                refine j_iload dX8_becomes_136 rfl ?_
                                refine j_iald (x := U 133 e) dX8_becomes_138 aq_133 (by omega) (by omega) (by rw [hx3 133 (by decide), hsm84 133 (by decide)]) (fun hi138 => ?_)
                                refine j_iast dX8_becomes_139 aq_134 (by omega) (by omega) (by omega) ?_
                                refine j_iinc (L' := [(0, .ref 118), (1, vi s), (2, vi law), (3, vi mk), (4, vi k), (5, vi r84), (6, vi 1), (7, vi r84), (8, vi (e + 1))]) dX8_becomes_140 (Nat.le_of_ble_eq_true rfl) rfl rfl ?_
                                refine j_goto (tgt := 119) dX8_becomes_143 (by decide) ?_
                                exact ih119 (e + 1) (up V 134 e (U 133 e)) (by omega) ⟨by omega, by omega, same_up hx3 (by decide), fun j a b => if q : j = e then by rw [q, up_s] else by rw [up_i q]; exact hx4 j a (by omega)⟩
                          exact lp119 _ 0 S84 (Nat.lt_succ_self _) ⟨by omega, by omega, Same.rf, fun j a b => by omega⟩
                      · refine j_iload dX8_becomes_96 rfl ?_
                        refine j_iload dX8_becomes_98 rfl ?_
                        refine j_icmp_ge (tgt := 146) dX8_becomes_100 (by decide) (by omega) (by omega) (fun h100 => ?_) (fun h100 => ?_)
                        · refine j_aload_n dX8_becomes_146 rfl ?_
                          have hsx : Same [131, 132, 133, 134] S S84 := hw2.tr (hsm84.mono (by decide))
                          have hx133 : S84 133 = U 133 := hsm84 133 (by decide)
                          have hbm : BecM (S 118 13) (DL (S 118 13) (S 125 1) (mWh S) (mPl S) (U 133)) (GoC (S 118 13) (fun k => S 124 (mHd S (s * 6 + k))) (fun k => mAg S (mHd S (s * 6 + k))) (S 124) (mAg S) (S 120) law mk) few (cR (S84 134)) := by rw [show S84 134 = U 134 from hsm84 134 (by decide)]; exact hw4.skip (by omega) (by first | exact Or.inr ⟨by omega, by rw [← hr84]; omega⟩ | exact Or.inl (by unfold GoC; rw [← hw105]; omega))
                          refine j_callVi (As := []) (rest := []) (t_X8_steps _ (hM.same hsx (by decide)) (by obtain ⟨v1, v2, v3, v4, v5⟩ := mv_same hsx (by decide); rw [hsx 118 (by decide), hsx 125 (by decide), v1, v5, hx133]; exact hw3)) rfl cm_X8_steps ci_X8_steps ml_X8_214 oq_118 rfl (Nat.le_of_ble_eq_true rfl) (Nat.le_of_ble_eq_true rfl) dX8_becomes_147 (fun r147 S147 hp147 => ?_)
                          obtain ⟨⟨rfl, hc147⟩ | ⟨rfl, hc147⟩, hq147⟩ := hp147
                          · have hs147 : Same [131, 132, 133, 134] S S147 := hsx.tr (hq147.mono (by decide))
                            have h134 : S147 134 = S84 134 := hq147 134 (by decide)
                            obtain ⟨v1, v2, v3, v4, v5⟩ := mv_same hsx (by decide)
                            rw [hsx 118 (by decide), hsx 125 (by decide), v1, v5] at hc147
                            have h133 := hx133
                            refine j_istore (L' := [(0, .ref 118), (1, vi s), (2, vi law), (3, vi mk), (4, vi k), (5, vi few), (6, vi 1), (7, vi r84)]) dX8_becomes_150 (Nat.le_of_ble_eq_true rfl) rfl ?_
                            refine j_goto (tgt := 77) dX8_becomes_152 (by decide) ?_
                            refine j_iload dX8_becomes_77 rfl ?_
                            refine j_if_eq (tgt := 155) dX8_becomes_79 (by decide) (by omega)  (fun h => absurd h (by decide)) (fun _ => ?_)
                            refine j_sub (L' := [(0, .ref 118), (1, vi s), (2, vi law), (3, vi mk), (4, vi k), (5, vi few), (6, vi 1)]) (by simp) ?_
                            exact ih82 few S147 (msR_lt hp1 (by rw [h133] at hc147; exact hc147) hw3 hm82) ⟨by omega, hs147, by rw [h133] at hc147; exact hc147.ok hw3, by rw [h133] at hc147; rw [h134]; exact hbm.next hw3 hc147⟩
                          · have hs147 : Same [131, 132, 133, 134] S S147 := hsx.tr (hq147.mono (by decide))
                            have h134 : S147 134 = S84 134 := hq147 134 (by decide)
                            obtain ⟨v1, v2, v3, v4, v5⟩ := mv_same hsx (by decide)
                            rw [hsx 118 (by decide), hsx 125 (by decide), v1, v5] at hc147
                            have h133 := hx133
                            refine j_istore (L' := [(0, .ref 118), (1, vi s), (2, vi law), (3, vi mk), (4, vi k), (5, vi few), (6, vi 0), (7, vi r84)]) dX8_becomes_150 (Nat.le_of_ble_eq_true rfl) rfl ?_
                            refine j_goto (tgt := 77) dX8_becomes_152 (by decide) ?_
                            refine j_iload dX8_becomes_77 rfl ?_
                            refine j_if_eq (tgt := 155) dX8_becomes_79 (by decide) (by omega)  (fun _ => ?_) (fun h => absurd h (by decide))
                            have hfin : BecM (S 118 13) (okC (S 118 13) (S 125 1) (mWh S) (mPl S)) (GoC (S 118 13) (fun k => S 124 (mHd S (s * 6 + k))) (fun k => mAg S (mHd S (s * 6 + k))) (S 124) (mAg S) (S 120) law mk) few (cR (S147 134)) := by rw [h133] at hc147; rw [h134]; exact hbm.last hw3 hc147
                            refine j_iload dX8_becomes_155 rfl ?_
                            refine j_bipush dX8_becomes_157 (by decide) ?_
                            refine j_icmp_eq (tgt := 168) dX8_becomes_159 (by decide) (by omega) (by omega) (fun h159 => ?_) (fun h159 => ?_)
                            · refine j_iload dX8_becomes_168 rfl ?_
                              refine j_goto (tgt := 195) dX8_becomes_170 (by decide) ?_
                              refine j_top (fun ra era => ?_)
                              have hans : (if few = -9 then -9 else if k = -1 then few else if S147 134 k < 0 then -5 else S147 134 k) = ra := by rw [era]; (repeat' split) <;> first | omega | rfl
                              exact j_iret rfl dX8_becomes_195 (fun h => by cases h) (hP _ _ (Or.inr ⟨by omega, by rw [← hans]; exact hfin.ans, hs147⟩))
                            · refine j_iload dX8_becomes_162 rfl ?_
                              refine j_iconst dX8_becomes_164 ?_
                              refine j_icmp_ne (tgt := 173) dX8_becomes_165 (by decide) (by omega) (by omega) (fun h165 => ?_) (fun h165 => ?_)
                              · refine j_aload_n dX8_becomes_173 rfl ?_
                                refine j_getR dX8_becomes_174 fg_X8_56 fq_118_29 ?_
                                refine j_iload dX8_becomes_177 rfl ?_
                                refine j_iald (x := S147 134 k) dX8_becomes_179 aq_134 (by omega) (by omega) rfl (fun hi179 => ?_)
                                refine j_if_ge (tgt := 188) dX8_becomes_180 (by decide) (by omega)  (fun h180 => ?_) (fun h180 => ?_)
                                · refine j_aload_n dX8_becomes_188 rfl ?_
                                  refine j_getR dX8_becomes_189 fg_X8_56 fq_118_29 ?_
                                  refine j_iload dX8_becomes_192 rfl ?_
                                  refine j_iald (x := S147 134 k) dX8_becomes_194 aq_134 (by omega) (by omega) rfl (fun hi194 => ?_)
                                  refine j_top (fun ra era => ?_)
                                  have hans : (if few = -9 then -9 else if k = -1 then few else if S147 134 k < 0 then -5 else S147 134 k) = ra := by rw [era]; (repeat' split) <;> first | omega | rfl
                                  exact j_iret rfl dX8_becomes_195 (fun h => by cases h) (hP _ _ (Or.inr ⟨by omega, by rw [← hans]; exact hfin.ans, hs147⟩))
                                · refine j_bipush dX8_becomes_183 (by decide) ?_
                                  refine j_goto (tgt := 195) dX8_becomes_185 (by decide) ?_
                                  refine j_top (fun ra era => ?_)
                                  have hans : (if few = -9 then -9 else if k = -1 then few else if S147 134 k < 0 then -5 else S147 134 k) = ra := by rw [era]; (repeat' split) <;> first | omega | rfl
                                  exact j_iret rfl dX8_becomes_195 (fun h => by cases h) (hP _ _ (Or.inr ⟨by omega, by rw [← hans]; exact hfin.ans, hs147⟩))
                              · refine j_iload dX8_becomes_168 rfl ?_
                                refine j_goto (tgt := 195) dX8_becomes_170 (by decide) ?_
                                refine j_top (fun ra era => ?_)
                                have hans : (if few = -9 then -9 else if k = -1 then few else if S147 134 k < 0 then -5 else S147 134 k) = ra := by rw [era]; (repeat' split) <;> first | omega | rfl
                                exact j_iret rfl dX8_becomes_195 (fun h => by cases h) (hP _ _ (Or.inr ⟨by omega, by rw [← hans]; exact hfin.ans, hs147⟩))
                        · refine j_aload_n dX8_becomes_103 rfl ?_
                          refine j_iload_n dX8_becomes_104 rfl ?_
                          have hrowmk : ∀ j, 0 ≤ j → j < S 118 13 → isMk (rowF (fun k => S 124 (mHd S (s * 6 + k))) (S 124) (cR (U 133)) j) := fun j a b => by
                            rcases hw3 j a b with z | z
                            · rw [rowF_n (by omega)]; have g := hhd s j (by omega) (by omega) a b; exact (hpt _ g.1 g.2).2.1
                            · rw [rowF_p z.1.1]; exact (hpt _ z.1.1 z.1.2).2.1
                          refine j_callVi (As := [vi law]) (rest := []) (t_X8_isBy _ law (by rw [eS84_118]; exact hn0) (by rw [eS84_118]; exact hn1) (by rw [eS84_120]; exact hwt) (by rw [eS84_118]; intro j a b; rw [(hl84 j a b).1]; exact hrowmk j a b) (by omega) (by omega)) rfl cm_X8_isBy ci_X8_isBy ml_X8_181 oq_118 rfl (Nat.le_of_ble_eq_true rfl) (Nat.le_of_ble_eq_true rfl) dX8_becomes_105 (fun r105 S105 hp105 => ?_)
                          obtain ⟨hr105, he105⟩ := hp105
                          rw [he105]
                          have hw105 : r105 = who (S 118 13) (rowF (fun k => S 124 (mHd S (s * 6 + k))) (S 124) (cR (U 133))) (rowF (fun k => mAg S (mHd S (s * 6 + k))) (mAg S) (cR (U 133))) (S 120) law := by rw [hr105, eS84_118, eS84_120]; exact who_congr (by omega) (fun j a b => ⟨(hl84 j a b).1, (hl84 j a b).2, rfl⟩)
                          have hwb105 := who_bd (n := S 118 13) (mk := rowF (fun k => S 124 (mHd S (s * 6 + k))) (S 124) (cR (U 133))) (ag := rowF (fun k => mAg S (mHd S (s * 6 + k))) (mAg S) (cR (U 133))) (wt := S 120) (law := law) (by omega) hrowmk
                          rw [← hw105] at hwb105
                          refine j_iload_n dX8_becomes_108 rfl ?_
                          refine j_icmp_ne (tgt := 146) dX8_becomes_109 (by decide) (by omega) (by omega) (fun h109 => ?_) (fun h109 => ?_)
                          · refine j_aload_n dX8_becomes_146 rfl ?_
                            have hsx : Same [131, 132, 133, 134] S S84 := hw2.tr (hsm84.mono (by decide))
                            have hx133 : S84 133 = U 133 := hsm84 133 (by decide)
                            have hbm : BecM (S 118 13) (DL (S 118 13) (S 125 1) (mWh S) (mPl S) (U 133)) (GoC (S 118 13) (fun k => S 124 (mHd S (s * 6 + k))) (fun k => mAg S (mHd S (s * 6 + k))) (S 124) (mAg S) (S 120) law mk) few (cR (S84 134)) := by rw [show S84 134 = U 134 from hsm84 134 (by decide)]; exact hw4.skip (by omega) (by first | exact Or.inr ⟨by omega, by rw [← hr84]; omega⟩ | exact Or.inl (by unfold GoC; rw [← hw105]; omega))
                            refine j_callVi (As := []) (rest := []) (t_X8_steps _ (hM.same hsx (by decide)) (by obtain ⟨v1, v2, v3, v4, v5⟩ := mv_same hsx (by decide); rw [hsx 118 (by decide), hsx 125 (by decide), v1, v5, hx133]; exact hw3)) rfl cm_X8_steps ci_X8_steps ml_X8_214 oq_118 rfl (Nat.le_of_ble_eq_true rfl) (Nat.le_of_ble_eq_true rfl) dX8_becomes_147 (fun r147 S147 hp147 => ?_)
                            obtain ⟨⟨rfl, hc147⟩ | ⟨rfl, hc147⟩, hq147⟩ := hp147
                            · have hs147 : Same [131, 132, 133, 134] S S147 := hsx.tr (hq147.mono (by decide))
                              have h134 : S147 134 = S84 134 := hq147 134 (by decide)
                              obtain ⟨v1, v2, v3, v4, v5⟩ := mv_same hsx (by decide)
                              rw [hsx 118 (by decide), hsx 125 (by decide), v1, v5] at hc147
                              have h133 := hx133
                              refine j_istore (L' := [(0, .ref 118), (1, vi s), (2, vi law), (3, vi mk), (4, vi k), (5, vi few), (6, vi 1), (7, vi r84)]) dX8_becomes_150 (Nat.le_of_ble_eq_true rfl) rfl ?_
                              refine j_goto (tgt := 77) dX8_becomes_152 (by decide) ?_
                              refine j_iload dX8_becomes_77 rfl ?_
                              refine j_if_eq (tgt := 155) dX8_becomes_79 (by decide) (by omega)  (fun h => absurd h (by decide)) (fun _ => ?_)
                              refine j_sub (L' := [(0, .ref 118), (1, vi s), (2, vi law), (3, vi mk), (4, vi k), (5, vi few), (6, vi 1)]) (by simp) ?_
                              exact ih82 few S147 (msR_lt hp1 (by rw [h133] at hc147; exact hc147) hw3 hm82) ⟨by omega, hs147, by rw [h133] at hc147; exact hc147.ok hw3, by rw [h133] at hc147; rw [h134]; exact hbm.next hw3 hc147⟩
                            · have hs147 : Same [131, 132, 133, 134] S S147 := hsx.tr (hq147.mono (by decide))
                              have h134 : S147 134 = S84 134 := hq147 134 (by decide)
                              obtain ⟨v1, v2, v3, v4, v5⟩ := mv_same hsx (by decide)
                              rw [hsx 118 (by decide), hsx 125 (by decide), v1, v5] at hc147
                              have h133 := hx133
                              refine j_istore (L' := [(0, .ref 118), (1, vi s), (2, vi law), (3, vi mk), (4, vi k), (5, vi few), (6, vi 0), (7, vi r84)]) dX8_becomes_150 (Nat.le_of_ble_eq_true rfl) rfl ?_
                              refine j_goto (tgt := 77) dX8_becomes_152 (by decide) ?_
                              refine j_iload dX8_becomes_77 rfl ?_
                              refine j_if_eq (tgt := 155) dX8_becomes_79 (by decide) (by omega)  (fun _ => ?_) (fun h => absurd h (by decide))
                              have hfin : BecM (S 118 13) (okC (S 118 13) (S 125 1) (mWh S) (mPl S)) (GoC (S 118 13) (fun k => S 124 (mHd S (s * 6 + k))) (fun k => mAg S (mHd S (s * 6 + k))) (S 124) (mAg S) (S 120) law mk) few (cR (S147 134)) := by rw [h133] at hc147; rw [h134]; exact hbm.last hw3 hc147
                              refine j_iload dX8_becomes_155 rfl ?_
                              refine j_bipush dX8_becomes_157 (by decide) ?_
                              refine j_icmp_eq (tgt := 168) dX8_becomes_159 (by decide) (by omega) (by omega) (fun h159 => ?_) (fun h159 => ?_)
                              · refine j_iload dX8_becomes_168 rfl ?_
                                refine j_goto (tgt := 195) dX8_becomes_170 (by decide) ?_
                                refine j_top (fun ra era => ?_)
                                have hans : (if few = -9 then -9 else if k = -1 then few else if S147 134 k < 0 then -5 else S147 134 k) = ra := by rw [era]; (repeat' split) <;> first | omega | rfl
                                exact j_iret rfl dX8_becomes_195 (fun h => by cases h) (hP _ _ (Or.inr ⟨by omega, by rw [← hans]; exact hfin.ans, hs147⟩))
                              · refine j_iload dX8_becomes_162 rfl ?_
                                refine j_iconst dX8_becomes_164 ?_
                                refine j_icmp_ne (tgt := 173) dX8_becomes_165 (by decide) (by omega) (by omega) (fun h165 => ?_) (fun h165 => ?_)
                                · refine j_aload_n dX8_becomes_173 rfl ?_
                                  refine j_getR dX8_becomes_174 fg_X8_56 fq_118_29 ?_
                                  refine j_iload dX8_becomes_177 rfl ?_
                                  refine j_iald (x := S147 134 k) dX8_becomes_179 aq_134 (by omega) (by omega) rfl (fun hi179 => ?_)
                                  refine j_if_ge (tgt := 188) dX8_becomes_180 (by decide) (by omega)  (fun h180 => ?_) (fun h180 => ?_)
                                  · refine j_aload_n dX8_becomes_188 rfl ?_
                                    refine j_getR dX8_becomes_189 fg_X8_56 fq_118_29 ?_
                                    refine j_iload dX8_becomes_192 rfl ?_
                                    refine j_iald (x := S147 134 k) dX8_becomes_194 aq_134 (by omega) (by omega) rfl (fun hi194 => ?_)
                                    refine j_top (fun ra era => ?_)
                                    have hans : (if few = -9 then -9 else if k = -1 then few else if S147 134 k < 0 then -5 else S147 134 k) = ra := by rw [era]; (repeat' split) <;> first | omega | rfl
                                    exact j_iret rfl dX8_becomes_195 (fun h => by cases h) (hP _ _ (Or.inr ⟨by omega, by rw [← hans]; exact hfin.ans, hs147⟩))
                                  · refine j_bipush dX8_becomes_183 (by decide) ?_
                                    refine j_goto (tgt := 195) dX8_becomes_185 (by decide) ?_
                                    refine j_top (fun ra era => ?_)
                                    have hans : (if few = -9 then -9 else if k = -1 then few else if S147 134 k < 0 then -5 else S147 134 k) = ra := by rw [era]; (repeat' split) <;> first | omega | rfl
                                    exact j_iret rfl dX8_becomes_195 (fun h => by cases h) (hP _ _ (Or.inr ⟨by omega, by rw [← hans]; exact hfin.ans, hs147⟩))
                                · refine j_iload dX8_becomes_168 rfl ?_
                                  refine j_goto (tgt := 195) dX8_becomes_170 (by decide) ?_
                                  refine j_top (fun ra era => ?_)
                                  have hans : (if few = -9 then -9 else if k = -1 then few else if S147 134 k < 0 then -5 else S147 134 k) = ra := by rw [era]; (repeat' split) <;> first | omega | rfl
                                  exact j_iret rfl dX8_becomes_195 (fun h => by cases h) (hP _ _ (Or.inr ⟨by omega, by rw [← hans]; exact hfin.ans, hs147⟩))
                          · refine j_iload dX8_becomes_112 rfl ?_
                            refine j_istore (L' := [(0, .ref 118), (1, vi s), (2, vi law), (3, vi mk), (4, vi k), (5, vi r84), (6, vi 1), (7, vi r84)]) dX8_becomes_114 (Nat.le_of_ble_eq_true rfl) rfl ?_
                            refine j_iconst dX8_becomes_116 ?_
                            refine j_istore (L' := [(0, .ref 118), (1, vi s), (2, vi law), (3, vi mk), (4, vi k), (5, vi r84), (6, vi 1), (7, vi r84), (8, vi 0)]) dX8_becomes_117 (Nat.le_of_ble_eq_true rfl) rfl ?_
                            have lp119 : ∀ (n : Nat) (e : Int) (V : St), (6 - e).toNat < n → (0 ≤ e ∧ e ≤ 6 ∧ Same [134] S84 V ∧ ∀ j, 0 ≤ j → j < e → V 134 j = U 133 j) → JJ mX8_becomes (RX mX8_becomes P) 119 [(0, .ref 118), (1, vi s), (2, vi law), (3, vi mk), (4, vi k), (5, vi r84), (6, vi 1), (7, vi r84), (8, vi e)] [] V := by
                              intro n
                              induction n with
                              | zero => intro e V hm; exact absurd hm (Nat.not_lt_zero _)
                              | succ n ih119 =>
                                intro e V hm119 hv119
                                obtain ⟨hx1, hx2, hx3, hx4⟩ := hv119
                                have eV_118 : V 118 = S84 118 := hx3 118 (by decide)
                                have eV_119 : V 119 = S84 119 := hx3 119 (by decide)
                                have eV_120 : V 120 = S84 120 := hx3 120 (by decide)
                                have eV_121 : V 121 = S84 121 := hx3 121 (by decide)
                                have eV_124 : V 124 = S84 124 := hx3 124 (by decide)
                                have eV_125 : V 125 = S84 125 := hx3 125 (by decide)
                                have eV_126 : V 126 = S84 126 := hx3 126 (by decide)
                                have eV_127 : V 127 = S84 127 := hx3 127 (by decide)
                                have eV_128 : V 128 = S84 128 := hx3 128 (by decide)
                                have eV_129 : V 129 = S84 129 := hx3 129 (by decide)
                                have eV_130 : V 130 = S84 130 := hx3 130 (by decide)
                                have eV_133 : V 133 = S84 133 := hx3 133 (by decide)
                                refine j_iload dX8_becomes_119 rfl ?_
                                refine j_bipush dX8_becomes_121 (by decide) ?_
                                refine j_icmp_ge (tgt := 146) dX8_becomes_123 (by decide) (by omega) (by omega) (fun h123 => ?_) (fun h123 => ?_)
                                · refine j_aload_n dX8_becomes_146 rfl ?_
                                  have hsx : Same [131, 132, 133, 134] S V := (hw2.tr (hsm84.mono (by decide))).tr (hx3.mono (by decide))
                                  have hx133 : V 133 = U 133 := by rw [hx3 133 (by decide), hsm84 133 (by decide)]
                                  have hbm : BecM (S 118 13) (DL (S 118 13) (S 125 1) (mWh S) (mPl S) (U 133)) (GoC (S 118 13) (fun k => S 124 (mHd S (s * 6 + k))) (fun k => mAg S (mHd S (s * 6 + k))) (S 124) (mAg S) (S 120) law mk) r84 (cR (V 134)) := by rw [hr84]; exact hw4.take (by omega) hw3 (by unfold GoC; rw [← hw105]; omega) (by rw [← hr84]; omega) (fun j a b => hx4 j a (by omega))
                                  refine j_callVi (As := []) (rest := []) (t_X8_steps _ (hM.same hsx (by decide)) (by obtain ⟨v1, v2, v3, v4, v5⟩ := mv_same hsx (by decide); rw [hsx 118 (by decide), hsx 125 (by decide), v1, v5, hx133]; exact hw3)) rfl cm_X8_steps ci_X8_steps ml_X8_214 oq_118 rfl (Nat.le_of_ble_eq_true rfl) (Nat.le_of_ble_eq_true rfl) dX8_becomes_147 (fun r147 S147 hp147 => ?_)
                                  obtain ⟨⟨rfl, hc147⟩ | ⟨rfl, hc147⟩, hq147⟩ := hp147
                                  · have hs147 : Same [131, 132, 133, 134] S S147 := hsx.tr (hq147.mono (by decide))
                                    have h134 : S147 134 = V 134 := hq147 134 (by decide)
                                    obtain ⟨v1, v2, v3, v4, v5⟩ := mv_same hsx (by decide)
                                    rw [hsx 118 (by decide), hsx 125 (by decide), v1, v5] at hc147
                                    have h133 := hx133
                                    refine j_istore (L' := [(0, .ref 118), (1, vi s), (2, vi law), (3, vi mk), (4, vi k), (5, vi r84), (6, vi 1), (7, vi r84), (8, vi e)]) dX8_becomes_150 (Nat.le_of_ble_eq_true rfl) rfl ?_
                                    refine j_goto (tgt := 77) dX8_becomes_152 (by decide) ?_
                                    refine j_iload dX8_becomes_77 rfl ?_
                                    refine j_if_eq (tgt := 155) dX8_becomes_79 (by decide) (by omega)  (fun h => absurd h (by decide)) (fun _ => ?_)
                                    refine j_sub (L' := [(0, .ref 118), (1, vi s), (2, vi law), (3, vi mk), (4, vi k), (5, vi r84), (6, vi 1)]) (by simp) ?_
                                    exact ih82 r84 S147 (msR_lt hp1 (by rw [h133] at hc147; exact hc147) hw3 hm82) ⟨by omega, hs147, by rw [h133] at hc147; exact hc147.ok hw3, by rw [h133] at hc147; rw [h134]; exact hbm.next hw3 hc147⟩
                                  · have hs147 : Same [131, 132, 133, 134] S S147 := hsx.tr (hq147.mono (by decide))
                                    have h134 : S147 134 = V 134 := hq147 134 (by decide)
                                    obtain ⟨v1, v2, v3, v4, v5⟩ := mv_same hsx (by decide)
                                    rw [hsx 118 (by decide), hsx 125 (by decide), v1, v5] at hc147
                                    have h133 := hx133
                                    refine j_istore (L' := [(0, .ref 118), (1, vi s), (2, vi law), (3, vi mk), (4, vi k), (5, vi r84), (6, vi 0), (7, vi r84), (8, vi e)]) dX8_becomes_150 (Nat.le_of_ble_eq_true rfl) rfl ?_
                                    refine j_goto (tgt := 77) dX8_becomes_152 (by decide) ?_
                                    refine j_iload dX8_becomes_77 rfl ?_
                                    refine j_if_eq (tgt := 155) dX8_becomes_79 (by decide) (by omega)  (fun _ => ?_) (fun h => absurd h (by decide))
                                    have hfin : BecM (S 118 13) (okC (S 118 13) (S 125 1) (mWh S) (mPl S)) (GoC (S 118 13) (fun k => S 124 (mHd S (s * 6 + k))) (fun k => mAg S (mHd S (s * 6 + k))) (S 124) (mAg S) (S 120) law mk) r84 (cR (S147 134)) := by rw [h133] at hc147; rw [h134]; exact hbm.last hw3 hc147
                                    refine j_iload dX8_becomes_155 rfl ?_
                                    refine j_bipush dX8_becomes_157 (by decide) ?_
                                    refine j_icmp_eq (tgt := 168) dX8_becomes_159 (by decide) (by omega) (by omega) (fun h159 => ?_) (fun h159 => ?_)
                                    · refine j_iload dX8_becomes_168 rfl ?_
                                      refine j_goto (tgt := 195) dX8_becomes_170 (by decide) ?_
                                      refine j_top (fun ra era => ?_)
                                      have hans : (if r84 = -9 then -9 else if k = -1 then r84 else if S147 134 k < 0 then -5 else S147 134 k) = ra := by rw [era]; (repeat' split) <;> first | omega | rfl
                                      exact j_iret rfl dX8_becomes_195 (fun h => by cases h) (hP _ _ (Or.inr ⟨by omega, by rw [← hans]; exact hfin.ans, hs147⟩))
                                    · refine j_iload dX8_becomes_162 rfl ?_
                                      refine j_iconst dX8_becomes_164 ?_
                                      refine j_icmp_ne (tgt := 173) dX8_becomes_165 (by decide) (by omega) (by omega) (fun h165 => ?_) (fun h165 => ?_)
                                      · refine j_aload_n dX8_becomes_173 rfl ?_
                                        refine j_getR dX8_becomes_174 fg_X8_56 fq_118_29 ?_
                                        refine j_iload dX8_becomes_177 rfl ?_
                                        refine j_iald (x := S147 134 k) dX8_becomes_179 aq_134 (by omega) (by omega) rfl (fun hi179 => ?_)
                                        refine j_if_ge (tgt := 188) dX8_becomes_180 (by decide) (by omega)  (fun h180 => ?_) (fun h180 => ?_)
                                        · refine j_aload_n dX8_becomes_188 rfl ?_
                                          refine j_getR dX8_becomes_189 fg_X8_56 fq_118_29 ?_
                                          refine j_iload dX8_becomes_192 rfl ?_
                                          refine j_iald (x := S147 134 k) dX8_becomes_194 aq_134 (by omega) (by omega) rfl (fun hi194 => ?_)
                                          refine j_top (fun ra era => ?_)
                                          have hans : (if r84 = -9 then -9 else if k = -1 then r84 else if S147 134 k < 0 then -5 else S147 134 k) = ra := by rw [era]; (repeat' split) <;> first | omega | rfl
                                          exact j_iret rfl dX8_becomes_195 (fun h => by cases h) (hP _ _ (Or.inr ⟨by omega, by rw [← hans]; exact hfin.ans, hs147⟩))
                                        · refine j_bipush dX8_becomes_183 (by decide) ?_
                                          refine j_goto (tgt := 195) dX8_becomes_185 (by decide) ?_
                                          refine j_top (fun ra era => ?_)
                                          have hans : (if r84 = -9 then -9 else if k = -1 then r84 else if S147 134 k < 0 then -5 else S147 134 k) = ra := by rw [era]; (repeat' split) <;> first | omega | rfl
                                          exact j_iret rfl dX8_becomes_195 (fun h => by cases h) (hP _ _ (Or.inr ⟨by omega, by rw [← hans]; exact hfin.ans, hs147⟩))
                                      · refine j_iload dX8_becomes_168 rfl ?_
                                        refine j_goto (tgt := 195) dX8_becomes_170 (by decide) ?_
                                        refine j_top (fun ra era => ?_)
                                        have hans : (if r84 = -9 then -9 else if k = -1 then r84 else if S147 134 k < 0 then -5 else S147 134 k) = ra := by rw [era]; (repeat' split) <;> first | omega | rfl
                                        exact j_iret rfl dX8_becomes_195 (fun h => by cases h) (hP _ _ (Or.inr ⟨by omega, by rw [← hans]; exact hfin.ans, hs147⟩))
                                · refine j_aload_n dX8_becomes_126 rfl ?_
                                  refine j_getR dX8_becomes_127 fg_X8_56 fq_118_29 ?_
                                  refine j_iload dX8_becomes_130 rfl ?_
                                  refine j_aload_n dX8_becomes_132 rfl ?_
                                  refine j_getR dX8_becomes_133 fg_X8_53 fq_118_28 ?_
                                  refine j_iload dX8_becomes_136 rfl ?_
                                  refine j_iald (x := U 133 e) dX8_becomes_138 aq_133 (by omega) (by omega) (by rw [hx3 133 (by decide), hsm84 133 (by decide)]) (fun hi138 => ?_)
                                  refine j_iast dX8_becomes_139 aq_134 (by omega) (by omega) (by omega) ?_
                                  refine j_iinc (L' := [(0, .ref 118), (1, vi s), (2, vi law), (3, vi mk), (4, vi k), (5, vi r84), (6, vi 1), (7, vi r84), (8, vi (e + 1))]) dX8_becomes_140 (Nat.le_of_ble_eq_true rfl) rfl rfl ?_
                                  refine j_goto (tgt := 119) dX8_becomes_143 (by decide) ?_
                                  exact ih119 (e + 1) (up V 134 e (U 133 e)) (by omega) ⟨by omega, by omega, same_up hx3 (by decide), fun j a b => if q : j = e then by rw [q, up_s] else by rw [up_i q]; exact hx4 j a (by omega)⟩
                            exact lp119 _ 0 S84 (Nat.lt_succ_self _) ⟨by omega, by omega, Same.rf, fun j a b => by omega⟩
                  exact lp82 _ (-9) T (Nat.lt_succ_self _) ⟨by omega, hv3, fun j a b => Or.inl (hv4 j a (by omega)), BecM.start (fun j a b => hv4 j a (by omega))⟩
                · refine j_aload_n dX8_becomes_56 rfl ?_
                  refine j_getR dX8_becomes_57 fg_X8_53 fq_118_28 ?_
                  refine j_iload dX8_becomes_60 rfl ?_
                  refine j_iconst dX8_becomes_62 ?_
                  refine j_iast dX8_becomes_63 aq_133 (by omega) (by omega) (by omega) ?_
                  refine j_iinc (L' := [(0, .ref 118), (1, vi s), (2, vi law), (3, vi mk), (4, vi k), (5, vi (e + 1))]) dX8_becomes_64 (Nat.le_of_ble_eq_true rfl) rfl rfl ?_
                  refine j_goto (tgt := 49) dX8_becomes_67 (by decide) ?_
                  exact ih49 (e + 1) (up T 133 e (-1)) (by omega) ⟨by omega, by omega, same_up hv3 (by decide), fun j a b => if q : j = e then by rw [q, up_s] else by rw [up_i q]; exact hv4 j a (by omega)⟩
            exact lp49 _ 0 S (Nat.lt_succ_self _) ⟨by omega, by omega, Same.rf, fun j a b => by omega⟩
          · rw [he38]
            refine j_if_ne (tgt := 46) dX8_becomes_41 (by decide) (by omega)  (fun h => absurd h (by decide)) (fun _ => ?_)
            refine j_iconst dX8_becomes_44 ?_
            exact j_iret rfl dX8_becomes_45 (fun h => by cases h) (hP _ _ (Or.inl ⟨by omega, rfl, rfl⟩))
      · rw [he23]
        refine j_if_eq (tgt := 44) dX8_becomes_26 (by decide) (by omega)  (fun _ => ?_) (fun h => absurd h (by decide))
        refine j_iconst dX8_becomes_44 ?_
        exact j_iret rfl dX8_becomes_45 (fun h => by cases h) (hP _ _ (Or.inl ⟨by omega, rfl, rfl⟩))
    · rw [he14]
      refine j_if_eq (tgt := 44) dX8_becomes_17 (by decide) (by omega)  (fun _ => ?_) (fun h => absurd h (by decide))
      refine j_iconst dX8_becomes_44 ?_
      exact j_iret rfl dX8_becomes_45 (fun h => by cases h) (hP _ _ (Or.inl ⟨by omega, rfl, rfl⟩))
  · rw [he7]
    refine j_if_eq (tgt := 44) dX8_becomes_10 (by decide) (by omega)  (fun _ => ?_) (fun h => absurd h (by decide))
    refine j_iconst dX8_becomes_44 ?_
    exact j_iret rfl dX8_becomes_45 (fun h => by cases h) (hP _ _ (Or.inl ⟨by omega, rfl, rfl⟩))
