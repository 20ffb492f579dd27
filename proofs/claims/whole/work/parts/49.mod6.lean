set_option maxRecDepth 100000 in
set_option maxHeartbeats 4000000 in
theorem t_X8_stays (S : St) (s law : Int) (r_s : InR s) (r_law : InR law) (hM : MI S) : EX mX8_stays [.ref 118, vi s, vi law] S (fun r S' => r = fStays (S 118 13) (S 125 2) (S 121) (S 124) (mAg S) (S 120) (mHd S) s law ∧ Same [131, 132] S S') := by
  suffices hh : ∀ P : Int → St → Prop, (∀ r S', (r = fStays (S 118 13) (S 125 2) (S 121) (S 124) (mAg S) (S 120) (mHd S) s law ∧ Same [131, 132] S S') → P r S') → EX mX8_stays [.ref 118, vi s, vi law] S P from hh _ (fun _ _ h => h)
  intro P hP
  refine EX.of (L := [(0, .ref 118), (1, vi s), (2, vi law)]) rfl rfl (Nat.le_of_ble_eq_true rfl) rfl ?_
  obtain ⟨⟨hn0, hn1⟩, hwl, ⟨hp0, hp1⟩, ⟨hs0, hs1⟩, hyr, hpt, hhd, hth⟩ := id hM
  have hwt : ∀ k, 0 ≤ k → k < 6 → 1 ≤ S 120 k ∧ S 120 k ≤ 9 := fun k a b => ⟨(hwl k a b).1, (hwl k a b).2.1⟩
  refine j_aload_n dX8_stays_0 rfl ?_
  refine j_iconst dX8_stays_1 ?_
  refine j_putI (i := 0) dX8_stays_2 fg_X8_63 ft_8_0 fq_118_0 rfl (by omega) ?_
  rw [up_thr hth]
  refine j_aload_n dX8_stays_5 rfl ?_
  refine j_iload_n dX8_stays_6 rfl ?_
  refine j_callVi (As := [vi s]) (rest := []) (t_X8_isShip _ s (by omega) (by omega)) rfl cm_X8_isShip ci_X8_isShip ml_X8_156 oq_118 rfl (Nat.le_of_ble_eq_true rfl) (Nat.le_of_ble_eq_true rfl) dX8_stays_7 (fun r7 S7 hp7 => ?_)
  obtain ⟨⟨rfl, hc7⟩ | ⟨rfl, hc7⟩, he7⟩ := hp7
  · rw [he7]
    refine j_if_eq (tgt := 20) dX8_stays_10 (by decide) (by omega)  (fun h => absurd h (by decide)) (fun _ => ?_)
    refine j_iload_n dX8_stays_13 rfl ?_
    refine j_callSi (As := [vi law]) (rest := []) (t_X8_isLaw _ law (by omega)) rfl cm_X8_isLaw cs_X8_isLaw ml_X8_184 rfl (Nat.le_of_ble_eq_true rfl) (Nat.le_of_ble_eq_true rfl) dX8_stays_14 (fun r14 S14 hp14 => ?_)
    obtain ⟨⟨rfl, hc14⟩ | ⟨rfl, hc14⟩, he14⟩ := hp14
    · rw [he14]
      refine j_if_ne (tgt := 22) dX8_stays_17 (by decide) (by omega)  (fun _ => ?_) (fun h => absurd h (by decide))
      refine j_aload_n dX8_stays_22 rfl ?_
      refine j_iload_n dX8_stays_23 rfl ?_
      refine j_iload_n dX8_stays_24 rfl ?_
      refine j_callVi (As := [vi s, vi law]) (rest := []) (t_X8_isOf _ s law hM (by omega) (by omega) (by omega) (by omega)) rfl cm_X8_isOf ci_X8_isOf ml_X8_187 oq_118 rfl (Nat.le_of_ble_eq_true rfl) (Nat.le_of_ble_eq_true rfl) dX8_stays_25 (fun r25 S25 hp25 => ?_)
      obtain ⟨hr25, hsm25, hl25⟩ := hp25
      have eS25_118 : S25 118 = S 118 := hsm25 118 (by decide)
      have eS25_119 : S25 119 = S 119 := hsm25 119 (by decide)
      have eS25_120 : S25 120 = S 120 := hsm25 120 (by decide)
      have eS25_121 : S25 121 = S 121 := hsm25 121 (by decide)
      have eS25_124 : S25 124 = S 124 := hsm25 124 (by decide)
      have eS25_125 : S25 125 = S 125 := hsm25 125 (by decide)
      have eS25_126 : S25 126 = S 126 := hsm25 126 (by decide)
      have eS25_127 : S25 127 = S 127 := hsm25 127 (by decide)
      have eS25_128 : S25 128 = S 128 := hsm25 128 (by decide)
      have eS25_129 : S25 129 = S 129 := hsm25 129 (by decide)
      have eS25_130 : S25 130 = S 130 := hsm25 130 (by decide)
      have h00 : whoSY (S 118 13) (S 121) (S 124) (mAg S) (S 120) (mHd S) s law 0 = r25 := hr25.symm
      have hwb0 := who_bd (n := S 118 13) (mk := (fun k => S 124 (mHd S (s * 6 + k)))) (ag := (fun k => mAg S (mHd S (s * 6 + k)))) (wt := S 120) (law := law) (by omega) (fun k a b => by have g := hhd s k (by omega) (by omega) a b; exact (hpt _ g.1 g.2).2.1)
      rw [show who _ _ _ _ _ = r25 from hr25.symm] at hwb0
      refine j_istore_n (L' := [(0, .ref 118), (1, vi s), (2, vi law), (3, vi r25)]) dX8_stays_28 (Nat.le_of_ble_eq_true rfl) rfl ?_
      refine j_iconst dX8_stays_29 ?_
      refine j_istore (L' := [(0, .ref 118), (1, vi s), (2, vi law), (3, vi r25), (4, vi 1)]) dX8_stays_30 (Nat.le_of_ble_eq_true rfl) rfl ?_
      have lp32 : ∀ (n : Nat) (z : Int) (T : St), (41 - z).toNat < n → (1 ≤ z ∧ z ≤ 41 ∧ (∀ j, 0 ≤ j → j < S 118 13 → T 131 j = yMk (S 121) (fun k => S 124 (mHd S (s * 6 + k))) (fun k => mAg S (mHd S (s * 6 + k))) (z - 1).toNat j ∧ T 132 j = yAg (S 121) (fun k => mAg S (mHd S (s * 6 + k))) (z - 1).toNat j) ∧ Same [131, 132] S T ∧ ∀ y : Nat, 1 ≤ y → (y : Int) < z → whoSY (S 118 13) (S 121) (S 124) (mAg S) (S 120) (mHd S) s law y = r25) → JJ mX8_stays (RX mX8_stays P) 32 [(0, .ref 118), (1, vi s), (2, vi law), (3, vi r25), (4, vi z)] [] T := by
        intro n
        induction n with
        | zero => intro z T hm; exact absurd hm (Nat.not_lt_zero _)
        | succ n ih32 =>
          intro z T hm32 hv32
          obtain ⟨hv1, hv2, hv3, hv7, hv8⟩ := hv32
          have eT_118 : T 118 = S 118 := hv7 118 (by decide)
          have eT_119 : T 119 = S 119 := hv7 119 (by decide)
          have eT_120 : T 120 = S 120 := hv7 120 (by decide)
          have eT_121 : T 121 = S 121 := hv7 121 (by decide)
          have eT_124 : T 124 = S 124 := hv7 124 (by decide)
          have eT_125 : T 125 = S 125 := hv7 125 (by decide)
          have eT_126 : T 126 = S 126 := hv7 126 (by decide)
          have eT_127 : T 127 = S 127 := hv7 127 (by decide)
          have eT_128 : T 128 = S 128 := hv7 128 (by decide)
          have eT_129 : T 129 = S 129 := hv7 129 (by decide)
          have eT_130 : T 130 = S 130 := hv7 130 (by decide)
          refine j_iload dX8_stays_32 rfl ?_
          refine j_bipush dX8_stays_34 (by decide) ?_
          refine j_icmp_ge (tgt := 68) dX8_stays_36 (by decide) (by omega) (by omega) (fun h36 => ?_) (fun h36 => ?_)
          · refine j_bipush dX8_stays_68 (by decide) ?_
            exact j_iret rfl dX8_stays_70 (fun h => by cases h) (hP _ _ ⟨by unfold fStays; rw [if_pos (by omega)]; by_cases hq : r25 = -9; exact (sty_n (h00.trans hq)).symm; exact (sty_eq (by rw [h00]; exact hq) (Or.inr ⟨rfl, fun y a b => by rw [h00]; exact hv8 y a (by omega)⟩)).symm, hv7⟩)
          · refine j_iload_n dX8_stays_39 rfl ?_
            refine j_bipush dX8_stays_40 (by decide) ?_
            refine j_icmp_eq (tgt := 68) dX8_stays_42 (by decide) (by omega) (by omega) (fun h42 => ?_) (fun h42 => ?_)
            · refine j_bipush dX8_stays_68 (by decide) ?_
              exact j_iret rfl dX8_stays_70 (fun h => by cases h) (hP _ _ ⟨by unfold fStays; rw [if_pos (by omega)]; by_cases hq : r25 = -9; exact (sty_n (h00.trans hq)).symm; exact (sty_eq (by rw [h00]; exact hq) (Or.inr ⟨rfl, fun y a b => by rw [h00]; exact hv8 y a (by omega)⟩)).symm, hv7⟩)
            · refine j_aload_n dX8_stays_45 rfl ?_
              refine j_callVi (As := []) (rest := []) (t_X8_ages _ (by rw [eT_118]; exact hn0) (by rw [eT_118]; exact hn1) (by rw [eT_118]; exact (fun k a b => by rw [(hv3 k a (by omega)).2]; have g := hhd s k (by omega) (by omega) a (by omega); have := yAg_bd (lf := S 121) (ag := (fun k => mAg S (mHd S (s * 6 + k)))) (k := k) ((hpt _ g.1 g.2).2.2.1) (z - 1).toNat; omega))) rfl cm_X8_ages ci_X8_ages ml_X8_217 oq_118 rfl (Nat.le_of_ble_eq_true rfl) (Nat.le_of_ble_eq_true rfl) dX8_stays_46 (fun r46 S46 hp46 => ?_)
              obtain ⟨hr46, hsm46, hrn46⟩ := hp46
              rw [eT_118, eT_121] at hr46
              rw [eT_118] at hrn46
              have eS46_118 : S46 118 = S 118 := (hsm46 118 (by decide)).trans eT_118
              have eS46_119 : S46 119 = S 119 := (hsm46 119 (by decide)).trans eT_119
              have eS46_120 : S46 120 = S 120 := (hsm46 120 (by decide)).trans eT_120
              have eS46_121 : S46 121 = S 121 := (hsm46 121 (by decide)).trans eT_121
              have eS46_124 : S46 124 = S 124 := (hsm46 124 (by decide)).trans eT_124
              have eS46_125 : S46 125 = S 125 := (hsm46 125 (by decide)).trans eT_125
              have eS46_126 : S46 126 = S 126 := (hsm46 126 (by decide)).trans eT_126
              have eS46_127 : S46 127 = S 127 := (hsm46 127 (by decide)).trans eT_127
              have eS46_128 : S46 128 = S 128 := (hsm46 128 (by decide)).trans eT_128
              have eS46_129 : S46 129 = S 129 := (hsm46 129 (by decide)).trans eT_129
              have eS46_130 : S46 130 = S 130 := (hsm46 130 (by decide)).trans eT_130
              have hren := renm_y (n := S 118 13) eT_121 hv3 hrn46
              have hy : ∀ j, 0 ≤ j → j < S 118 13 → S46 131 j = yMk (S 121) (fun k => S 124 (mHd S (s * 6 + k))) (fun k => mAg S (mHd S (s * 6 + k))) z.toNat j ∧ S46 132 j = yAg (S 121) (fun k => mAg S (mHd S (s * 6 + k))) z.toNat j := fun j a b => by rw [yMk_s hv1, yAg_s hv1]; exact hren j a b
              refine j_pop dX8_stays_49 rfl ?_
              refine j_aload_n dX8_stays_50 rfl ?_
              refine j_iload_n dX8_stays_51 rfl ?_
              refine j_callVi (As := [vi law]) (rest := []) (t_X8_isBy _ law (by rw [eS46_118]; exact hn0) (by rw [eS46_118]; exact hn1) (by rw [eS46_120]; exact hwt) (by rw [eS46_118]; intro k a b; rw [(hy k a b).1]; have g := hhd s k (by omega) (by omega) a b; exact yMk_mk (lf := S 121) (mk := (fun k => S 124 (mHd S (s * 6 + k)))) (ag := (fun k => mAg S (mHd S (s * 6 + k)))) ((hpt _ g.1 g.2).2.1) _) (by omega) (by omega)) rfl cm_X8_isBy ci_X8_isBy ml_X8_181 oq_118 rfl (Nat.le_of_ble_eq_true rfl) (Nat.le_of_ble_eq_true rfl) dX8_stays_52 (fun r52 S52 hp52 => ?_)
              obtain ⟨hr52, he52⟩ := hp52
              rw [he52]
              have hw52 : r52 = whoSY (S 118 13) (S 121) (S 124) (mAg S) (S 120) (mHd S) s law z.toNat := by rw [hr52, eS46_118, eS46_120]; exact who_congr (by omega) (fun k a b => ⟨(hy k a b).1, (hy k a b).2, rfl⟩)
              have hwb52 := who_bd (n := S 118 13) (mk := yMk (S 121) (fun k => S 124 (mHd S (s * 6 + k))) (fun k => mAg S (mHd S (s * 6 + k))) z.toNat) (ag := yAg (S 121) (fun k => mAg S (mHd S (s * 6 + k))) z.toNat) (wt := S 120) (law := law) (by omega) (fun k a b => by have g := hhd s k (by omega) (by omega) a b; exact yMk_mk (lf := S 121) (mk := (fun k => S 124 (mHd S (s * 6 + k)))) (ag := (fun k => mAg S (mHd S (s * 6 + k)))) ((hpt _ g.1 g.2).2.1) _)
              rw [show who _ _ _ _ _ = r52 from hw52.symm] at hwb52
              refine j_iload_n dX8_stays_55 rfl ?_
              refine j_icmp_eq (tgt := 62) dX8_stays_56 (by decide) (by omega) (by omega) (fun h56 => ?_) (fun h56 => ?_)
              · refine j_iinc (L' := [(0, .ref 118), (1, vi s), (2, vi law), (3, vi r25), (4, vi (z + 1))]) dX8_stays_62 (Nat.le_of_ble_eq_true rfl) rfl rfl ?_
                refine j_goto (tgt := 32) dX8_stays_65 (by decide) ?_
                exact ih32 (z + 1) S46 (by omega) ⟨by omega, by omega, fun j a b => by rw [show z + 1 - 1 = z by omega]; exact hy j a b, hv7.tr hsm46, fun y a b => if e : (y : Int) = z then by rw [show y = z.toNat by omega, ← hw52]; exact h56 else hv8 y a (by omega)⟩
              · refine j_iload dX8_stays_59 rfl ?_
                exact j_iret rfl dX8_stays_61 (fun h => by cases h) (hP _ _ ⟨by unfold fStays; rw [if_pos (by omega)]; refine (sty_eq (by rw [h00]; exact h42) (Or.inl ⟨z.toNat, by omega, by omega, by omega, ?_, fun y a b => ?_⟩)).symm <;> rw [h00] <;> first | exact hv8 y a (by omega) | (rw [← hw52]; exact h56), hv7.tr hsm46⟩)
      exact lp32 _ 1 S25 (Nat.lt_succ_self _) ⟨by omega, by omega, fun j a b => hl25 j a b, hsm25, fun y a b => by omega⟩
    · rw [he14]
      refine j_if_ne (tgt := 22) dX8_stays_17 (by decide) (by omega)  (fun h => absurd h (by decide)) (fun _ => ?_)
      refine j_iconst dX8_stays_20 ?_
      exact j_iret rfl dX8_stays_21 (fun h => by cases h) (hP _ _ ⟨by unfold fStays; rw [if_neg (by omega)], Same.rf⟩)
  · rw [he7]
    refine j_if_eq (tgt := 20) dX8_stays_10 (by decide) (by omega)  (fun _ => ?_) (fun h => absurd h (by decide))
    refine j_iconst dX8_stays_20 ?_
    exact j_iret rfl dX8_stays_21 (fun h => by cases h) (hP _ _ ⟨by unfold fStays; rw [if_neg (by omega)], Same.rf⟩)
set_option maxRecDepth 100000 in
set_option maxHeartbeats 4000000 in
theorem t_X8_gcd (S : St) (a b : Int) (a0 : 0 ≤ a) (a1 : a < 4611686018427387904) (b0 : 0 ≤ b) (b1 : b < 4611686018427387904) : EX mX8_gcd [vl a, vl b] S (fun r S' => r = gcdI a b ∧ S' = S) := by
  suffices hh : ∀ P : Int → St → Prop, (∀ r S', (r = gcdI a b ∧ S' = S) → P r S') → EX mX8_gcd [vl a, vl b] S P from hh _ (fun _ _ h => h)
  intro P hP
  refine EX.of (L := [(0, vl a), (2, vl b)]) rfl rfl (Nat.le_of_ble_eq_true rfl) rfl ?_
  refine j_lload_n dX8_gcd_0 rfl ?_
  refine j_lstore (L' := [(0, vl a), (2, vl b), (4, vl a)]) dX8_gcd_1 (Nat.le_of_ble_eq_true rfl) rfl ?_
  refine j_lload_n dX8_gcd_3 rfl ?_
  refine j_lstore (L' := [(0, vl a), (2, vl b), (4, vl a), (6, vl b)]) dX8_gcd_4 (Nat.le_of_ble_eq_true rfl) rfl ?_
  have lp6 : ∀ (n : Nat) (g l : Int), l.toNat < n → ((0 ≤ g ∧ g < 4611686018427387904) ∧ (0 ≤ l ∧ l < 4611686018427387904) ∧ gcdI g l = gcdI a b) → JJ mX8_gcd (RX mX8_gcd P) 6 [(0, vl a), (2, vl b), (4, vl g), (6, vl l)] [] S := by
    intro n
    induction n with
    | zero => intro g l hm; exact absurd hm (Nat.not_lt_zero _)
    | succ n ih6 =>
      intro g l hm6 hv6
      obtain ⟨hv1, hv2, hv4⟩ := hv6
      refine j_lload dX8_gcd_6 rfl ?_
      refine j_lconst (x := 0) dX8_gcd_8 rfl ?_
      refine j_lcmp dX8_gcd_9 (by omega) (by omega) ?_
      refine j_if_eq (tgt := 31) dX8_gcd_10 (by decide) (by unfold sg; (repeat' split) <;> omega)  (fun h10 => ?_) (fun h10 => ?_)
      · refine j_lload dX8_gcd_31 rfl ?_
        exact j_lret rfl dX8_gcd_33 (fun h => by cases h) (hP _ _ ⟨by rw [← hv4, show l = 0 from (by unfold sg at h10; (repeat' split at h10) <;> omega), gcdI_0 (by omega)], rfl⟩)
      · have hl0 : 0 < l := by unfold sg at h10; (repeat' split at h10) <;> omega
        have hml := Int.emod_lt_of_pos g hl0
        have hmn := Int.emod_nonneg g (show l ≠ 0 by omega)
        refine j_lload dX8_gcd_13 rfl ?_
        refine j_lload dX8_gcd_15 rfl ?_
        refine j_lrem dX8_gcd_17 (by omega) (by omega) (by omega) (by omega) ?_
        refine j_lstore (L' := [(0, vl a), (2, vl b), (4, vl g), (6, vl l), (8, vl (g % l))]) dX8_gcd_18 (Nat.le_of_ble_eq_true rfl) rfl ?_
        refine j_lload dX8_gcd_20 rfl ?_
        refine j_lstore (L' := [(0, vl a), (2, vl b), (4, vl l), (6, vl l), (8, vl (g % l))]) dX8_gcd_22 (Nat.le_of_ble_eq_true rfl) rfl ?_
        refine j_lload dX8_gcd_24 rfl ?_
        refine j_lstore (L' := [(0, vl a), (2, vl b), (4, vl l), (6, vl (g % l)), (8, vl (g % l))]) dX8_gcd_26 (Nat.le_of_ble_eq_true rfl) rfl ?_
        refine j_goto (tgt := 6) dX8_gcd_28 (by decide) ?_
        refine j_sub (L' := [(0, vl a), (2, vl b), (4, vl l), (6, vl (g % l))]) (by simp) ?_
        exact ih6 l (g % l) (by omega) ⟨by omega, ⟨Int.emod_nonneg g (by omega), by have := Int.emod_lt_of_pos g hl0; omega⟩, by rw [gcdI_step (by omega) hl0]; exact hv4⟩
  exact lp6 _ a b (Nat.lt_succ_self _) ⟨by omega, by omega, rfl⟩
theorem putm9 {T : St} {n k x y : Int} {mk ag : Int → Int} (h : ∀ j, 0 ≤ j → j < n → j ≠ k → T 131 j = mk j ∧ T 132 j = ag j) : ∀ j, 0 ≤ j → j < n → up (up T 131 k x) 132 k y 131 j = st9 mk k x j ∧ up (up T 131 k x) 132 k y 132 j = st9 ag k y j := by
  intro j a b
  unfold st9
  by_cases e : j = k
  · subst e; simp [up]
  · rw [up_c (by decide), up_i e, up_i e, up_c (by decide), if_neg e, if_neg e]; exact h j a b e
set_option maxRecDepth 100000 in
set_option maxHeartbeats 4000000 in
theorem t_X8_decides (S : St) (s law : Int) (r_s : InR s) (r_law : InR law) (hM : MI S) : EX mX8_decides [.ref 118, vi s, vi law] S (fun r S' => r = fDec (S 118 13) (S 125 2) (S 124) (mAg S) (S 120) (mHd S) s law ∧ Same [131, 132] S S') := by
  suffices hh : ∀ P : Int → St → Prop, (∀ r S', (r = fDec (S 118 13) (S 125 2) (S 124) (mAg S) (S 120) (mHd S) s law ∧ Same [131, 132] S S') → P r S') → EX mX8_decides [.ref 118, vi s, vi law] S P from hh _ (fun _ _ h => h)
  intro P hP
  refine EX.of (L := [(0, .ref 118), (1, vi s), (2, vi law)]) rfl rfl (Nat.le_of_ble_eq_true rfl) rfl ?_
  obtain ⟨⟨hn0, hn1⟩, hwl, ⟨hp0, hp1⟩, ⟨hs0, hs1⟩, hyr, hpt, hhd, hth⟩ := id hM
  have hwt : ∀ k, 0 ≤ k → k < 6 → 1 ≤ S 120 k ∧ S 120 k ≤ 9 := fun k a b => ⟨(hwl k a b).1, (hwl k a b).2.1⟩
  refine j_aload_n dX8_decides_0 rfl ?_
  refine j_iconst dX8_decides_1 ?_
  refine j_putI (i := 0) dX8_decides_2 fg_X8_63 ft_8_0 fq_118_0 rfl (by omega) ?_
  rw [up_thr hth]
  refine j_aload_n dX8_decides_5 rfl ?_
  refine j_iload_n dX8_decides_6 rfl ?_
  refine j_callVi (As := [vi s]) (rest := []) (t_X8_isShip _ s (by omega) (by omega)) rfl cm_X8_isShip ci_X8_isShip ml_X8_156 oq_118 rfl (Nat.le_of_ble_eq_true rfl) (Nat.le_of_ble_eq_true rfl) dX8_decides_7 (fun r7 S7 hp7 => ?_)
  obtain ⟨⟨rfl, hc7⟩ | ⟨rfl, hc7⟩, he7⟩ := hp7
  · rw [he7]
    refine j_if_eq (tgt := 20) dX8_decides_10 (by decide) (by omega)  (fun h => absurd h (by decide)) (fun _ => ?_)
    refine j_iload_n dX8_decides_13 rfl ?_
    refine j_callSi (As := [vi law]) (rest := []) (t_X8_isLaw _ law (by omega)) rfl cm_X8_isLaw cs_X8_isLaw ml_X8_184 rfl (Nat.le_of_ble_eq_true rfl) (Nat.le_of_ble_eq_true rfl) dX8_decides_14 (fun r14 S14 hp14 => ?_)
    obtain ⟨⟨rfl, hc14⟩ | ⟨rfl, hc14⟩, he14⟩ := hp14
    · rw [he14]
      refine j_if_ne (tgt := 22) dX8_decides_17 (by decide) (by omega)  (fun _ => ?_) (fun h => absurd h (by decide))
      refine j_aload_n dX8_decides_22 rfl ?_
      refine j_iload_n dX8_decides_23 rfl ?_
      refine j_iload_n dX8_decides_24 rfl ?_
      refine j_callVi (As := [vi s, vi law]) (rest := []) (t_X8_isOf _ s law hM (by omega) (by omega) (by omega) (by omega)) rfl cm_X8_isOf ci_X8_isOf ml_X8_187 oq_118 rfl (Nat.le_of_ble_eq_true rfl) (Nat.le_of_ble_eq_true rfl) dX8_decides_25 (fun r25 S25 hp25 => ?_)
      obtain ⟨hr25, hsm25, hl25⟩ := hp25
      have eS25_118 : S25 118 = S 118 := hsm25 118 (by decide)
      have eS25_119 : S25 119 = S 119 := hsm25 119 (by decide)
      have eS25_120 : S25 120 = S 120 := hsm25 120 (by decide)
      have eS25_121 : S25 121 = S 121 := hsm25 121 (by decide)
      have eS25_124 : S25 124 = S 124 := hsm25 124 (by decide)
      have eS25_125 : S25 125 = S 125 := hsm25 125 (by decide)
      have eS25_126 : S25 126 = S 126 := hsm25 126 (by decide)
      have eS25_127 : S25 127 = S 127 := hsm25 127 (by decide)
      have eS25_128 : S25 128 = S 128 := hsm25 128 (by decide)
      have eS25_129 : S25 129 = S 129 := hsm25 129 (by decide)
      have eS25_130 : S25 130 = S 130 := hsm25 130 (by decide)
      have hmkS : ∀ k, 0 ≤ k → k < S 118 13 → isMk (S 124 (mHd S (s * 6 + k))) := fun k a b => by have g := hhd s k (by omega) (by omega) a b; exact (hpt _ g.1 g.2).2.1
      have hwb0 := who_bd (n := S 118 13) (mk := (fun k => S 124 (mHd S (s * 6 + k)))) (ag := (fun k => mAg S (mHd S (s * 6 + k)))) (wt := S 120) (law := law) (by omega) hmkS
      rw [show who _ _ _ _ _ = r25 from hr25.symm] at hwb0
      refine j_istore_n (L' := [(0, .ref 118), (1, vi s), (2, vi law), (3, vi r25)]) dX8_decides_28 (Nat.le_of_ble_eq_true rfl) rfl ?_
      refine j_iconst dX8_decides_29 ?_
      refine j_istore (L' := [(0, .ref 118), (1, vi s), (2, vi law), (3, vi r25), (4, vi 0)]) dX8_decides_30 (Nat.le_of_ble_eq_true rfl) rfl ?_
      refine j_iconst dX8_decides_32 ?_
      refine j_istore (L' := [(0, .ref 118), (1, vi s), (2, vi law), (3, vi r25), (4, vi 0), (5, vi 0)]) dX8_decides_33 (Nat.le_of_ble_eq_true rfl) rfl ?_
      have lp35 : ∀ (n : Nat) (b k : Int) (T : St), (S 118 13 - k).toNat < n → (0 ≤ k ∧ k ≤ S 118 13 ∧ Same [131, 132] S T ∧ b = sm (fun k => if who (S 118 13) (st9 (fun k => S 124 (mHd S (s * 6 + k))) k 9) (st9 (fun k => mAg S (mHd S (s * 6 + k))) k 0) (S 120) law ≠ who (S 118 13) (fun k => S 124 (mHd S (s * 6 + k))) (fun k => mAg S (mHd S (s * 6 + k))) (S 120) law then ((2 ^ k.toNat : Nat) : Int) else 0) k.toNat) → JJ mX8_decides (RX mX8_decides P) 35 [(0, .ref 118), (1, vi s), (2, vi law), (3, vi r25), (4, vi b), (5, vi k)] [] T := by
        intro n
        induction n with
        | zero => intro b k T hm; exact absurd hm (Nat.not_lt_zero _)
        | succ n ih35 =>
          intro b k T hm35 hv35
          obtain ⟨hv1, hv2, hv3, hv5⟩ := hv35
          have hb := bs_lt (f := fun k => if who (S 118 13) (st9 (fun k => S 124 (mHd S (s * 6 + k))) k 9) (st9 (fun k => mAg S (mHd S (s * 6 + k))) k 0) (S 120) law ≠ who (S 118 13) (fun k => S 124 (mHd S (s * 6 + k))) (fun k => mAg S (mHd S (s * 6 + k))) (S 120) law then ((2 ^ k.toNat : Nat) : Int) else 0) (n := k.toNat) (fun i i0 i1 => by split; exact Or.inr rfl; exact Or.inl rfl)
          rw [← hv5] at hb
          have eT_118 : T 118 = S 118 := hv3 118 (by decide)
          have eT_119 : T 119 = S 119 := hv3 119 (by decide)
          have eT_120 : T 120 = S 120 := hv3 120 (by decide)
          have eT_121 : T 121 = S 121 := hv3 121 (by decide)
          have eT_124 : T 124 = S 124 := hv3 124 (by decide)
          have eT_125 : T 125 = S 125 := hv3 125 (by decide)
          have eT_126 : T 126 = S 126 := hv3 126 (by decide)
          have eT_127 : T 127 = S 127 := hv3 127 (by decide)
          have eT_128 : T 128 = S 128 := hv3 128 (by decide)
          have eT_129 : T 129 = S 129 := hv3 129 (by decide)
          have eT_130 : T 130 = S 130 := hv3 130 (by decide)
          refine j_iload dX8_decides_35 rfl ?_
          refine j_aload_n dX8_decides_37 rfl ?_
          refine j_getI (x := S 118 13) dX8_decides_38 fg_X8_59 fq_118_13 (congrFun eT_118 _) (fun hi38 => ?_)
          refine j_icmp_ge (tgt := 94) dX8_decides_41 (by decide) (by omega) (by omega) (fun h41 => ?_) (fun h41 => ?_)
          · refine j_iload dX8_decides_94 rfl ?_
            exact j_iret rfl dX8_decides_96 (fun h => by cases h) (hP _ _ ⟨by unfold fDec decS decF; rw [if_pos (by omega), hv5]; congr 2; omega, hv3⟩)
          · refine j_aload_n dX8_decides_44 rfl ?_
            refine j_iload_n dX8_decides_45 rfl ?_
            refine j_callVv (As := [vi s]) (rest := []) (t_X8_asIs _ s (hM.same hv3 (by decide)) (by omega) (by rw [hv3 125 (by decide)]; omega)) rfl cm_X8_asIs ci_X8_asIs ml_X8_178 oq_118 rfl (Nat.le_of_ble_eq_true rfl) (Nat.le_of_ble_eq_true rfl) dX8_decides_46 (fun r46 S46 hp46 => ?_)
            obtain ⟨hsm46, hl46⟩ := hp46
            obtain ⟨v1, v2, v3, v4, v5⟩ := mv_same hv3 (by decide)
            rw [hv3 118 (by decide), hv3 124 (by decide), v2, v3] at hl46
            have eS46_118 : S46 118 = S 118 := (hsm46 118 (by decide)).trans eT_118
            have eS46_119 : S46 119 = S 119 := (hsm46 119 (by decide)).trans eT_119
            have eS46_120 : S46 120 = S 120 := (hsm46 120 (by decide)).trans eT_120
            have eS46_121 : S46 121 = S 121 := (hsm46 121 (by decide)).trans eT_121
            have eS46_124 : S46 124 = S 124 := (hsm46 124 (by decide)).trans eT_124
            have eS46_125 : S46 125 = S 125 := (hsm46 125 (by decide)).trans eT_125
            have eS46_126 : S46 126 = S 126 := (hsm46 126 (by decide)).trans eT_126
            have eS46_127 : S46 127 = S 127 := (hsm46 127 (by decide)).trans eT_127
            have eS46_128 : S46 128 = S 128 := (hsm46 128 (by decide)).trans eT_128
            have eS46_129 : S46 129 = S 129 := (hsm46 129 (by decide)).trans eT_129
            have eS46_130 : S46 130 = S 130 := (hsm46 130 (by decide)).trans eT_130
            refine j_aload_n dX8_decides_49 rfl ?_
            refine j_getR dX8_decides_50 fg_X8_47 fq_118_26 ?_
            refine j_iload dX8_decides_53 rfl ?_
            refine j_bipush dX8_decides_55 (by decide) ?_
            refine j_iast dX8_decides_57 aq_131 (by omega) (by omega) (by omega) ?_
            refine j_aload_n dX8_decides_58 rfl ?_
            refine j_getR dX8_decides_59 fg_X8_50 fq_118_27 ?_
            refine j_iload dX8_decides_62 rfl ?_
            refine j_iconst dX8_decides_64 ?_
            refine j_iast dX8_decides_65 aq_132 (by omega) (by omega) (by omega) ?_
            refine j_iload dX8_decides_66 rfl ?_
            refine j_aload_n dX8_decides_68 rfl ?_
            refine j_iload_n dX8_decides_69 rfl ?_
            have h9 := putm9 (n := S 118 13) (k := k) (x := 9) (y := 0) (mk := (fun k => S 124 (mHd S (s * 6 + k)))) (ag := (fun k => mAg S (mHd S (s * 6 + k)))) (fun j a b _ => hl46 j a b)
            refine j_callVi (As := [vi law]) (rest := [vi b]) (t_X8_isBy _ law (by show 2 ≤ S46 118 13; rw [eS46_118]; exact hn0) (by show S46 118 13 ≤ 6; rw [eS46_118]; exact hn1) (by show ∀ k, 0 ≤ k → k < 6 → 1 ≤ S46 120 k ∧ S46 120 k ≤ 9; rw [eS46_120]; exact hwt) (by show ∀ j, 0 ≤ j → j < S46 118 13 → isMk ((up (up S46 131 k 9) 132 k 0) 131 j); rw [eS46_118]; intro j a b; rw [(h9 j a b).1]; exact st9_mk hmkS (Or.inr rfl) j a b) (by omega) (by omega)) rfl cm_X8_isBy ci_X8_isBy ml_X8_181 oq_118 rfl (Nat.le_of_ble_eq_true rfl) (Nat.le_of_ble_eq_true rfl) dX8_decides_70 (fun r70 S70 hp70 => ?_)
            obtain ⟨hr70, he70⟩ := hp70
            rw [he70]
            have hw70 : r70 = who (S 118 13) (st9 (fun k => S 124 (mHd S (s * 6 + k))) k (9)) (st9 (fun k => mAg S (mHd S (s * 6 + k))) k (0)) (S 120) law := by rw [hr70]; show who (S46 118 13) ((up (up S46 131 k 9) 132 k 0) 131) ((up (up S46 131 k 9) 132 k 0) 132) (S46 120) law = _; rw [eS46_118, eS46_120]; exact who_congr (by omega) (fun j a b => ⟨(h9 j a b).1, (h9 j a b).2, rfl⟩)
            have hwb70 := who_bd (n := S 118 13) (mk := st9 (fun k => S 124 (mHd S (s * 6 + k))) k (9)) (ag := st9 (fun k => mAg S (mHd S (s * 6 + k))) k (0)) (wt := S 120) (law := law) (by omega) (st9_mk hmkS (Or.inr rfl))
            rw [← hw70] at hwb70
            refine j_iload_n dX8_decides_73 rfl ?_
            refine j_icmp_eq (tgt := 84) dX8_decides_74 (by decide) (by omega) (by omega) (fun h74 => ?_) (fun h74 => ?_)
            · refine j_iconst dX8_decides_84 ?_
              refine j_ior dX8_decides_85 (by omega) (by omega) ?_
              rw [or_z (by omega)]
              refine j_istore (L' := [(0, .ref 118), (1, vi s), (2, vi law), (3, vi r25), (4, vi b), (5, vi k)]) dX8_decides_86 (Nat.le_of_ble_eq_true rfl) rfl ?_
              refine j_iinc (L' := [(0, .ref 118), (1, vi s), (2, vi law), (3, vi r25), (4, vi b), (5, vi (k + 1))]) dX8_decides_88 (Nat.le_of_ble_eq_true rfl) rfl rfl ?_
              refine j_goto (tgt := 35) dX8_decides_91 (by decide) ?_
              exact ih35 b (k + 1) (up (up S46 131 k 9) 132 k 0) (by omega) ⟨by omega, by omega, same_up (same_up (hv3.tr hsm46) (by decide)) (by decide), by rw [sm_s (by omega), ← hv5, ← hw70, show who _ _ _ _ _ = r25 from hr25.symm]; split <;> omega⟩
            · refine j_iconst dX8_decides_77 ?_
              refine j_iload dX8_decides_78 rfl ?_
              refine j_shl dX8_decides_80 (by omega) (by omega) ?_
              refine j_goto (tgt := 85) dX8_decides_81 (by decide) ?_
              refine j_ior dX8_decides_85 (by omega) (by omega) ?_
              rw [or_bit (by omega) (by omega)]
              refine j_istore (L' := [(0, .ref 118), (1, vi s), (2, vi law), (3, vi r25), (4, vi (b + ((2 ^ k.toNat : Nat) : Int))), (5, vi k)]) dX8_decides_86 (Nat.le_of_ble_eq_true rfl) rfl ?_
              refine j_iinc (L' := [(0, .ref 118), (1, vi s), (2, vi law), (3, vi r25), (4, vi (b + ((2 ^ k.toNat : Nat) : Int))), (5, vi (k + 1))]) dX8_decides_88 (Nat.le_of_ble_eq_true rfl) rfl rfl ?_
              refine j_goto (tgt := 35) dX8_decides_91 (by decide) ?_
              exact ih35 (b + ((2 ^ k.toNat : Nat) : Int)) (k + 1) (up (up S46 131 k 9) 132 k 0) (by omega) ⟨by omega, by omega, same_up (same_up (hv3.tr hsm46) (by decide)) (by decide), by rw [sm_s (by omega), ← hv5, ← hw70, show who _ _ _ _ _ = r25 from hr25.symm]; split <;> omega⟩
      exact lp35 _ 0 0 S25 (Nat.lt_succ_self _) ⟨by omega, by omega, hsm25, rfl⟩
    · rw [he14]
      refine j_if_ne (tgt := 22) dX8_decides_17 (by decide) (by omega)  (fun h => absurd h (by decide)) (fun _ => ?_)
      refine j_iconst dX8_decides_20 ?_
      exact j_iret rfl dX8_decides_21 (fun h => by cases h) (hP _ _ ⟨by unfold fDec; rw [if_neg (by omega)], Same.rf⟩)
  · rw [he7]
    refine j_if_eq (tgt := 20) dX8_decides_10 (by decide) (by omega)  (fun _ => ?_) (fun h => absurd h (by decide))
    refine j_iconst dX8_decides_20 ?_
    exact j_iret rfl dX8_decides_21 (fun h => by cases h) (hP _ _ ⟨by unfold fDec; rw [if_neg (by omega)], Same.rf⟩)
