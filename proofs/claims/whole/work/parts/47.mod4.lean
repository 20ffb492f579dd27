set_option maxRecDepth 100000 in
set_option maxHeartbeats 4000000 in
theorem t_X8_isOf (S : St) (s law : Int) (hM : MI S) (h0 : 0 ≤ s) (h1 : s < S 125 2) (hl0 : 0 ≤ law) (hl1 : law < 5) : EX mX8_isOf [.ref 118, vi s, vi law] S (fun r S' => r = whoS (S 118 13) (S 124) (mAg S) (S 120) (mHd S) s law ∧ Same [131, 132] S S' ∧ ∀ j, 0 ≤ j → j < S 118 13 → S' 131 j = S 124 (mHd S (s * 6 + j)) ∧ S' 132 j = mAg S (mHd S (s * 6 + j))) := by
  suffices hh : ∀ P : Int → St → Prop, (∀ r S', (r = whoS (S 118 13) (S 124) (mAg S) (S 120) (mHd S) s law ∧ Same [131, 132] S S' ∧ ∀ j, 0 ≤ j → j < S 118 13 → S' 131 j = S 124 (mHd S (s * 6 + j)) ∧ S' 132 j = mAg S (mHd S (s * 6 + j))) → P r S') → EX mX8_isOf [.ref 118, vi s, vi law] S P from hh _ (fun _ _ h => h)
  intro P hP
  refine EX.of (L := [(0, .ref 118), (1, vi s), (2, vi law)]) rfl rfl (Nat.le_of_ble_eq_true rfl) rfl ?_
  obtain ⟨⟨hn0, hn1⟩, hwl, ⟨hp0, hp1⟩, ⟨hs0, hs1⟩, hyr, hpt, hhd, hth⟩ := id hM
  have hwt : ∀ k, 0 ≤ k → k < 6 → 1 ≤ S 120 k ∧ S 120 k ≤ 9 := fun k a b => ⟨(hwl k a b).1, (hwl k a b).2.1⟩
  refine j_aload_n dX8_isOf_0 rfl ?_
  refine j_iload_n dX8_isOf_1 rfl ?_
  refine j_callVv (As := [vi s]) (rest := []) (t_X8_asIs _ s hM h0 h1) rfl cm_X8_asIs ci_X8_asIs ml_X8_178 oq_118 rfl (Nat.le_of_ble_eq_true rfl) (Nat.le_of_ble_eq_true rfl) dX8_isOf_2 (fun r2 S2 hp2 => ?_)
  obtain ⟨hsm2, hl2⟩ := hp2
  have eS2_118 : S2 118 = S 118 := hsm2 118 (by decide)
  have eS2_119 : S2 119 = S 119 := hsm2 119 (by decide)
  have eS2_120 : S2 120 = S 120 := hsm2 120 (by decide)
  have eS2_121 : S2 121 = S 121 := hsm2 121 (by decide)
  have eS2_124 : S2 124 = S 124 := hsm2 124 (by decide)
  have eS2_125 : S2 125 = S 125 := hsm2 125 (by decide)
  have eS2_126 : S2 126 = S 126 := hsm2 126 (by decide)
  have eS2_127 : S2 127 = S 127 := hsm2 127 (by decide)
  have eS2_128 : S2 128 = S 128 := hsm2 128 (by decide)
  have eS2_129 : S2 129 = S 129 := hsm2 129 (by decide)
  have eS2_130 : S2 130 = S 130 := hsm2 130 (by decide)
  refine j_aload_n dX8_isOf_5 rfl ?_
  refine j_iload_n dX8_isOf_6 rfl ?_
  refine j_callVi (As := [vi law]) (rest := []) (t_X8_isBy _ law (by rw [eS2_118]; exact hn0) (by rw [eS2_118]; exact hn1) (by rw [eS2_120]; exact hwt) (by rw [eS2_118]; intro k a b; rw [(hl2 k a b).1]; have g := hhd s k h0 h1 a b; exact (hpt _ g.1 g.2).2.1) hl0 hl1) rfl cm_X8_isBy ci_X8_isBy ml_X8_181 oq_118 rfl (Nat.le_of_ble_eq_true rfl) (Nat.le_of_ble_eq_true rfl) dX8_isOf_7 (fun r7 S7 hp7 => ?_)
  obtain ⟨hr7, he7⟩ := hp7
  exact j_iret rfl dX8_isOf_10 (fun h => by cases h) (hP _ _ ⟨by rw [hr7, eS2_118, eS2_120]; exact who_congr (by omega) (fun k a b => ⟨(hl2 k a b).1, (hl2 k a b).2, rfl⟩), by rw [he7]; exact hsm2, by rw [he7]; exact hl2⟩)
theorem mv_same {l : List Nat} {S T : St} (h : Same l S T) (hl : (∀ c ∈ l, c ∉ [118, 120, 121, 124, 125])) : mWh T = mWh S ∧ mAg T = mAg S ∧ mHd T = mHd S ∧ mOw T = mOw S ∧ mPl T = mPl S := by
  have e : T 125 = S 125 := h 125 (fun z => hl 125 z (by decide))
  unfold mWh mAg mHd mOw mPl
  rw [e]
  exact ⟨rfl, rfl, rfl, rfl, rfl⟩
set_option maxRecDepth 100000 in
set_option maxHeartbeats 4000000 in
theorem t_X8_twinsBy (S : St) (law : Int) (hM : MI S) (hl0 : 0 ≤ law) (hl1 : law < 5) : EX mX8_twinsBy [.ref 118, vi law] S (fun r S' => Twn (S 125 2) (fun s => whoS (S 118 13) (S 124) (mAg S) (S 120) (mHd S) s law) r ∧ Same [131, 132] S S') := by
  suffices hh : ∀ P : Int → St → Prop, (∀ r S', (Twn (S 125 2) (fun s => whoS (S 118 13) (S 124) (mAg S) (S 120) (mHd S) s law) r ∧ Same [131, 132] S S') → P r S') → EX mX8_twinsBy [.ref 118, vi law] S P from hh _ (fun _ _ h => h)
  intro P hP
  refine EX.of (L := [(0, .ref 118), (1, vi law)]) rfl rfl (Nat.le_of_ble_eq_true rfl) rfl ?_
  obtain ⟨⟨hn0, hn1⟩, hwl, ⟨hp0, hp1⟩, ⟨hs0, hs1⟩, hyr, hpt, hhd, hth⟩ := id hM
  have hwt : ∀ k, 0 ≤ k → k < 6 → 1 ≤ S 120 k ∧ S 120 k ≤ 9 := fun k a b => ⟨(hwl k a b).1, (hwl k a b).2.1⟩
  refine j_iconst dX8_twinsBy_0 ?_
  refine j_istore_n (L' := [(0, .ref 118), (1, vi law), (2, vi 0)]) dX8_twinsBy_1 (Nat.le_of_ble_eq_true rfl) rfl ?_
  have lp2 : ∀ (n : Nat) (s : Int) (T : St), (S 125 2 - s).toNat < n → (0 ≤ s ∧ s ≤ S 125 2 ∧ Same [131, 132] S T ∧ ∀ s' t', 0 ≤ s' → s' < s → s' < t' → t' < S 125 2 → whoS (S 118 13) (S 124) (mAg S) (S 120) (mHd S) s' law ≠ -9 → whoS (S 118 13) (S 124) (mAg S) (S 120) (mHd S) t' law ≠ whoS (S 118 13) (S 124) (mAg S) (S 120) (mHd S) s' law) → JJ mX8_twinsBy (RX mX8_twinsBy P) 2 [(0, .ref 118), (1, vi law), (2, vi s)] [] T := by
    intro n
    induction n with
    | zero => intro s T hm; exact absurd hm (Nat.not_lt_zero _)
    | succ n ih2 =>
      intro s T hm2 hv2
      obtain ⟨hv1, hv2, hv3, hv4⟩ := hv2
      have eT_118 : T 118 = S 118 := hv3 118 (by decide)
      have eT_119 : T 119 = S 119 := hv3 119 (by decide)
      have eT_120 : T 120 = S 120 := hv3 120 (by decide)
      have eT_121 : T 121 = S 121 := hv3 121 (by decide)
      have eT_124 : T 124 = S 124 := hv3 124 (by decide)
      have eT_125 : T 125 = S 125 := hv3 125 (by decide)
      have eT_126 : T 126 = S 126 := hv3 126 (by decide)
      have eT_127 : T 127 = S 127 := hv3 127 (by decide)
      have eT_128 : T 128 = S 128 := hv3 128 (by decide)
      have eT_129 : T 129 = S 129 := hv3 129 (by decide)
      have eT_130 : T 130 = S 130 := hv3 130 (by decide)
      refine j_iload_n dX8_twinsBy_2 rfl ?_
      refine j_aload_n dX8_twinsBy_3 rfl ?_
      refine j_getR dX8_twinsBy_4 fg_X8_28 fq_118_18 ?_
      refine j_iconst dX8_twinsBy_7 ?_
      refine j_iald (x := S 125 2) dX8_twinsBy_8 aq_125 (by omega) (by omega) (congrFun eT_125 _) (fun hi8 => ?_)
      refine j_icmp_ge (tgt := 72) dX8_twinsBy_9 (by decide) (by omega) (by omega) (fun h9 => ?_) (fun h9 => ?_)
      · refine j_bipush dX8_twinsBy_72 (by decide) ?_
        exact j_iret rfl dX8_twinsBy_74 (fun h => by cases h) (hP _ _ ⟨Or.inr ⟨rfl, fun s' t' a b c d => hv4 s' t' a (by omega) b c d⟩, hv3⟩)
      · refine j_aload_n dX8_twinsBy_12 rfl ?_
        refine j_iload_n dX8_twinsBy_13 rfl ?_
        refine j_iload_n dX8_twinsBy_14 rfl ?_
        refine j_callVi (As := [vi s, vi law]) (rest := []) (t_X8_isOf _ s law (hM.same hv3 (by decide)) (by omega) (by rw [hv3 125 (by decide)]; omega) (by omega) (by omega)) rfl cm_X8_isOf ci_X8_isOf ml_X8_187 oq_118 rfl (Nat.le_of_ble_eq_true rfl) (Nat.le_of_ble_eq_true rfl) dX8_twinsBy_15 (fun r15 S15 hp15 => ?_)
        obtain ⟨hr15, hsm15, hl15⟩ := hp15
        obtain ⟨v1, v2, v3, v4, v5⟩ := mv_same hv3 (by decide)
        rw [hv3 118 (by decide), hv3 120 (by decide), hv3 124 (by decide), v2, v3] at hr15
        have hsm15 := (hv3).tr hsm15
        have eS15_118 : S15 118 = S 118 := hsm15 118 (by decide)
        have eS15_119 : S15 119 = S 119 := hsm15 119 (by decide)
        have eS15_120 : S15 120 = S 120 := hsm15 120 (by decide)
        have eS15_121 : S15 121 = S 121 := hsm15 121 (by decide)
        have eS15_124 : S15 124 = S 124 := hsm15 124 (by decide)
        have eS15_125 : S15 125 = S 125 := hsm15 125 (by decide)
        have eS15_126 : S15 126 = S 126 := hsm15 126 (by decide)
        have eS15_127 : S15 127 = S 127 := hsm15 127 (by decide)
        have eS15_128 : S15 128 = S 128 := hsm15 128 (by decide)
        have eS15_129 : S15 129 = S 129 := hsm15 129 (by decide)
        have eS15_130 : S15 130 = S 130 := hsm15 130 (by decide)
        have hwb15 := who_bd (n := S 118 13) (mk := fun k => S 124 (mHd S (s * 6 + k))) (ag := fun k => mAg S (mHd S (s * 6 + k))) (wt := S 120) (law := law) (by omega) (fun k a b => by have g := hhd s k (by omega) (by omega) a b; exact (hpt _ g.1 g.2).2.1)
        rw [show who _ _ _ _ _ = r15 from hr15.symm] at hwb15
        refine j_istore_n (L' := [(0, .ref 118), (1, vi law), (2, vi s), (3, vi r15)]) dX8_twinsBy_18 (Nat.le_of_ble_eq_true rfl) rfl ?_
        refine j_iload_n dX8_twinsBy_19 rfl ?_
        refine j_iconst dX8_twinsBy_20 ?_
        refine j_iadd dX8_twinsBy_21 ?_
        refine j_istore (L' := [(0, .ref 118), (1, vi law), (2, vi s), (3, vi r15), (4, vi (s + 1))]) dX8_twinsBy_22 (Nat.le_of_ble_eq_true rfl) rfl ?_
        have lp24 : ∀ (n : Nat) (t : Int) (U : St), (S 125 2 - t).toNat < n → (s < t ∧ t ≤ S 125 2 ∧ Same [131, 132] S U ∧ ∀ t', s < t' → t' < t → whoS (S 118 13) (S 124) (mAg S) (S 120) (mHd S) t' law ≠ whoS (S 118 13) (S 124) (mAg S) (S 120) (mHd S) s law) → JJ mX8_twinsBy (RX mX8_twinsBy P) 24 [(0, .ref 118), (1, vi law), (2, vi s), (3, vi r15), (4, vi t)] [] U := by
          intro n
          induction n with
          | zero => intro t U hm; exact absurd hm (Nat.not_lt_zero _)
          | succ n ih24 =>
            intro t U hm24 hv24
            obtain ⟨hu1, hu2, hu3, hu4⟩ := hv24
            have eU_118 : U 118 = S 118 := hu3 118 (by decide)
            have eU_119 : U 119 = S 119 := hu3 119 (by decide)
            have eU_120 : U 120 = S 120 := hu3 120 (by decide)
            have eU_121 : U 121 = S 121 := hu3 121 (by decide)
            have eU_124 : U 124 = S 124 := hu3 124 (by decide)
            have eU_125 : U 125 = S 125 := hu3 125 (by decide)
            have eU_126 : U 126 = S 126 := hu3 126 (by decide)
            have eU_127 : U 127 = S 127 := hu3 127 (by decide)
            have eU_128 : U 128 = S 128 := hu3 128 (by decide)
            have eU_129 : U 129 = S 129 := hu3 129 (by decide)
            have eU_130 : U 130 = S 130 := hu3 130 (by decide)
            refine j_iload dX8_twinsBy_24 rfl ?_
            refine j_aload_n dX8_twinsBy_26 rfl ?_
            refine j_getR dX8_twinsBy_27 fg_X8_28 fq_118_18 ?_
            refine j_iconst dX8_twinsBy_30 ?_
            refine j_iald (x := S 125 2) dX8_twinsBy_31 aq_125 (by omega) (by omega) (congrFun eU_125 _) (fun hi31 => ?_)
            refine j_icmp_ge (tgt := 66) dX8_twinsBy_32 (by decide) (by omega) (by omega) (fun h32 => ?_) (fun h32 => ?_)
            · refine j_iinc (L' := [(0, .ref 118), (1, vi law), (2, vi (s + 1)), (3, vi r15), (4, vi t)]) dX8_twinsBy_66 (Nat.le_of_ble_eq_true rfl) rfl rfl ?_
              refine j_goto (tgt := 2) dX8_twinsBy_69 (by decide) ?_
              refine j_sub (L' := [(0, .ref 118), (1, vi law), (2, vi (s + 1))]) (by simp) ?_
              exact ih2 (s + 1) U (by omega) ⟨by omega, by omega, hu3, fun s' t' a b c d e => if q : s' = s then by rw [q]; rw [q] at e c; first | exact hu4 t' c (by omega) | exact absurd hr15 (by rw [h38]; exact fun z => e z.symm) else hv4 s' t' a (by omega) c d e⟩
            · refine j_iload_n dX8_twinsBy_35 rfl ?_
              refine j_bipush dX8_twinsBy_36 (by decide) ?_
              refine j_icmp_eq (tgt := 66) dX8_twinsBy_38 (by decide) (by omega) (by omega) (fun h38 => ?_) (fun h38 => ?_)
              · refine j_iinc (L' := [(0, .ref 118), (1, vi law), (2, vi (s + 1)), (3, vi r15), (4, vi t)]) dX8_twinsBy_66 (Nat.le_of_ble_eq_true rfl) rfl rfl ?_
                refine j_goto (tgt := 2) dX8_twinsBy_69 (by decide) ?_
                refine j_sub (L' := [(0, .ref 118), (1, vi law), (2, vi (s + 1))]) (by simp) ?_
                exact ih2 (s + 1) U (by omega) ⟨by omega, by omega, hu3, fun s' t' a b c d e => if q : s' = s then by rw [q]; rw [q] at e c; first | exact hu4 t' c (by omega) | exact absurd hr15 (by rw [h38]; exact fun z => e z.symm) else hv4 s' t' a (by omega) c d e⟩
              · refine j_aload_n dX8_twinsBy_41 rfl ?_
                refine j_iload dX8_twinsBy_42 rfl ?_
                refine j_iload_n dX8_twinsBy_44 rfl ?_
                refine j_callVi (As := [vi t, vi law]) (rest := []) (t_X8_isOf _ t law (hM.same hu3 (by decide)) (by omega) (by rw [hu3 125 (by decide)]; omega) (by omega) (by omega)) rfl cm_X8_isOf ci_X8_isOf ml_X8_187 oq_118 rfl (Nat.le_of_ble_eq_true rfl) (Nat.le_of_ble_eq_true rfl) dX8_twinsBy_45 (fun r45 S45 hp45 => ?_)
                obtain ⟨hr45, hsm45, hl45⟩ := hp45
                obtain ⟨v1, v2, v3, v4, v5⟩ := mv_same hu3 (by decide)
                rw [hu3 118 (by decide), hu3 120 (by decide), hu3 124 (by decide), v2, v3] at hr45
                have hsm45 := (hu3).tr hsm45
                have eS45_118 : S45 118 = S 118 := hsm45 118 (by decide)
                have eS45_119 : S45 119 = S 119 := hsm45 119 (by decide)
                have eS45_120 : S45 120 = S 120 := hsm45 120 (by decide)
                have eS45_121 : S45 121 = S 121 := hsm45 121 (by decide)
                have eS45_124 : S45 124 = S 124 := hsm45 124 (by decide)
                have eS45_125 : S45 125 = S 125 := hsm45 125 (by decide)
                have eS45_126 : S45 126 = S 126 := hsm45 126 (by decide)
                have eS45_127 : S45 127 = S 127 := hsm45 127 (by decide)
                have eS45_128 : S45 128 = S 128 := hsm45 128 (by decide)
                have eS45_129 : S45 129 = S 129 := hsm45 129 (by decide)
                have eS45_130 : S45 130 = S 130 := hsm45 130 (by decide)
                have hwb45 := who_bd (n := S 118 13) (mk := fun k => S 124 (mHd S (t * 6 + k))) (ag := fun k => mAg S (mHd S (t * 6 + k))) (wt := S 120) (law := law) (by omega) (fun k a b => by have g := hhd t k (by omega) (by omega) a b; exact (hpt _ g.1 g.2).2.1)
                rw [show who _ _ _ _ _ = r45 from hr45.symm] at hwb45
                refine j_iload_n dX8_twinsBy_48 rfl ?_
                refine j_icmp_ne (tgt := 60) dX8_twinsBy_49 (by decide) (by omega) (by omega) (fun h49 => ?_) (fun h49 => ?_)
                · refine j_iinc (L' := [(0, .ref 118), (1, vi law), (2, vi s), (3, vi r15), (4, vi (t + 1))]) dX8_twinsBy_60 (Nat.le_of_ble_eq_true rfl) rfl rfl ?_
                  refine j_goto (tgt := 24) dX8_twinsBy_63 (by decide) ?_
                  exact ih24 (t + 1) S45 (by omega) ⟨by omega, by omega, hsm45, fun t' a b => if q : t' = t then by rw [q, ← hr45, ← hr15]; exact h49 else hu4 t' a (by omega)⟩
                · refine j_bipush dX8_twinsBy_52 (by decide) ?_
                  refine j_iload_n dX8_twinsBy_54 rfl ?_
                  refine j_imul dX8_twinsBy_55 ?_
                  refine j_iload dX8_twinsBy_56 rfl ?_
                  refine j_iadd dX8_twinsBy_58 ?_
                  exact j_iret rfl dX8_twinsBy_59 (fun h => by cases h) (hP _ _ ⟨Or.inl ⟨s, t, by omega, by omega, by omega, fun z => h38 (hr15.trans z), hr45.symm.trans (h49.trans hr15), rfl, hv4, hu4⟩, hsm45⟩)
        exact lp24 _ (s + 1) S15 (Nat.lt_succ_self _) ⟨by omega, by omega, hsm15, fun t' a b => by omega⟩
  exact lp2 _ 0 S (Nat.lt_succ_self _) ⟨by omega, by omega, Same.rf, fun s' t' a b => by omega⟩
set_option maxRecDepth 100000 in
set_option maxHeartbeats 4000000 in
theorem t_X8_fair (S : St) (hM : MI S) : EX mX8_fair [.ref 118] S (fun r S' => r = fair (S 118 13) (S 125 2) (S 124) (mAg S) (S 120) (mHd S) ∧ Same [131, 132] S S') := by
  suffices hh : ∀ P : Int → St → Prop, (∀ r S', (r = fair (S 118 13) (S 125 2) (S 124) (mAg S) (S 120) (mHd S) ∧ Same [131, 132] S S') → P r S') → EX mX8_fair [.ref 118] S P from hh _ (fun _ _ h => h)
  intro P hP
  refine EX.of (L := [(0, .ref 118)]) rfl rfl (Nat.le_of_ble_eq_true rfl) rfl ?_
  obtain ⟨⟨hn0, hn1⟩, hwl, ⟨hp0, hp1⟩, ⟨hs0, hs1⟩, hyr, hpt, hhd, hth⟩ := id hM
  have hwt : ∀ k, 0 ≤ k → k < 6 → 1 ≤ S 120 k ∧ S 120 k ≤ 9 := fun k a b => ⟨(hwl k a b).1, (hwl k a b).2.1⟩
  refine j_iconst dX8_fair_0 ?_
  refine j_istore_n (L' := [(0, .ref 118), (1, vi 0)]) dX8_fair_1 (Nat.le_of_ble_eq_true rfl) rfl ?_
  refine j_iconst dX8_fair_2 ?_
  refine j_istore_n (L' := [(0, .ref 118), (1, vi 0), (2, vi 0)]) dX8_fair_3 (Nat.le_of_ble_eq_true rfl) rfl ?_
  have lp4 : ∀ (n : Nat) (b k : Int) (T : St), (5 - k).toNat < n → (0 ≤ k ∧ k ≤ 5 ∧ Same [131, 132] S T ∧ b = sm (fun law => if twB (S 118 13) (S 125 2) (S 124) (mAg S) (S 120) (mHd S) law = -9 then ((2 ^ law.toNat : Nat) : Int) else 0) k.toNat) → JJ mX8_fair (RX mX8_fair P) 4 [(0, .ref 118), (1, vi b), (2, vi k)] [] T := by
    intro n
    induction n with
    | zero => intro b k T hm; exact absurd hm (Nat.not_lt_zero _)
    | succ n ih4 =>
      intro b k T hm4 hv4
      obtain ⟨hv1, hv2, hv3, hv4⟩ := hv4
      have hb := bs_lt (f := fun law => if twB (S 118 13) (S 125 2) (S 124) (mAg S) (S 120) (mHd S) law = -9 then ((2 ^ law.toNat : Nat) : Int) else 0) (n := k.toNat) (fun i i0 i1 => by split; exact Or.inr rfl; exact Or.inl rfl)
      rw [← hv4] at hb
      have eT_118 : T 118 = S 118 := hv3 118 (by decide)
      have eT_119 : T 119 = S 119 := hv3 119 (by decide)
      have eT_120 : T 120 = S 120 := hv3 120 (by decide)
      have eT_121 : T 121 = S 121 := hv3 121 (by decide)
      have eT_124 : T 124 = S 124 := hv3 124 (by decide)
      have eT_125 : T 125 = S 125 := hv3 125 (by decide)
      have eT_126 : T 126 = S 126 := hv3 126 (by decide)
      have eT_127 : T 127 = S 127 := hv3 127 (by decide)
      have eT_128 : T 128 = S 128 := hv3 128 (by decide)
      have eT_129 : T 129 = S 129 := hv3 129 (by decide)
      have eT_130 : T 130 = S 130 := hv3 130 (by decide)
      refine j_iload_n dX8_fair_4 rfl ?_
      refine j_iconst dX8_fair_5 ?_
      refine j_icmp_ge (tgt := 35) dX8_fair_6 (by decide) (by omega) (by omega) (fun h6 => ?_) (fun h6 => ?_)
      · refine j_iload_n dX8_fair_35 rfl ?_
        exact j_iret rfl dX8_fair_36 (fun h => by cases h) (hP _ _ ⟨by rw [hv4, show k = 5 by omega]; rfl, hv3⟩)
      · refine j_iload_n dX8_fair_9 rfl ?_
        refine j_aload_n dX8_fair_10 rfl ?_
        refine j_iload_n dX8_fair_11 rfl ?_
        refine j_callVi (As := [vi k]) (rest := [vi b]) (t_X8_twinsBy _ k (hM.same hv3 (by decide)) (by omega) (by omega)) rfl cm_X8_twinsBy ci_X8_twinsBy ml_X8_190 oq_118 rfl (Nat.le_of_ble_eq_true rfl) (Nat.le_of_ble_eq_true rfl) dX8_fair_12 (fun r12 S12 hp12 => ?_)
        obtain ⟨ht12, hsm12⟩ := hp12
        obtain ⟨v1, v2, v3, v4, v5⟩ := mv_same hv3 (by decide)
        rw [eT_118, eT_120, eT_124, eT_125, v2, v3] at ht12
        have hsm12 := hv3.tr hsm12
        have htb12 := tw_bd ht12 (by omega)
        have hte12 : twB (S 118 13) (S 125 2) (S 124) (mAg S) (S 120) (mHd S) k = r12 := tw_eq ht12
        refine j_bipush dX8_fair_15 (by decide) ?_
        refine j_icmp_ne (tgt := 26) dX8_fair_17 (by decide) (by omega) (by omega) (fun h17 => ?_) (fun h17 => ?_)
        · refine j_iconst dX8_fair_26 ?_
          refine j_ior dX8_fair_27 (by omega) (by omega) ?_
          rw [or_z (by omega)]
          refine j_istore_n (L' := [(0, .ref 118), (1, vi b), (2, vi k)]) dX8_fair_28 (Nat.le_of_ble_eq_true rfl) rfl ?_
          refine j_iinc (L' := [(0, .ref 118), (1, vi b), (2, vi (k + 1))]) dX8_fair_29 (Nat.le_of_ble_eq_true rfl) rfl rfl ?_
          refine j_goto (tgt := 4) dX8_fair_32 (by decide) ?_
          exact ih4 b (k + 1) S12 (by omega) ⟨by omega, by omega, hsm12, by rw [sm_s (by omega)]; split <;> omega⟩
        · refine j_iconst dX8_fair_20 ?_
          refine j_iload_n dX8_fair_21 rfl ?_
          refine j_shl dX8_fair_22 (by omega) (by omega) ?_
          refine j_goto (tgt := 27) dX8_fair_23 (by decide) ?_
          refine j_ior dX8_fair_27 (by omega) (by omega) ?_
          rw [or_bit (by omega) (by omega)]
          refine j_istore_n (L' := [(0, .ref 118), (1, vi (b + ((2 ^ k.toNat : Nat) : Int))), (2, vi k)]) dX8_fair_28 (Nat.le_of_ble_eq_true rfl) rfl ?_
          refine j_iinc (L' := [(0, .ref 118), (1, vi (b + ((2 ^ k.toNat : Nat) : Int))), (2, vi (k + 1))]) dX8_fair_29 (Nat.le_of_ble_eq_true rfl) rfl rfl ?_
          refine j_goto (tgt := 4) dX8_fair_32 (by decide) ?_
          exact ih4 (b + ((2 ^ k.toNat : Nat) : Int)) (k + 1) S12 (by omega) ⟨by omega, by omega, hsm12, by rw [sm_s (by omega)]; split <;> omega⟩
  exact lp4 _ 0 0 S (Nat.lt_succ_self _) ⟨by omega, by omega, Same.rf, rfl⟩
set_option maxRecDepth 100000 in
set_option maxHeartbeats 4000000 in
theorem t_X8_rottenShips (S : St) (hM : MI S) : EX mX8_rottenShips [.ref 118] S (fun r S' => r = rotA (S 118 13) (S 125 2) (S 121) (mAg S) (mHd S) ∧ S' = S) := by
  suffices hh : ∀ P : Int → St → Prop, (∀ r S', (r = rotA (S 118 13) (S 125 2) (S 121) (mAg S) (mHd S) ∧ S' = S) → P r S') → EX mX8_rottenShips [.ref 118] S P from hh _ (fun _ _ h => h)
  intro P hP
  refine EX.of (L := [(0, .ref 118)]) rfl rfl (Nat.le_of_ble_eq_true rfl) rfl ?_
  obtain ⟨⟨hn0, hn1⟩, hwl, ⟨hp0, hp1⟩, ⟨hs0, hs1⟩, hyr, hpt, hhd, hth⟩ := id hM
  have hwt : ∀ k, 0 ≤ k → k < 6 → 1 ≤ S 120 k ∧ S 120 k ≤ 9 := fun k a b => ⟨(hwl k a b).1, (hwl k a b).2.1⟩
  refine j_iconst dX8_rottenShips_0 ?_
  refine j_istore_n (L' := [(0, .ref 118), (1, vi 0)]) dX8_rottenShips_1 (Nat.le_of_ble_eq_true rfl) rfl ?_
  refine j_iconst dX8_rottenShips_2 ?_
  refine j_istore_n (L' := [(0, .ref 118), (1, vi 0), (2, vi 0)]) dX8_rottenShips_3 (Nat.le_of_ble_eq_true rfl) rfl ?_
  have lp4 : ∀ (n : Nat) (b k : Int), (S 125 2 - k).toNat < n → (0 ≤ k ∧ k ≤ S 125 2 ∧ b = sm (fun s => if rotS (S 118 13) (S 121) (mAg S) (mHd S) s ≠ 0 then ((2 ^ s.toNat : Nat) : Int) else 0) k.toNat) → JJ mX8_rottenShips (RX mX8_rottenShips P) 4 [(0, .ref 118), (1, vi b), (2, vi k)] [] S := by
    intro n
    induction n with
    | zero => intro b k hm; exact absurd hm (Nat.not_lt_zero _)
    | succ n ih4 =>
      intro b k hm4 hv4
      obtain ⟨hv1, hv2, hv3⟩ := hv4
      have hb := bs_lt (f := fun s => if rotS (S 118 13) (S 121) (mAg S) (mHd S) s ≠ 0 then ((2 ^ s.toNat : Nat) : Int) else 0) (n := k.toNat) (fun i i0 i1 => by split; exact Or.inr rfl; exact Or.inl rfl)
      rw [← hv3] at hb
      refine j_iload_n dX8_rottenShips_4 rfl ?_
      refine j_aload_n dX8_rottenShips_5 rfl ?_
      refine j_getR dX8_rottenShips_6 fg_X8_28 fq_118_18 ?_
      refine j_iconst dX8_rottenShips_9 ?_
      refine j_iald (x := S 125 2) dX8_rottenShips_10 aq_125 (by omega) (by omega) rfl (fun hi10 => ?_)
      refine j_icmp_ge (tgt := 38) dX8_rottenShips_11 (by decide) (by omega) (by omega) (fun h11 => ?_) (fun h11 => ?_)
      · refine j_iload_n dX8_rottenShips_38 rfl ?_
        exact j_iret rfl dX8_rottenShips_39 (fun h => by cases h) (hP _ _ ⟨by rw [hv3]; unfold rotA; congr 2; omega, rfl⟩)
      · refine j_iload_n dX8_rottenShips_14 rfl ?_
        refine j_aload_n dX8_rottenShips_15 rfl ?_
        refine j_iload_n dX8_rottenShips_16 rfl ?_
        refine j_callVi (As := [vi k]) (rest := [vi b]) (t_X8_rotten _ k hM (by omega) (by omega)) rfl cm_X8_rotten ci_X8_rotten ml_X8_159 oq_118 rfl (Nat.le_of_ble_eq_true rfl) (Nat.le_of_ble_eq_true rfl) dX8_rottenShips_17 (fun r17 S17 hp17 => ?_)
        obtain ⟨hr17, he17⟩ := hp17
        rw [he17]
        have hrb := bs_lt (f := fun j => if S 121 j ≤ mAg S (mHd S (k * 6 + j)) then ((2 ^ j.toNat : Nat) : Int) else 0) (n := (S 118 13).toNat) (fun i i0 i1 => by split; exact Or.inr rfl; exact Or.inl rfl)
        have hrc := pw_le (k := S 118 13) (m := 6) hn1
        have hrd : ((2 ^ (6 : Int).toNat : Nat) : Int) = 64 := by decide
        rw [show sm _ _ = r17 from hr17.symm] at hrb
        refine j_if_eq (tgt := 29) dX8_rottenShips_20 (by decide) (by omega)  (fun h20 => ?_) (fun h20 => ?_)
        · refine j_iconst dX8_rottenShips_29 ?_
          refine j_ior dX8_rottenShips_30 (by omega) (by omega) ?_
          rw [or_z (by omega)]
          refine j_istore_n (L' := [(0, .ref 118), (1, vi b), (2, vi k)]) dX8_rottenShips_31 (Nat.le_of_ble_eq_true rfl) rfl ?_
          refine j_iinc (L' := [(0, .ref 118), (1, vi b), (2, vi (k + 1))]) dX8_rottenShips_32 (Nat.le_of_ble_eq_true rfl) rfl rfl ?_
          refine j_goto (tgt := 4) dX8_rottenShips_35 (by decide) ?_
          exact ih4 b (k + 1) (by omega) ⟨by omega, by omega, by rw [sm_s (by omega)]; split <;> omega⟩
        · refine j_iconst dX8_rottenShips_23 ?_
          refine j_iload_n dX8_rottenShips_24 rfl ?_
          refine j_shl dX8_rottenShips_25 (by omega) (by omega) ?_
          refine j_goto (tgt := 30) dX8_rottenShips_26 (by decide) ?_
          refine j_ior dX8_rottenShips_30 (by omega) (by omega) ?_
          rw [or_bit (by omega) (by omega)]
          refine j_istore_n (L' := [(0, .ref 118), (1, vi (b + ((2 ^ k.toNat : Nat) : Int))), (2, vi k)]) dX8_rottenShips_31 (Nat.le_of_ble_eq_true rfl) rfl ?_
          refine j_iinc (L' := [(0, .ref 118), (1, vi (b + ((2 ^ k.toNat : Nat) : Int))), (2, vi (k + 1))]) dX8_rottenShips_32 (Nat.le_of_ble_eq_true rfl) rfl rfl ?_
          refine j_goto (tgt := 4) dX8_rottenShips_35 (by decide) ?_
          exact ih4 (b + ((2 ^ k.toNat : Nat) : Int)) (k + 1) (by omega) ⟨by omega, by omega, by rw [sm_s (by omega)]; split <;> omega⟩
  exact lp4 _ 0 0 (Nat.lt_succ_self _) ⟨by omega, by omega, rfl⟩
set_option maxRecDepth 100000 in
set_option maxHeartbeats 4000000 in
theorem t_X8_place (S : St) (k what : Int) (r_k : InR k) (r_what : InR what) (hM : MI S) : EX mX8_place [.ref 118, vi k, vi what] S (fun r S' => r = fPlace (S 118 13) (S 120) (S 121) (S 125 1) (mWh S) (mPl S) k what ∧ S' = S) := by
  suffices hh : ∀ P : Int → St → Prop, (∀ r S', (r = fPlace (S 118 13) (S 120) (S 121) (S 125 1) (mWh S) (mPl S) k what ∧ S' = S) → P r S') → EX mX8_place [.ref 118, vi k, vi what] S P from hh _ (fun _ _ h => h)
  intro P hP
  refine EX.of (L := [(0, .ref 118), (1, vi k), (2, vi what)]) rfl rfl (Nat.le_of_ble_eq_true rfl) rfl ?_
  obtain ⟨⟨hn0, hn1⟩, hwl, ⟨hp0, hp1⟩, ⟨hs0, hs1⟩, hyr, hpt, hhd, hth⟩ := id hM
  have hwt : ∀ k, 0 ≤ k → k < 6 → 1 ≤ S 120 k ∧ S 120 k ≤ 9 := fun k a b => ⟨(hwl k a b).1, (hwl k a b).2.1⟩
  refine j_aload_n dX8_place_0 rfl ?_
  refine j_iconst dX8_place_1 ?_
  refine j_putI (i := 0) dX8_place_2 fg_X8_63 ft_8_0 fq_118_0 rfl (by omega) ?_
  rw [up_thr hth]
  refine j_aload_n dX8_place_5 rfl ?_
  refine j_iload_n dX8_place_6 rfl ?_
  refine j_callVi (As := [vi k]) (rest := []) (t_X8_isPlace _ k (by omega) (by omega)) rfl cm_X8_isPlace ci_X8_isPlace ml_X8_150 oq_118 rfl (Nat.le_of_ble_eq_true rfl) (Nat.le_of_ble_eq_true rfl) dX8_place_7 (fun r7 S7 hp7 => ?_)
  obtain ⟨⟨rfl, hc7⟩ | ⟨rfl, hc7⟩, he7⟩ := hp7
  · rw [he7]
    refine j_if_eq (tgt := 22) dX8_place_10 (by decide) (by omega)  (fun h => absurd h (by decide)) (fun _ => ?_)
    refine j_iload_n dX8_place_13 rfl ?_
    refine j_iconst dX8_place_14 ?_
    refine j_iconst dX8_place_15 ?_
    refine j_callSi (As := [vi what, vi 0, vi 2]) (rest := []) (t_X8_in _ what 0 2 (by omega) (by omega) (by omega)) rfl cm_X8_in cs_X8_in ml_X8_66 rfl (Nat.le_of_ble_eq_true rfl) (Nat.le_of_ble_eq_true rfl) dX8_place_16 (fun r16 S16 hp16 => ?_)
    obtain ⟨⟨rfl, hc16⟩ | ⟨rfl, hc16⟩, he16⟩ := hp16
    · rw [he16]
      refine j_if_ne (tgt := 24) dX8_place_19 (by decide) (by omega)  (fun _ => ?_) (fun h => absurd h (by decide))
      refine j_iload_n dX8_place_24 rfl ?_
      refine j_if_ne (tgt := 37) dX8_place_25 (by decide) (by omega)  (fun h25 => ?_) (fun h25 => ?_)
      · refine j_iload_n dX8_place_37 rfl ?_
        refine j_iconst dX8_place_38 ?_
        refine j_icmp_ne (tgt := 51) dX8_place_39 (by decide) (by omega) (by omega) (fun h39 => ?_) (fun h39 => ?_)
        · refine j_aload_n dX8_place_51 rfl ?_
          refine j_iload_n dX8_place_52 rfl ?_
          refine j_callVi (As := [vi k]) (rest := []) (t_X8_lying _ k (by omega) (by omega) (by omega)) rfl cm_X8_lying ci_X8_lying ml_X8_147 oq_118 rfl (Nat.le_of_ble_eq_true rfl) (Nat.le_of_ble_eq_true rfl) dX8_place_53 (fun r53 S53 hp53 => ?_)
          obtain ⟨hr53, he53⟩ := hp53
          rw [he53]
          have hlb53 := lyO_bd (wh := mWh S) (pl := mPl S) (k := k) hp1
          rw [← hr53] at hlb53
          exact j_iret rfl dX8_place_56 (fun h => by cases h) (hP _ _ ⟨by unfold fPlace; (repeat' split) <;> omega, rfl⟩)
        · refine j_aload_n dX8_place_42 rfl ?_
          refine j_getR dX8_place_43 fg_X8_16 fq_118_10 ?_
          refine j_iload_n dX8_place_46 rfl ?_
          refine j_iald (x := S 121 k) dX8_place_47 aq_121 (by omega) (by omega) rfl (fun hi47 => ?_)
          refine j_goto (tgt := 56) dX8_place_48 (by decide) ?_
          exact j_iret rfl dX8_place_56 (fun h => by cases h) (hP _ _ ⟨by unfold fPlace; (repeat' split) <;> omega, rfl⟩)
      · refine j_aload_n dX8_place_28 rfl ?_
        refine j_getR dX8_place_29 fg_X8_13 fq_118_9 ?_
        refine j_iload_n dX8_place_32 rfl ?_
        refine j_iald (x := S 120 k) dX8_place_33 aq_120 (by omega) (by omega) rfl (fun hi33 => ?_)
        refine j_goto (tgt := 56) dX8_place_34 (by decide) ?_
        exact j_iret rfl dX8_place_56 (fun h => by cases h) (hP _ _ ⟨by unfold fPlace; (repeat' split) <;> omega, rfl⟩)
    · rw [he16]
      refine j_if_ne (tgt := 24) dX8_place_19 (by decide) (by omega)  (fun h => absurd h (by decide)) (fun _ => ?_)
      refine j_iconst dX8_place_22 ?_
      exact j_iret rfl dX8_place_23 (fun h => by cases h) (hP _ _ ⟨by unfold fPlace; (repeat' split) <;> omega, rfl⟩)
  · rw [he7]
    refine j_if_eq (tgt := 22) dX8_place_10 (by decide) (by omega)  (fun _ => ?_) (fun h => absurd h (by decide))
    refine j_iconst dX8_place_22 ?_
    exact j_iret rfl dX8_place_23 (fun h => by cases h) (hP _ _ ⟨by unfold fPlace; (repeat' split) <;> omega, rfl⟩)
set_option maxRecDepth 100000 in
set_option maxHeartbeats 4000000 in
theorem t_X8_part (S : St) (p what : Int) (r_p : InR p) (r_what : InR what) (hM : MI S) : EX mX8_part [.ref 118, vi p, vi what] S (fun r S' => r = fPart (S 125 1) (mPl S) (S 124) (mAg S) (mWh S) p what ∧ S' = S) := by
  suffices hh : ∀ P : Int → St → Prop, (∀ r S', (r = fPart (S 125 1) (mPl S) (S 124) (mAg S) (mWh S) p what ∧ S' = S) → P r S') → EX mX8_part [.ref 118, vi p, vi what] S P from hh _ (fun _ _ h => h)
  intro P hP
  refine EX.of (L := [(0, .ref 118), (1, vi p), (2, vi what)]) rfl rfl (Nat.le_of_ble_eq_true rfl) rfl ?_
  obtain ⟨⟨hn0, hn1⟩, hwl, ⟨hp0, hp1⟩, ⟨hs0, hs1⟩, hyr, hpt, hhd, hth⟩ := id hM
  have hwt : ∀ k, 0 ≤ k → k < 6 → 1 ≤ S 120 k ∧ S 120 k ≤ 9 := fun k a b => ⟨(hwl k a b).1, (hwl k a b).2.1⟩
  refine j_aload_n dX8_part_0 rfl ?_
  refine j_iconst dX8_part_1 ?_
  refine j_putI (i := 0) dX8_part_2 fg_X8_63 ft_8_0 fq_118_0 rfl (by omega) ?_
  rw [up_thr hth]
  refine j_aload_n dX8_part_5 rfl ?_
  refine j_iload_n dX8_part_6 rfl ?_
  refine j_callVi (As := [vi p]) (rest := []) (t_X8_isPart _ p (by omega) (by omega)) rfl cm_X8_isPart ci_X8_isPart ml_X8_153 oq_118 rfl (Nat.le_of_ble_eq_true rfl) (Nat.le_of_ble_eq_true rfl) dX8_part_7 (fun r7 S7 hp7 => ?_)
  obtain ⟨⟨rfl, hc7⟩ | ⟨rfl, hc7⟩, he7⟩ := hp7
  · rw [he7]
    refine j_if_eq (tgt := 22) dX8_part_10 (by decide) (by omega)  (fun h => absurd h (by decide)) (fun _ => ?_)
    refine j_iload_n dX8_part_13 rfl ?_
    refine j_iconst dX8_part_14 ?_
    refine j_iconst dX8_part_15 ?_
    refine j_callSi (As := [vi what, vi 0, vi 3]) (rest := []) (t_X8_in _ what 0 3 (by omega) (by omega) (by omega)) rfl cm_X8_in cs_X8_in ml_X8_66 rfl (Nat.le_of_ble_eq_true rfl) (Nat.le_of_ble_eq_true rfl) dX8_part_16 (fun r16 S16 hp16 => ?_)
    obtain ⟨⟨rfl, hc16⟩ | ⟨rfl, hc16⟩, he16⟩ := hp16
    · rw [he16]
      refine j_if_ne (tgt := 24) dX8_part_19 (by decide) (by omega)  (fun _ => ?_) (fun h => absurd h (by decide))
      refine j_iload_n dX8_part_24 rfl ?_
      refine j_if_ne (tgt := 41) dX8_part_25 (by decide) (by omega)  (fun h25 => ?_) (fun h25 => ?_)
      · refine j_iload_n dX8_part_41 rfl ?_
        refine j_iconst dX8_part_42 ?_
        refine j_icmp_ne (tgt := 55) dX8_part_43 (by decide) (by omega) (by omega) (fun h43 => ?_) (fun h43 => ?_)
        · refine j_iload_n dX8_part_55 rfl ?_
          refine j_iconst dX8_part_56 ?_
          refine j_icmp_ne (tgt := 72) dX8_part_57 (by decide) (by omega) (by omega) (fun h57 => ?_) (fun h57 => ?_)
          · refine j_aload_n dX8_part_72 rfl ?_
            refine j_getR dX8_part_73 fg_X8_28 fq_118_18 ?_
            refine j_iconst dX8_part_76 ?_
            refine j_iload_n dX8_part_77 rfl ?_
            refine j_iadd dX8_part_78 ?_
            refine j_iald (x := S 125 (3 + p)) dX8_part_79 aq_125 (by omega) (by omega) rfl (fun hi79 => ?_)
            exact j_iret rfl dX8_part_80 (fun h => by cases h) (hP _ _ ⟨by unfold fPart mPl mAg mWh; (repeat' split) <;> omega, rfl⟩)
          · refine j_aload_n dX8_part_60 rfl ?_
            refine j_getR dX8_part_61 fg_X8_28 fq_118_18 ?_
            refine j_bipush dX8_part_64 (by decide) ?_
            refine j_iload_n dX8_part_66 rfl ?_
            refine j_iadd dX8_part_67 ?_
            refine j_iald (x := S 125 (51 + p)) dX8_part_68 aq_125 (by omega) (by omega) rfl (fun hi68 => ?_)
            refine j_goto (tgt := 80) dX8_part_69 (by decide) ?_
            exact j_iret rfl dX8_part_80 (fun h => by cases h) (hP _ _ ⟨by unfold fPart mPl mAg mWh; (repeat' split) <;> omega, rfl⟩)
        · refine j_aload_n dX8_part_46 rfl ?_
          refine j_getR dX8_part_47 fg_X8_25 fq_118_17 ?_
          refine j_iload_n dX8_part_50 rfl ?_
          refine j_iald (x := S 124 p) dX8_part_51 aq_124 (by omega) (by omega) rfl (fun hi51 => ?_)
          refine j_goto (tgt := 80) dX8_part_52 (by decide) ?_
          exact j_iret rfl dX8_part_80 (fun h => by cases h) (hP _ _ ⟨by unfold fPart mPl mAg mWh; (repeat' split) <;> omega, rfl⟩)
      · refine j_aload_n dX8_part_28 rfl ?_
        refine j_getR dX8_part_29 fg_X8_28 fq_118_18 ?_
        refine j_sipush dX8_part_32 (by decide) ?_
        refine j_iload_n dX8_part_35 rfl ?_
        refine j_iadd dX8_part_36 ?_
        refine j_iald (x := S 125 (141 + p)) dX8_part_37 aq_125 (by omega) (by omega) rfl (fun hi37 => ?_)
        refine j_goto (tgt := 80) dX8_part_38 (by decide) ?_
        exact j_iret rfl dX8_part_80 (fun h => by cases h) (hP _ _ ⟨by unfold fPart mPl mAg mWh; (repeat' split) <;> omega, rfl⟩)
    · rw [he16]
      refine j_if_ne (tgt := 24) dX8_part_19 (by decide) (by omega)  (fun h => absurd h (by decide)) (fun _ => ?_)
      refine j_iconst dX8_part_22 ?_
      exact j_iret rfl dX8_part_23 (fun h => by cases h) (hP _ _ ⟨by unfold fPart mPl mAg mWh; (repeat' split) <;> omega, rfl⟩)
  · rw [he7]
    refine j_if_eq (tgt := 22) dX8_part_10 (by decide) (by omega)  (fun _ => ?_) (fun h => absurd h (by decide))
    refine j_iconst dX8_part_22 ?_
    exact j_iret rfl dX8_part_23 (fun h => by cases h) (hP _ _ ⟨by unfold fPart mPl mAg mWh; (repeat' split) <;> omega, rfl⟩)
set_option maxRecDepth 100000 in
set_option maxHeartbeats 4000000 in
theorem t_X8_inPlace (S : St) (s k : Int) (r_s : InR s) (r_k : InR k) (hM : MI S) : EX mX8_inPlace [.ref 118, vi s, vi k] S (fun r S' => r = fInPlace (S 118 13) (S 125 2) (mHd S) s k ∧ S' = S) := by
  suffices hh : ∀ P : Int → St → Prop, (∀ r S', (r = fInPlace (S 118 13) (S 125 2) (mHd S) s k ∧ S' = S) → P r S') → EX mX8_inPlace [.ref 118, vi s, vi k] S P from hh _ (fun _ _ h => h)
  intro P hP
  refine EX.of (L := [(0, .ref 118), (1, vi s), (2, vi k)]) rfl rfl (Nat.le_of_ble_eq_true rfl) rfl ?_
  obtain ⟨⟨hn0, hn1⟩, hwl, ⟨hp0, hp1⟩, ⟨hs0, hs1⟩, hyr, hpt, hhd, hth⟩ := id hM
  have hwt : ∀ k, 0 ≤ k → k < 6 → 1 ≤ S 120 k ∧ S 120 k ≤ 9 := fun k a b => ⟨(hwl k a b).1, (hwl k a b).2.1⟩
  refine j_aload_n dX8_inPlace_0 rfl ?_
  refine j_iconst dX8_inPlace_1 ?_
  refine j_putI (i := 0) dX8_inPlace_2 fg_X8_63 ft_8_0 fq_118_0 rfl (by omega) ?_
  rw [up_thr hth]
  refine j_aload_n dX8_inPlace_5 rfl ?_
  refine j_iload_n dX8_inPlace_6 rfl ?_
  refine j_callVi (As := [vi s]) (rest := []) (t_X8_isShip _ s (by omega) (by omega)) rfl cm_X8_isShip ci_X8_isShip ml_X8_156 oq_118 rfl (Nat.le_of_ble_eq_true rfl) (Nat.le_of_ble_eq_true rfl) dX8_inPlace_7 (fun r7 S7 hp7 => ?_)
  obtain ⟨⟨rfl, hc7⟩ | ⟨rfl, hc7⟩, he7⟩ := hp7
  · rw [he7]
    refine j_if_eq (tgt := 38) dX8_inPlace_10 (by decide) (by omega)  (fun h => absurd h (by decide)) (fun _ => ?_)
    refine j_aload_n dX8_inPlace_13 rfl ?_
    refine j_iload_n dX8_inPlace_14 rfl ?_
    refine j_callVi (As := [vi k]) (rest := []) (t_X8_isPlace _ k (by omega) (by omega)) rfl cm_X8_isPlace ci_X8_isPlace ml_X8_150 oq_118 rfl (Nat.le_of_ble_eq_true rfl) (Nat.le_of_ble_eq_true rfl) dX8_inPlace_15 (fun r15 S15 hp15 => ?_)
    obtain ⟨⟨rfl, hc15⟩ | ⟨rfl, hc15⟩, he15⟩ := hp15
    · rw [he15]
      refine j_if_eq (tgt := 38) dX8_inPlace_18 (by decide) (by omega)  (fun h => absurd h (by decide)) (fun _ => ?_)
      refine j_aload_n dX8_inPlace_21 rfl ?_
      refine j_getR dX8_inPlace_22 fg_X8_28 fq_118_18 ?_
      refine j_bipush dX8_inPlace_25 (by decide) ?_
      refine j_bipush dX8_inPlace_27 (by decide) ?_
      refine j_iload_n dX8_inPlace_29 rfl ?_
      refine j_imul dX8_inPlace_30 ?_
      refine j_iadd dX8_inPlace_31 ?_
      refine j_iload_n dX8_inPlace_32 rfl ?_
      refine j_iadd dX8_inPlace_33 ?_
      refine j_iald (x := mHd S (s * 6 + k)) dX8_inPlace_34 aq_125 (by omega) (by omega) (congrArg (S 125) (by omega)) (fun hi34 => ?_)
      refine j_goto (tgt := 39) dX8_inPlace_35 (by decide) ?_
      exact j_iret rfl dX8_inPlace_39 (fun h => by cases h) (hP _ _ ⟨by unfold fInPlace; (repeat' split) <;> omega, rfl⟩)
    · rw [he15]
      refine j_if_eq (tgt := 38) dX8_inPlace_18 (by decide) (by omega)  (fun _ => ?_) (fun h => absurd h (by decide))
      refine j_iconst dX8_inPlace_38 ?_
      exact j_iret rfl dX8_inPlace_39 (fun h => by cases h) (hP _ _ ⟨by unfold fInPlace; (repeat' split) <;> omega, rfl⟩)
  · rw [he7]
    refine j_if_eq (tgt := 38) dX8_inPlace_10 (by decide) (by omega)  (fun _ => ?_) (fun h => absurd h (by decide))
    refine j_iconst dX8_inPlace_38 ?_
    exact j_iret rfl dX8_inPlace_39 (fun h => by cases h) (hP _ _ ⟨by unfold fInPlace; (repeat' split) <;> omega, rfl⟩)
set_option maxRecDepth 100000 in
set_option maxHeartbeats 4000000 in
theorem t_X8_ship (S : St) (s what : Int) (r_s : InR s) (r_what : InR what) (hM : MI S) : EX mX8_ship [.ref 118, vi s, vi what] S (fun r S' => r = fShip (S 118 13) (S 125 2) (S 121) (mAg S) (mHd S) (mOw S) s what ∧ S' = S) := by
  suffices hh : ∀ P : Int → St → Prop, (∀ r S', (r = fShip (S 118 13) (S 125 2) (S 121) (mAg S) (mHd S) (mOw S) s what ∧ S' = S) → P r S') → EX mX8_ship [.ref 118, vi s, vi what] S P from hh _ (fun _ _ h => h)
  intro P hP
  refine EX.of (L := [(0, .ref 118), (1, vi s), (2, vi what)]) rfl rfl (Nat.le_of_ble_eq_true rfl) rfl ?_
  obtain ⟨⟨hn0, hn1⟩, hwl, ⟨hp0, hp1⟩, ⟨hs0, hs1⟩, hyr, hpt, hhd, hth⟩ := id hM
  have hwt : ∀ k, 0 ≤ k → k < 6 → 1 ≤ S 120 k ∧ S 120 k ≤ 9 := fun k a b => ⟨(hwl k a b).1, (hwl k a b).2.1⟩
  refine j_aload_n dX8_ship_0 rfl ?_
  refine j_iconst dX8_ship_1 ?_
  refine j_putI (i := 0) dX8_ship_2 fg_X8_63 ft_8_0 fq_118_0 rfl (by omega) ?_
  rw [up_thr hth]
  refine j_aload_n dX8_ship_5 rfl ?_
  refine j_iload_n dX8_ship_6 rfl ?_
  refine j_callVi (As := [vi s]) (rest := []) (t_X8_isShip _ s (by omega) (by omega)) rfl cm_X8_isShip ci_X8_isShip ml_X8_156 oq_118 rfl (Nat.le_of_ble_eq_true rfl) (Nat.le_of_ble_eq_true rfl) dX8_ship_7 (fun r7 S7 hp7 => ?_)
  obtain ⟨⟨rfl, hc7⟩ | ⟨rfl, hc7⟩, he7⟩ := hp7
  · rw [he7]
    refine j_if_eq (tgt := 22) dX8_ship_10 (by decide) (by omega)  (fun h => absurd h (by decide)) (fun _ => ?_)
    refine j_iload_n dX8_ship_13 rfl ?_
    refine j_iconst dX8_ship_14 ?_
    refine j_iconst dX8_ship_15 ?_
    refine j_callSi (As := [vi what, vi 0, vi 1]) (rest := []) (t_X8_in _ what 0 1 (by omega) (by omega) (by omega)) rfl cm_X8_in cs_X8_in ml_X8_66 rfl (Nat.le_of_ble_eq_true rfl) (Nat.le_of_ble_eq_true rfl) dX8_ship_16 (fun r16 S16 hp16 => ?_)
    obtain ⟨⟨rfl, hc16⟩ | ⟨rfl, hc16⟩, he16⟩ := hp16
    · rw [he16]
      refine j_if_ne (tgt := 24) dX8_ship_19 (by decide) (by omega)  (fun _ => ?_) (fun h => absurd h (by decide))
      refine j_iload_n dX8_ship_24 rfl ?_
      refine j_if_ne (tgt := 41) dX8_ship_25 (by decide) (by omega)  (fun h25 => ?_) (fun h25 => ?_)
      · refine j_aload_n dX8_ship_41 rfl ?_
        refine j_iload_n dX8_ship_42 rfl ?_
        refine j_callVi (As := [vi s]) (rest := []) (t_X8_rotten _ s hM (by omega) (by omega)) rfl cm_X8_rotten ci_X8_rotten ml_X8_159 oq_118 rfl (Nat.le_of_ble_eq_true rfl) (Nat.le_of_ble_eq_true rfl) dX8_ship_43 (fun r43 S43 hp43 => ?_)
        obtain ⟨hr43, he43⟩ := hp43
        rw [he43]
        exact j_iret rfl dX8_ship_46 (fun h => by cases h) (hP _ _ ⟨by unfold fShip mOw; (repeat' split) <;> omega, rfl⟩)
      · refine j_aload_n dX8_ship_28 rfl ?_
        refine j_getR dX8_ship_29 fg_X8_28 fq_118_18 ?_
        refine j_sipush dX8_ship_32 (by decide) ?_
        refine j_iload_n dX8_ship_35 rfl ?_
        refine j_iadd dX8_ship_36 ?_
        refine j_iald (x := S 125 (135 + s)) dX8_ship_37 aq_125 (by omega) (by omega) rfl (fun hi37 => ?_)
        refine j_goto (tgt := 46) dX8_ship_38 (by decide) ?_
        exact j_iret rfl dX8_ship_46 (fun h => by cases h) (hP _ _ ⟨by unfold fShip mOw; (repeat' split) <;> omega, rfl⟩)
    · rw [he16]
      refine j_if_ne (tgt := 24) dX8_ship_19 (by decide) (by omega)  (fun h => absurd h (by decide)) (fun _ => ?_)
      refine j_iconst dX8_ship_22 ?_
      exact j_iret rfl dX8_ship_23 (fun h => by cases h) (hP _ _ ⟨by unfold fShip mOw; (repeat' split) <;> omega, rfl⟩)
  · rw [he7]
    refine j_if_eq (tgt := 22) dX8_ship_10 (by decide) (by omega)  (fun _ => ?_) (fun h => absurd h (by decide))
    refine j_iconst dX8_ship_22 ?_
    exact j_iret rfl dX8_ship_23 (fun h => by cases h) (hP _ _ ⟨by unfold fShip mOw; (repeat' split) <;> omega, rfl⟩)
set_option maxRecDepth 100000 in
set_option maxHeartbeats 4000000 in
theorem t_X8_is (S : St) (s law : Int) (r_s : InR s) (r_law : InR law) (hM : MI S) : EX mX8_is [.ref 118, vi s, vi law] S (fun r S' => r = fIs (S 118 13) (S 125 2) (S 124) (mAg S) (S 120) (mHd S) s law ∧ Same [131, 132] S S') := by
  suffices hh : ∀ P : Int → St → Prop, (∀ r S', (r = fIs (S 118 13) (S 125 2) (S 124) (mAg S) (S 120) (mHd S) s law ∧ Same [131, 132] S S') → P r S') → EX mX8_is [.ref 118, vi s, vi law] S P from hh _ (fun _ _ h => h)
  intro P hP
  refine EX.of (L := [(0, .ref 118), (1, vi s), (2, vi law)]) rfl rfl (Nat.le_of_ble_eq_true rfl) rfl ?_
  obtain ⟨⟨hn0, hn1⟩, hwl, ⟨hp0, hp1⟩, ⟨hs0, hs1⟩, hyr, hpt, hhd, hth⟩ := id hM
  have hwt : ∀ k, 0 ≤ k → k < 6 → 1 ≤ S 120 k ∧ S 120 k ≤ 9 := fun k a b => ⟨(hwl k a b).1, (hwl k a b).2.1⟩
  refine j_aload_n dX8_is_0 rfl ?_
  refine j_iconst dX8_is_1 ?_
  refine j_putI (i := 0) dX8_is_2 fg_X8_63 ft_8_0 fq_118_0 rfl (by omega) ?_
  rw [up_thr hth]
  refine j_aload_n dX8_is_5 rfl ?_
  refine j_iload_n dX8_is_6 rfl ?_
  refine j_callVi (As := [vi s]) (rest := []) (t_X8_isShip _ s (by omega) (by omega)) rfl cm_X8_isShip ci_X8_isShip ml_X8_156 oq_118 rfl (Nat.le_of_ble_eq_true rfl) (Nat.le_of_ble_eq_true rfl) dX8_is_7 (fun r7 S7 hp7 => ?_)
  obtain ⟨⟨rfl, hc7⟩ | ⟨rfl, hc7⟩, he7⟩ := hp7
  · rw [he7]
    refine j_if_eq (tgt := 29) dX8_is_10 (by decide) (by omega)  (fun h => absurd h (by decide)) (fun _ => ?_)
    refine j_iload_n dX8_is_13 rfl ?_
    refine j_callSi (As := [vi law]) (rest := []) (t_X8_isLaw _ law (by omega)) rfl cm_X8_isLaw cs_X8_isLaw ml_X8_184 rfl (Nat.le_of_ble_eq_true rfl) (Nat.le_of_ble_eq_true rfl) dX8_is_14 (fun r14 S14 hp14 => ?_)
    obtain ⟨⟨rfl, hc14⟩ | ⟨rfl, hc14⟩, he14⟩ := hp14
    · rw [he14]
      refine j_if_eq (tgt := 29) dX8_is_17 (by decide) (by omega)  (fun h => absurd h (by decide)) (fun _ => ?_)
      refine j_aload_n dX8_is_20 rfl ?_
      refine j_iload_n dX8_is_21 rfl ?_
      refine j_iload_n dX8_is_22 rfl ?_
      refine j_callVi (As := [vi s, vi law]) (rest := []) (t_X8_isOf _ s law hM (by omega) (by omega) (by omega) (by omega)) rfl cm_X8_isOf ci_X8_isOf ml_X8_187 oq_118 rfl (Nat.le_of_ble_eq_true rfl) (Nat.le_of_ble_eq_true rfl) dX8_is_23 (fun r23 S23 hp23 => ?_)
      obtain ⟨hr23, hsm23, hl23⟩ := hp23
      have eS23_118 : S23 118 = S 118 := hsm23 118 (by decide)
      have eS23_119 : S23 119 = S 119 := hsm23 119 (by decide)
      have eS23_120 : S23 120 = S 120 := hsm23 120 (by decide)
      have eS23_121 : S23 121 = S 121 := hsm23 121 (by decide)
      have eS23_124 : S23 124 = S 124 := hsm23 124 (by decide)
      have eS23_125 : S23 125 = S 125 := hsm23 125 (by decide)
      have eS23_126 : S23 126 = S 126 := hsm23 126 (by decide)
      have eS23_127 : S23 127 = S 127 := hsm23 127 (by decide)
      have eS23_128 : S23 128 = S 128 := hsm23 128 (by decide)
      have eS23_129 : S23 129 = S 129 := hsm23 129 (by decide)
      have eS23_130 : S23 130 = S 130 := hsm23 130 (by decide)
      refine j_goto (tgt := 30) dX8_is_26 (by decide) ?_
      exact j_iret rfl dX8_is_30 (fun h => by cases h) (hP _ _ ⟨by unfold fIs; (repeat' split) <;> omega, hsm23⟩)
    · rw [he14]
      refine j_if_eq (tgt := 29) dX8_is_17 (by decide) (by omega)  (fun _ => ?_) (fun h => absurd h (by decide))
      refine j_iconst dX8_is_29 ?_
      exact j_iret rfl dX8_is_30 (fun h => by cases h) (hP _ _ ⟨by unfold fIs; (repeat' split) <;> omega, Same.rf⟩)
  · rw [he7]
    refine j_if_eq (tgt := 29) dX8_is_10 (by decide) (by omega)  (fun _ => ?_) (fun h => absurd h (by decide))
    refine j_iconst dX8_is_29 ?_
    exact j_iret rfl dX8_is_30 (fun h => by cases h) (hP _ _ ⟨by unfold fIs; (repeat' split) <;> omega, Same.rf⟩)
set_option maxRecDepth 100000 in
set_option maxHeartbeats 4000000 in
theorem t_X8_twins (S : St) (law : Int) (r_law : InR law) (hM : MI S) : EX mX8_twins [.ref 118, vi law] S (fun r S' => r = fTwins (S 118 13) (S 125 2) (S 124) (mAg S) (S 120) (mHd S) law ∧ Same [131, 132] S S') := by
  suffices hh : ∀ P : Int → St → Prop, (∀ r S', (r = fTwins (S 118 13) (S 125 2) (S 124) (mAg S) (S 120) (mHd S) law ∧ Same [131, 132] S S') → P r S') → EX mX8_twins [.ref 118, vi law] S P from hh _ (fun _ _ h => h)
  intro P hP
  refine EX.of (L := [(0, .ref 118), (1, vi law)]) rfl rfl (Nat.le_of_ble_eq_true rfl) rfl ?_
  obtain ⟨⟨hn0, hn1⟩, hwl, ⟨hp0, hp1⟩, ⟨hs0, hs1⟩, hyr, hpt, hhd, hth⟩ := id hM
  have hwt : ∀ k, 0 ≤ k → k < 6 → 1 ≤ S 120 k ∧ S 120 k ≤ 9 := fun k a b => ⟨(hwl k a b).1, (hwl k a b).2.1⟩
  refine j_aload_n dX8_twins_0 rfl ?_
  refine j_iconst dX8_twins_1 ?_
  refine j_putI (i := 0) dX8_twins_2 fg_X8_63 ft_8_0 fq_118_0 rfl (by omega) ?_
  rw [up_thr hth]
  refine j_iload_n dX8_twins_5 rfl ?_
  refine j_callSi (As := [vi law]) (rest := []) (t_X8_isLaw _ law (by omega)) rfl cm_X8_isLaw cs_X8_isLaw ml_X8_184 rfl (Nat.le_of_ble_eq_true rfl) (Nat.le_of_ble_eq_true rfl) dX8_twins_6 (fun r6 S6 hp6 => ?_)
  obtain ⟨⟨rfl, hc6⟩ | ⟨rfl, hc6⟩, he6⟩ := hp6
  · rw [he6]
    refine j_if_eq (tgt := 20) dX8_twins_9 (by decide) (by omega)  (fun h => absurd h (by decide)) (fun _ => ?_)
    refine j_aload_n dX8_twins_12 rfl ?_
    refine j_iload_n dX8_twins_13 rfl ?_
    refine j_callVi (As := [vi law]) (rest := []) (t_X8_twinsBy _ law hM (by omega) (by omega)) rfl cm_X8_twinsBy ci_X8_twinsBy ml_X8_190 oq_118 rfl (Nat.le_of_ble_eq_true rfl) (Nat.le_of_ble_eq_true rfl) dX8_twins_14 (fun r14 S14 hp14 => ?_)
    obtain ⟨ht14, hsm14⟩ := hp14
    have hte14 : twB (S 118 13) (S 125 2) (S 124) (mAg S) (S 120) (mHd S) law = r14 := tw_eq ht14
    refine j_goto (tgt := 21) dX8_twins_17 (by decide) ?_
    exact j_iret rfl dX8_twins_21 (fun h => by cases h) (hP _ _ ⟨by unfold fTwins; (repeat' split) <;> omega, hsm14⟩)
  · rw [he6]
    refine j_if_eq (tgt := 20) dX8_twins_9 (by decide) (by omega)  (fun _ => ?_) (fun h => absurd h (by decide))
    refine j_iconst dX8_twins_20 ?_
    exact j_iret rfl dX8_twins_21 (fun h => by cases h) (hP _ _ ⟨by unfold fTwins; (repeat' split) <;> omega, Same.rf⟩)
set_option maxRecDepth 100000 in
set_option maxHeartbeats 4000000 in
theorem t_X8_now (S : St) (what : Int) (r_what : InR what) (hM : MI S) : EX mX8_now [.ref 118, vi what] S (fun r S' => r = fNow (S 118 13) (S 125 2) (S 125 1) (S 125 0) (S 118 22) (S 120) (S 121) (S 124) (mAg S) (mWh S) (mHd S) what ∧ Same [131, 132] S S') := by
  suffices hh : ∀ P : Int → St → Prop, (∀ r S', (r = fNow (S 118 13) (S 125 2) (S 125 1) (S 125 0) (S 118 22) (S 120) (S 121) (S 124) (mAg S) (mWh S) (mHd S) what ∧ Same [131, 132] S S') → P r S') → EX mX8_now [.ref 118, vi what] S P from hh _ (fun _ _ h => h)
  intro P hP
  refine EX.of (L := [(0, .ref 118), (1, vi what)]) rfl rfl (Nat.le_of_ble_eq_true rfl) rfl ?_
  obtain ⟨⟨hn0, hn1⟩, hwl, ⟨hp0, hp1⟩, ⟨hs0, hs1⟩, hyr, hpt, hhd, hth⟩ := id hM
  have hwt : ∀ k, 0 ≤ k → k < 6 → 1 ≤ S 120 k ∧ S 120 k ≤ 9 := fun k a b => ⟨(hwl k a b).1, (hwl k a b).2.1⟩
  refine j_aload_n dX8_now_0 rfl ?_
  refine j_iconst dX8_now_1 ?_
  refine j_putI (i := 0) dX8_now_2 fg_X8_63 ft_8_0 fq_118_0 rfl (by omega) ?_
  rw [up_thr hth]
  refine j_iload_n dX8_now_5 rfl ?_
  refine j_iconst dX8_now_6 ?_
  refine j_iconst dX8_now_7 ?_
  refine j_callSi (As := [vi what, vi 0, vi 4]) (rest := []) (t_X8_in _ what 0 4 (by omega) (by omega) (by omega)) rfl cm_X8_in cs_X8_in ml_X8_66 rfl (Nat.le_of_ble_eq_true rfl) (Nat.le_of_ble_eq_true rfl) dX8_now_8 (fun r8 S8 hp8 => ?_)
  obtain ⟨⟨rfl, hc8⟩ | ⟨rfl, hc8⟩, he8⟩ := hp8
  · rw [he8]
    refine j_if_ne (tgt := 16) dX8_now_11 (by decide) (by omega)  (fun _ => ?_) (fun h => absurd h (by decide))
    refine j_iload_n dX8_now_16 rfl ?_
    refine j_iconst dX8_now_17 ?_
    refine j_icmp_ge (tgt := 39) dX8_now_18 (by decide) (by omega) (by omega) (fun h18 => ?_) (fun h18 => ?_)
    · refine j_iload_n dX8_now_39 rfl ?_
      refine j_iconst dX8_now_40 ?_
      refine j_icmp_ne (tgt := 51) dX8_now_41 (by decide) (by omega) (by omega) (fun h41 => ?_) (fun h41 => ?_)
      · refine j_iload_n dX8_now_51 rfl ?_
        refine j_iconst dX8_now_52 ?_
        refine j_icmp_ne (tgt := 63) dX8_now_53 (by decide) (by omega) (by omega) (fun h53 => ?_) (fun h53 => ?_)
        · refine j_aload_n dX8_now_63 rfl ?_
          refine j_getI (x := S 118 22) dX8_now_64 fg_X8_137 fq_118_22 rfl (fun hi64 => ?_)
          exact j_iret rfl dX8_now_67 (fun h => by cases h) (hP _ _ ⟨by unfold fNow; (repeat' split) <;> omega, Same.rf⟩)
        · refine j_aload_n dX8_now_56 rfl ?_
          refine j_callVi (As := []) (rest := []) (t_X8_fair _ hM) rfl cm_X8_fair ci_X8_fair ml_X8_199 oq_118 rfl (Nat.le_of_ble_eq_true rfl) (Nat.le_of_ble_eq_true rfl) dX8_now_57 (fun r57 S57 hp57 => ?_)
          obtain ⟨hr57, hsm57⟩ := hp57
          refine j_goto (tgt := 67) dX8_now_60 (by decide) ?_
          exact j_iret rfl dX8_now_67 (fun h => by cases h) (hP _ _ ⟨by unfold fNow; (repeat' split) <;> omega, hsm57⟩)
      · refine j_aload_n dX8_now_44 rfl ?_
        refine j_callVi (As := []) (rest := []) (t_X8_rottenShips _ hM) rfl cm_X8_rottenShips ci_X8_rottenShips ml_X8_196 oq_118 rfl (Nat.le_of_ble_eq_true rfl) (Nat.le_of_ble_eq_true rfl) dX8_now_45 (fun r45 S45 hp45 => ?_)
        obtain ⟨hr45, he45⟩ := hp45
        rw [he45]
        refine j_goto (tgt := 67) dX8_now_48 (by decide) ?_
        exact j_iret rfl dX8_now_67 (fun h => by cases h) (hP _ _ ⟨by unfold fNow; (repeat' split) <;> omega, Same.rf⟩)
    · refine j_iload_n dX8_now_21 rfl ?_
      refine j_if_ne (tgt := 34) dX8_now_22 (by decide) (by omega)  (fun h22 => ?_) (fun h22 => ?_)
      · refine j_aload_n dX8_now_34 rfl ?_
        refine j_callVi (As := []) (rest := []) (t_X8_inYard _ hM) rfl cm_X8_inYard ci_X8_inYard ml_X8_193 oq_118 rfl (Nat.le_of_ble_eq_true rfl) (Nat.le_of_ble_eq_true rfl) dX8_now_35 (fun r35 S35 hp35 => ?_)
        obtain ⟨hr35, he35⟩ := hp35
        rw [he35]
        exact j_iret rfl dX8_now_38 (fun h => by cases h) (hP _ _ ⟨by unfold fNow; (repeat' split) <;> omega, Same.rf⟩)
      · refine j_aload_n dX8_now_25 rfl ?_
        refine j_getR dX8_now_26 fg_X8_28 fq_118_18 ?_
        refine j_iconst dX8_now_29 ?_
        refine j_iald (x := S 125 0) dX8_now_30 aq_125 (by omega) (by omega) rfl (fun hi30 => ?_)
        refine j_goto (tgt := 38) dX8_now_31 (by decide) ?_
        exact j_iret rfl dX8_now_38 (fun h => by cases h) (hP _ _ ⟨by unfold fNow; (repeat' split) <;> omega, Same.rf⟩)
  · rw [he8]
    refine j_if_ne (tgt := 16) dX8_now_11 (by decide) (by omega)  (fun h => absurd h (by decide)) (fun _ => ?_)
    refine j_iconst dX8_now_14 ?_
    exact j_iret rfl dX8_now_15 (fun h => by cases h) (hP _ _ ⟨by unfold fNow; (repeat' split) <;> omega, Same.rf⟩)
set_option maxRecDepth 100000 in
set_option maxHeartbeats 4000000 in
theorem t_X8_count (S : St) (what : Int) (r_what : InR what) (hM : MI S) : EX mX8_count [.ref 118, vi what] S (fun r S' => r = fCount (S 118 13) (S 125 2) (S 125 1) (S 118 25) (S 118 3) what ∧ S' = S) := by
  suffices hh : ∀ P : Int → St → Prop, (∀ r S', (r = fCount (S 118 13) (S 125 2) (S 125 1) (S 118 25) (S 118 3) what ∧ S' = S) → P r S') → EX mX8_count [.ref 118, vi what] S P from hh _ (fun _ _ h => h)
  intro P hP
  refine EX.of (L := [(0, .ref 118), (1, vi what)]) rfl rfl (Nat.le_of_ble_eq_true rfl) rfl ?_
  obtain ⟨⟨hn0, hn1⟩, hwl, ⟨hp0, hp1⟩, ⟨hs0, hs1⟩, hyr, hpt, hhd, hth⟩ := id hM
  have hwt : ∀ k, 0 ≤ k → k < 6 → 1 ≤ S 120 k ∧ S 120 k ≤ 9 := fun k a b => ⟨(hwl k a b).1, (hwl k a b).2.1⟩
  refine j_aload_n dX8_count_0 rfl ?_
  refine j_iconst dX8_count_1 ?_
  refine j_putI (i := 0) dX8_count_2 fg_X8_63 ft_8_0 fq_118_0 rfl (by omega) ?_
  rw [up_thr hth]
  refine j_iload_n dX8_count_5 rfl ?_
  refine j_iconst dX8_count_6 ?_
  refine j_icmp_ge (tgt := 51) dX8_count_7 (by decide) (by omega) (by omega) (fun h7 => ?_) (fun h7 => ?_)
  · refine j_iload_n dX8_count_51 rfl ?_
    refine j_iconst dX8_count_52 ?_
    refine j_icmp_ne (tgt := 63) dX8_count_53 (by decide) (by omega) (by omega) (fun h53 => ?_) (fun h53 => ?_)
    · refine j_iload_n dX8_count_63 rfl ?_
      refine j_iconst dX8_count_64 ?_
      refine j_icmp_ne (tgt := 75) dX8_count_65 (by decide) (by omega) (by omega) (fun h65 => ?_) (fun h65 => ?_)
      · refine j_iconst dX8_count_75 ?_
        exact j_iret rfl dX8_count_76 (fun h => by cases h) (hP _ _ ⟨by unfold fCount; (repeat' split) <;> omega, rfl⟩)
      · refine j_aload_n dX8_count_68 rfl ?_
        refine j_getI (x := S 118 3) dX8_count_69 fg_X8_70 fq_118_3 rfl (fun hi69 => ?_)
        refine j_goto (tgt := 76) dX8_count_72 (by decide) ?_
        exact j_iret rfl dX8_count_76 (fun h => by cases h) (hP _ _ ⟨by unfold fCount; (repeat' split) <;> omega, rfl⟩)
    · refine j_aload_n dX8_count_56 rfl ?_
      refine j_getI (x := S 118 25) dX8_count_57 fg_X8_140 fq_118_25 rfl (fun hi57 => ?_)
      refine j_goto (tgt := 76) dX8_count_60 (by decide) ?_
      exact j_iret rfl dX8_count_76 (fun h => by cases h) (hP _ _ ⟨by unfold fCount; (repeat' split) <;> omega, rfl⟩)
  · refine j_iload_n dX8_count_10 rfl ?_
    refine j_if_ne (tgt := 21) dX8_count_11 (by decide) (by omega)  (fun h11 => ?_) (fun h11 => ?_)
    · refine j_iload_n dX8_count_21 rfl ?_
      refine j_iconst dX8_count_22 ?_
      refine j_icmp_ne (tgt := 35) dX8_count_23 (by decide) (by omega) (by omega) (fun h23 => ?_) (fun h23 => ?_)
      · refine j_iload_n dX8_count_35 rfl ?_
        refine j_iconst dX8_count_36 ?_
        refine j_icmp_ne (tgt := 49) dX8_count_37 (by decide) (by omega) (by omega) (fun h37 => ?_) (fun h37 => ?_)
        · refine j_iconst dX8_count_49 ?_
          exact j_iret rfl dX8_count_50 (fun h => by cases h) (hP _ _ ⟨by unfold fCount; (repeat' split) <;> omega, rfl⟩)
        · refine j_aload_n dX8_count_40 rfl ?_
          refine j_getR dX8_count_41 fg_X8_28 fq_118_18 ?_
          refine j_iconst dX8_count_44 ?_
          refine j_iald (x := S 125 1) dX8_count_45 aq_125 (by omega) (by omega) rfl (fun hi45 => ?_)
          refine j_goto (tgt := 50) dX8_count_46 (by decide) ?_
          exact j_iret rfl dX8_count_50 (fun h => by cases h) (hP _ _ ⟨by unfold fCount; (repeat' split) <;> omega, rfl⟩)
      · refine j_aload_n dX8_count_26 rfl ?_
        refine j_getR dX8_count_27 fg_X8_28 fq_118_18 ?_
        refine j_iconst dX8_count_30 ?_
        refine j_iald (x := S 125 2) dX8_count_31 aq_125 (by omega) (by omega) rfl (fun hi31 => ?_)
        refine j_goto (tgt := 50) dX8_count_32 (by decide) ?_
        exact j_iret rfl dX8_count_50 (fun h => by cases h) (hP _ _ ⟨by unfold fCount; (repeat' split) <;> omega, rfl⟩)
    · refine j_aload_n dX8_count_14 rfl ?_
      refine j_getI (x := S 118 13) dX8_count_15 fg_X8_59 fq_118_13 rfl (fun hi15 => ?_)
      refine j_goto (tgt := 50) dX8_count_18 (by decide) ?_
      exact j_iret rfl dX8_count_50 (fun h => by cases h) (hP _ _ ⟨by unfold fCount; (repeat' split) <;> omega, rfl⟩)
set_option maxRecDepth 100000 in
set_option maxHeartbeats 4000000 in
theorem t_X8_clear (S : St)  (hM : MI S) : EX mX8_clear [.ref 118] S (fun r S' => r = S 118 3 ∧ S' = up S 118 3 0) := by
  suffices hh : ∀ P : Int → St → Prop, (∀ r S', (r = S 118 3 ∧ S' = up S 118 3 0) → P r S') → EX mX8_clear [.ref 118] S P from hh _ (fun _ _ h => h)
  intro P hP
  refine EX.of (L := [(0, .ref 118)]) rfl rfl (Nat.le_of_ble_eq_true rfl) rfl ?_
  obtain ⟨⟨hn0, hn1⟩, hwl, ⟨hp0, hp1⟩, ⟨hs0, hs1⟩, hyr, hpt, hhd, hth⟩ := id hM
  have hwt : ∀ k, 0 ≤ k → k < 6 → 1 ≤ S 120 k ∧ S 120 k ≤ 9 := fun k a b => ⟨(hwl k a b).1, (hwl k a b).2.1⟩
  refine j_aload_n dX8_clear_0 rfl ?_
  refine j_iconst dX8_clear_1 ?_
  refine j_putI (i := 0) dX8_clear_2 fg_X8_63 ft_8_0 fq_118_0 rfl (by omega) ?_
  rw [up_thr hth]
  refine j_aload_n dX8_clear_5 rfl ?_
  refine j_getI (x := S 118 3) dX8_clear_6 fg_X8_70 fq_118_3 rfl (fun hi6 => ?_)
  refine j_istore_n (L' := [(0, .ref 118), (1, vi (S 118 3))]) dX8_clear_9 (Nat.le_of_ble_eq_true rfl) rfl ?_
  refine j_aload_n dX8_clear_10 rfl ?_
  refine j_iconst dX8_clear_11 ?_
  refine j_putI (i := 3) dX8_clear_12 fg_X8_70 ft_8_3 fq_118_3 rfl (by omega) ?_
  refine j_iload_n dX8_clear_15 rfl ?_
  exact j_iret rfl dX8_clear_16 (fun h => by cases h) (hP _ _ ⟨rfl, rfl⟩)
set_option maxRecDepth 100000 in
set_option maxHeartbeats 4000000 in
theorem t_X8_forget (S : St)  (hM : MI S) : EX mX8_forget [.ref 118] S (fun r S' => r = S 118 25 ∧ S' = up S 118 25 0) := by
  suffices hh : ∀ P : Int → St → Prop, (∀ r S', (r = S 118 25 ∧ S' = up S 118 25 0) → P r S') → EX mX8_forget [.ref 118] S P from hh _ (fun _ _ h => h)
  intro P hP
  refine EX.of (L := [(0, .ref 118)]) rfl rfl (Nat.le_of_ble_eq_true rfl) rfl ?_
  obtain ⟨⟨hn0, hn1⟩, hwl, ⟨hp0, hp1⟩, ⟨hs0, hs1⟩, hyr, hpt, hhd, hth⟩ := id hM
  have hwt : ∀ k, 0 ≤ k → k < 6 → 1 ≤ S 120 k ∧ S 120 k ≤ 9 := fun k a b => ⟨(hwl k a b).1, (hwl k a b).2.1⟩
  refine j_aload_n dX8_forget_0 rfl ?_
  refine j_iconst dX8_forget_1 ?_
  refine j_putI (i := 0) dX8_forget_2 fg_X8_63 ft_8_0 fq_118_0 rfl (by omega) ?_
  rw [up_thr hth]
  refine j_aload_n dX8_forget_5 rfl ?_
  refine j_getI (x := S 118 25) dX8_forget_6 fg_X8_140 fq_118_25 rfl (fun hi6 => ?_)
  refine j_istore_n (L' := [(0, .ref 118), (1, vi (S 118 25))]) dX8_forget_9 (Nat.le_of_ble_eq_true rfl) rfl ?_
  refine j_aload_n dX8_forget_10 rfl ?_
  refine j_iconst dX8_forget_11 ?_
  refine j_putI (i := 25) dX8_forget_12 fg_X8_140 ft_8_25 fq_118_25 rfl (by omega) ?_
  refine j_iload_n dX8_forget_15 rfl ?_
  exact j_iret rfl dX8_forget_16 (fun h => by cases h) (hP _ _ ⟨rfl, rfl⟩)
set_option maxRecDepth 100000 in
set_option maxHeartbeats 4000000 in
theorem t_X8_trace (S : St)  (hM : MI S) : EX mX8_trace [.ref 118] S (fun r S' => r = S 118 1 ∧ S' = S) := by
  suffices hh : ∀ P : Int → St → Prop, (∀ r S', (r = S 118 1 ∧ S' = S) → P r S') → EX mX8_trace [.ref 118] S P from hh _ (fun _ _ h => h)
  intro P hP
  refine EX.of (L := [(0, .ref 118)]) rfl rfl (Nat.le_of_ble_eq_true rfl) rfl ?_
  obtain ⟨⟨hn0, hn1⟩, hwl, ⟨hp0, hp1⟩, ⟨hs0, hs1⟩, hyr, hpt, hhd, hth⟩ := id hM
  have hwt : ∀ k, 0 ≤ k → k < 6 → 1 ≤ S 120 k ∧ S 120 k ≤ 9 := fun k a b => ⟨(hwl k a b).1, (hwl k a b).2.1⟩
  refine j_aload_n dX8_trace_0 rfl ?_
  refine j_iconst dX8_trace_1 ?_
  refine j_putI (i := 0) dX8_trace_2 fg_X8_63 ft_8_0 fq_118_0 rfl (by omega) ?_
  rw [up_thr hth]
  refine j_aload_n dX8_trace_5 rfl ?_
  refine j_getL (x := S 118 1) dX8_trace_6 fg_X8_236 fq_118_1 rfl ?_
  exact j_lret rfl dX8_trace_9 (fun h => by cases h) (hP _ _ ⟨rfl, rfl⟩)
set_option maxRecDepth 100000 in
set_option maxHeartbeats 4000000 in
theorem t_X8_type (S : St) (l : Int) (r_l : InR l) (hM : MI S) (ht0 : 0 ≤ S 118 3) (ht1 : S 118 3 ≤ 200) : EX mX8_type [.ref 118, vi l] S (fun r S' => (¬ (0 ≤ l ∧ l ≤ 255) ∧ r = -1 ∧ S' = S) ∨ ((0 ≤ l ∧ l ≤ 255) ∧ 200 ≤ S 118 3 ∧ r = -3 ∧ S' = S) ∨ ((0 ≤ l ∧ l ≤ 255) ∧ S 118 3 < 200 ∧ r = S 118 3 + 1 ∧ S' = up (up S 119 (S 118 3) l) 118 3 (S 118 3 + 1))) := by
  suffices hh : ∀ P : Int → St → Prop, (∀ r S', ((¬ (0 ≤ l ∧ l ≤ 255) ∧ r = -1 ∧ S' = S) ∨ ((0 ≤ l ∧ l ≤ 255) ∧ 200 ≤ S 118 3 ∧ r = -3 ∧ S' = S) ∨ ((0 ≤ l ∧ l ≤ 255) ∧ S 118 3 < 200 ∧ r = S 118 3 + 1 ∧ S' = up (up S 119 (S 118 3) l) 118 3 (S 118 3 + 1))) → P r S') → EX mX8_type [.ref 118, vi l] S P from hh _ (fun _ _ h => h)
  intro P hP
  refine EX.of (L := [(0, .ref 118), (1, vi l)]) rfl rfl (Nat.le_of_ble_eq_true rfl) rfl ?_
  obtain ⟨⟨hn0, hn1⟩, hwl, ⟨hp0, hp1⟩, ⟨hs0, hs1⟩, hyr, hpt, hhd, hth⟩ := id hM
  have hwt : ∀ k, 0 ≤ k → k < 6 → 1 ≤ S 120 k ∧ S 120 k ≤ 9 := fun k a b => ⟨(hwl k a b).1, (hwl k a b).2.1⟩
  refine j_aload_n dX8_type_0 rfl ?_
  refine j_iconst dX8_type_1 ?_
  refine j_putI (i := 0) dX8_type_2 fg_X8_63 ft_8_0 fq_118_0 rfl (by omega) ?_
  rw [up_thr hth]
  refine j_iload_n dX8_type_5 rfl ?_
  refine j_iconst dX8_type_6 ?_
  refine j_sipush dX8_type_7 (by decide) ?_
  refine j_callSi (As := [vi l, vi 0, vi 255]) (rest := []) (t_X8_in _ l 0 255 (by omega) (by omega) (by omega)) rfl cm_X8_in cs_X8_in ml_X8_66 rfl (Nat.le_of_ble_eq_true rfl) (Nat.le_of_ble_eq_true rfl) dX8_type_10 (fun r10 S10 hp10 => ?_)
  obtain ⟨⟨rfl, hc10⟩ | ⟨rfl, hc10⟩, he10⟩ := hp10
  · rw [he10]
    refine j_if_ne (tgt := 18) dX8_type_13 (by decide) (by omega)  (fun _ => ?_) (fun h => absurd h (by decide))
    refine j_aload_n dX8_type_18 rfl ?_
    refine j_getI (x := S 118 3) dX8_type_19 fg_X8_70 fq_118_3 rfl (fun hi19 => ?_)
    refine j_sipush dX8_type_22 (by decide) ?_
    refine j_icmp_ne (tgt := 31) dX8_type_25 (by decide) (by omega) (by omega) (fun h25 => ?_) (fun h25 => ?_)
    · refine j_aload_n dX8_type_31 rfl ?_
      refine j_getR dX8_type_32 fg_X8_7 fq_118_2 ?_
      refine j_aload_n dX8_type_35 rfl ?_
      refine j_getI (x := S 118 3) dX8_type_36 fg_X8_70 fq_118_3 rfl (fun hi36 => ?_)
      refine j_iload_n dX8_type_39 rfl ?_
      refine j_iast dX8_type_40 aq_119 (by omega) (by omega) (by omega) ?_
      refine j_aload_n dX8_type_41 rfl ?_
      refine j_dup dX8_type_42 rfl ?_
      refine j_getI (x := S 118 3) dX8_type_43 fg_X8_70 fq_118_3 rfl (fun hi43 => ?_)
      refine j_iconst dX8_type_46 ?_
      refine j_iadd dX8_type_47 ?_
      refine j_putI (i := 3) dX8_type_48 fg_X8_70 ft_8_3 fq_118_3 rfl (by omega) ?_
      refine j_aload_n dX8_type_51 rfl ?_
      refine j_getI (x := (S 118 3) + 1) dX8_type_52 fg_X8_70 fq_118_3 rfl (fun hi52 => ?_)
      exact j_iret rfl dX8_type_55 (fun h => by cases h) (hP _ _ (Or.inr (Or.inr ⟨by omega, by omega, rfl, rfl⟩)))
    · refine j_bipush dX8_type_28 (by decide) ?_
      exact j_iret rfl dX8_type_30 (fun h => by cases h) (hP _ _ (Or.inr (Or.inl ⟨by omega, by omega, rfl, rfl⟩)))
  · rw [he10]
    refine j_if_ne (tgt := 18) dX8_type_13 (by decide) (by omega)  (fun h => absurd h (by decide)) (fun _ => ?_)
    refine j_iconst dX8_type_16 ?_
    exact j_iret rfl dX8_type_17 (fun h => by cases h) (hP _ _ (Or.inl ⟨by omega, rfl, rfl⟩))
set_option maxRecDepth 100000 in
set_option maxHeartbeats 4000000 in
theorem t_X8_saw (S : St) (k mk : Int) (r_k : InR k) (r_mk : InR mk) (hM : MI S) (hn0 : 0 ≤ S 118 25) (hn1 : S 118 25 ≤ 6) : EX mX8_saw [.ref 118, vi k, vi mk] S (fun r S' => (¬ ((0 ≤ k ∧ k < S 118 13) ∧ isMk mk) ∧ r = -1 ∧ S' = S) ∨ (((0 ≤ k ∧ k < S 118 13) ∧ isMk mk) ∧ 6 ≤ S 118 25 ∧ r = -3 ∧ S' = S) ∨ (((0 ≤ k ∧ k < S 118 13) ∧ isMk mk) ∧ S 118 25 < 6 ∧ r = S 118 25 + 1 ∧ S' = up (up (up S 129 (S 118 25) k) 130 (S 118 25) mk) 118 25 (S 118 25 + 1))) := by
  suffices hh : ∀ P : Int → St → Prop, (∀ r S', ((¬ ((0 ≤ k ∧ k < S 118 13) ∧ isMk mk) ∧ r = -1 ∧ S' = S) ∨ (((0 ≤ k ∧ k < S 118 13) ∧ isMk mk) ∧ 6 ≤ S 118 25 ∧ r = -3 ∧ S' = S) ∨ (((0 ≤ k ∧ k < S 118 13) ∧ isMk mk) ∧ S 118 25 < 6 ∧ r = S 118 25 + 1 ∧ S' = up (up (up S 129 (S 118 25) k) 130 (S 118 25) mk) 118 25 (S 118 25 + 1))) → P r S') → EX mX8_saw [.ref 118, vi k, vi mk] S P from hh _ (fun _ _ h => h)
  intro P hP
  refine EX.of (L := [(0, .ref 118), (1, vi k), (2, vi mk)]) rfl rfl (Nat.le_of_ble_eq_true rfl) rfl ?_
  obtain ⟨⟨hnn0, hnn1⟩, hwl, ⟨hp0, hp1⟩, ⟨hs0, hs1⟩, hyr, hpt, hhd, hth⟩ := id hM
  have hwt : ∀ k, 0 ≤ k → k < 6 → 1 ≤ S 120 k ∧ S 120 k ≤ 9 := fun k a b => ⟨(hwl k a b).1, (hwl k a b).2.1⟩
  refine j_aload_n dX8_saw_0 rfl ?_
  refine j_iconst dX8_saw_1 ?_
  refine j_putI (i := 0) dX8_saw_2 fg_X8_63 ft_8_0 fq_118_0 rfl (by omega) ?_
  rw [up_thr hth]
  refine j_aload_n dX8_saw_5 rfl ?_
  refine j_iload_n dX8_saw_6 rfl ?_
  refine j_callVi (As := [vi k]) (rest := []) (t_X8_isPlace _ k (by omega) (by omega)) rfl cm_X8_isPlace ci_X8_isPlace ml_X8_150 oq_118 rfl (Nat.le_of_ble_eq_true rfl) (Nat.le_of_ble_eq_true rfl) dX8_saw_7 (fun r7 S7 hp7 => ?_)
  obtain ⟨⟨rfl, hc7⟩ | ⟨rfl, hc7⟩, he7⟩ := hp7
  · rw [he7]
    refine j_if_eq (tgt := 20) dX8_saw_10 (by decide) (by omega)  (fun h => absurd h (by decide)) (fun _ => ?_)
    refine j_iload_n dX8_saw_13 rfl ?_
    refine j_callSi (As := [vi mk]) (rest := []) (t_X8_isMake _ mk (by omega)) rfl cm_X8_isMake cs_X8_isMake ml_X8_120 rfl (Nat.le_of_ble_eq_true rfl) (Nat.le_of_ble_eq_true rfl) dX8_saw_14 (fun r14 S14 hp14 => ?_)
    obtain ⟨⟨rfl, hc14⟩ | ⟨rfl, hc14⟩, he14⟩ := hp14
    · rw [he14]
      refine j_if_ne (tgt := 22) dX8_saw_17 (by decide) (by omega)  (fun _ => ?_) (fun h => absurd h (by decide))
      refine j_aload_n dX8_saw_22 rfl ?_
      refine j_getI (x := S 118 25) dX8_saw_23 fg_X8_140 fq_118_25 rfl (fun hi23 => ?_)
      refine j_bipush dX8_saw_26 (by decide) ?_
      refine j_icmp_ne (tgt := 34) dX8_saw_28 (by decide) (by omega) (by omega) (fun h28 => ?_) (fun h28 => ?_)
      · refine j_aload_n dX8_saw_34 rfl ?_
        refine j_getR dX8_saw_35 fg_X8_41 fq_118_23 ?_
        refine j_aload_n dX8_saw_38 rfl ?_
        refine j_getI (x := S 118 25) dX8_saw_39 fg_X8_140 fq_118_25 rfl (fun hi39 => ?_)
        refine j_iload_n dX8_saw_42 rfl ?_
        refine j_iast dX8_saw_43 aq_129 (by omega) (by omega) (by omega) ?_
        refine j_aload_n dX8_saw_44 rfl ?_
        refine j_getR dX8_saw_45 fg_X8_44 fq_118_24 ?_
        refine j_aload_n dX8_saw_48 rfl ?_
        refine j_getI (x := S 118 25) dX8_saw_49 fg_X8_140 fq_118_25 rfl (fun hi49 => ?_)
        refine j_iload_n dX8_saw_52 rfl ?_
        refine j_iast dX8_saw_53 aq_130 (by omega) (by omega) (by omega) ?_
        refine j_aload_n dX8_saw_54 rfl ?_
        refine j_dup dX8_saw_55 rfl ?_
        refine j_getI (x := S 118 25) dX8_saw_56 fg_X8_140 fq_118_25 rfl (fun hi56 => ?_)
        refine j_iconst dX8_saw_59 ?_
        refine j_iadd dX8_saw_60 ?_
        refine j_putI (i := 25) dX8_saw_61 fg_X8_140 ft_8_25 fq_118_25 rfl (by omega) ?_
        refine j_aload_n dX8_saw_64 rfl ?_
        refine j_getI (x := (S 118 25) + 1) dX8_saw_65 fg_X8_140 fq_118_25 rfl (fun hi65 => ?_)
        exact j_iret rfl dX8_saw_68 (fun h => by cases h) (hP _ _ (Or.inr (Or.inr ⟨by omega, by omega, rfl, rfl⟩)))
      · refine j_bipush dX8_saw_31 (by decide) ?_
        exact j_iret rfl dX8_saw_33 (fun h => by cases h) (hP _ _ (Or.inr (Or.inl ⟨by omega, by omega, rfl, rfl⟩)))
    · rw [he14]
      refine j_if_ne (tgt := 22) dX8_saw_17 (by decide) (by omega)  (fun h => absurd h (by decide)) (fun _ => ?_)
      refine j_iconst dX8_saw_20 ?_
      exact j_iret rfl dX8_saw_21 (fun h => by cases h) (hP _ _ (Or.inl ⟨by omega, rfl, rfl⟩))
  · rw [he7]
    refine j_if_eq (tgt := 20) dX8_saw_10 (by decide) (by omega)  (fun _ => ?_) (fun h => absurd h (by decide))
    refine j_iconst dX8_saw_20 ?_
    exact j_iret rfl dX8_saw_21 (fun h => by cases h) (hP _ _ (Or.inl ⟨by omega, rfl, rfl⟩))
