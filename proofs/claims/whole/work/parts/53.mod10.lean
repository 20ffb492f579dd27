/-- the fleet is noted -/
def Nts (S S' : St) : Prop := (S 118 22 = 10 ∧ Ntd S S' 9 189) ∨ (S 118 22 < 10 ∧ Ntd S S' (S 118 22) 0)
theorem Nts.same {S S' : St} (h : Nts S S') : Same [118, 128] S S' := by
  rcases h with h | h
  · exact h.2.1
  · exact h.2.1
theorem Nts.obj {S S' : St} (h : Nts S S') {j : Int} (a : j ≠ 22) : S' 118 j = S 118 j := by
  rcases h with h | h
  · exact h.2.2.1 j a
  · exact h.2.2.1 j a
set_option maxRecDepth 100000 in
set_option maxHeartbeats 4000000 in
theorem t_X8_fresh (S : St) (k : Int) (r_k : InR k) (hM : MI S) (hu0 : 0 ≤ S 118 22) (hu1 : S 118 22 ≤ 10) : EX mX8_fresh [.ref 118, vi k] S (fun r S' => (¬ (0 ≤ k ∧ k < S 118 13) ∧ r = -1 ∧ S' = S) ∨ ((0 ≤ k ∧ k < S 118 13) ∧ 48 ≤ S 125 1 ∧ r = -3 ∧ S' = S) ∨ ((0 ≤ k ∧ k < S 118 13) ∧ S 125 1 < 48 ∧ r = S 125 1 ∧ ∃ S1, Nts S S1 ∧ S' = cmS S1 k 9 0 8)) := by
  suffices hh : ∀ P : Int → St → Prop, (∀ r S', ((¬ (0 ≤ k ∧ k < S 118 13) ∧ r = -1 ∧ S' = S) ∨ ((0 ≤ k ∧ k < S 118 13) ∧ 48 ≤ S 125 1 ∧ r = -3 ∧ S' = S) ∨ ((0 ≤ k ∧ k < S 118 13) ∧ S 125 1 < 48 ∧ r = S 125 1 ∧ ∃ S1, Nts S S1 ∧ S' = cmS S1 k 9 0 8)) → P r S') → EX mX8_fresh [.ref 118, vi k] S P from hh _ (fun _ _ h => h)
  intro P hP
  refine EX.of (L := [(0, .ref 118), (1, vi k)]) rfl rfl (Nat.le_of_ble_eq_true rfl) rfl ?_
  obtain ⟨⟨hn0, hn1⟩, hwl, ⟨hp0, hp1⟩, ⟨hs0, hs1⟩, hyr, hpt, hhd, hth⟩ := id hM
  have hwt : ∀ k, 0 ≤ k → k < 6 → 1 ≤ S 120 k ∧ S 120 k ≤ 9 := fun k a b => ⟨(hwl k a b).1, (hwl k a b).2.1⟩
  refine j_aload_n dX8_fresh_0 rfl ?_
  refine j_iconst dX8_fresh_1 ?_
  refine j_putI (i := 0) dX8_fresh_2 fg_X8_63 ft_8_0 fq_118_0 rfl (by omega) ?_
  rw [up_thr hth]
  refine j_aload_n dX8_fresh_5 rfl ?_
  refine j_iload_n dX8_fresh_6 rfl ?_
  refine j_callVi (As := [vi k]) (rest := []) (t_X8_isPlace _ k (by omega) (by omega)) rfl cm_X8_isPlace ci_X8_isPlace ml_X8_150 oq_118 rfl (Nat.le_of_ble_eq_true rfl) (Nat.le_of_ble_eq_true rfl) dX8_fresh_7 (fun r7 S7 hp7 => ?_)
  obtain ⟨⟨rfl, hc7⟩ | ⟨rfl, hc7⟩, he7⟩ := hp7
  · rw [he7]
    refine j_if_ne (tgt := 15) dX8_fresh_10 (by decide) (by omega)  (fun _ => ?_) (fun h => absurd h (by decide))
    refine j_aload_n dX8_fresh_15 rfl ?_
    refine j_getR dX8_fresh_16 fg_X8_28 fq_118_18 ?_
    refine j_iconst dX8_fresh_19 ?_
    refine j_iald (x := S 125 1) dX8_fresh_20 aq_125 (by omega) (by omega) rfl (fun hi20 => ?_)
    refine j_bipush dX8_fresh_21 (by decide) ?_
    refine j_icmp_ne (tgt := 29) dX8_fresh_23 (by decide) (by omega) (by omega) (fun h23 => ?_) (fun h23 => ?_)
    · refine j_aload_n dX8_fresh_29 rfl ?_
      refine j_callVv (As := []) (rest := []) (t_X8_notes _ hu0 hu1) rfl cm_X8_notes ci_X8_notes ml_X8_202 oq_118 rfl (Nat.le_of_ble_eq_true rfl) (Nat.le_of_ble_eq_true rfl) dX8_fresh_30 (fun r30 S30 hp30 => ?_)
      have hN30 : Nts S S30 := hp30
      have hsm30 := hN30.same
      have eS30_120 : S30 120 = S 120 := hsm30 120 (by decide)
      have eS30_121 : S30 121 = S 121 := hsm30 121 (by decide)
      have eS30_124 : S30 124 = S 124 := hsm30 124 (by decide)
      have eS30_125 : S30 125 = S 125 := hsm30 125 (by decide)
      refine j_aload_n dX8_fresh_33 rfl ?_
      refine j_iload_n dX8_fresh_34 rfl ?_
      refine j_bipush dX8_fresh_35 (by decide) ?_
      refine j_iconst dX8_fresh_37 ?_
      refine j_bipush dX8_fresh_38 (by decide) ?_
      refine j_callVi (As := [vi k, vi 9, vi 0, vi 8]) (rest := []) (t_X8_comes _ k 9 0 8 (by omega) (by omega) (by omega) (by omega) (by rw [eS30_125]; omega) (by rw [eS30_125]; omega)) rfl cm_X8_comes ci_X8_comes ml_X8_133 oq_118 rfl (Nat.le_of_ble_eq_true rfl) (Nat.le_of_ble_eq_true rfl) dX8_fresh_40 (fun r40 S40 hp40 => ?_)
      obtain ⟨hr40, he40⟩ := hp40
      rw [eS30_125] at hr40
      exact j_iret rfl dX8_fresh_43 (fun h => by cases h) (hP _ _ (Or.inr (Or.inr ⟨by omega, by omega, hr40, S30, hN30, he40⟩)))
    · refine j_bipush dX8_fresh_26 (by decide) ?_
      exact j_iret rfl dX8_fresh_28 (fun h => by cases h) (hP _ _ (Or.inr (Or.inl ⟨by omega, by omega, rfl, rfl⟩)))
  · rw [he7]
    refine j_if_ne (tgt := 15) dX8_fresh_10 (by decide) (by omega)  (fun h => absurd h (by decide)) (fun _ => ?_)
    refine j_iconst dX8_fresh_13 ?_
    exact j_iret rfl dX8_fresh_14 (fun h => by cases h) (hP _ _ (Or.inl ⟨by omega, rfl, rfl⟩))
set_option maxRecDepth 100000 in
set_option maxHeartbeats 4000000 in
theorem t_X8_replace (S : St) (s p : Int) (r_s : InR s) (r_p : InR p) (hM : MI S) (hu0 : 0 ≤ S 118 22) (hu1 : S 118 22 ≤ 10) : EX mX8_replace [.ref 118, vi s, vi p] S (fun r S' => (¬ ((0 ≤ s ∧ s < S 125 2) ∧ (0 ≤ p ∧ p < S 125 1)) ∧ r = -1 ∧ S' = S) ∨ (((0 ≤ s ∧ s < S 125 2) ∧ (0 ≤ p ∧ p < S 125 1)) ∧ S 125 (3 + p) ≠ 8 ∧ r = -2 ∧ S' = S) ∨ (((0 ≤ s ∧ s < S 125 2) ∧ (0 ≤ p ∧ p < S 125 1)) ∧ S 125 (3 + p) = 8 ∧ r = mHd S (s * 6 + S 125 (141 + p)) ∧ ∃ S1, Nts S S1 ∧ S' = up (up (up S1 125 (99 + 6 * s + S 125 (141 + p)) p) 125 (3 + p) s) 125 (3 + mHd S (s * 6 + S 125 (141 + p))) 8)) := by
  suffices hh : ∀ P : Int → St → Prop, (∀ r S', ((¬ ((0 ≤ s ∧ s < S 125 2) ∧ (0 ≤ p ∧ p < S 125 1)) ∧ r = -1 ∧ S' = S) ∨ (((0 ≤ s ∧ s < S 125 2) ∧ (0 ≤ p ∧ p < S 125 1)) ∧ S 125 (3 + p) ≠ 8 ∧ r = -2 ∧ S' = S) ∨ (((0 ≤ s ∧ s < S 125 2) ∧ (0 ≤ p ∧ p < S 125 1)) ∧ S 125 (3 + p) = 8 ∧ r = mHd S (s * 6 + S 125 (141 + p)) ∧ ∃ S1, Nts S S1 ∧ S' = up (up (up S1 125 (99 + 6 * s + S 125 (141 + p)) p) 125 (3 + p) s) 125 (3 + mHd S (s * 6 + S 125 (141 + p))) 8)) → P r S') → EX mX8_replace [.ref 118, vi s, vi p] S P from hh _ (fun _ _ h => h)
  intro P hP
  refine EX.of (L := [(0, .ref 118), (1, vi s), (2, vi p)]) rfl rfl (Nat.le_of_ble_eq_true rfl) rfl ?_
  obtain ⟨⟨hn0, hn1⟩, hwl, ⟨hp0, hp1⟩, ⟨hs0, hs1⟩, hyr, hpt, hhd, hth⟩ := id hM
  have hwt : ∀ k, 0 ≤ k → k < 6 → 1 ≤ S 120 k ∧ S 120 k ≤ 9 := fun k a b => ⟨(hwl k a b).1, (hwl k a b).2.1⟩
  refine j_aload_n dX8_replace_0 rfl ?_
  refine j_iconst dX8_replace_1 ?_
  refine j_putI (i := 0) dX8_replace_2 fg_X8_63 ft_8_0 fq_118_0 rfl (by omega) ?_
  rw [up_thr hth]
  refine j_aload_n dX8_replace_5 rfl ?_
  refine j_iload_n dX8_replace_6 rfl ?_
  refine j_callVi (As := [vi s]) (rest := []) (t_X8_isShip _ s (by omega) (by omega)) rfl cm_X8_isShip ci_X8_isShip ml_X8_156 oq_118 rfl (Nat.le_of_ble_eq_true rfl) (Nat.le_of_ble_eq_true rfl) dX8_replace_7 (fun r7 S7 hp7 => ?_)
  obtain ⟨⟨rfl, hc7⟩ | ⟨rfl, hc7⟩, he7⟩ := hp7
  · rw [he7]
    refine j_if_eq (tgt := 21) dX8_replace_10 (by decide) (by omega)  (fun h => absurd h (by decide)) (fun _ => ?_)
    refine j_aload_n dX8_replace_13 rfl ?_
    refine j_iload_n dX8_replace_14 rfl ?_
    refine j_callVi (As := [vi p]) (rest := []) (t_X8_isPart _ p (by omega) (by omega)) rfl cm_X8_isPart ci_X8_isPart ml_X8_153 oq_118 rfl (Nat.le_of_ble_eq_true rfl) (Nat.le_of_ble_eq_true rfl) dX8_replace_15 (fun r15 S15 hp15 => ?_)
    obtain ⟨⟨rfl, hc15⟩ | ⟨rfl, hc15⟩, he15⟩ := hp15
    · rw [he15]
      refine j_if_ne (tgt := 23) dX8_replace_18 (by decide) (by omega)  (fun _ => ?_) (fun h => absurd h (by decide))
      refine j_aload_n dX8_replace_23 rfl ?_
      refine j_getR dX8_replace_24 fg_X8_28 fq_118_18 ?_
      refine j_iconst dX8_replace_27 ?_
      refine j_iload_n dX8_replace_28 rfl ?_
      refine j_iadd dX8_replace_29 ?_
      refine j_iald (x := S 125 (3 + p)) dX8_replace_30 aq_125 (by omega) (by omega) rfl (fun hi30 => ?_)
      refine j_bipush dX8_replace_31 (by decide) ?_
      refine j_icmp_eq (tgt := 39) dX8_replace_33 (by decide) (by omega) (by omega) (fun h33 => ?_) (fun h33 => ?_)
      · have hpp : 0 ≤ S 125 (141 + p) ∧ S 125 (141 + p) < S 118 13 := (hpt p (by omega) (by omega)).1
        have hg := hhd s (S 125 (141 + p)) (by omega) (by omega) hpp.1 hpp.2
        refine j_aload_n dX8_replace_39 rfl ?_
        refine j_callVv (As := []) (rest := []) (t_X8_notes _ hu0 hu1) rfl cm_X8_notes ci_X8_notes ml_X8_202 oq_118 rfl (Nat.le_of_ble_eq_true rfl) (Nat.le_of_ble_eq_true rfl) dX8_replace_40 (fun r40 S40 hp40 => ?_)
        have hN40 : Nts S S40 := hp40
        have hsm40 := hN40.same
        have eS40_120 : S40 120 = S 120 := hsm40 120 (by decide)
        have eS40_121 : S40 121 = S 121 := hsm40 121 (by decide)
        have eS40_124 : S40 124 = S 124 := hsm40 124 (by decide)
        have eS40_125 : S40 125 = S 125 := hsm40 125 (by decide)
        refine j_bipush dX8_replace_43 (by decide) ?_
        refine j_bipush dX8_replace_45 (by decide) ?_
        refine j_iload_n dX8_replace_47 rfl ?_
        refine j_imul dX8_replace_48 ?_
        refine j_iadd dX8_replace_49 ?_
        refine j_aload_n dX8_replace_50 rfl ?_
        refine j_getR dX8_replace_51 fg_X8_28 fq_118_18 ?_
        refine j_sipush dX8_replace_54 (by decide) ?_
        refine j_iload_n dX8_replace_57 rfl ?_
        refine j_iadd dX8_replace_58 ?_
        refine j_iald (x := S 125 (141 + p)) dX8_replace_59 aq_125 (by omega) (by omega) (congrFun eS40_125 _) (fun hi59 => ?_)
        refine j_iadd dX8_replace_60 ?_
        refine j_istore_n (L' := [(0, .ref 118), (1, vi s), (2, vi p), (3, vi ((99 + (6 * s)) + (S 125 (141 + p))))]) dX8_replace_61 (Nat.le_of_ble_eq_true rfl) rfl ?_
        refine j_aload_n dX8_replace_62 rfl ?_
        refine j_getR dX8_replace_63 fg_X8_28 fq_118_18 ?_
        refine j_iload_n dX8_replace_66 rfl ?_
        refine j_iald (x := mHd S (s * 6 + S 125 (141 + p))) dX8_replace_67 aq_125 (by omega) (by omega) (by unfold mHd; rw [eS40_125]; congr 1; omega) (fun hi67 => ?_)
        refine j_istore (L' := [(0, .ref 118), (1, vi s), (2, vi p), (3, vi ((99 + (6 * s)) + (S 125 (141 + p)))), (4, vi (mHd S (s * 6 + S 125 (141 + p))))]) dX8_replace_68 (Nat.le_of_ble_eq_true rfl) rfl ?_
        refine j_aload_n dX8_replace_70 rfl ?_
        refine j_getR dX8_replace_71 fg_X8_28 fq_118_18 ?_
        refine j_iload_n dX8_replace_74 rfl ?_
        refine j_iload_n dX8_replace_75 rfl ?_
        refine j_iast dX8_replace_76 aq_125 (by omega) (by omega) (by omega) ?_
        refine j_aload_n dX8_replace_77 rfl ?_
        refine j_getR dX8_replace_78 fg_X8_28 fq_118_18 ?_
        refine j_iconst dX8_replace_81 ?_
        refine j_iload_n dX8_replace_82 rfl ?_
        refine j_iadd dX8_replace_83 ?_
        refine j_iload_n dX8_replace_84 rfl ?_
        refine j_iast dX8_replace_85 aq_125 (by omega) (by omega) (by omega) ?_
        refine j_aload_n dX8_replace_86 rfl ?_
        refine j_getR dX8_replace_87 fg_X8_28 fq_118_18 ?_
        refine j_iconst dX8_replace_90 ?_
        refine j_iload dX8_replace_91 rfl ?_
        refine j_iadd dX8_replace_93 ?_
        refine j_bipush dX8_replace_94 (by decide) ?_
        refine j_iast dX8_replace_96 aq_125 (by omega) (by omega) (by omega) ?_
        refine j_iload dX8_replace_97 rfl ?_
        exact j_iret rfl dX8_replace_99 (fun h => by cases h) (hP _ _ (Or.inr (Or.inr ⟨by omega, by omega, rfl, S40, hN40, rfl⟩)))
      · refine j_bipush dX8_replace_36 (by decide) ?_
        exact j_iret rfl dX8_replace_38 (fun h => by cases h) (hP _ _ (Or.inr (Or.inl ⟨by omega, by omega, rfl, rfl⟩)))
    · rw [he15]
      refine j_if_ne (tgt := 23) dX8_replace_18 (by decide) (by omega)  (fun h => absurd h (by decide)) (fun _ => ?_)
      refine j_iconst dX8_replace_21 ?_
      exact j_iret rfl dX8_replace_22 (fun h => by cases h) (hP _ _ (Or.inl ⟨by omega, rfl, rfl⟩))
  · rw [he7]
    refine j_if_eq (tgt := 21) dX8_replace_10 (by decide) (by omega)  (fun _ => ?_) (fun h => absurd h (by decide))
    refine j_iconst dX8_replace_21 ?_
    exact j_iret rfl dX8_replace_22 (fun h => by cases h) (hP _ _ (Or.inl ⟨by omega, rfl, rfl⟩))
abbrev yrC (S : St) (q : Int) : Prop := S 125 (3 + q) = 8 ∧ S 121 (S 125 (141 + q)) ≤ S 125 (51 + q) + 1
def YrM (S T : St) (p l : Int) : Prop := (∀ q, 0 ≤ q → q < p → T 125 (51 + q) = S 125 (51 + q) + 1 ∧ T 125 (3 + q) = if yrC S q then 9 else S 125 (3 + q)) ∧ (∀ i, ¬ (3 ≤ i ∧ i < 3 + p) → ¬ (51 ≤ i ∧ i < 51 + p) → T 125 i = S 125 i) ∧ l = sm (fun q => if yrC S q then 1 else 0) p.toNat
theorem YrM.in {S T U : St} {k l l' : Int} (h : YrM S T k l) (h0 : 0 ≤ k) (h1 : k < 48) (hU : ∀ i, i ≠ 51 + k → i ≠ 3 + k → U 125 i = T 125 i) (u1 : U 125 (51 + k) = S 125 (51 + k) + 1) (u2 : (yrC S k ∧ U 125 (3 + k) = 9 ∧ l' = l + 1) ∨ (¬ yrC S k ∧ U 125 (3 + k) = S 125 (3 + k) ∧ l' = l)) : YrM S U (k + 1) l' := by
  obtain ⟨a1, a2, a3⟩ := h
  refine ⟨fun q q0 q1 => ?_, fun i i0 i1 => ?_, ?_⟩
  · by_cases e : q = k
    · subst e
      refine ⟨u1, ?_⟩
      rcases u2 with ⟨c, d, _⟩ | ⟨c, d, _⟩
      · rw [if_pos c]; exact d
      · rw [if_neg c]; exact d
    · rw [hU _ (by omega) (by omega), hU _ (by omega) (by omega)]
      exact a1 q q0 (by omega)
  · rw [hU i (by omega) (by omega)]
    exact a2 i (by omega) (by omega)
  · rw [sm_s h0]
    rcases u2 with ⟨c, _, d⟩ | ⟨c, _, d⟩
    · rw [if_pos c]; omega
    · rw [if_neg c]; omega
set_option maxRecDepth 100000 in
set_option maxHeartbeats 4000000 in
theorem t_X8_year (S : St)  (hM : MI S) (hu0 : 0 ≤ S 118 22) (hu1 : S 118 22 ≤ 10) : EX mX8_year [.ref 118] S (fun r S' => (99 ≤ S 125 0 ∧ r = -2 ∧ S' = S) ∨ (S 125 0 < 99 ∧ ∃ S1 T, Nts S S1 ∧ Same [125] S1 T ∧ YrM S T (S 125 1) r ∧ S' = up T 125 0 (S 125 0 + 1))) := by
  suffices hh : ∀ P : Int → St → Prop, (∀ r S', ((99 ≤ S 125 0 ∧ r = -2 ∧ S' = S) ∨ (S 125 0 < 99 ∧ ∃ S1 T, Nts S S1 ∧ Same [125] S1 T ∧ YrM S T (S 125 1) r ∧ S' = up T 125 0 (S 125 0 + 1))) → P r S') → EX mX8_year [.ref 118] S P from hh _ (fun _ _ h => h)
  intro P hP
  refine EX.of (L := [(0, .ref 118)]) rfl rfl (Nat.le_of_ble_eq_true rfl) rfl ?_
  obtain ⟨⟨hn0, hn1⟩, hwl, ⟨hp0, hp1⟩, ⟨hs0, hs1⟩, hyr, hpt, hhd, hth⟩ := id hM
  have hwt : ∀ k, 0 ≤ k → k < 6 → 1 ≤ S 120 k ∧ S 120 k ≤ 9 := fun k a b => ⟨(hwl k a b).1, (hwl k a b).2.1⟩
  refine j_aload_n dX8_year_0 rfl ?_
  refine j_iconst dX8_year_1 ?_
  refine j_putI (i := 0) dX8_year_2 fg_X8_63 ft_8_0 fq_118_0 rfl (by omega) ?_
  rw [up_thr hth]
  refine j_aload_n dX8_year_5 rfl ?_
  refine j_getR dX8_year_6 fg_X8_28 fq_118_18 ?_
  refine j_iconst dX8_year_9 ?_
  refine j_iald (x := S 125 0) dX8_year_10 aq_125 (by omega) (by omega) rfl (fun hi10 => ?_)
  refine j_bipush dX8_year_11 (by decide) ?_
  refine j_icmp_ne (tgt := 19) dX8_year_13 (by decide) (by omega) (by omega) (fun h13 => ?_) (fun h13 => ?_)
  · refine j_aload_n dX8_year_19 rfl ?_
    refine j_callVv (As := []) (rest := []) (t_X8_notes _ hu0 hu1) rfl cm_X8_notes ci_X8_notes ml_X8_202 oq_118 rfl (Nat.le_of_ble_eq_true rfl) (Nat.le_of_ble_eq_true rfl) dX8_year_20 (fun r20 S20 hp20 => ?_)
    have hN20 : Nts S S20 := hp20
    have hsm20 := hN20.same
    have eS20_120 : S20 120 = S 120 := hsm20 120 (by decide)
    have eS20_121 : S20 121 = S 121 := hsm20 121 (by decide)
    have eS20_124 : S20 124 = S 124 := hsm20 124 (by decide)
    have eS20_125 : S20 125 = S 125 := hsm20 125 (by decide)
    refine j_iconst dX8_year_23 ?_
    refine j_istore_n (L' := [(0, .ref 118), (1, vi 0)]) dX8_year_24 (Nat.le_of_ble_eq_true rfl) rfl ?_
    refine j_iconst dX8_year_25 ?_
    refine j_istore_n (L' := [(0, .ref 118), (1, vi 0), (2, vi 0)]) dX8_year_26 (Nat.le_of_ble_eq_true rfl) rfl ?_
    have lp27 : ∀ (n : Nat) (l k : Int) (T : St), (S 125 1 - k).toNat < n → (0 ≤ k ∧ k ≤ S 125 1 ∧ Same [125] S20 T ∧ YrM S T k l ∧ 0 ≤ l ∧ l ≤ k) → JJ mX8_year (RX mX8_year P) 27 [(0, .ref 118), (1, vi l), (2, vi k)] [] T := by
      intro n
      induction n with
      | zero => intro l k T hm; exact absurd hm (Nat.not_lt_zero _)
      | succ n ih27 =>
        intro l k T hm27 hv27
        obtain ⟨hv1, hv2, hv3, hv4, hv5, hv6⟩ := hv27
        refine j_iload_n dX8_year_27 rfl ?_
        refine j_aload_n dX8_year_28 rfl ?_
        refine j_getR dX8_year_29 fg_X8_28 fq_118_18 ?_
        refine j_iconst dX8_year_32 ?_
        refine j_iald (x := S 125 1) dX8_year_33 aq_125 (by omega) (by omega) (hv4.2.1 _ (by omega) (by omega)) (fun hi33 => ?_)
        refine j_icmp_ge (tgt := 109) dX8_year_34 (by decide) (by omega) (by omega) (fun h34 => ?_) (fun h34 => ?_)
        · refine j_aload_n dX8_year_109 rfl ?_
          refine j_getR dX8_year_110 fg_X8_28 fq_118_18 ?_
          refine j_iconst dX8_year_113 ?_
          refine j_dup2 dX8_year_114 rfl rfl ?_
          refine j_iald (x := S 125 0) dX8_year_115 aq_125 (by omega) (by omega) (hv4.2.1 _ (by omega) (by omega)) (fun hi115 => ?_)
          refine j_iconst dX8_year_116 ?_
          refine j_iadd dX8_year_117 ?_
          refine j_iast dX8_year_118 aq_125 (by omega) (by omega) (by omega) ?_
          refine j_iload_n dX8_year_119 rfl ?_
          exact j_iret rfl dX8_year_120 (fun h => by cases h) (hP _ _ (Or.inr ⟨by omega, S20, T, hN20, hv3, by rw [show k = S 125 1 by omega] at hv4; exact hv4, rfl⟩))
        · have hk := hpt k (by omega) (by omega)
          have hag : 0 ≤ S 125 (51 + k) ∧ S 125 (51 + k) ≤ 200 := hk.2.2.1
          have hpl : 0 ≤ S 125 (141 + k) ∧ S 125 (141 + k) < S 118 13 := hk.1
          refine j_aload_n dX8_year_37 rfl ?_
          refine j_getR dX8_year_38 fg_X8_28 fq_118_18 ?_
          refine j_bipush dX8_year_41 (by decide) ?_
          refine j_iload_n dX8_year_43 rfl ?_
          refine j_iadd dX8_year_44 ?_
          refine j_dup2 dX8_year_45 rfl rfl ?_
          refine j_iald (x := S 125 (51 + k)) dX8_year_46 aq_125 (by omega) (by omega) (hv4.2.1 _ (by omega) (by omega)) (fun hi46 => ?_)
          refine j_iconst dX8_year_47 ?_
          refine j_iadd dX8_year_48 ?_
          refine j_iast dX8_year_49 aq_125 (by omega) (by omega) (by omega) ?_
          refine j_aload_n dX8_year_50 rfl ?_
          refine j_getR dX8_year_51 fg_X8_28 fq_118_18 ?_
          refine j_iconst dX8_year_54 ?_
          refine j_iload_n dX8_year_55 rfl ?_
          refine j_iadd dX8_year_56 ?_
          refine j_iald (x := S 125 (3 + k)) dX8_year_57 aq_125 (by omega) (by omega) ((up_i (by omega)).trans (hv4.2.1 _ (by omega) (by omega))) (fun hi57 => ?_)
          refine j_bipush dX8_year_58 (by decide) ?_
          refine j_icmp_ne (tgt := 103) dX8_year_60 (by decide) (by omega) (by omega) (fun h60 => ?_) (fun h60 => ?_)
          · refine j_iinc (L' := [(0, .ref 118), (1, vi l), (2, vi (k + 1))]) dX8_year_103 (Nat.le_of_ble_eq_true rfl) rfl rfl ?_
            refine j_goto (tgt := 27) dX8_year_106 (by decide) ?_
            exact ih27 l (k + 1) (up T 125 (51 + k) ((S 125 (51 + k)) + 1)) (by omega) ⟨by omega, by omega, same_up hv3 (by decide), hv4.in hv1 (by omega) (fun i a b => by rw [up_i a]) (by simp [up]) (Or.inr ⟨fun z => by have z1 := z.1; have z2 := z.2; omega, by rw [up_i (by omega)]; exact hv4.2.1 _ (by omega) (by omega), rfl⟩), by omega, by omega⟩
          · refine j_aload_n dX8_year_63 rfl ?_
            refine j_getR dX8_year_64 fg_X8_28 fq_118_18 ?_
            refine j_bipush dX8_year_67 (by decide) ?_
            refine j_iload_n dX8_year_69 rfl ?_
            refine j_iadd dX8_year_70 ?_
            refine j_iald (x := S 125 (51 + k) + 1) dX8_year_71 aq_125 (by omega) (by omega) (by simp [up]) (fun hi71 => ?_)
            refine j_aload_n dX8_year_72 rfl ?_
            refine j_getR dX8_year_73 fg_X8_16 fq_118_10 ?_
            refine j_aload_n dX8_year_76 rfl ?_
            refine j_getR dX8_year_77 fg_X8_28 fq_118_18 ?_
            refine j_sipush dX8_year_80 (by decide) ?_
            refine j_iload_n dX8_year_83 rfl ?_
            refine j_iadd dX8_year_84 ?_
            refine j_iald (x := S 125 (141 + k)) dX8_year_85 aq_125 (by omega) (by omega) ((up_i (by omega)).trans (hv4.2.1 _ (by omega) (by omega))) (fun hi85 => ?_)
            refine j_iald (x := S 121 (S 125 (141 + k))) dX8_year_86 aq_121 (by omega) (by omega) (by rw [up_c (by decide), hv3 121 (by decide), eS20_121]) (fun hi86 => ?_)
            refine j_icmp_lt (tgt := 103) dX8_year_87 (by decide) (by omega) (by omega) (fun h87 => ?_) (fun h87 => ?_)
            · refine j_iinc (L' := [(0, .ref 118), (1, vi l), (2, vi (k + 1))]) dX8_year_103 (Nat.le_of_ble_eq_true rfl) rfl rfl ?_
              refine j_goto (tgt := 27) dX8_year_106 (by decide) ?_
              exact ih27 l (k + 1) (up T 125 (51 + k) ((S 125 (51 + k)) + 1)) (by omega) ⟨by omega, by omega, same_up hv3 (by decide), hv4.in hv1 (by omega) (fun i a b => by rw [up_i a]) (by simp [up]) (Or.inr ⟨fun z => by have z1 := z.1; have z2 := z.2; omega, by rw [up_i (by omega)]; exact hv4.2.1 _ (by omega) (by omega), rfl⟩), by omega, by omega⟩
            · refine j_aload_n dX8_year_90 rfl ?_
              refine j_getR dX8_year_91 fg_X8_28 fq_118_18 ?_
              refine j_iconst dX8_year_94 ?_
              refine j_iload_n dX8_year_95 rfl ?_
              refine j_iadd dX8_year_96 ?_
              refine j_bipush dX8_year_97 (by decide) ?_
              refine j_iast dX8_year_99 aq_125 (by omega) (by omega) (by omega) ?_
              refine j_iinc (L' := [(0, .ref 118), (1, vi (l + 1)), (2, vi k)]) dX8_year_100 (Nat.le_of_ble_eq_true rfl) rfl rfl ?_
              refine j_iinc (L' := [(0, .ref 118), (1, vi (l + 1)), (2, vi (k + 1))]) dX8_year_103 (Nat.le_of_ble_eq_true rfl) rfl rfl ?_
              refine j_goto (tgt := 27) dX8_year_106 (by decide) ?_
              exact ih27 (l + 1) (k + 1) (up (up T 125 (51 + k) ((S 125 (51 + k)) + 1)) 125 (3 + k) 9) (by omega) ⟨by omega, by omega, same_up (same_up hv3 (by decide)) (by decide), hv4.in hv1 (by omega) (fun i a b => by rw [up_i b, up_i a]) (by rw [up_i (by omega)]; simp [up]) (Or.inl ⟨⟨h60, by omega⟩, by simp [up], rfl⟩), by omega, by omega⟩
    exact lp27 _ 0 0 S20 (Nat.lt_succ_self _) ⟨by omega, by omega, Same.rf, ⟨fun q a b => by omega, fun i _ _ => by rw [eS20_125], rfl⟩, by omega, by omega⟩
  · refine j_bipush dX8_year_16 (by decide) ?_
    exact j_iret rfl dX8_year_18 (fun h => by cases h) (hP _ _ (Or.inl ⟨by omega, rfl, rfl⟩))
