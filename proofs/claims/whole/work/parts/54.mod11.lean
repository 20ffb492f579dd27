set_option maxRecDepth 100000 in
set_option maxHeartbeats 4000000 in
theorem t_X8_letterAt (S : St) (i : Int) (h0 : 0 ≤ i) (hr : InR i) (ht : S 118 3 ≤ 200) : EX mX8_letterAt [.ref 118, vi i] S (fun r S' => r = (if i < S 118 3 then S 119 i else -1) ∧ S' = S) := by
  suffices hh : ∀ P : Int → St → Prop, (∀ r S', (r = (if i < S 118 3 then S 119 i else -1) ∧ S' = S) → P r S') → EX mX8_letterAt [.ref 118, vi i] S P from hh _ (fun _ _ h => h)
  intro P hP
  refine EX.of (L := [(0, .ref 118), (1, vi i)]) rfl rfl (Nat.le_of_ble_eq_true rfl) rfl ?_
  refine j_iload_n dX8_letterAt_0 rfl ?_
  refine j_aload_n dX8_letterAt_1 rfl ?_
  refine j_getI (x := S 118 3) dX8_letterAt_2 fg_X8_70 fq_118_3 rfl (fun hi2 => ?_)
  refine j_icmp_ge (tgt := 17) dX8_letterAt_5 (by decide) (by omega) (by omega) (fun h5 => ?_) (fun h5 => ?_)
  · refine j_iconst dX8_letterAt_17 ?_
    exact j_iret rfl dX8_letterAt_18 (fun h => by cases h) (hP _ _ ⟨by rw [if_neg (by omega)], rfl⟩)
  · refine j_aload_n dX8_letterAt_8 rfl ?_
    refine j_getR dX8_letterAt_9 fg_X8_7 fq_118_2 ?_
    refine j_iload_n dX8_letterAt_12 rfl ?_
    refine j_iald (x := S 119 i) dX8_letterAt_13 aq_119 (by omega) (by omega) rfl (fun hi13 => ?_)
    refine j_goto (tgt := 18) dX8_letterAt_14 (by decide) ?_
    exact j_iret rfl dX8_letterAt_18 (fun h => by cases h) (hP _ _ ⟨by rw [if_pos (by omega)], rfl⟩)
set_option maxRecDepth 100000 in
set_option maxHeartbeats 4000000 in
theorem t_X8_isWord (S : St) (l : Int) (hr : InR l) : EX mX8_isWord [vi l] S (fun r S' => ((r = 1 ∧ (l = 110 ∨ l = 119 ∨ l = 108 ∨ l = 115 ∨ l = 121)) ∨ (r = 0 ∧ ¬ (l = 110 ∨ l = 119 ∨ l = 108 ∨ l = 115 ∨ l = 121))) ∧ S' = S) := by
  suffices hh : ∀ P : Int → St → Prop, (∀ r S', (((r = 1 ∧ (l = 110 ∨ l = 119 ∨ l = 108 ∨ l = 115 ∨ l = 121)) ∨ (r = 0 ∧ ¬ (l = 110 ∨ l = 119 ∨ l = 108 ∨ l = 115 ∨ l = 121))) ∧ S' = S) → P r S') → EX mX8_isWord [vi l] S P from hh _ (fun _ _ h => h)
  intro P hP
  refine EX.of (L := [(0, vi l)]) rfl rfl (Nat.le_of_ble_eq_true rfl) rfl ?_
  refine j_iload_n dX8_isWord_0 rfl ?_
  refine j_bipush dX8_isWord_1 (by decide) ?_
  refine j_icmp_eq (tgt := 30) dX8_isWord_3 (by decide) (by omega) (by omega) (fun h3 => ?_) (fun h3 => ?_)
  · refine j_iconst dX8_isWord_30 ?_
    refine j_goto (tgt := 35) dX8_isWord_31 (by decide) ?_
    exact j_iret rfl dX8_isWord_35 (fun _ => Or.inr rfl) (hP _ _ ⟨by omega, rfl⟩)
  · refine j_iload_n dX8_isWord_6 rfl ?_
    refine j_bipush dX8_isWord_7 (by decide) ?_
    refine j_icmp_eq (tgt := 30) dX8_isWord_9 (by decide) (by omega) (by omega) (fun h9 => ?_) (fun h9 => ?_)
    · refine j_iconst dX8_isWord_30 ?_
      refine j_goto (tgt := 35) dX8_isWord_31 (by decide) ?_
      exact j_iret rfl dX8_isWord_35 (fun _ => Or.inr rfl) (hP _ _ ⟨by omega, rfl⟩)
    · refine j_iload_n dX8_isWord_12 rfl ?_
      refine j_bipush dX8_isWord_13 (by decide) ?_
      refine j_icmp_eq (tgt := 30) dX8_isWord_15 (by decide) (by omega) (by omega) (fun h15 => ?_) (fun h15 => ?_)
      · refine j_iconst dX8_isWord_30 ?_
        refine j_goto (tgt := 35) dX8_isWord_31 (by decide) ?_
        exact j_iret rfl dX8_isWord_35 (fun _ => Or.inr rfl) (hP _ _ ⟨by omega, rfl⟩)
      · refine j_iload_n dX8_isWord_18 rfl ?_
        refine j_bipush dX8_isWord_19 (by decide) ?_
        refine j_icmp_eq (tgt := 30) dX8_isWord_21 (by decide) (by omega) (by omega) (fun h21 => ?_) (fun h21 => ?_)
        · refine j_iconst dX8_isWord_30 ?_
          refine j_goto (tgt := 35) dX8_isWord_31 (by decide) ?_
          exact j_iret rfl dX8_isWord_35 (fun _ => Or.inr rfl) (hP _ _ ⟨by omega, rfl⟩)
        · refine j_iload_n dX8_isWord_24 rfl ?_
          refine j_bipush dX8_isWord_25 (by decide) ?_
          refine j_icmp_ne (tgt := 34) dX8_isWord_27 (by decide) (by omega) (by omega) (fun h27 => ?_) (fun h27 => ?_)
          · refine j_iconst dX8_isWord_34 ?_
            exact j_iret rfl dX8_isWord_35 (fun _ => Or.inl rfl) (hP _ _ ⟨by omega, rfl⟩)
          · refine j_iconst dX8_isWord_30 ?_
            refine j_goto (tgt := 35) dX8_isWord_31 (by decide) ?_
            exact j_iret rfl dX8_isWord_35 (fun _ => Or.inr rfl) (hP _ _ ⟨by omega, rfl⟩)
set_option maxRecDepth 100000 in
set_option maxHeartbeats 4000000 in
theorem t_X8_isWell (S : St) : EX mX8_isWell [.ref 118] S (fun r S' => ((r = 1 ∧ (S 118 8 < 0)) ∨ (r = 0 ∧ ¬ (S 118 8 < 0))) ∧ S' = S) := by
  suffices hh : ∀ P : Int → St → Prop, (∀ r S', (((r = 1 ∧ (S 118 8 < 0)) ∨ (r = 0 ∧ ¬ (S 118 8 < 0))) ∧ S' = S) → P r S') → EX mX8_isWell [.ref 118] S P from hh _ (fun _ _ h => h)
  intro P hP
  refine EX.of (L := [(0, .ref 118)]) rfl rfl (Nat.le_of_ble_eq_true rfl) rfl ?_
  refine j_aload_n dX8_isWell_0 rfl ?_
  refine j_getI (x := S 118 8) dX8_isWell_1 fg_X8_93 fq_118_8 rfl (fun hi1 => ?_)
  refine j_if_ge (tgt := 11) dX8_isWell_4 (by decide) (by omega)  (fun h4 => ?_) (fun h4 => ?_)
  · refine j_iconst dX8_isWell_11 ?_
    exact j_iret rfl dX8_isWell_12 (fun _ => Or.inl rfl) (hP _ _ ⟨by omega, rfl⟩)
  · refine j_iconst dX8_isWell_7 ?_
    refine j_goto (tgt := 12) dX8_isWell_8 (by decide) ?_
    exact j_iret rfl dX8_isWell_12 (fun _ => Or.inr rfl) (hP _ _ ⟨by omega, rfl⟩)
set_option maxRecDepth 100000 in
set_option maxHeartbeats 4000000 in
theorem t_X8_mayBegin (S : St) (k : Int) (hr : InR k) : EX mX8_mayBegin [.ref 118, vi k] S (fun r S' => ((r = 1 ∧ ((S 118 7 = 110 ∧ k = 0) ∨ (S 118 7 = 115 ∧ S 118 15 < 4) ∨ (S 118 7 = 121 ∧ S 118 16 < 6) ∨ (S 118 7 ≠ 110 ∧ S 118 7 ≠ 115 ∧ S 118 7 ≠ 121))) ∨ (r = 0 ∧ ¬ ((S 118 7 = 110 ∧ k = 0) ∨ (S 118 7 = 115 ∧ S 118 15 < 4) ∨ (S 118 7 = 121 ∧ S 118 16 < 6) ∨ (S 118 7 ≠ 110 ∧ S 118 7 ≠ 115 ∧ S 118 7 ≠ 121)))) ∧ S' = S) := by
  suffices hh : ∀ P : Int → St → Prop, (∀ r S', (((r = 1 ∧ ((S 118 7 = 110 ∧ k = 0) ∨ (S 118 7 = 115 ∧ S 118 15 < 4) ∨ (S 118 7 = 121 ∧ S 118 16 < 6) ∨ (S 118 7 ≠ 110 ∧ S 118 7 ≠ 115 ∧ S 118 7 ≠ 121))) ∨ (r = 0 ∧ ¬ ((S 118 7 = 110 ∧ k = 0) ∨ (S 118 7 = 115 ∧ S 118 15 < 4) ∨ (S 118 7 = 121 ∧ S 118 16 < 6) ∨ (S 118 7 ≠ 110 ∧ S 118 7 ≠ 115 ∧ S 118 7 ≠ 121)))) ∧ S' = S) → P r S') → EX mX8_mayBegin [.ref 118, vi k] S P from hh _ (fun _ _ h => h)
  intro P hP
  refine EX.of (L := [(0, .ref 118), (1, vi k)]) rfl rfl (Nat.le_of_ble_eq_true rfl) rfl ?_
  refine j_aload_n dX8_mayBegin_0 rfl ?_
  refine j_getI (x := S 118 7) dX8_mayBegin_1 fg_X8_86 fq_118_7 rfl (fun hi1 => ?_)
  refine j_bipush dX8_mayBegin_4 (by decide) ?_
  refine j_icmp_ne (tgt := 21) dX8_mayBegin_6 (by decide) (by omega) (by omega) (fun h6 => ?_) (fun h6 => ?_)
  · refine j_aload_n dX8_mayBegin_21 rfl ?_
    refine j_getI (x := S 118 7) dX8_mayBegin_22 fg_X8_86 fq_118_7 rfl (fun hi22 => ?_)
    refine j_bipush dX8_mayBegin_25 (by decide) ?_
    refine j_icmp_ne (tgt := 46) dX8_mayBegin_27 (by decide) (by omega) (by omega) (fun h27 => ?_) (fun h27 => ?_)
    · refine j_aload_n dX8_mayBegin_46 rfl ?_
      refine j_getI (x := S 118 7) dX8_mayBegin_47 fg_X8_86 fq_118_7 rfl (fun hi47 => ?_)
      refine j_bipush dX8_mayBegin_50 (by decide) ?_
      refine j_icmp_ne (tgt := 64) dX8_mayBegin_52 (by decide) (by omega) (by omega) (fun h52 => ?_) (fun h52 => ?_)
      · refine j_iconst dX8_mayBegin_64 ?_
        refine j_goto (tgt := 69) dX8_mayBegin_65 (by decide) ?_
        exact j_iret rfl dX8_mayBegin_69 (fun _ => Or.inr rfl) (hP _ _ ⟨by omega, rfl⟩)
      · refine j_aload_n dX8_mayBegin_55 rfl ?_
        refine j_getI (x := S 118 16) dX8_mayBegin_56 fg_X8_110 fq_118_16 rfl (fun hi56 => ?_)
        refine j_bipush dX8_mayBegin_59 (by decide) ?_
        refine j_icmp_ge (tgt := 68) dX8_mayBegin_61 (by decide) (by omega) (by omega) (fun h61 => ?_) (fun h61 => ?_)
        · refine j_iconst dX8_mayBegin_68 ?_
          exact j_iret rfl dX8_mayBegin_69 (fun _ => Or.inl rfl) (hP _ _ ⟨by omega, rfl⟩)
        · refine j_iconst dX8_mayBegin_64 ?_
          refine j_goto (tgt := 69) dX8_mayBegin_65 (by decide) ?_
          exact j_iret rfl dX8_mayBegin_69 (fun _ => Or.inr rfl) (hP _ _ ⟨by omega, rfl⟩)
    · refine j_aload_n dX8_mayBegin_30 rfl ?_
      refine j_getI (x := S 118 15) dX8_mayBegin_31 fg_X8_107 fq_118_15 rfl (fun hi31 => ?_)
      refine j_iconst dX8_mayBegin_34 ?_
      refine j_icmp_ge (tgt := 42) dX8_mayBegin_35 (by decide) (by omega) (by omega) (fun h35 => ?_) (fun h35 => ?_)
      · refine j_iconst dX8_mayBegin_42 ?_
        refine j_goto (tgt := 69) dX8_mayBegin_43 (by decide) ?_
        exact j_iret rfl dX8_mayBegin_69 (fun _ => Or.inl rfl) (hP _ _ ⟨by omega, rfl⟩)
      · refine j_iconst dX8_mayBegin_38 ?_
        refine j_goto (tgt := 69) dX8_mayBegin_39 (by decide) ?_
        exact j_iret rfl dX8_mayBegin_69 (fun _ => Or.inr rfl) (hP _ _ ⟨by omega, rfl⟩)
  · refine j_iload_n dX8_mayBegin_9 rfl ?_
    refine j_if_ne (tgt := 17) dX8_mayBegin_10 (by decide) (by omega)  (fun h10 => ?_) (fun h10 => ?_)
    · refine j_iconst dX8_mayBegin_17 ?_
      refine j_goto (tgt := 69) dX8_mayBegin_18 (by decide) ?_
      exact j_iret rfl dX8_mayBegin_69 (fun _ => Or.inl rfl) (hP _ _ ⟨by omega, rfl⟩)
    · refine j_iconst dX8_mayBegin_13 ?_
      refine j_goto (tgt := 69) dX8_mayBegin_14 (by decide) ?_
      exact j_iret rfl dX8_mayBegin_69 (fun _ => Or.inr rfl) (hP _ _ ⟨by omega, rfl⟩)
theorem mi_trc {S : St} {x : Int} (h : MI S) : MI (up S 118 1 x) := by
  have e : ∀ j, j ≠ 1 → up S 118 1 x 118 j = S 118 j := fun j a => up_i a
  have f : ∀ c, c ≠ 118 → up S 118 1 x c = S c := fun c a => up_row a
  unfold MI mWh mAg mHd mPl
  rw [e 13 (by decide), e 0 (by decide), f 120 (by decide), f 121 (by decide), f 124 (by decide), f 125 (by decide)]
  exact h
set_option maxRecDepth 100000 in
set_option maxHeartbeats 4000000 in
theorem t_X8_rate (S : St) (kind p : Int) (r_kind : InR kind) (r_p : InR p) (hM : MI S) : EX mX8_rate [.ref 118, vi kind, vi p] S (fun r S' => (((0 ≤ kind ∧ kind ≤ 5) ∧ (0 ≤ p ∧ p < S 125 1) ∧ mWh S p ≠ 9) ∧ r = rateF kind (mAg S p) (S 120 (mPl S p)) (S 121 (mPl S p)) (S 124 p) (lyA (S 125 1) (mWh S)) ∧ S' = up S 118 1 (S 118 1 + trF kind)) ∨ (¬ ((0 ≤ kind ∧ kind ≤ 5) ∧ (0 ≤ p ∧ p < S 125 1) ∧ mWh S p ≠ 9) ∧ r = -1000000 ∧ S' = S)) := by
  suffices hh : ∀ P : Int → St → Prop, (∀ r S', ((((0 ≤ kind ∧ kind ≤ 5) ∧ (0 ≤ p ∧ p < S 125 1) ∧ mWh S p ≠ 9) ∧ r = rateF kind (mAg S p) (S 120 (mPl S p)) (S 121 (mPl S p)) (S 124 p) (lyA (S 125 1) (mWh S)) ∧ S' = up S 118 1 (S 118 1 + trF kind)) ∨ (¬ ((0 ≤ kind ∧ kind ≤ 5) ∧ (0 ≤ p ∧ p < S 125 1) ∧ mWh S p ≠ 9) ∧ r = -1000000 ∧ S' = S)) → P r S') → EX mX8_rate [.ref 118, vi kind, vi p] S P from hh _ (fun _ _ h => h)
  intro P hP
  refine EX.of (L := [(0, .ref 118), (1, vi kind), (2, vi p)]) rfl rfl (Nat.le_of_ble_eq_true rfl) rfl ?_
  obtain ⟨⟨hn0, hn1⟩, hwl, ⟨hp0, hp1⟩, ⟨hs0, hs1⟩, hyr, hpt, hhd, hth⟩ := id hM
  have hwt : ∀ k, 0 ≤ k → k < 6 → 1 ≤ S 120 k ∧ S 120 k ≤ 9 := fun k a b => ⟨(hwl k a b).1, (hwl k a b).2.1⟩
  refine j_aload_n dX8_rate_0 rfl ?_
  refine j_iconst dX8_rate_1 ?_
  refine j_putI (i := 0) dX8_rate_2 fg_X8_63 ft_8_0 fq_118_0 rfl (by omega) ?_
  rw [up_thr hth]
  refine j_iload_n dX8_rate_5 rfl ?_
  refine j_iconst dX8_rate_6 ?_
  refine j_iconst dX8_rate_7 ?_
  refine j_callSi (As := [vi kind, vi 0, vi 5]) (rest := []) (t_X8_in _ kind 0 5 (by omega) (by omega) (by omega)) rfl cm_X8_in cs_X8_in ml_X8_66 rfl (Nat.le_of_ble_eq_true rfl) (Nat.le_of_ble_eq_true rfl) dX8_rate_8 (fun r8 S8 hp8 => ?_)
  obtain ⟨⟨rfl, hc8⟩ | ⟨rfl, hc8⟩, he8⟩ := hp8
  · rw [he8]
    refine j_if_eq (tgt := 35) dX8_rate_11 (by decide) (by omega)  (fun h => absurd h (by decide)) (fun _ => ?_)
    refine j_aload_n dX8_rate_14 rfl ?_
    refine j_iload_n dX8_rate_15 rfl ?_
    refine j_callVi (As := [vi p]) (rest := []) (t_X8_isPart _ p (by omega) (by omega)) rfl cm_X8_isPart ci_X8_isPart ml_X8_153 oq_118 rfl (Nat.le_of_ble_eq_true rfl) (Nat.le_of_ble_eq_true rfl) dX8_rate_16 (fun r16 S16 hp16 => ?_)
    obtain ⟨⟨rfl, hc16⟩ | ⟨rfl, hc16⟩, he16⟩ := hp16
    · rw [he16]
      refine j_if_eq (tgt := 35) dX8_rate_19 (by decide) (by omega)  (fun h => absurd h (by decide)) (fun _ => ?_)
      refine j_aload_n dX8_rate_22 rfl ?_
      refine j_getR dX8_rate_23 fg_X8_28 fq_118_18 ?_
      refine j_iconst dX8_rate_26 ?_
      refine j_iload_n dX8_rate_27 rfl ?_
      refine j_iadd dX8_rate_28 ?_
      refine j_iald (x := S 125 (3 + p)) dX8_rate_29 aq_125 (by omega) (by omega) rfl (fun hi29 => ?_)
      refine j_bipush dX8_rate_30 (by decide) ?_
      refine j_icmp_ne (tgt := 38) dX8_rate_32 (by decide) (by omega) (by omega) (fun h32 => ?_) (fun h32 => ?_)
      · have hq := hpt p (by omega) (by omega)
        have hag : 0 ≤ S 125 (51 + p) ∧ S 125 (51 + p) ≤ 200 := hq.2.2.1
        have hpl : 0 ≤ S 125 (141 + p) ∧ S 125 (141 + p) < S 118 13 := hq.1
        have hmk := hq.2.1
        have hw1 := hM.2.1 (S 125 (141 + p)) (by omega) (by omega)
        have hly := sm_bd (f := fun p => if mWh S p = 8 then 1 else 0) (a := 1) (n := (S 125 1).toNat) (fun i i0 i1 => by split <;> omega)
        refine j_aload_n dX8_rate_38 rfl ?_
        refine j_getR dX8_rate_39 fg_X8_28 fq_118_18 ?_
        refine j_bipush dX8_rate_42 (by decide) ?_
        refine j_iload_n dX8_rate_44 rfl ?_
        refine j_iadd dX8_rate_45 ?_
        refine j_iald (x := S 125 (51 + p)) dX8_rate_46 aq_125 (by omega) (by omega) rfl (fun hi46 => ?_)
        refine j_istore_n (L' := [(0, .ref 118), (1, vi kind), (2, vi p), (3, vi (S 125 (51 + p)))]) dX8_rate_47 (Nat.le_of_ble_eq_true rfl) rfl ?_
        refine j_iload_n dX8_rate_48 rfl ?_
        refine j_aload_n dX8_rate_49 rfl ?_
        refine j_getR dX8_rate_50 fg_X8_13 fq_118_9 ?_
        refine j_aload_n dX8_rate_53 rfl ?_
        refine j_getR dX8_rate_54 fg_X8_28 fq_118_18 ?_
        refine j_sipush dX8_rate_57 (by decide) ?_
        refine j_iload_n dX8_rate_60 rfl ?_
        refine j_iadd dX8_rate_61 ?_
        refine j_iald (x := S 125 (141 + p)) dX8_rate_62 aq_125 (by omega) (by omega) rfl (fun hi62 => ?_)
        refine j_iald (x := S 120 (S 125 (141 + p))) dX8_rate_63 aq_120 (by omega) (by omega) rfl (fun hi63 => ?_)
        refine j_iadd dX8_rate_64 ?_
        refine j_istore (L' := [(0, .ref 118), (1, vi kind), (2, vi p), (3, vi (S 125 (51 + p))), (4, vi ((S 125 (51 + p)) + (S 120 (S 125 (141 + p)))))]) dX8_rate_65 (Nat.le_of_ble_eq_true rfl) rfl ?_
        refine j_iload_n dX8_rate_67 rfl ?_
        refine j_aload_n dX8_rate_68 rfl ?_
        refine j_getR dX8_rate_69 fg_X8_16 fq_118_10 ?_
        refine j_aload_n dX8_rate_72 rfl ?_
        refine j_getR dX8_rate_73 fg_X8_28 fq_118_18 ?_
        refine j_sipush dX8_rate_76 (by decide) ?_
        refine j_iload_n dX8_rate_79 rfl ?_
        refine j_iadd dX8_rate_80 ?_
        refine j_iald (x := S 125 (141 + p)) dX8_rate_81 aq_125 (by omega) (by omega) rfl (fun hi81 => ?_)
        refine j_iald (x := S 121 (S 125 (141 + p))) dX8_rate_82 aq_121 (by omega) (by omega) rfl (fun hi82 => ?_)
        refine j_isub dX8_rate_83 ?_
        refine j_istore (L' := [(0, .ref 118), (1, vi kind), (2, vi p), (3, vi (S 125 (51 + p))), (4, vi ((S 125 (51 + p)) + (S 120 (S 125 (141 + p))))), (5, vi ((S 125 (51 + p)) - (S 121 (S 125 (141 + p)))))]) dX8_rate_84 (Nat.le_of_ble_eq_true rfl) rfl ?_
        refine j_aload_n dX8_rate_86 rfl ?_
        refine j_dup dX8_rate_87 rfl ?_
        refine j_getL (x := S 118 1) dX8_rate_88 fg_X8_236 fq_118_1 rfl ?_
        refine j_iload_n dX8_rate_91 rfl ?_
        refine j_if_ne (tgt := 99) dX8_rate_92 (by decide) (by omega)  (fun h92 => ?_) (fun h92 => ?_)
        · refine j_iload_n dX8_rate_99 rfl ?_
          refine j_iconst dX8_rate_100 ?_
          refine j_icmp_ne (tgt := 110) dX8_rate_101 (by decide) (by omega) (by omega) (fun h101 => ?_) (fun h101 => ?_)
          · refine j_iload_n dX8_rate_110 rfl ?_
            refine j_iconst dX8_rate_111 ?_
            refine j_icmp_ne (tgt := 121) dX8_rate_112 (by decide) (by omega) (by omega) (fun h112 => ?_) (fun h112 => ?_)
            · refine j_iload_n dX8_rate_121 rfl ?_
              refine j_iconst dX8_rate_122 ?_
              refine j_icmp_ne (tgt := 132) dX8_rate_123 (by decide) (by omega) (by omega) (fun h123 => ?_) (fun h123 => ?_)
              · refine j_iload_n dX8_rate_132 rfl ?_
                refine j_iconst dX8_rate_133 ?_
                refine j_icmp_ne (tgt := 143) dX8_rate_134 (by decide) (by omega) (by omega) (fun h134 => ?_) (fun h134 => ?_)
                · refine j_ldc2 (x := 100001) dX8_rate_143 cn_X8_248 ?_
                  refine j_ladd dX8_rate_146 ?_
                  refine j_putL (i := 1) dX8_rate_147 fg_X8_236 ft_8_1 fq_118_1 rfl (by unfold lngAt; omega) ?_
                  refine j_iload_n dX8_rate_150 rfl ?_
                  refine j_if_ne (tgt := 158) dX8_rate_151 (by decide) (by omega)  (fun h151 => ?_) (fun h151 => ?_)
                  · refine j_iload_n dX8_rate_158 rfl ?_
                    refine j_iconst dX8_rate_159 ?_
                    refine j_icmp_ne (tgt := 168) dX8_rate_160 (by decide) (by omega) (by omega) (fun h160 => ?_) (fun h160 => ?_)
                    · refine j_iload_n dX8_rate_168 rfl ?_
                      refine j_iconst dX8_rate_169 ?_
                      refine j_icmp_ne (tgt := 178) dX8_rate_170 (by decide) (by omega) (by omega) (fun h170 => ?_) (fun h170 => ?_)
                      · refine j_iload_n dX8_rate_178 rfl ?_
                        refine j_iconst dX8_rate_179 ?_
                        refine j_icmp_ne (tgt := 190) dX8_rate_180 (by decide) (by omega) (by omega) (fun h180 => ?_) (fun h180 => ?_)
                        · refine j_iload_n dX8_rate_190 rfl ?_
                          refine j_iconst dX8_rate_191 ?_
                          refine j_icmp_ne (tgt := 207) dX8_rate_192 (by decide) (by omega) (by omega) (fun h192 => ?_) (fun h192 => ?_)
                          · refine j_iload_n dX8_rate_207 rfl ?_
                            refine j_aload_n dX8_rate_208 rfl ?_
                            refine j_callVi (As := []) (rest := [vi (S 125 (51 + p))]) (t_X8_inYard _ (mi_trc hM)) rfl cm_X8_inYard ci_X8_inYard ml_X8_193 oq_118 rfl (Nat.le_of_ble_eq_true rfl) (Nat.le_of_ble_eq_true rfl) dX8_rate_209 (fun r209 S209 hp209 => ?_)
                            obtain ⟨hr209, he209⟩ := hp209
                            rw [he209]
                            have hy : r209 = lyA (S 125 1) (mWh S) := hr209
                            have hy2 : r209 = sm (fun p => if mWh S p = 8 then 1 else 0) (S 125 1).toNat := hr209
                            rw [← hy2] at hly
                            refine j_iadd dX8_rate_212 ?_
                            exact j_iret rfl dX8_rate_213 (fun h => by cases h) (hP _ _ (Or.inl ⟨by unfold mWh; omega, by rw [← hy]; unfold rateF mAg mPl; (repeat' split) <;> omega, by unfold trF; (repeat' split) <;> first | rfl | omega⟩))
                          · refine j_iload dX8_rate_195 rfl ?_
                            refine j_aload_n dX8_rate_197 rfl ?_
                            refine j_getR dX8_rate_198 fg_X8_25 fq_118_17 ?_
                            refine j_iload_n dX8_rate_201 rfl ?_
                            refine j_iald (x := S 124 p) dX8_rate_202 aq_124 (by omega) (by omega) rfl (fun hi202 => ?_)
                            refine j_iadd dX8_rate_203 ?_
                            refine j_goto (tgt := 213) dX8_rate_204 (by decide) ?_
                            exact j_iret rfl dX8_rate_213 (fun h => by cases h) (hP _ _ (Or.inl ⟨by unfold mWh; omega, by unfold rateF mAg mPl; (repeat' split) <;> omega, by unfold trF; (repeat' split) <;> first | rfl | omega⟩))
                        · refine j_iconst dX8_rate_183 ?_
                          refine j_iload dX8_rate_184 rfl ?_
                          refine j_imul dX8_rate_186 ?_
                          refine j_goto (tgt := 213) dX8_rate_187 (by decide) ?_
                          exact j_iret rfl dX8_rate_213 (fun h => by cases h) (hP _ _ (Or.inl ⟨by unfold mWh; omega, by unfold rateF mAg mPl; (repeat' split) <;> omega, by unfold trF; (repeat' split) <;> first | rfl | omega⟩))
                      · refine j_iload dX8_rate_173 rfl ?_
                        refine j_goto (tgt := 213) dX8_rate_175 (by decide) ?_
                        exact j_iret rfl dX8_rate_213 (fun h => by cases h) (hP _ _ (Or.inl ⟨by unfold mWh; omega, by unfold rateF mAg mPl; (repeat' split) <;> omega, by unfold trF; (repeat' split) <;> first | rfl | omega⟩))
                    · refine j_iload dX8_rate_163 rfl ?_
                      refine j_goto (tgt := 213) dX8_rate_165 (by decide) ?_
                      exact j_iret rfl dX8_rate_213 (fun h => by cases h) (hP _ _ (Or.inl ⟨by unfold mWh; omega, by unfold rateF mAg mPl; (repeat' split) <;> omega, by unfold trF; (repeat' split) <;> first | rfl | omega⟩))
                  · refine j_iload_n dX8_rate_154 rfl ?_
                    refine j_goto (tgt := 213) dX8_rate_155 (by decide) ?_
                    exact j_iret rfl dX8_rate_213 (fun h => by cases h) (hP _ _ (Or.inl ⟨by unfold mWh; omega, by unfold rateF mAg mPl; (repeat' split) <;> omega, by unfold trF; (repeat' split) <;> first | rfl | omega⟩))
                · refine j_ldc2 (x := 10101) dX8_rate_137 cn_X8_246 ?_
                  refine j_goto (tgt := 146) dX8_rate_140 (by decide) ?_
                  refine j_ladd dX8_rate_146 ?_
                  refine j_putL (i := 1) dX8_rate_147 fg_X8_236 ft_8_1 fq_118_1 rfl (by unfold lngAt; omega) ?_
                  refine j_iload_n dX8_rate_150 rfl ?_
                  refine j_if_ne (tgt := 158) dX8_rate_151 (by decide) (by omega)  (fun h151 => ?_) (fun h151 => ?_)
                  · refine j_iload_n dX8_rate_158 rfl ?_
                    refine j_iconst dX8_rate_159 ?_
                    refine j_icmp_ne (tgt := 168) dX8_rate_160 (by decide) (by omega) (by omega) (fun h160 => ?_) (fun h160 => ?_)
                    · refine j_iload_n dX8_rate_168 rfl ?_
                      refine j_iconst dX8_rate_169 ?_
                      refine j_icmp_ne (tgt := 178) dX8_rate_170 (by decide) (by omega) (by omega) (fun h170 => ?_) (fun h170 => ?_)
                      · refine j_iload_n dX8_rate_178 rfl ?_
                        refine j_iconst dX8_rate_179 ?_
                        refine j_icmp_ne (tgt := 190) dX8_rate_180 (by decide) (by omega) (by omega) (fun h180 => ?_) (fun h180 => ?_)
                        · refine j_iload_n dX8_rate_190 rfl ?_
                          refine j_iconst dX8_rate_191 ?_
                          refine j_icmp_ne (tgt := 207) dX8_rate_192 (by decide) (by omega) (by omega) (fun h192 => ?_) (fun h192 => ?_)
                          · refine j_iload_n dX8_rate_207 rfl ?_
                            refine j_aload_n dX8_rate_208 rfl ?_
                            refine j_callVi (As := []) (rest := [vi (S 125 (51 + p))]) (t_X8_inYard _ (mi_trc hM)) rfl cm_X8_inYard ci_X8_inYard ml_X8_193 oq_118 rfl (Nat.le_of_ble_eq_true rfl) (Nat.le_of_ble_eq_true rfl) dX8_rate_209 (fun r209 S209 hp209 => ?_)
                            obtain ⟨hr209, he209⟩ := hp209
                            rw [he209]
                            have hy : r209 = lyA (S 125 1) (mWh S) := hr209
                            have hy2 : r209 = sm (fun p => if mWh S p = 8 then 1 else 0) (S 125 1).toNat := hr209
                            rw [← hy2] at hly
                            refine j_iadd dX8_rate_212 ?_
                            exact j_iret rfl dX8_rate_213 (fun h => by cases h) (hP _ _ (Or.inl ⟨by unfold mWh; omega, by rw [← hy]; unfold rateF mAg mPl; (repeat' split) <;> omega, by unfold trF; (repeat' split) <;> first | rfl | omega⟩))
                          · refine j_iload dX8_rate_195 rfl ?_
                            refine j_aload_n dX8_rate_197 rfl ?_
                            refine j_getR dX8_rate_198 fg_X8_25 fq_118_17 ?_
                            refine j_iload_n dX8_rate_201 rfl ?_
                            refine j_iald (x := S 124 p) dX8_rate_202 aq_124 (by omega) (by omega) rfl (fun hi202 => ?_)
                            refine j_iadd dX8_rate_203 ?_
                            refine j_goto (tgt := 213) dX8_rate_204 (by decide) ?_
                            exact j_iret rfl dX8_rate_213 (fun h => by cases h) (hP _ _ (Or.inl ⟨by unfold mWh; omega, by unfold rateF mAg mPl; (repeat' split) <;> omega, by unfold trF; (repeat' split) <;> first | rfl | omega⟩))
                        · refine j_iconst dX8_rate_183 ?_
                          refine j_iload dX8_rate_184 rfl ?_
                          refine j_imul dX8_rate_186 ?_
                          refine j_goto (tgt := 213) dX8_rate_187 (by decide) ?_
                          exact j_iret rfl dX8_rate_213 (fun h => by cases h) (hP _ _ (Or.inl ⟨by unfold mWh; omega, by unfold rateF mAg mPl; (repeat' split) <;> omega, by unfold trF; (repeat' split) <;> first | rfl | omega⟩))
                      · refine j_iload dX8_rate_173 rfl ?_
                        refine j_goto (tgt := 213) dX8_rate_175 (by decide) ?_
                        exact j_iret rfl dX8_rate_213 (fun h => by cases h) (hP _ _ (Or.inl ⟨by unfold mWh; omega, by unfold rateF mAg mPl; (repeat' split) <;> omega, by unfold trF; (repeat' split) <;> first | rfl | omega⟩))
                    · refine j_iload dX8_rate_163 rfl ?_
                      refine j_goto (tgt := 213) dX8_rate_165 (by decide) ?_
                      exact j_iret rfl dX8_rate_213 (fun h => by cases h) (hP _ _ (Or.inl ⟨by unfold mWh; omega, by unfold rateF mAg mPl; (repeat' split) <;> omega, by unfold trF; (repeat' split) <;> first | rfl | omega⟩))
                  · refine j_iload_n dX8_rate_154 rfl ?_
                    refine j_goto (tgt := 213) dX8_rate_155 (by decide) ?_
                    exact j_iret rfl dX8_rate_213 (fun h => by cases h) (hP _ _ (Or.inl ⟨by unfold mWh; omega, by unfold rateF mAg mPl; (repeat' split) <;> omega, by unfold trF; (repeat' split) <;> first | rfl | omega⟩))
              · refine j_ldc2 (x := 1011) dX8_rate_126 cn_X8_244 ?_
                refine j_goto (tgt := 146) dX8_rate_129 (by decide) ?_
                refine j_ladd dX8_rate_146 ?_
                refine j_putL (i := 1) dX8_rate_147 fg_X8_236 ft_8_1 fq_118_1 rfl (by unfold lngAt; omega) ?_
                refine j_iload_n dX8_rate_150 rfl ?_
                refine j_if_ne (tgt := 158) dX8_rate_151 (by decide) (by omega)  (fun h151 => ?_) (fun h151 => ?_)
                · refine j_iload_n dX8_rate_158 rfl ?_
                  refine j_iconst dX8_rate_159 ?_
                  refine j_icmp_ne (tgt := 168) dX8_rate_160 (by decide) (by omega) (by omega) (fun h160 => ?_) (fun h160 => ?_)
                  · refine j_iload_n dX8_rate_168 rfl ?_
                    refine j_iconst dX8_rate_169 ?_
                    refine j_icmp_ne (tgt := 178) dX8_rate_170 (by decide) (by omega) (by omega) (fun h170 => ?_) (fun h170 => ?_)
                    · refine j_iload_n dX8_rate_178 rfl ?_
                      refine j_iconst dX8_rate_179 ?_
                      refine j_icmp_ne (tgt := 190) dX8_rate_180 (by decide) (by omega) (by omega) (fun h180 => ?_) (fun h180 => ?_)
                      · refine j_iload_n dX8_rate_190 rfl ?_
                        refine j_iconst dX8_rate_191 ?_
                        refine j_icmp_ne (tgt := 207) dX8_rate_192 (by decide) (by omega) (by omega) (fun h192 => ?_) (fun h192 => ?_)
                        · refine j_iload_n dX8_rate_207 rfl ?_
                          refine j_aload_n dX8_rate_208 rfl ?_
                          refine j_callVi (As := []) (rest := [vi (S 125 (51 + p))]) (t_X8_inYard _ (mi_trc hM)) rfl cm_X8_inYard ci_X8_inYard ml_X8_193 oq_118 rfl (Nat.le_of_ble_eq_true rfl) (Nat.le_of_ble_eq_true rfl) dX8_rate_209 (fun r209 S209 hp209 => ?_)
                          obtain ⟨hr209, he209⟩ := hp209
                          rw [he209]
                          have hy : r209 = lyA (S 125 1) (mWh S) := hr209
                          have hy2 : r209 = sm (fun p => if mWh S p = 8 then 1 else 0) (S 125 1).toNat := hr209
                          rw [← hy2] at hly
                          refine j_iadd dX8_rate_212 ?_
                          exact j_iret rfl dX8_rate_213 (fun h => by cases h) (hP _ _ (Or.inl ⟨by unfold mWh; omega, by rw [← hy]; unfold rateF mAg mPl; (repeat' split) <;> omega, by unfold trF; (repeat' split) <;> first | rfl | omega⟩))
                        · refine j_iload dX8_rate_195 rfl ?_
                          refine j_aload_n dX8_rate_197 rfl ?_
                          refine j_getR dX8_rate_198 fg_X8_25 fq_118_17 ?_
                          refine j_iload_n dX8_rate_201 rfl ?_
                          refine j_iald (x := S 124 p) dX8_rate_202 aq_124 (by omega) (by omega) rfl (fun hi202 => ?_)
                          refine j_iadd dX8_rate_203 ?_
                          refine j_goto (tgt := 213) dX8_rate_204 (by decide) ?_
                          exact j_iret rfl dX8_rate_213 (fun h => by cases h) (hP _ _ (Or.inl ⟨by unfold mWh; omega, by unfold rateF mAg mPl; (repeat' split) <;> omega, by unfold trF; (repeat' split) <;> first | rfl | omega⟩))
                      · refine j_iconst dX8_rate_183 ?_
                        refine j_iload dX8_rate_184 rfl ?_
                        refine j_imul dX8_rate_186 ?_
                        refine j_goto (tgt := 213) dX8_rate_187 (by decide) ?_
                        exact j_iret rfl dX8_rate_213 (fun h => by cases h) (hP _ _ (Or.inl ⟨by unfold mWh; omega, by unfold rateF mAg mPl; (repeat' split) <;> omega, by unfold trF; (repeat' split) <;> first | rfl | omega⟩))
                    · refine j_iload dX8_rate_173 rfl ?_
                      refine j_goto (tgt := 213) dX8_rate_175 (by decide) ?_
                      exact j_iret rfl dX8_rate_213 (fun h => by cases h) (hP _ _ (Or.inl ⟨by unfold mWh; omega, by unfold rateF mAg mPl; (repeat' split) <;> omega, by unfold trF; (repeat' split) <;> first | rfl | omega⟩))
                  · refine j_iload dX8_rate_163 rfl ?_
                    refine j_goto (tgt := 213) dX8_rate_165 (by decide) ?_
                    exact j_iret rfl dX8_rate_213 (fun h => by cases h) (hP _ _ (Or.inl ⟨by unfold mWh; omega, by unfold rateF mAg mPl; (repeat' split) <;> omega, by unfold trF; (repeat' split) <;> first | rfl | omega⟩))
                · refine j_iload_n dX8_rate_154 rfl ?_
                  refine j_goto (tgt := 213) dX8_rate_155 (by decide) ?_
                  exact j_iret rfl dX8_rate_213 (fun h => by cases h) (hP _ _ (Or.inl ⟨by unfold mWh; omega, by unfold rateF mAg mPl; (repeat' split) <;> omega, by unfold trF; (repeat' split) <;> first | rfl | omega⟩))
            · refine j_ldc2 (x := 101) dX8_rate_115 cn_X8_242 ?_
              refine j_goto (tgt := 146) dX8_rate_118 (by decide) ?_
              refine j_ladd dX8_rate_146 ?_
              refine j_putL (i := 1) dX8_rate_147 fg_X8_236 ft_8_1 fq_118_1 rfl (by unfold lngAt; omega) ?_
              refine j_iload_n dX8_rate_150 rfl ?_
              refine j_if_ne (tgt := 158) dX8_rate_151 (by decide) (by omega)  (fun h151 => ?_) (fun h151 => ?_)
              · refine j_iload_n dX8_rate_158 rfl ?_
                refine j_iconst dX8_rate_159 ?_
                refine j_icmp_ne (tgt := 168) dX8_rate_160 (by decide) (by omega) (by omega) (fun h160 => ?_) (fun h160 => ?_)
                · refine j_iload_n dX8_rate_168 rfl ?_
                  refine j_iconst dX8_rate_169 ?_
                  refine j_icmp_ne (tgt := 178) dX8_rate_170 (by decide) (by omega) (by omega) (fun h170 => ?_) (fun h170 => ?_)
                  · refine j_iload_n dX8_rate_178 rfl ?_
                    refine j_iconst dX8_rate_179 ?_
                    refine j_icmp_ne (tgt := 190) dX8_rate_180 (by decide) (by omega) (by omega) (fun h180 => ?_) (fun h180 => ?_)
                    · refine j_iload_n dX8_rate_190 rfl ?_
                      refine j_iconst dX8_rate_191 ?_
                      refine j_icmp_ne (tgt := 207) dX8_rate_192 (by decide) (by omega) (by omega) (fun h192 => ?_) (fun h192 => ?_)
                      · refine j_iload_n dX8_rate_207 rfl ?_
                        refine j_aload_n dX8_rate_208 rfl ?_
                        refine j_callVi (As := []) (rest := [vi (S 125 (51 + p))]) (t_X8_inYard _ (mi_trc hM)) rfl cm_X8_inYard ci_X8_inYard ml_X8_193 oq_118 rfl (Nat.le_of_ble_eq_true rfl) (Nat.le_of_ble_eq_true rfl) dX8_rate_209 (fun r209 S209 hp209 => ?_)
                        obtain ⟨hr209, he209⟩ := hp209
                        rw [he209]
                        have hy : r209 = lyA (S 125 1) (mWh S) := hr209
                        have hy2 : r209 = sm (fun p => if mWh S p = 8 then 1 else 0) (S 125 1).toNat := hr209
                        rw [← hy2] at hly
                        refine j_iadd dX8_rate_212 ?_
                        exact j_iret rfl dX8_rate_213 (fun h => by cases h) (hP _ _ (Or.inl ⟨by unfold mWh; omega, by rw [← hy]; unfold rateF mAg mPl; (repeat' split) <;> omega, by unfold trF; (repeat' split) <;> first | rfl | omega⟩))
                      · refine j_iload dX8_rate_195 rfl ?_
                        refine j_aload_n dX8_rate_197 rfl ?_
                        refine j_getR dX8_rate_198 fg_X8_25 fq_118_17 ?_
                        refine j_iload_n dX8_rate_201 rfl ?_
                        refine j_iald (x := S 124 p) dX8_rate_202 aq_124 (by omega) (by omega) rfl (fun hi202 => ?_)
                        refine j_iadd dX8_rate_203 ?_
                        refine j_goto (tgt := 213) dX8_rate_204 (by decide) ?_
                        exact j_iret rfl dX8_rate_213 (fun h => by cases h) (hP _ _ (Or.inl ⟨by unfold mWh; omega, by unfold rateF mAg mPl; (repeat' split) <;> omega, by unfold trF; (repeat' split) <;> first | rfl | omega⟩))
                    · refine j_iconst dX8_rate_183 ?_
                      refine j_iload dX8_rate_184 rfl ?_
                      refine j_imul dX8_rate_186 ?_
                      refine j_goto (tgt := 213) dX8_rate_187 (by decide) ?_
                      exact j_iret rfl dX8_rate_213 (fun h => by cases h) (hP _ _ (Or.inl ⟨by unfold mWh; omega, by unfold rateF mAg mPl; (repeat' split) <;> omega, by unfold trF; (repeat' split) <;> first | rfl | omega⟩))
                  · refine j_iload dX8_rate_173 rfl ?_
                    refine j_goto (tgt := 213) dX8_rate_175 (by decide) ?_
                    exact j_iret rfl dX8_rate_213 (fun h => by cases h) (hP _ _ (Or.inl ⟨by unfold mWh; omega, by unfold rateF mAg mPl; (repeat' split) <;> omega, by unfold trF; (repeat' split) <;> first | rfl | omega⟩))
                · refine j_iload dX8_rate_163 rfl ?_
                  refine j_goto (tgt := 213) dX8_rate_165 (by decide) ?_
                  exact j_iret rfl dX8_rate_213 (fun h => by cases h) (hP _ _ (Or.inl ⟨by unfold mWh; omega, by unfold rateF mAg mPl; (repeat' split) <;> omega, by unfold trF; (repeat' split) <;> first | rfl | omega⟩))
              · refine j_iload_n dX8_rate_154 rfl ?_
                refine j_goto (tgt := 213) dX8_rate_155 (by decide) ?_
                exact j_iret rfl dX8_rate_213 (fun h => by cases h) (hP _ _ (Or.inl ⟨by unfold mWh; omega, by unfold rateF mAg mPl; (repeat' split) <;> omega, by unfold trF; (repeat' split) <;> first | rfl | omega⟩))
          · refine j_ldc2 (x := 11) dX8_rate_104 cn_X8_240 ?_
            refine j_goto (tgt := 146) dX8_rate_107 (by decide) ?_
            refine j_ladd dX8_rate_146 ?_
            refine j_putL (i := 1) dX8_rate_147 fg_X8_236 ft_8_1 fq_118_1 rfl (by unfold lngAt; omega) ?_
            refine j_iload_n dX8_rate_150 rfl ?_
            refine j_if_ne (tgt := 158) dX8_rate_151 (by decide) (by omega)  (fun h151 => ?_) (fun h151 => ?_)
            · refine j_iload_n dX8_rate_158 rfl ?_
              refine j_iconst dX8_rate_159 ?_
              refine j_icmp_ne (tgt := 168) dX8_rate_160 (by decide) (by omega) (by omega) (fun h160 => ?_) (fun h160 => ?_)
              · refine j_iload_n dX8_rate_168 rfl ?_
                refine j_iconst dX8_rate_169 ?_
                refine j_icmp_ne (tgt := 178) dX8_rate_170 (by decide) (by omega) (by omega) (fun h170 => ?_) (fun h170 => ?_)
                · refine j_iload_n dX8_rate_178 rfl ?_
                  refine j_iconst dX8_rate_179 ?_
                  refine j_icmp_ne (tgt := 190) dX8_rate_180 (by decide) (by omega) (by omega) (fun h180 => ?_) (fun h180 => ?_)
                  · refine j_iload_n dX8_rate_190 rfl ?_
                    refine j_iconst dX8_rate_191 ?_
                    refine j_icmp_ne (tgt := 207) dX8_rate_192 (by decide) (by omega) (by omega) (fun h192 => ?_) (fun h192 => ?_)
                    · refine j_iload_n dX8_rate_207 rfl ?_
                      refine j_aload_n dX8_rate_208 rfl ?_
                      refine j_callVi (As := []) (rest := [vi (S 125 (51 + p))]) (t_X8_inYard _ (mi_trc hM)) rfl cm_X8_inYard ci_X8_inYard ml_X8_193 oq_118 rfl (Nat.le_of_ble_eq_true rfl) (Nat.le_of_ble_eq_true rfl) dX8_rate_209 (fun r209 S209 hp209 => ?_)
                      obtain ⟨hr209, he209⟩ := hp209
                      rw [he209]
                      have hy : r209 = lyA (S 125 1) (mWh S) := hr209
                      have hy2 : r209 = sm (fun p => if mWh S p = 8 then 1 else 0) (S 125 1).toNat := hr209
                      rw [← hy2] at hly
                      refine j_iadd dX8_rate_212 ?_
                      exact j_iret rfl dX8_rate_213 (fun h => by cases h) (hP _ _ (Or.inl ⟨by unfold mWh; omega, by rw [← hy]; unfold rateF mAg mPl; (repeat' split) <;> omega, by unfold trF; (repeat' split) <;> first | rfl | omega⟩))
                    · refine j_iload dX8_rate_195 rfl ?_
                      refine j_aload_n dX8_rate_197 rfl ?_
                      refine j_getR dX8_rate_198 fg_X8_25 fq_118_17 ?_
                      refine j_iload_n dX8_rate_201 rfl ?_
                      refine j_iald (x := S 124 p) dX8_rate_202 aq_124 (by omega) (by omega) rfl (fun hi202 => ?_)
                      refine j_iadd dX8_rate_203 ?_
                      refine j_goto (tgt := 213) dX8_rate_204 (by decide) ?_
                      exact j_iret rfl dX8_rate_213 (fun h => by cases h) (hP _ _ (Or.inl ⟨by unfold mWh; omega, by unfold rateF mAg mPl; (repeat' split) <;> omega, by unfold trF; (repeat' split) <;> first | rfl | omega⟩))
                  · refine j_iconst dX8_rate_183 ?_
                    refine j_iload dX8_rate_184 rfl ?_
                    refine j_imul dX8_rate_186 ?_
                    refine j_goto (tgt := 213) dX8_rate_187 (by decide) ?_
                    exact j_iret rfl dX8_rate_213 (fun h => by cases h) (hP _ _ (Or.inl ⟨by unfold mWh; omega, by unfold rateF mAg mPl; (repeat' split) <;> omega, by unfold trF; (repeat' split) <;> first | rfl | omega⟩))
                · refine j_iload dX8_rate_173 rfl ?_
                  refine j_goto (tgt := 213) dX8_rate_175 (by decide) ?_
                  exact j_iret rfl dX8_rate_213 (fun h => by cases h) (hP _ _ (Or.inl ⟨by unfold mWh; omega, by unfold rateF mAg mPl; (repeat' split) <;> omega, by unfold trF; (repeat' split) <;> first | rfl | omega⟩))
              · refine j_iload dX8_rate_163 rfl ?_
                refine j_goto (tgt := 213) dX8_rate_165 (by decide) ?_
                exact j_iret rfl dX8_rate_213 (fun h => by cases h) (hP _ _ (Or.inl ⟨by unfold mWh; omega, by unfold rateF mAg mPl; (repeat' split) <;> omega, by unfold trF; (repeat' split) <;> first | rfl | omega⟩))
            · refine j_iload_n dX8_rate_154 rfl ?_
              refine j_goto (tgt := 213) dX8_rate_155 (by decide) ?_
              exact j_iret rfl dX8_rate_213 (fun h => by cases h) (hP _ _ (Or.inl ⟨by unfold mWh; omega, by unfold rateF mAg mPl; (repeat' split) <;> omega, by unfold trF; (repeat' split) <;> first | rfl | omega⟩))
        · refine j_lconst (x := 1) dX8_rate_95 rfl ?_
          refine j_goto (tgt := 146) dX8_rate_96 (by decide) ?_
          refine j_ladd dX8_rate_146 ?_
          refine j_putL (i := 1) dX8_rate_147 fg_X8_236 ft_8_1 fq_118_1 rfl (by unfold lngAt; omega) ?_
          refine j_iload_n dX8_rate_150 rfl ?_
          refine j_if_ne (tgt := 158) dX8_rate_151 (by decide) (by omega)  (fun h151 => ?_) (fun h151 => ?_)
          · refine j_iload_n dX8_rate_158 rfl ?_
            refine j_iconst dX8_rate_159 ?_
            refine j_icmp_ne (tgt := 168) dX8_rate_160 (by decide) (by omega) (by omega) (fun h160 => ?_) (fun h160 => ?_)
            · refine j_iload_n dX8_rate_168 rfl ?_
              refine j_iconst dX8_rate_169 ?_
              refine j_icmp_ne (tgt := 178) dX8_rate_170 (by decide) (by omega) (by omega) (fun h170 => ?_) (fun h170 => ?_)
              · refine j_iload_n dX8_rate_178 rfl ?_
                refine j_iconst dX8_rate_179 ?_
                refine j_icmp_ne (tgt := 190) dX8_rate_180 (by decide) (by omega) (by omega) (fun h180 => ?_) (fun h180 => ?_)
                · refine j_iload_n dX8_rate_190 rfl ?_
                  refine j_iconst dX8_rate_191 ?_
                  refine j_icmp_ne (tgt := 207) dX8_rate_192 (by decide) (by omega) (by omega) (fun h192 => ?_) (fun h192 => ?_)
                  · refine j_iload_n dX8_rate_207 rfl ?_
                    refine j_aload_n dX8_rate_208 rfl ?_
                    refine j_callVi (As := []) (rest := [vi (S 125 (51 + p))]) (t_X8_inYard _ (mi_trc hM)) rfl cm_X8_inYard ci_X8_inYard ml_X8_193 oq_118 rfl (Nat.le_of_ble_eq_true rfl) (Nat.le_of_ble_eq_true rfl) dX8_rate_209 (fun r209 S209 hp209 => ?_)
                    obtain ⟨hr209, he209⟩ := hp209
                    rw [he209]
                    have hy : r209 = lyA (S 125 1) (mWh S) := hr209
                    have hy2 : r209 = sm (fun p => if mWh S p = 8 then 1 else 0) (S 125 1).toNat := hr209
                    rw [← hy2] at hly
                    refine j_iadd dX8_rate_212 ?_
                    exact j_iret rfl dX8_rate_213 (fun h => by cases h) (hP _ _ (Or.inl ⟨by unfold mWh; omega, by rw [← hy]; unfold rateF mAg mPl; (repeat' split) <;> omega, by unfold trF; (repeat' split) <;> first | rfl | omega⟩))
                  · refine j_iload dX8_rate_195 rfl ?_
                    refine j_aload_n dX8_rate_197 rfl ?_
                    refine j_getR dX8_rate_198 fg_X8_25 fq_118_17 ?_
                    refine j_iload_n dX8_rate_201 rfl ?_
                    refine j_iald (x := S 124 p) dX8_rate_202 aq_124 (by omega) (by omega) rfl (fun hi202 => ?_)
                    refine j_iadd dX8_rate_203 ?_
                    refine j_goto (tgt := 213) dX8_rate_204 (by decide) ?_
                    exact j_iret rfl dX8_rate_213 (fun h => by cases h) (hP _ _ (Or.inl ⟨by unfold mWh; omega, by unfold rateF mAg mPl; (repeat' split) <;> omega, by unfold trF; (repeat' split) <;> first | rfl | omega⟩))
                · refine j_iconst dX8_rate_183 ?_
                  refine j_iload dX8_rate_184 rfl ?_
                  refine j_imul dX8_rate_186 ?_
                  refine j_goto (tgt := 213) dX8_rate_187 (by decide) ?_
                  exact j_iret rfl dX8_rate_213 (fun h => by cases h) (hP _ _ (Or.inl ⟨by unfold mWh; omega, by unfold rateF mAg mPl; (repeat' split) <;> omega, by unfold trF; (repeat' split) <;> first | rfl | omega⟩))
              · refine j_iload dX8_rate_173 rfl ?_
                refine j_goto (tgt := 213) dX8_rate_175 (by decide) ?_
                exact j_iret rfl dX8_rate_213 (fun h => by cases h) (hP _ _ (Or.inl ⟨by unfold mWh; omega, by unfold rateF mAg mPl; (repeat' split) <;> omega, by unfold trF; (repeat' split) <;> first | rfl | omega⟩))
            · refine j_iload dX8_rate_163 rfl ?_
              refine j_goto (tgt := 213) dX8_rate_165 (by decide) ?_
              exact j_iret rfl dX8_rate_213 (fun h => by cases h) (hP _ _ (Or.inl ⟨by unfold mWh; omega, by unfold rateF mAg mPl; (repeat' split) <;> omega, by unfold trF; (repeat' split) <;> first | rfl | omega⟩))
          · refine j_iload_n dX8_rate_154 rfl ?_
            refine j_goto (tgt := 213) dX8_rate_155 (by decide) ?_
            exact j_iret rfl dX8_rate_213 (fun h => by cases h) (hP _ _ (Or.inl ⟨by unfold mWh; omega, by unfold rateF mAg mPl; (repeat' split) <;> omega, by unfold trF; (repeat' split) <;> first | rfl | omega⟩))
      · refine j_ldc (x := (-1000000)) dX8_rate_35 cn_X8_235 ?_
        exact j_iret rfl dX8_rate_37 (fun h => by cases h) (hP _ _ (Or.inr ⟨by unfold mWh; omega, rfl, rfl⟩))
    · rw [he16]
      refine j_if_eq (tgt := 35) dX8_rate_19 (by decide) (by omega)  (fun _ => ?_) (fun h => absurd h (by decide))
      refine j_ldc (x := (-1000000)) dX8_rate_35 cn_X8_235 ?_
      exact j_iret rfl dX8_rate_37 (fun h => by cases h) (hP _ _ (Or.inr ⟨by unfold mWh; omega, rfl, rfl⟩))
  · rw [he8]
    refine j_if_eq (tgt := 35) dX8_rate_11 (by decide) (by omega)  (fun _ => ?_) (fun h => absurd h (by decide))
    refine j_ldc (x := (-1000000)) dX8_rate_35 cn_X8_235 ?_
    exact j_iret rfl dX8_rate_37 (fun h => by cases h) (hP _ _ (Or.inr ⟨by unfold mWh; omega, rfl, rfl⟩))
