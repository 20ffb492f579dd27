set_option maxRecDepth 100000 in
set_option maxHeartbeats 4000000 in
theorem t_X6_isDigit (S : St) (c : Int) (hc : InR c) : EX mX6_isDigit [vi c] S (fun r S' => ((r = 1 ∧ (48 ≤ c ∧ c ≤ 57)) ∨ (r = 0 ∧ ¬ (48 ≤ c ∧ c ≤ 57))) ∧ S' = S) := by
  suffices hh : ∀ P : Int → St → Prop, (∀ r S', (((r = 1 ∧ (48 ≤ c ∧ c ≤ 57)) ∨ (r = 0 ∧ ¬ (48 ≤ c ∧ c ≤ 57))) ∧ S' = S) → P r S') → EX mX6_isDigit [vi c] S P from hh _ (fun _ _ h => h)
  intro P hP
  refine EX.of (L := [(0, vi c)]) rfl rfl (Nat.le_of_ble_eq_true rfl) rfl ?_
  refine j_iload_n dX6_isDigit_0 rfl ?_
  refine j_bipush dX6_isDigit_1 (by decide) ?_
  refine j_icmp_lt (tgt := 16) dX6_isDigit_3 (by decide) (by omega) (by omega) (fun h3 => ?_) (fun h3 => ?_)
  · refine j_iconst dX6_isDigit_16 ?_
    exact j_iret rfl dX6_isDigit_17 (fun _ => Or.inl rfl) (hP _ _ ⟨by omega, rfl⟩)
  · refine j_iload_n dX6_isDigit_6 rfl ?_
    refine j_bipush dX6_isDigit_7 (by decide) ?_
    refine j_icmp_gt (tgt := 16) dX6_isDigit_9 (by decide) (by omega) (by omega) (fun h9 => ?_) (fun h9 => ?_)
    · refine j_iconst dX6_isDigit_16 ?_
      exact j_iret rfl dX6_isDigit_17 (fun _ => Or.inl rfl) (hP _ _ ⟨by omega, rfl⟩)
    · refine j_iconst dX6_isDigit_12 ?_
      refine j_goto (tgt := 17) dX6_isDigit_13 (by decide) ?_
      exact j_iret rfl dX6_isDigit_17 (fun _ => Or.inr rfl) (hP _ _ ⟨by omega, rfl⟩)
set_option maxRecDepth 100000 in
set_option maxHeartbeats 4000000 in
theorem t_X6_stepNumber (S : St) (hR : RdI S) (h1 : S 17 11 < S 17 6) (hdg : 48 ≤ S 16 (S 17 11) ∧ S 16 (S 17 11) ≤ 57) (hta : S 17 13 = S 17 11) : EX mX6_stepNumber [.ref 17] S (fun r S' => RdK S S' ∧ S' 17 13 = S 17 11 ∧ S' 17 11 = teD (S 16) (S 17 6) (S 17 11) ∧ S' 17 14 = tnV (S 16) (S 17 6) (S 17 11) 0 ∧ S' 17 12 = (if 99 < tnV (S 16) (S 17 6) (S 17 11) 0 ∨ (S 16 (S 17 11) = 48 ∧ S 17 11 + 1 < teD (S 16) (S 17 6) (S 17 11)) then -3 else -2)) := by
  suffices hh : ∀ P : Int → St → Prop, (∀ r S', (RdK S S' ∧ S' 17 13 = S 17 11 ∧ S' 17 11 = teD (S 16) (S 17 6) (S 17 11) ∧ S' 17 14 = tnV (S 16) (S 17 6) (S 17 11) 0 ∧ S' 17 12 = (if 99 < tnV (S 16) (S 17 6) (S 17 11) 0 ∨ (S 16 (S 17 11) = 48 ∧ S 17 11 + 1 < teD (S 16) (S 17 6) (S 17 11)) then -3 else -2)) → P r S') → EX mX6_stepNumber [.ref 17] S P from hh _ (fun _ _ h => h)
  intro P hP
  refine EX.of (L := [(0, .ref 17)]) rfl rfl (Nat.le_of_ble_eq_true rfl) rfl ?_
  obtain ⟨⟨ht0, ht1⟩, ⟨ha0, ha1⟩, hlet⟩ := id hR
  have hlx := hlet (S 17 11) ha0 h1
  refine j_aload_n dX6_stepNumber_0 rfl ?_
  refine j_getR dX6_stepNumber_1 fg_X6_59 fq_17_0 ?_
  refine j_aload_n dX6_stepNumber_4 rfl ?_
  refine j_getI (x := S 17 11) dX6_stepNumber_5 fg_X6_47 fq_17_11 rfl (fun hi5 => ?_)
  refine j_iald (x := S 16 (S 17 11)) dX6_stepNumber_8 aq_16 (by omega) (by omega) rfl (fun hi8 => ?_)
  refine j_bipush dX6_stepNumber_9 (by decide) ?_
  refine j_icmp_ne (tgt := 18) dX6_stepNumber_11 (by decide) (by omega) (by omega) (fun h11 => ?_) (fun h11 => ?_)
  · refine j_iconst dX6_stepNumber_18 ?_
    refine j_istore_n (L' := [(0, .ref 17), (1, vi 0)]) dX6_stepNumber_19 (Nat.le_of_ble_eq_true rfl) rfl ?_
    refine j_aload_n dX6_stepNumber_20 rfl ?_
    refine j_iconst dX6_stepNumber_21 ?_
    refine j_putI (i := 14) dX6_stepNumber_22 fg_X6_56 ft_6_14 fq_17_14 rfl (by omega) ?_
    have lp25 : ∀ (n : Nat)  (T : St), (S 17 6 - T 17 11).toNat < n → (Same [17] S T ∧ (∀ i, i ≠ 11 → i ≠ 14 → T 17 i = S 17 i) ∧ (S 17 11 ≤ T 17 11 ∧ T 17 11 ≤ S 17 6) ∧ (0 ≤ T 17 14 ∧ T 17 14 ≤ 100) ∧ teD (S 16) (S 17 6) (T 17 11) = teD (S 16) (S 17 6) (S 17 11) ∧ tnV (S 16) (S 17 6) (T 17 11) (T 17 14) = tnV (S 16) (S 17 6) (S 17 11) 0) → JJ mX6_stepNumber (RX mX6_stepNumber P) 25 [(0, .ref 17), (1, vi 0)] [] T := by
      intro n
      induction n with
      | zero => intro T hm; exact absurd hm (Nat.not_lt_zero _)
      | succ n ih25 =>
        intro T hm25 hv25
        obtain ⟨hv1, hv2, hv3, hv4, hv5, hv6⟩ := hv25
        have eT_16 : T 16 = S 16 := hv1 16 (by decide)
        have eT6 : T 17 6 = S 17 6 := hv2 6 (by decide) (by decide)
        have eT13 : T 17 13 = S 17 13 := hv2 13 (by decide) (by decide)
        refine j_aload_n dX6_stepNumber_25 rfl ?_
        refine j_getI (x := T 17 11) dX6_stepNumber_26 fg_X6_47 fq_17_11 rfl (fun hi26 => ?_)
        refine j_aload_n dX6_stepNumber_29 rfl ?_
        refine j_getI (x := S 17 6) dX6_stepNumber_30 fg_X6_31 fq_17_6 eT6 (fun hi30 => ?_)
        refine j_icmp_ge (tgt := 93) dX6_stepNumber_33 (by decide) (by omega) (by omega) (fun h33 => ?_) (fun h33 => ?_)
        · have hte : T 17 11 = teD (S 16) (S 17 6) (S 17 11) := by rw [← hv5]; exact (teD_at (by first | omega | (intro z; exact hc45 z.2))).symm
          have htn : T 17 14 = tnV (S 16) (S 17 6) (S 17 11) 0 := by rw [← hv6]; exact (tnV_at (by first | omega | (intro z; exact hc45 z.2))).symm
          refine j_aload_n dX6_stepNumber_93 rfl ?_
          refine j_getI (x := T 17 14) dX6_stepNumber_94 fg_X6_56 fq_17_14 rfl (fun hi94 => ?_)
          refine j_bipush dX6_stepNumber_97 (by decide) ?_
          refine j_icmp_gt (tgt := 119) dX6_stepNumber_99 (by decide) (by omega) (by omega) (fun h99 => ?_) (fun h99 => ?_)
          · refine j_iconst dX6_stepNumber_119 ?_
            refine j_goto (tgt := 124) dX6_stepNumber_120 (by decide) ?_
            refine j_istore_n (L' := [(0, .ref 17), (1, vi 0), (2, vi 1)]) dX6_stepNumber_124 (Nat.le_of_ble_eq_true rfl) rfl ?_
            refine j_aload_n dX6_stepNumber_125 rfl ?_
            refine j_iload_n dX6_stepNumber_126 rfl ?_
            refine j_if_eq (tgt := 135) dX6_stepNumber_127 (by decide) (by omega)  (fun h => absurd h (by decide)) (fun _ => ?_)
            refine j_bipush dX6_stepNumber_130 (by decide) ?_
            refine j_goto (tgt := 137) dX6_stepNumber_132 (by decide) ?_
            refine j_putI (i := 12) dX6_stepNumber_137 fg_X6_50 ft_6_12 fq_17_12 rfl (by omega) ?_
            exact j_vret rfl dX6_stepNumber_140 (fun h => by cases h) (hP _ _ ⟨⟨same_up hv1 (by decide), fun i h => by rw [up_i (by omega)]; exact hv2 i (by omega) (by omega)⟩, by rw [up_i (by decide), eT13]; exact hta, by rw [up_i (by decide)]; exact hte, by rw [up_i (by decide)]; exact htn, by rw [up_s, ← htn, ← hte]; rw [if_pos (by omega)]⟩)
          · refine j_iload_n dX6_stepNumber_102 rfl ?_
            refine j_if_eq (tgt := 123) dX6_stepNumber_103 (by decide) (by omega)  (fun _ => ?_) (fun h => absurd h (by decide))
            refine j_iconst dX6_stepNumber_123 ?_
            refine j_istore_n (L' := [(0, .ref 17), (1, vi 0), (2, vi 0)]) dX6_stepNumber_124 (Nat.le_of_ble_eq_true rfl) rfl ?_
            refine j_aload_n dX6_stepNumber_125 rfl ?_
            refine j_iload_n dX6_stepNumber_126 rfl ?_
            refine j_if_eq (tgt := 135) dX6_stepNumber_127 (by decide) (by omega)  (fun _ => ?_) (fun h => absurd h (by decide))
            refine j_bipush dX6_stepNumber_135 (by decide) ?_
            refine j_putI (i := 12) dX6_stepNumber_137 fg_X6_50 ft_6_12 fq_17_12 rfl (by omega) ?_
            exact j_vret rfl dX6_stepNumber_140 (fun h => by cases h) (hP _ _ ⟨⟨same_up hv1 (by decide), fun i h => by rw [up_i (by omega)]; exact hv2 i (by omega) (by omega)⟩, by rw [up_i (by decide), eT13]; exact hta, by rw [up_i (by decide)]; exact hte, by rw [up_i (by decide)]; exact htn, by rw [up_s, ← htn, ← hte]; rw [if_neg (by omega)]⟩)
        · have hlt := hlet (T 17 11) (by omega) (by omega)
          refine j_aload_n dX6_stepNumber_36 rfl ?_
          refine j_getR dX6_stepNumber_37 fg_X6_59 fq_17_0 ?_
          refine j_aload_n dX6_stepNumber_40 rfl ?_
          refine j_getI (x := T 17 11) dX6_stepNumber_41 fg_X6_47 fq_17_11 rfl (fun hi41 => ?_)
          refine j_iald (x := S 16 (T 17 11)) dX6_stepNumber_44 aq_16 (by omega) (by omega) (congrFun eT_16 _) (fun hi44 => ?_)
          refine j_callSi (As := [vi (S 16 (T 17 11))]) (rest := []) (t_X6_isDigit _ (S 16 (T 17 11)) (by omega)) rfl cm_X6_isDigit cs_X6_isDigit ml_X6_109 rfl (Nat.le_of_ble_eq_true rfl) (Nat.le_of_ble_eq_true rfl) dX6_stepNumber_45 (fun r45 S45 hp45 => ?_)
          obtain ⟨⟨rfl, hc45⟩ | ⟨rfl, hc45⟩, he45⟩ := hp45
          · rw [he45]
            refine j_if_eq (tgt := 93) dX6_stepNumber_48 (by decide) (by omega)  (fun h => absurd h (by decide)) (fun _ => ?_)
            refine j_aload_n dX6_stepNumber_51 rfl ?_
            refine j_bipush dX6_stepNumber_52 (by decide) ?_
            refine j_aload_n dX6_stepNumber_54 rfl ?_
            refine j_getI (x := T 17 14) dX6_stepNumber_55 fg_X6_56 fq_17_14 rfl (fun hi55 => ?_)
            refine j_bipush dX6_stepNumber_58 (by decide) ?_
            refine j_imul dX6_stepNumber_60 ?_
            refine j_aload_n dX6_stepNumber_61 rfl ?_
            refine j_getR dX6_stepNumber_62 fg_X6_59 fq_17_0 ?_
            refine j_aload_n dX6_stepNumber_65 rfl ?_
            refine j_getI (x := T 17 11) dX6_stepNumber_66 fg_X6_47 fq_17_11 rfl (fun hi66 => ?_)
            refine j_iald (x := S 16 (T 17 11)) dX6_stepNumber_69 aq_16 (by omega) (by omega) (congrFun eT_16 _) (fun hi69 => ?_)
            refine j_iadd dX6_stepNumber_70 ?_
            refine j_bipush dX6_stepNumber_71 (by decide) ?_
            refine j_isub dX6_stepNumber_73 ?_
            refine j_mmin dX6_stepNumber_74 mw_X6_115 (by omega) (by omega) (Nat.le_of_ble_eq_true rfl) (Nat.le_of_ble_eq_true rfl) ?_
            refine j_putI (i := 14) dX6_stepNumber_77 fg_X6_56 ft_6_14 fq_17_14 rfl (by split <;> omega) ?_
            refine j_aload_n dX6_stepNumber_80 rfl ?_
            refine j_dup dX6_stepNumber_81 rfl ?_
            refine j_getI (x := T 17 11) dX6_stepNumber_82 fg_X6_47 fq_17_11 rfl (fun hi82 => ?_)
            refine j_iconst dX6_stepNumber_85 ?_
            refine j_iadd dX6_stepNumber_86 ?_
            refine j_putI (i := 11) dX6_stepNumber_87 fg_X6_47 ft_6_11 fq_17_11 rfl (by omega) ?_
            refine j_goto (tgt := 25) dX6_stepNumber_90 (by decide) ?_
            exact ih25  (up (up T 17 14 (if ((((T 17 14) * 10) + (S 16 (T 17 11))) - 48) < 100 then ((((T 17 14) * 10) + (S 16 (T 17 11))) - 48) else 100)) 17 11 ((T 17 11) + 1)) (by rw [up_s]; omega) ⟨same_up (same_up hv1 (by decide)) (by decide), fun i a b => by rw [up_i a, up_i b]; exact hv2 i a b, by rw [up_s]; omega, by rw [up_i (by decide), up_s]; split <;> omega, by rw [up_s, ← teD_go (by omega) hc45]; exact hv5, by rw [up_s, up_i (by decide), up_s, ← tnV_go (by omega) hc45]; exact hv6⟩
          · rw [he45]
            refine j_if_eq (tgt := 93) dX6_stepNumber_48 (by decide) (by omega)  (fun _ => ?_) (fun h => absurd h (by decide))
            have hte : T 17 11 = teD (S 16) (S 17 6) (S 17 11) := by rw [← hv5]; exact (teD_at (by first | omega | (intro z; exact hc45 z.2))).symm
            have htn : T 17 14 = tnV (S 16) (S 17 6) (S 17 11) 0 := by rw [← hv6]; exact (tnV_at (by first | omega | (intro z; exact hc45 z.2))).symm
            refine j_aload_n dX6_stepNumber_93 rfl ?_
            refine j_getI (x := T 17 14) dX6_stepNumber_94 fg_X6_56 fq_17_14 rfl (fun hi94 => ?_)
            refine j_bipush dX6_stepNumber_97 (by decide) ?_
            refine j_icmp_gt (tgt := 119) dX6_stepNumber_99 (by decide) (by omega) (by omega) (fun h99 => ?_) (fun h99 => ?_)
            · refine j_iconst dX6_stepNumber_119 ?_
              refine j_goto (tgt := 124) dX6_stepNumber_120 (by decide) ?_
              refine j_istore_n (L' := [(0, .ref 17), (1, vi 0), (2, vi 1)]) dX6_stepNumber_124 (Nat.le_of_ble_eq_true rfl) rfl ?_
              refine j_aload_n dX6_stepNumber_125 rfl ?_
              refine j_iload_n dX6_stepNumber_126 rfl ?_
              refine j_if_eq (tgt := 135) dX6_stepNumber_127 (by decide) (by omega)  (fun h => absurd h (by decide)) (fun _ => ?_)
              refine j_bipush dX6_stepNumber_130 (by decide) ?_
              refine j_goto (tgt := 137) dX6_stepNumber_132 (by decide) ?_
              refine j_putI (i := 12) dX6_stepNumber_137 fg_X6_50 ft_6_12 fq_17_12 rfl (by omega) ?_
              exact j_vret rfl dX6_stepNumber_140 (fun h => by cases h) (hP _ _ ⟨⟨same_up hv1 (by decide), fun i h => by rw [up_i (by omega)]; exact hv2 i (by omega) (by omega)⟩, by rw [up_i (by decide), eT13]; exact hta, by rw [up_i (by decide)]; exact hte, by rw [up_i (by decide)]; exact htn, by rw [up_s, ← htn, ← hte]; rw [if_pos (by omega)]⟩)
            · refine j_iload_n dX6_stepNumber_102 rfl ?_
              refine j_if_eq (tgt := 123) dX6_stepNumber_103 (by decide) (by omega)  (fun _ => ?_) (fun h => absurd h (by decide))
              refine j_iconst dX6_stepNumber_123 ?_
              refine j_istore_n (L' := [(0, .ref 17), (1, vi 0), (2, vi 0)]) dX6_stepNumber_124 (Nat.le_of_ble_eq_true rfl) rfl ?_
              refine j_aload_n dX6_stepNumber_125 rfl ?_
              refine j_iload_n dX6_stepNumber_126 rfl ?_
              refine j_if_eq (tgt := 135) dX6_stepNumber_127 (by decide) (by omega)  (fun _ => ?_) (fun h => absurd h (by decide))
              refine j_bipush dX6_stepNumber_135 (by decide) ?_
              refine j_putI (i := 12) dX6_stepNumber_137 fg_X6_50 ft_6_12 fq_17_12 rfl (by omega) ?_
              exact j_vret rfl dX6_stepNumber_140 (fun h => by cases h) (hP _ _ ⟨⟨same_up hv1 (by decide), fun i h => by rw [up_i (by omega)]; exact hv2 i (by omega) (by omega)⟩, by rw [up_i (by decide), eT13]; exact hta, by rw [up_i (by decide)]; exact hte, by rw [up_i (by decide)]; exact htn, by rw [up_s, ← htn, ← hte]; rw [if_neg (by omega)]⟩)
    exact lp25 _  (up S 17 14 0) (Nat.lt_succ_self _) ⟨same_up Same.rf (by decide), fun i a b => up_i b, by rw [up_i (by decide)]; omega, by rw [up_s]; omega, by rw [up_i (by decide)], by rw [up_i (by decide), up_s]⟩
  · refine j_iconst dX6_stepNumber_14 ?_
    refine j_goto (tgt := 19) dX6_stepNumber_15 (by decide) ?_
    refine j_istore_n (L' := [(0, .ref 17), (1, vi 1)]) dX6_stepNumber_19 (Nat.le_of_ble_eq_true rfl) rfl ?_
    refine j_aload_n dX6_stepNumber_20 rfl ?_
    refine j_iconst dX6_stepNumber_21 ?_
    refine j_putI (i := 14) dX6_stepNumber_22 fg_X6_56 ft_6_14 fq_17_14 rfl (by omega) ?_
    have lp25 : ∀ (n : Nat)  (T : St), (S 17 6 - T 17 11).toNat < n → (Same [17] S T ∧ (∀ i, i ≠ 11 → i ≠ 14 → T 17 i = S 17 i) ∧ (S 17 11 ≤ T 17 11 ∧ T 17 11 ≤ S 17 6) ∧ (0 ≤ T 17 14 ∧ T 17 14 ≤ 100) ∧ teD (S 16) (S 17 6) (T 17 11) = teD (S 16) (S 17 6) (S 17 11) ∧ tnV (S 16) (S 17 6) (T 17 11) (T 17 14) = tnV (S 16) (S 17 6) (S 17 11) 0) → JJ mX6_stepNumber (RX mX6_stepNumber P) 25 [(0, .ref 17), (1, vi 1)] [] T := by
      intro n
      induction n with
      | zero => intro T hm; exact absurd hm (Nat.not_lt_zero _)
      | succ n ih25 =>
        intro T hm25 hv25
        obtain ⟨hv1, hv2, hv3, hv4, hv5, hv6⟩ := hv25
        have eT_16 : T 16 = S 16 := hv1 16 (by decide)
        have eT6 : T 17 6 = S 17 6 := hv2 6 (by decide) (by decide)
        have eT13 : T 17 13 = S 17 13 := hv2 13 (by decide) (by decide)
        refine j_aload_n dX6_stepNumber_25 rfl ?_
        refine j_getI (x := T 17 11) dX6_stepNumber_26 fg_X6_47 fq_17_11 rfl (fun hi26 => ?_)
        refine j_aload_n dX6_stepNumber_29 rfl ?_
        refine j_getI (x := S 17 6) dX6_stepNumber_30 fg_X6_31 fq_17_6 eT6 (fun hi30 => ?_)
        refine j_icmp_ge (tgt := 93) dX6_stepNumber_33 (by decide) (by omega) (by omega) (fun h33 => ?_) (fun h33 => ?_)
        · have hte : T 17 11 = teD (S 16) (S 17 6) (S 17 11) := by rw [← hv5]; exact (teD_at (by first | omega | (intro z; exact hc45 z.2))).symm
          have htn : T 17 14 = tnV (S 16) (S 17 6) (S 17 11) 0 := by rw [← hv6]; exact (tnV_at (by first | omega | (intro z; exact hc45 z.2))).symm
          refine j_aload_n dX6_stepNumber_93 rfl ?_
          refine j_getI (x := T 17 14) dX6_stepNumber_94 fg_X6_56 fq_17_14 rfl (fun hi94 => ?_)
          refine j_bipush dX6_stepNumber_97 (by decide) ?_
          refine j_icmp_gt (tgt := 119) dX6_stepNumber_99 (by decide) (by omega) (by omega) (fun h99 => ?_) (fun h99 => ?_)
          · refine j_iconst dX6_stepNumber_119 ?_
            refine j_goto (tgt := 124) dX6_stepNumber_120 (by decide) ?_
            refine j_istore_n (L' := [(0, .ref 17), (1, vi 1), (2, vi 1)]) dX6_stepNumber_124 (Nat.le_of_ble_eq_true rfl) rfl ?_
            refine j_aload_n dX6_stepNumber_125 rfl ?_
            refine j_iload_n dX6_stepNumber_126 rfl ?_
            refine j_if_eq (tgt := 135) dX6_stepNumber_127 (by decide) (by omega)  (fun h => absurd h (by decide)) (fun _ => ?_)
            refine j_bipush dX6_stepNumber_130 (by decide) ?_
            refine j_goto (tgt := 137) dX6_stepNumber_132 (by decide) ?_
            refine j_putI (i := 12) dX6_stepNumber_137 fg_X6_50 ft_6_12 fq_17_12 rfl (by omega) ?_
            exact j_vret rfl dX6_stepNumber_140 (fun h => by cases h) (hP _ _ ⟨⟨same_up hv1 (by decide), fun i h => by rw [up_i (by omega)]; exact hv2 i (by omega) (by omega)⟩, by rw [up_i (by decide), eT13]; exact hta, by rw [up_i (by decide)]; exact hte, by rw [up_i (by decide)]; exact htn, by rw [up_s, ← htn, ← hte]; rw [if_pos (by omega)]⟩)
          · refine j_iload_n dX6_stepNumber_102 rfl ?_
            refine j_if_eq (tgt := 123) dX6_stepNumber_103 (by decide) (by omega)  (fun h => absurd h (by decide)) (fun _ => ?_)
            refine j_aload_n dX6_stepNumber_106 rfl ?_
            refine j_getI (x := T 17 11) dX6_stepNumber_107 fg_X6_47 fq_17_11 rfl (fun hi107 => ?_)
            refine j_aload_n dX6_stepNumber_110 rfl ?_
            refine j_getI (x := S 17 11) dX6_stepNumber_111 fg_X6_53 fq_17_13 (eT13.trans hta) (fun hi111 => ?_)
            refine j_iconst dX6_stepNumber_114 ?_
            refine j_iadd dX6_stepNumber_115 ?_
            refine j_icmp_le (tgt := 123) dX6_stepNumber_116 (by decide) (by omega) (by omega) (fun h116 => ?_) (fun h116 => ?_)
            · refine j_iconst dX6_stepNumber_123 ?_
              refine j_istore_n (L' := [(0, .ref 17), (1, vi 1), (2, vi 0)]) dX6_stepNumber_124 (Nat.le_of_ble_eq_true rfl) rfl ?_
              refine j_aload_n dX6_stepNumber_125 rfl ?_
              refine j_iload_n dX6_stepNumber_126 rfl ?_
              refine j_if_eq (tgt := 135) dX6_stepNumber_127 (by decide) (by omega)  (fun _ => ?_) (fun h => absurd h (by decide))
              refine j_bipush dX6_stepNumber_135 (by decide) ?_
              refine j_putI (i := 12) dX6_stepNumber_137 fg_X6_50 ft_6_12 fq_17_12 rfl (by omega) ?_
              exact j_vret rfl dX6_stepNumber_140 (fun h => by cases h) (hP _ _ ⟨⟨same_up hv1 (by decide), fun i h => by rw [up_i (by omega)]; exact hv2 i (by omega) (by omega)⟩, by rw [up_i (by decide), eT13]; exact hta, by rw [up_i (by decide)]; exact hte, by rw [up_i (by decide)]; exact htn, by rw [up_s, ← htn, ← hte]; rw [if_neg (by omega)]⟩)
            · refine j_iconst dX6_stepNumber_119 ?_
              refine j_goto (tgt := 124) dX6_stepNumber_120 (by decide) ?_
              refine j_istore_n (L' := [(0, .ref 17), (1, vi 1), (2, vi 1)]) dX6_stepNumber_124 (Nat.le_of_ble_eq_true rfl) rfl ?_
              refine j_aload_n dX6_stepNumber_125 rfl ?_
              refine j_iload_n dX6_stepNumber_126 rfl ?_
              refine j_if_eq (tgt := 135) dX6_stepNumber_127 (by decide) (by omega)  (fun h => absurd h (by decide)) (fun _ => ?_)
              refine j_bipush dX6_stepNumber_130 (by decide) ?_
              refine j_goto (tgt := 137) dX6_stepNumber_132 (by decide) ?_
              refine j_putI (i := 12) dX6_stepNumber_137 fg_X6_50 ft_6_12 fq_17_12 rfl (by omega) ?_
              exact j_vret rfl dX6_stepNumber_140 (fun h => by cases h) (hP _ _ ⟨⟨same_up hv1 (by decide), fun i h => by rw [up_i (by omega)]; exact hv2 i (by omega) (by omega)⟩, by rw [up_i (by decide), eT13]; exact hta, by rw [up_i (by decide)]; exact hte, by rw [up_i (by decide)]; exact htn, by rw [up_s, ← htn, ← hte]; rw [if_pos (by omega)]⟩)
        · have hlt := hlet (T 17 11) (by omega) (by omega)
          refine j_aload_n dX6_stepNumber_36 rfl ?_
          refine j_getR dX6_stepNumber_37 fg_X6_59 fq_17_0 ?_
          refine j_aload_n dX6_stepNumber_40 rfl ?_
          refine j_getI (x := T 17 11) dX6_stepNumber_41 fg_X6_47 fq_17_11 rfl (fun hi41 => ?_)
          refine j_iald (x := S 16 (T 17 11)) dX6_stepNumber_44 aq_16 (by omega) (by omega) (congrFun eT_16 _) (fun hi44 => ?_)
          refine j_callSi (As := [vi (S 16 (T 17 11))]) (rest := []) (t_X6_isDigit _ (S 16 (T 17 11)) (by omega)) rfl cm_X6_isDigit cs_X6_isDigit ml_X6_109 rfl (Nat.le_of_ble_eq_true rfl) (Nat.le_of_ble_eq_true rfl) dX6_stepNumber_45 (fun r45 S45 hp45 => ?_)
          obtain ⟨⟨rfl, hc45⟩ | ⟨rfl, hc45⟩, he45⟩ := hp45
          · rw [he45]
            refine j_if_eq (tgt := 93) dX6_stepNumber_48 (by decide) (by omega)  (fun h => absurd h (by decide)) (fun _ => ?_)
            refine j_aload_n dX6_stepNumber_51 rfl ?_
            refine j_bipush dX6_stepNumber_52 (by decide) ?_
            refine j_aload_n dX6_stepNumber_54 rfl ?_
            refine j_getI (x := T 17 14) dX6_stepNumber_55 fg_X6_56 fq_17_14 rfl (fun hi55 => ?_)
            refine j_bipush dX6_stepNumber_58 (by decide) ?_
            refine j_imul dX6_stepNumber_60 ?_
            refine j_aload_n dX6_stepNumber_61 rfl ?_
            refine j_getR dX6_stepNumber_62 fg_X6_59 fq_17_0 ?_
            refine j_aload_n dX6_stepNumber_65 rfl ?_
            refine j_getI (x := T 17 11) dX6_stepNumber_66 fg_X6_47 fq_17_11 rfl (fun hi66 => ?_)
            refine j_iald (x := S 16 (T 17 11)) dX6_stepNumber_69 aq_16 (by omega) (by omega) (congrFun eT_16 _) (fun hi69 => ?_)
            refine j_iadd dX6_stepNumber_70 ?_
            refine j_bipush dX6_stepNumber_71 (by decide) ?_
            refine j_isub dX6_stepNumber_73 ?_
            refine j_mmin dX6_stepNumber_74 mw_X6_115 (by omega) (by omega) (Nat.le_of_ble_eq_true rfl) (Nat.le_of_ble_eq_true rfl) ?_
            refine j_putI (i := 14) dX6_stepNumber_77 fg_X6_56 ft_6_14 fq_17_14 rfl (by split <;> omega) ?_
            refine j_aload_n dX6_stepNumber_80 rfl ?_
            refine j_dup dX6_stepNumber_81 rfl ?_
            refine j_getI (x := T 17 11) dX6_stepNumber_82 fg_X6_47 fq_17_11 rfl (fun hi82 => ?_)
            refine j_iconst dX6_stepNumber_85 ?_
            refine j_iadd dX6_stepNumber_86 ?_
            refine j_putI (i := 11) dX6_stepNumber_87 fg_X6_47 ft_6_11 fq_17_11 rfl (by omega) ?_
            refine j_goto (tgt := 25) dX6_stepNumber_90 (by decide) ?_
            exact ih25  (up (up T 17 14 (if ((((T 17 14) * 10) + (S 16 (T 17 11))) - 48) < 100 then ((((T 17 14) * 10) + (S 16 (T 17 11))) - 48) else 100)) 17 11 ((T 17 11) + 1)) (by rw [up_s]; omega) ⟨same_up (same_up hv1 (by decide)) (by decide), fun i a b => by rw [up_i a, up_i b]; exact hv2 i a b, by rw [up_s]; omega, by rw [up_i (by decide), up_s]; split <;> omega, by rw [up_s, ← teD_go (by omega) hc45]; exact hv5, by rw [up_s, up_i (by decide), up_s, ← tnV_go (by omega) hc45]; exact hv6⟩
          · rw [he45]
            refine j_if_eq (tgt := 93) dX6_stepNumber_48 (by decide) (by omega)  (fun _ => ?_) (fun h => absurd h (by decide))
            have hte : T 17 11 = teD (S 16) (S 17 6) (S 17 11) := by rw [← hv5]; exact (teD_at (by first | omega | (intro z; exact hc45 z.2))).symm
            have htn : T 17 14 = tnV (S 16) (S 17 6) (S 17 11) 0 := by rw [← hv6]; exact (tnV_at (by first | omega | (intro z; exact hc45 z.2))).symm
            refine j_aload_n dX6_stepNumber_93 rfl ?_
            refine j_getI (x := T 17 14) dX6_stepNumber_94 fg_X6_56 fq_17_14 rfl (fun hi94 => ?_)
            refine j_bipush dX6_stepNumber_97 (by decide) ?_
            refine j_icmp_gt (tgt := 119) dX6_stepNumber_99 (by decide) (by omega) (by omega) (fun h99 => ?_) (fun h99 => ?_)
            · refine j_iconst dX6_stepNumber_119 ?_
              refine j_goto (tgt := 124) dX6_stepNumber_120 (by decide) ?_
              refine j_istore_n (L' := [(0, .ref 17), (1, vi 1), (2, vi 1)]) dX6_stepNumber_124 (Nat.le_of_ble_eq_true rfl) rfl ?_
              refine j_aload_n dX6_stepNumber_125 rfl ?_
              refine j_iload_n dX6_stepNumber_126 rfl ?_
              refine j_if_eq (tgt := 135) dX6_stepNumber_127 (by decide) (by omega)  (fun h => absurd h (by decide)) (fun _ => ?_)
              refine j_bipush dX6_stepNumber_130 (by decide) ?_
              refine j_goto (tgt := 137) dX6_stepNumber_132 (by decide) ?_
              refine j_putI (i := 12) dX6_stepNumber_137 fg_X6_50 ft_6_12 fq_17_12 rfl (by omega) ?_
              exact j_vret rfl dX6_stepNumber_140 (fun h => by cases h) (hP _ _ ⟨⟨same_up hv1 (by decide), fun i h => by rw [up_i (by omega)]; exact hv2 i (by omega) (by omega)⟩, by rw [up_i (by decide), eT13]; exact hta, by rw [up_i (by decide)]; exact hte, by rw [up_i (by decide)]; exact htn, by rw [up_s, ← htn, ← hte]; rw [if_pos (by omega)]⟩)
            · refine j_iload_n dX6_stepNumber_102 rfl ?_
              refine j_if_eq (tgt := 123) dX6_stepNumber_103 (by decide) (by omega)  (fun h => absurd h (by decide)) (fun _ => ?_)
              refine j_aload_n dX6_stepNumber_106 rfl ?_
              refine j_getI (x := T 17 11) dX6_stepNumber_107 fg_X6_47 fq_17_11 rfl (fun hi107 => ?_)
              refine j_aload_n dX6_stepNumber_110 rfl ?_
              refine j_getI (x := S 17 11) dX6_stepNumber_111 fg_X6_53 fq_17_13 (eT13.trans hta) (fun hi111 => ?_)
              refine j_iconst dX6_stepNumber_114 ?_
              refine j_iadd dX6_stepNumber_115 ?_
              refine j_icmp_le (tgt := 123) dX6_stepNumber_116 (by decide) (by omega) (by omega) (fun h116 => ?_) (fun h116 => ?_)
              · refine j_iconst dX6_stepNumber_123 ?_
                refine j_istore_n (L' := [(0, .ref 17), (1, vi 1), (2, vi 0)]) dX6_stepNumber_124 (Nat.le_of_ble_eq_true rfl) rfl ?_
                refine j_aload_n dX6_stepNumber_125 rfl ?_
                refine j_iload_n dX6_stepNumber_126 rfl ?_
                refine j_if_eq (tgt := 135) dX6_stepNumber_127 (by decide) (by omega)  (fun _ => ?_) (fun h => absurd h (by decide))
                refine j_bipush dX6_stepNumber_135 (by decide) ?_
                refine j_putI (i := 12) dX6_stepNumber_137 fg_X6_50 ft_6_12 fq_17_12 rfl (by omega) ?_
                exact j_vret rfl dX6_stepNumber_140 (fun h => by cases h) (hP _ _ ⟨⟨same_up hv1 (by decide), fun i h => by rw [up_i (by omega)]; exact hv2 i (by omega) (by omega)⟩, by rw [up_i (by decide), eT13]; exact hta, by rw [up_i (by decide)]; exact hte, by rw [up_i (by decide)]; exact htn, by rw [up_s, ← htn, ← hte]; rw [if_neg (by omega)]⟩)
              · refine j_iconst dX6_stepNumber_119 ?_
                refine j_goto (tgt := 124) dX6_stepNumber_120 (by decide) ?_
                refine j_istore_n (L' := [(0, .ref 17), (1, vi 1), (2, vi 1)]) dX6_stepNumber_124 (Nat.le_of_ble_eq_true rfl) rfl ?_
                refine j_aload_n dX6_stepNumber_125 rfl ?_
                refine j_iload_n dX6_stepNumber_126 rfl ?_
                refine j_if_eq (tgt := 135) dX6_stepNumber_127 (by decide) (by omega)  (fun h => absurd h (by decide)) (fun _ => ?_)
                refine j_bipush dX6_stepNumber_130 (by decide) ?_
                refine j_goto (tgt := 137) dX6_stepNumber_132 (by decide) ?_
                refine j_putI (i := 12) dX6_stepNumber_137 fg_X6_50 ft_6_12 fq_17_12 rfl (by omega) ?_
                exact j_vret rfl dX6_stepNumber_140 (fun h => by cases h) (hP _ _ ⟨⟨same_up hv1 (by decide), fun i h => by rw [up_i (by omega)]; exact hv2 i (by omega) (by omega)⟩, by rw [up_i (by decide), eT13]; exact hta, by rw [up_i (by decide)]; exact hte, by rw [up_i (by decide)]; exact htn, by rw [up_s, ← htn, ← hte]; rw [if_pos (by omega)]⟩)
    exact lp25 _  (up S 17 14 0) (Nat.lt_succ_self _) ⟨same_up Same.rf (by decide), fun i a b => up_i b, by rw [up_i (by decide)]; omega, by rw [up_s]; omega, by rw [up_i (by decide)], by rw [up_i (by decide), up_s]⟩
set_option maxRecDepth 100000 in
set_option maxHeartbeats 4000000 in
theorem t_X6_step (S : St) (hR : RdI S) : EX mX6_step [.ref 17] S (fun r S' => RdK S S' ∧ S' 17 13 = kTs (S 16) (S 17 6) (S 17 11) ∧ S' 17 11 = kTe (S 16) (S 17 6) (S 17 11) ∧ S' 17 12 = kTk (S 16) (S 17 6) (S 17 11) ∧ (kTk (S 16) (S 17 6) (S 17 11) = -2 → S' 17 14 = kTv (S 16) (S 17 6) (S 17 11))) := by
  suffices hh : ∀ P : Int → St → Prop, (∀ r S', (RdK S S' ∧ S' 17 13 = kTs (S 16) (S 17 6) (S 17 11) ∧ S' 17 11 = kTe (S 16) (S 17 6) (S 17 11) ∧ S' 17 12 = kTk (S 16) (S 17 6) (S 17 11) ∧ (kTk (S 16) (S 17 6) (S 17 11) = -2 → S' 17 14 = kTv (S 16) (S 17 6) (S 17 11))) → P r S') → EX mX6_step [.ref 17] S P from hh _ (fun _ _ h => h)
  intro P hP
  refine EX.of (L := [(0, .ref 17)]) rfl rfl (Nat.le_of_ble_eq_true rfl) rfl ?_
  obtain ⟨⟨ht0, ht1⟩, ⟨ha0, ha1⟩, hlet⟩ := id hR
  have lp0 : ∀ (n : Nat)  (T : St), (S 17 6 - T 17 11).toNat < n → (Same [17] S T ∧ (∀ i, i ≠ 11 → T 17 i = S 17 i) ∧ (S 17 11 ≤ T 17 11 ∧ T 17 11 ≤ S 17 6) ∧ tsB (S 16) (S 17 6) (T 17 11) = tsB (S 16) (S 17 6) (S 17 11)) → JJ mX6_step (RX mX6_step P) 0 [(0, .ref 17)] [] T := by
    intro n
    induction n with
    | zero => intro T hm; exact absurd hm (Nat.not_lt_zero _)
    | succ n ih0 =>
      intro T hm0 hv0
      obtain ⟨hv1, hv2, hv3, hv4⟩ := hv0
      have eT_16 : T 16 = S 16 := hv1 16 (by decide)
      have eT6 : T 17 6 = S 17 6 := hv2 6 (by decide)
      refine j_aload_n dX6_step_0 rfl ?_
      refine j_getI (x := T 17 11) dX6_step_1 fg_X6_47 fq_17_11 rfl (fun hi1 => ?_)
      refine j_aload_n dX6_step_4 rfl ?_
      refine j_getI (x := S 17 6) dX6_step_5 fg_X6_31 fq_17_6 eT6 (fun hi5 => ?_)
      refine j_icmp_ge (tgt := 38) dX6_step_8 (by decide) (by omega) (by omega) (fun h8 => ?_) (fun h8 => ?_)
      · have hts : T 17 11 = tsB (S 16) (S 17 6) (S 17 11) := by rw [← hv4]; exact (tsB_at (by omega)).symm
        refine j_aload_n dX6_step_38 rfl ?_
        refine j_aload_n dX6_step_39 rfl ?_
        refine j_getI (x := T 17 11) dX6_step_40 fg_X6_47 fq_17_11 rfl (fun hi40 => ?_)
        refine j_putI (i := 13) dX6_step_43 fg_X6_53 ft_6_13 fq_17_13 rfl (by omega) ?_
        refine j_aload_n dX6_step_46 rfl ?_
        refine j_getI (x := T 17 11) dX6_step_47 fg_X6_47 fq_17_11 rfl (fun hi47 => ?_)
        refine j_aload_n dX6_step_50 rfl ?_
        refine j_getI (x := S 17 6) dX6_step_51 fg_X6_31 fq_17_6 eT6 (fun hi51 => ?_)
        refine j_icmp_lt (tgt := 65) dX6_step_54 (by decide) (by omega) (by omega) (fun h54 => ?_) (fun h54 => ?_)
        · have hl2 := hlet (T 17 11) (by omega) (by omega)
          refine j_aload_n dX6_step_65 rfl ?_
          refine j_getR dX6_step_66 fg_X6_59 fq_17_0 ?_
          refine j_aload_n dX6_step_69 rfl ?_
          refine j_getI (x := T 17 11) dX6_step_70 fg_X6_47 fq_17_11 rfl (fun hi70 => ?_)
          refine j_iald (x := S 16 (T 17 11)) dX6_step_73 aq_16 (by omega) (by omega) (congrFun eT_16 _) (fun hi73 => ?_)
          refine j_callSi (As := [vi (S 16 (T 17 11))]) (rest := []) (t_X6_isDigit _ (S 16 (T 17 11)) (by omega)) rfl cm_X6_isDigit cs_X6_isDigit ml_X6_109 rfl (Nat.le_of_ble_eq_true rfl) (Nat.le_of_ble_eq_true rfl) dX6_step_74 (fun r74 S74 hp74 => ?_)
          obtain ⟨⟨rfl, hc74⟩ | ⟨rfl, hc74⟩, he74⟩ := hp74
          · rw [he74]
            refine j_if_eq (tgt := 87) dX6_step_77 (by decide) (by omega)  (fun h => absurd h (by decide)) (fun _ => ?_)
            have hkn := kT_num (x := S 16) (t := S 17 6) (p := S 17 11) (by omega) (by rw [← hts]; exact hc74)
            refine j_aload_n dX6_step_80 rfl ?_
            refine j_callVv (As := []) (rest := []) (t_X6_stepNumber _ ⟨by show 0 ≤ T 17 6 ∧ T 17 6 ≤ 200; rw [eT6]; omega, by show 0 ≤ T 17 11 ∧ T 17 11 ≤ T 17 6; rw [eT6]; omega, by show ∀ i, 0 ≤ i → i < T 17 6 → 0 ≤ T 16 i ∧ T 16 i ≤ 255; rw [eT6, eT_16]; exact hlet⟩ (by show T 17 11 < T 17 6; rw [eT6]; omega) (by show 48 ≤ T 16 (T 17 11) ∧ T 16 (T 17 11) ≤ 57; rw [eT_16]; exact hc74) (by rw [up_s]; rfl)) rfl cm_X6_stepNumber ci_X6_stepNumber ml_X6_112 oq_17 rfl (Nat.le_of_ble_eq_true rfl) (Nat.le_of_ble_eq_true rfl) dX6_step_81 (fun r81 S81 hp81 => ?_)
            obtain ⟨q1, q2, q3, q4, q5⟩ := hp81
            have ea : ((up T 17 13 (T 17 11))) 17 11 = T 17 11 := up_i (by decide)
            have eb : ((up T 17 13 (T 17 11))) 17 6 = S 17 6 := (up_i (by decide)).trans eT6
            have ec : ((up T 17 13 (T 17 11))) 16 = S 16 := (up_row (by decide)).trans eT_16
            rw [ea] at q2
            rw [ea, eb, ec] at q3 q4 q5
            refine j_goto (tgt := 110) dX6_step_84 (by decide) ?_
            exact j_vret rfl dX6_step_110 (fun h => by cases h) (hP _ _ ⟨⟨(same_up hv1 (by decide)).tr q1.1, fun i h => (q1.2 i h).trans ((up_i (by omega)).trans (hv2 i (by omega)))⟩, by rw [q2]; exact hts, by rw [q3, hts]; exact hkn.1.symm, by rw [q5, hts]; exact hkn.2.symm, fun _ => by rw [q4, hts]; rfl⟩)
          · rw [he74]
            refine j_if_eq (tgt := 87) dX6_step_77 (by decide) (by omega)  (fun _ => ?_) (fun h => absurd h (by decide))
            have hkl := kT_let (x := S 16) (t := S 17 6) (p := S 17 11) (by omega) (by rw [← hts]; exact hc74)
            refine j_aload_n dX6_step_87 rfl ?_
            refine j_aload_n dX6_step_88 rfl ?_
            refine j_getR dX6_step_89 fg_X6_59 fq_17_0 ?_
            refine j_aload_n dX6_step_92 rfl ?_
            refine j_getI (x := T 17 11) dX6_step_93 fg_X6_47 fq_17_11 rfl (fun hi93 => ?_)
            refine j_iald (x := S 16 (T 17 11)) dX6_step_96 aq_16 (by omega) (by omega) (congrFun eT_16 _) (fun hi96 => ?_)
            refine j_putI (i := 12) dX6_step_97 fg_X6_50 ft_6_12 fq_17_12 rfl (by omega) ?_
            refine j_aload_n dX6_step_100 rfl ?_
            refine j_dup dX6_step_101 rfl ?_
            refine j_getI (x := T 17 11) dX6_step_102 fg_X6_47 fq_17_11 rfl (fun hi102 => ?_)
            refine j_iconst dX6_step_105 ?_
            refine j_iadd dX6_step_106 ?_
            refine j_putI (i := 11) dX6_step_107 fg_X6_47 ft_6_11 fq_17_11 rfl (by omega) ?_
            exact j_vret rfl dX6_step_110 (fun h => by cases h) (hP _ _ ⟨⟨same_up (same_up (same_up hv1 (by decide)) (by decide)) (by decide), fun i h => by rw [up_i (by omega), up_i (by omega), up_i (by omega)]; exact hv2 i (by omega)⟩, by rw [up_i (by decide), up_i (by decide), up_s]; exact hts, by rw [up_s, hkl.1, hts], by rw [up_i (by decide), up_s, hkl.2, hts], fun z => by rw [hkl.2, ← hts] at z; omega⟩)
        · have hke := kT_end (x := S 16) (t := S 17 6) (p := S 17 11) (by omega)
          refine j_aload_n dX6_step_57 rfl ?_
          refine j_iconst dX6_step_58 ?_
          refine j_putI (i := 12) dX6_step_59 fg_X6_50 ft_6_12 fq_17_12 rfl (by omega) ?_
          refine j_goto (tgt := 110) dX6_step_62 (by decide) ?_
          exact j_vret rfl dX6_step_110 (fun h => by cases h) (hP _ _ ⟨⟨same_up (same_up hv1 (by decide)) (by decide), fun i h => by rw [up_i (by omega), up_i (by omega)]; exact hv2 i (by omega)⟩, by rw [up_i (by decide), up_s]; exact hts, by rw [up_i (by decide), up_i (by decide)]; exact hts.trans hke.1.symm, by rw [up_s]; exact hke.2.symm, fun z => by rw [hke.2] at z; omega⟩)
      · have hl1 := hlet (T 17 11) (by omega) (by omega)
        refine j_aload_n dX6_step_11 rfl ?_
        refine j_getR dX6_step_12 fg_X6_59 fq_17_0 ?_
        refine j_aload_n dX6_step_15 rfl ?_
        refine j_getI (x := T 17 11) dX6_step_16 fg_X6_47 fq_17_11 rfl (fun hi16 => ?_)
        refine j_iald (x := S 16 (T 17 11)) dX6_step_19 aq_16 (by omega) (by omega) (congrFun eT_16 _) (fun hi19 => ?_)
        refine j_bipush dX6_step_20 (by decide) ?_
        refine j_icmp_ne (tgt := 38) dX6_step_22 (by decide) (by omega) (by omega) (fun h22 => ?_) (fun h22 => ?_)
        · have hts : T 17 11 = tsB (S 16) (S 17 6) (S 17 11) := by rw [← hv4]; exact (tsB_at (by omega)).symm
          refine j_aload_n dX6_step_38 rfl ?_
          refine j_aload_n dX6_step_39 rfl ?_
          refine j_getI (x := T 17 11) dX6_step_40 fg_X6_47 fq_17_11 rfl (fun hi40 => ?_)
          refine j_putI (i := 13) dX6_step_43 fg_X6_53 ft_6_13 fq_17_13 rfl (by omega) ?_
          refine j_aload_n dX6_step_46 rfl ?_
          refine j_getI (x := T 17 11) dX6_step_47 fg_X6_47 fq_17_11 rfl (fun hi47 => ?_)
          refine j_aload_n dX6_step_50 rfl ?_
          refine j_getI (x := S 17 6) dX6_step_51 fg_X6_31 fq_17_6 eT6 (fun hi51 => ?_)
          refine j_icmp_lt (tgt := 65) dX6_step_54 (by decide) (by omega) (by omega) (fun h54 => ?_) (fun h54 => ?_)
          · have hl2 := hlet (T 17 11) (by omega) (by omega)
            refine j_aload_n dX6_step_65 rfl ?_
            refine j_getR dX6_step_66 fg_X6_59 fq_17_0 ?_
            refine j_aload_n dX6_step_69 rfl ?_
            refine j_getI (x := T 17 11) dX6_step_70 fg_X6_47 fq_17_11 rfl (fun hi70 => ?_)
            refine j_iald (x := S 16 (T 17 11)) dX6_step_73 aq_16 (by omega) (by omega) (congrFun eT_16 _) (fun hi73 => ?_)
            refine j_callSi (As := [vi (S 16 (T 17 11))]) (rest := []) (t_X6_isDigit _ (S 16 (T 17 11)) (by omega)) rfl cm_X6_isDigit cs_X6_isDigit ml_X6_109 rfl (Nat.le_of_ble_eq_true rfl) (Nat.le_of_ble_eq_true rfl) dX6_step_74 (fun r74 S74 hp74 => ?_)
            obtain ⟨⟨rfl, hc74⟩ | ⟨rfl, hc74⟩, he74⟩ := hp74
            · rw [he74]
              refine j_if_eq (tgt := 87) dX6_step_77 (by decide) (by omega)  (fun h => absurd h (by decide)) (fun _ => ?_)
              have hkn := kT_num (x := S 16) (t := S 17 6) (p := S 17 11) (by omega) (by rw [← hts]; exact hc74)
              refine j_aload_n dX6_step_80 rfl ?_
              refine j_callVv (As := []) (rest := []) (t_X6_stepNumber _ ⟨by show 0 ≤ T 17 6 ∧ T 17 6 ≤ 200; rw [eT6]; omega, by show 0 ≤ T 17 11 ∧ T 17 11 ≤ T 17 6; rw [eT6]; omega, by show ∀ i, 0 ≤ i → i < T 17 6 → 0 ≤ T 16 i ∧ T 16 i ≤ 255; rw [eT6, eT_16]; exact hlet⟩ (by show T 17 11 < T 17 6; rw [eT6]; omega) (by show 48 ≤ T 16 (T 17 11) ∧ T 16 (T 17 11) ≤ 57; rw [eT_16]; exact hc74) (by rw [up_s]; rfl)) rfl cm_X6_stepNumber ci_X6_stepNumber ml_X6_112 oq_17 rfl (Nat.le_of_ble_eq_true rfl) (Nat.le_of_ble_eq_true rfl) dX6_step_81 (fun r81 S81 hp81 => ?_)
              obtain ⟨q1, q2, q3, q4, q5⟩ := hp81
              have ea : ((up T 17 13 (T 17 11))) 17 11 = T 17 11 := up_i (by decide)
              have eb : ((up T 17 13 (T 17 11))) 17 6 = S 17 6 := (up_i (by decide)).trans eT6
              have ec : ((up T 17 13 (T 17 11))) 16 = S 16 := (up_row (by decide)).trans eT_16
              rw [ea] at q2
              rw [ea, eb, ec] at q3 q4 q5
              refine j_goto (tgt := 110) dX6_step_84 (by decide) ?_
              exact j_vret rfl dX6_step_110 (fun h => by cases h) (hP _ _ ⟨⟨(same_up hv1 (by decide)).tr q1.1, fun i h => (q1.2 i h).trans ((up_i (by omega)).trans (hv2 i (by omega)))⟩, by rw [q2]; exact hts, by rw [q3, hts]; exact hkn.1.symm, by rw [q5, hts]; exact hkn.2.symm, fun _ => by rw [q4, hts]; rfl⟩)
            · rw [he74]
              refine j_if_eq (tgt := 87) dX6_step_77 (by decide) (by omega)  (fun _ => ?_) (fun h => absurd h (by decide))
              have hkl := kT_let (x := S 16) (t := S 17 6) (p := S 17 11) (by omega) (by rw [← hts]; exact hc74)
              refine j_aload_n dX6_step_87 rfl ?_
              refine j_aload_n dX6_step_88 rfl ?_
              refine j_getR dX6_step_89 fg_X6_59 fq_17_0 ?_
              refine j_aload_n dX6_step_92 rfl ?_
              refine j_getI (x := T 17 11) dX6_step_93 fg_X6_47 fq_17_11 rfl (fun hi93 => ?_)
              refine j_iald (x := S 16 (T 17 11)) dX6_step_96 aq_16 (by omega) (by omega) (congrFun eT_16 _) (fun hi96 => ?_)
              refine j_putI (i := 12) dX6_step_97 fg_X6_50 ft_6_12 fq_17_12 rfl (by omega) ?_
              refine j_aload_n dX6_step_100 rfl ?_
              refine j_dup dX6_step_101 rfl ?_
              refine j_getI (x := T 17 11) dX6_step_102 fg_X6_47 fq_17_11 rfl (fun hi102 => ?_)
              refine j_iconst dX6_step_105 ?_
              refine j_iadd dX6_step_106 ?_
              refine j_putI (i := 11) dX6_step_107 fg_X6_47 ft_6_11 fq_17_11 rfl (by omega) ?_
              exact j_vret rfl dX6_step_110 (fun h => by cases h) (hP _ _ ⟨⟨same_up (same_up (same_up hv1 (by decide)) (by decide)) (by decide), fun i h => by rw [up_i (by omega), up_i (by omega), up_i (by omega)]; exact hv2 i (by omega)⟩, by rw [up_i (by decide), up_i (by decide), up_s]; exact hts, by rw [up_s, hkl.1, hts], by rw [up_i (by decide), up_s, hkl.2, hts], fun z => by rw [hkl.2, ← hts] at z; omega⟩)
          · have hke := kT_end (x := S 16) (t := S 17 6) (p := S 17 11) (by omega)
            refine j_aload_n dX6_step_57 rfl ?_
            refine j_iconst dX6_step_58 ?_
            refine j_putI (i := 12) dX6_step_59 fg_X6_50 ft_6_12 fq_17_12 rfl (by omega) ?_
            refine j_goto (tgt := 110) dX6_step_62 (by decide) ?_
            exact j_vret rfl dX6_step_110 (fun h => by cases h) (hP _ _ ⟨⟨same_up (same_up hv1 (by decide)) (by decide), fun i h => by rw [up_i (by omega), up_i (by omega)]; exact hv2 i (by omega)⟩, by rw [up_i (by decide), up_s]; exact hts, by rw [up_i (by decide), up_i (by decide)]; exact hts.trans hke.1.symm, by rw [up_s]; exact hke.2.symm, fun z => by rw [hke.2] at z; omega⟩)
        · refine j_aload_n dX6_step_25 rfl ?_
          refine j_dup dX6_step_26 rfl ?_
          refine j_getI (x := T 17 11) dX6_step_27 fg_X6_47 fq_17_11 rfl (fun hi27 => ?_)
          refine j_iconst dX6_step_30 ?_
          refine j_iadd dX6_step_31 ?_
          refine j_putI (i := 11) dX6_step_32 fg_X6_47 ft_6_11 fq_17_11 rfl (by omega) ?_
          refine j_goto (tgt := 0) dX6_step_35 (by decide) ?_
          exact ih0  (up T 17 11 ((T 17 11) + 1)) (by rw [up_s]; omega) ⟨same_up hv1 (by decide), fun i a => by rw [up_i a]; exact hv2 i a, by rw [up_s]; omega, by rw [up_s, ← tsB_go (by omega) h22]; exact hv4⟩
  exact lp0 _  S (Nat.lt_succ_self _) ⟨Same.rf, fun i a => rfl, by omega, rfl⟩
