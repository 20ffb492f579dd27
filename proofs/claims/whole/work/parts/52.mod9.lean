/-- the undos hold one more: u older ones (from o on in S), then the fleet -/
def Ntd (S S' : St) (u o : Int) : Prop := Same [118, 128] S S' ∧ (∀ j, j ≠ 22 → S' 118 j = S 118 j) ∧ S' 118 22 = u + 1 ∧ (∀ j, 0 ≤ j → j < 189 * u → S' 128 j = S 128 (o + j)) ∧ ∀ j, 0 ≤ j → j < 189 → S' 128 (189 * u + j) = S 125 j
theorem ntd_1 {S T : St} (h : Mcp S T 128 (189 * S 118 22) 125 0 189) : Ntd S (up T 118 22 (S 118 22 + 1)) (S 118 22) 0 := by
  obtain ⟨h1, h2, h3⟩ := h
  refine ⟨same_up (h1.mono (by decide)) (by decide), fun j a => ?_, by simp [up], fun j a b => ?_, fun j a b => ?_⟩
  · rw [up_i a, h1 118 (by decide)]
  · rw [up_c (by decide), Int.zero_add]; exact h3 j (Or.inl b)
  · rw [up_c (by decide), h2 j a b, Int.zero_add]
theorem ntd_2 {S T U : St} (h : Mcp S T 128 0 128 189 1701) (g : Mcp (up T 118 22 9) U 128 1701 125 0 189) : Ntd S (up U 118 22 10) 9 189 := by
  obtain ⟨h1, h2, h3⟩ := h
  obtain ⟨g1, g2, g3⟩ := g
  refine ⟨same_up (((same_up (h1.mono (by decide)) (by decide)).tr (g1.mono (by decide)))) (by decide), fun j a => ?_, by simp [up], fun j a b => ?_, fun j a b => ?_⟩
  · rw [up_i a, g1 118 (by decide), up_i a, h1 118 (by decide)]
  · have q := h2 j a (by omega)
    rw [Int.zero_add] at q
    rw [up_c (by decide), g3 j (by omega), up_c (by decide), q]
  · rw [up_c (by decide), show (189 : Int) * 9 + j = 1701 + j by omega, g2 j a b, up_c (by decide), h1 125 (by decide), Int.zero_add]
set_option maxRecDepth 100000 in
set_option maxHeartbeats 4000000 in
theorem t_X8_notes (S : St) (hu0 : 0 ≤ S 118 22) (hu1 : S 118 22 ≤ 10) : EX mX8_notes [.ref 118] S (fun r S' => (S 118 22 = 10 ∧ Ntd S S' 9 189) ∨ (S 118 22 < 10 ∧ Ntd S S' (S 118 22) 0)) := by
  suffices hh : ∀ P : Int → St → Prop, (∀ r S', ((S 118 22 = 10 ∧ Ntd S S' 9 189) ∨ (S 118 22 < 10 ∧ Ntd S S' (S 118 22) 0)) → P r S') → EX mX8_notes [.ref 118] S P from hh _ (fun _ _ h => h)
  intro P hP
  refine EX.of (L := [(0, .ref 118)]) rfl rfl (Nat.le_of_ble_eq_true rfl) rfl ?_
  refine j_aload_n dX8_notes_0 rfl ?_
  refine j_getI (x := S 118 22) dX8_notes_1 fg_X8_137 fq_118_22 rfl (fun hi1 => ?_)
  refine j_bipush dX8_notes_4 (by decide) ?_
  refine j_icmp_ne (tgt := 46) dX8_notes_6 (by decide) (by omega) (by omega) (fun h6 => ?_) (fun h6 => ?_)
  · refine j_st (fun Q eQ => ?_)
    have hq : ∃ o, Q 118 22 = o ∧ o = S 118 22 := ⟨_, by rw [eQ], rfl⟩
    have h6 := h6
    obtain ⟨o, q2, q3⟩ := hq
    have qb : 0 ≤ o ∧ o ≤ 9 := by omega
    refine j_iconst dX8_notes_46 ?_
    refine j_istore_n (L' := [(0, .ref 118), (1, vi 0)]) dX8_notes_47 (Nat.le_of_ble_eq_true rfl) rfl ?_
    have lp48 : ∀ (n : Nat) (i : Int) (U : St), (189 - i).toNat < n → (0 ≤ i ∧ i ≤ 189 ∧ Mcp Q U 128 (189 * o) 125 0 i) → JJ mX8_notes (RX mX8_notes P) 48 [(0, .ref 118), (1, vi i)] [] U := by
      intro n
      induction n with
      | zero => intro i U hm; exact absurd hm (Nat.not_lt_zero _)
      | succ n ih48 =>
        intro i U hm48 hv48
        obtain ⟨hw1, hw2, hw3⟩ := hv48
        refine j_iload_n dX8_notes_48 rfl ?_
        refine j_sipush dX8_notes_49 (by decide) ?_
        refine j_icmp_ge (tgt := 82) dX8_notes_52 (by decide) (by omega) (by omega) (fun h52 => ?_) (fun h52 => ?_)
        · refine j_aload_n dX8_notes_82 rfl ?_
          refine j_dup dX8_notes_83 rfl ?_
          refine j_getI (x := o) dX8_notes_84 fg_X8_137 fq_118_22 (by rw [hw3.1 118 (by decide)]; exact q2) (fun hi84 => ?_)
          refine j_iconst dX8_notes_87 ?_
          refine j_iadd dX8_notes_88 ?_
          refine j_putI (i := 22) dX8_notes_89 fg_X8_137 ft_8_22 fq_118_22 rfl (by omega) ?_
          exact j_vret rfl dX8_notes_92 (fun h => by cases h) (hP _ _ (by rw [show i = 189 by omega] at hw3; subst q3; subst eQ; exact Or.inr ⟨by omega, ntd_1 hw3⟩))
        · refine j_aload_n dX8_notes_55 rfl ?_
          refine j_getR dX8_notes_56 fg_X8_38 fq_118_21 ?_
          refine j_sipush dX8_notes_59 (by decide) ?_
          refine j_aload_n dX8_notes_62 rfl ?_
          refine j_getI (x := o) dX8_notes_63 fg_X8_137 fq_118_22 (by rw [hw3.1 118 (by decide)]; exact q2) (fun hi63 => ?_)
          refine j_imul dX8_notes_66 ?_
          refine j_iload_n dX8_notes_67 rfl ?_
          refine j_iadd dX8_notes_68 ?_
          refine j_aload_n dX8_notes_69 rfl ?_
          refine j_getR dX8_notes_70 fg_X8_28 fq_118_18 ?_
          refine j_iload_n dX8_notes_73 rfl ?_
          refine j_iald (x := Q 125 i) dX8_notes_74 aq_125 (by omega) (by omega) (by rw [hw3.1 125 (by decide)]) (fun hi74 => ?_)
          refine j_iast dX8_notes_75 aq_128 (by omega) (by omega) (by omega) ?_
          refine j_iinc (L' := [(0, .ref 118), (1, vi (i + 1))]) dX8_notes_76 (Nat.le_of_ble_eq_true rfl) rfl rfl ?_
          refine j_goto (tgt := 48) dX8_notes_79 (by decide) ?_
          exact ih48 (i + 1) (up U 128 ((189 * o) + i) (Q 125 i)) (by omega) ⟨by omega, by omega, hw3.in hw1 (by omega) (by rw [Int.zero_add])⟩
    exact lp48 _ 0 Q (Nat.lt_succ_self _) ⟨by omega, by omega, Mcp.z⟩
  · refine j_iconst dX8_notes_9 ?_
    refine j_istore_n (L' := [(0, .ref 118), (1, vi 0)]) dX8_notes_10 (Nat.le_of_ble_eq_true rfl) rfl ?_
    have lp11 : ∀ (n : Nat) (k : Int) (T : St), (1701 - k).toNat < n → (0 ≤ k ∧ k ≤ 1701 ∧ Mcp S T 128 0 128 189 k) → JJ mX8_notes (RX mX8_notes P) 11 [(0, .ref 118), (1, vi k)] [] T := by
      intro n
      induction n with
      | zero => intro k T hm; exact absurd hm (Nat.not_lt_zero _)
      | succ n ih11 =>
        intro k T hm11 hv11
        obtain ⟨hv1, hv2, hv3⟩ := hv11
        refine j_iload_n dX8_notes_11 rfl ?_
        refine j_sipush dX8_notes_12 (by decide) ?_
        refine j_icmp_ge (tgt := 40) dX8_notes_15 (by decide) (by omega) (by omega) (fun h15 => ?_) (fun h15 => ?_)
        · refine j_aload_n dX8_notes_40 rfl ?_
          refine j_bipush dX8_notes_41 (by decide) ?_
          refine j_putI (i := 22) dX8_notes_43 fg_X8_137 ft_8_22 fq_118_22 rfl (by omega) ?_
          rw [show k = 1701 by omega] at hv3
          refine j_st (fun Q eQ => ?_)
          have q1 : Q 118 22 = 9 := by rw [eQ]; simp [up]
          have hq : ∃ o, Q 118 22 = o ∧ o = 9 := ⟨9, q1, rfl⟩
          obtain ⟨o, q2, q3⟩ := hq
          have qb : 0 ≤ o ∧ o ≤ 9 := by omega
          refine j_iconst dX8_notes_46 ?_
          refine j_istore_n (L' := [(0, .ref 118), (1, vi 0)]) dX8_notes_47 (Nat.le_of_ble_eq_true rfl) rfl ?_
          have lp48 : ∀ (n : Nat) (i : Int) (U : St), (189 - i).toNat < n → (0 ≤ i ∧ i ≤ 189 ∧ Mcp Q U 128 (189 * o) 125 0 i) → JJ mX8_notes (RX mX8_notes P) 48 [(0, .ref 118), (1, vi i)] [] U := by
            intro n
            induction n with
            | zero => intro i U hm; exact absurd hm (Nat.not_lt_zero _)
            | succ n ih48 =>
              intro i U hm48 hv48
              obtain ⟨hw1, hw2, hw3⟩ := hv48
              refine j_iload_n dX8_notes_48 rfl ?_
              refine j_sipush dX8_notes_49 (by decide) ?_
              refine j_icmp_ge (tgt := 82) dX8_notes_52 (by decide) (by omega) (by omega) (fun h52 => ?_) (fun h52 => ?_)
              · refine j_aload_n dX8_notes_82 rfl ?_
                refine j_dup dX8_notes_83 rfl ?_
                refine j_getI (x := o) dX8_notes_84 fg_X8_137 fq_118_22 (by rw [hw3.1 118 (by decide)]; exact q2) (fun hi84 => ?_)
                refine j_iconst dX8_notes_87 ?_
                refine j_iadd dX8_notes_88 ?_
                refine j_putI (i := 22) dX8_notes_89 fg_X8_137 ft_8_22 fq_118_22 rfl (by omega) ?_
                exact j_vret rfl dX8_notes_92 (fun h => by cases h) (hP _ _ (by rw [show i = 189 by omega] at hw3; subst q3; subst eQ; exact Or.inl ⟨by omega, ntd_2 hv3 hw3⟩))
              · refine j_aload_n dX8_notes_55 rfl ?_
                refine j_getR dX8_notes_56 fg_X8_38 fq_118_21 ?_
                refine j_sipush dX8_notes_59 (by decide) ?_
                refine j_aload_n dX8_notes_62 rfl ?_
                refine j_getI (x := o) dX8_notes_63 fg_X8_137 fq_118_22 (by rw [hw3.1 118 (by decide)]; exact q2) (fun hi63 => ?_)
                refine j_imul dX8_notes_66 ?_
                refine j_iload_n dX8_notes_67 rfl ?_
                refine j_iadd dX8_notes_68 ?_
                refine j_aload_n dX8_notes_69 rfl ?_
                refine j_getR dX8_notes_70 fg_X8_28 fq_118_18 ?_
                refine j_iload_n dX8_notes_73 rfl ?_
                refine j_iald (x := Q 125 i) dX8_notes_74 aq_125 (by omega) (by omega) (by rw [hw3.1 125 (by decide)]) (fun hi74 => ?_)
                refine j_iast dX8_notes_75 aq_128 (by omega) (by omega) (by omega) ?_
                refine j_iinc (L' := [(0, .ref 118), (1, vi (i + 1))]) dX8_notes_76 (Nat.le_of_ble_eq_true rfl) rfl rfl ?_
                refine j_goto (tgt := 48) dX8_notes_79 (by decide) ?_
                exact ih48 (i + 1) (up U 128 ((189 * o) + i) (Q 125 i)) (by omega) ⟨by omega, by omega, hw3.in hw1 (by omega) (by rw [Int.zero_add])⟩
          exact lp48 _ 0 Q (Nat.lt_succ_self _) ⟨by omega, by omega, Mcp.z⟩
        · refine j_aload_n dX8_notes_18 rfl ?_
          refine j_getR dX8_notes_19 fg_X8_38 fq_118_21 ?_
          refine j_iload_n dX8_notes_22 rfl ?_
          refine j_aload_n dX8_notes_23 rfl ?_
          refine j_getR dX8_notes_24 fg_X8_38 fq_118_21 ?_
          refine j_iload_n dX8_notes_27 rfl ?_
          refine j_sipush dX8_notes_28 (by decide) ?_
          refine j_iadd dX8_notes_31 ?_
          refine j_iald (x := S 128 (k + 189)) dX8_notes_32 aq_128 (by omega) (by omega) (hv3.2.2 (k + 189) (by omega)) (fun hi32 => ?_)
          refine j_iast dX8_notes_33 aq_128 (by omega) (by omega) (by omega) ?_
          refine j_iinc (L' := [(0, .ref 118), (1, vi (k + 1))]) dX8_notes_34 (Nat.le_of_ble_eq_true rfl) rfl rfl ?_
          refine j_goto (tgt := 11) dX8_notes_37 (by decide) ?_
          exact ih11 (k + 1) (up T 128 k (S 128 (k + 189))) (by omega) ⟨by omega, by omega, hv3.in hv1 (by omega) (by rw [Int.add_comm])⟩
    exact lp11 _ 0 S (Nat.lt_succ_self _) ⟨by omega, by omega, Mcp.z⟩
/-- part number P of the fleet: its place, make, age, where -/
def cmS (S : St) (pl mk ag wh : Int) : St := up (up (up (up (up S 125 (141 + S 125 1) pl) 124 (S 125 1) mk) 125 (51 + S 125 1) ag) 125 (3 + S 125 1) wh) 125 1 (S 125 1 + 1)
set_option maxRecDepth 100000 in
set_option maxHeartbeats 4000000 in
theorem t_X8_comes (S : St) (pl mk ag wh : Int) (r1 : InR pl) (r2 : InR mk) (r3 : InR ag) (r4 : InR wh) (hp0 : 0 ≤ S 125 1) (hp1 : S 125 1 < 48) : EX mX8_comes [.ref 118, vi pl, vi mk, vi ag, vi wh] S (fun r S' => r = S 125 1 ∧ S' = cmS S pl mk ag wh) := by
  suffices hh : ∀ P : Int → St → Prop, (∀ r S', (r = S 125 1 ∧ S' = cmS S pl mk ag wh) → P r S') → EX mX8_comes [.ref 118, vi pl, vi mk, vi ag, vi wh] S P from hh _ (fun _ _ h => h)
  intro P hP
  refine EX.of (L := [(0, .ref 118), (1, vi pl), (2, vi mk), (3, vi ag), (4, vi wh)]) rfl rfl (Nat.le_of_ble_eq_true rfl) rfl ?_
  refine j_aload_n dX8_comes_0 rfl ?_
  refine j_getR dX8_comes_1 fg_X8_28 fq_118_18 ?_
  refine j_iconst dX8_comes_4 ?_
  refine j_iald (x := S 125 1) dX8_comes_5 aq_125 (by omega) (by omega) rfl (fun hi5 => ?_)
  refine j_istore (L' := [(0, .ref 118), (1, vi pl), (2, vi mk), (3, vi ag), (4, vi wh), (5, vi (S 125 1))]) dX8_comes_6 (Nat.le_of_ble_eq_true rfl) rfl ?_
  refine j_aload_n dX8_comes_8 rfl ?_
  refine j_getR dX8_comes_9 fg_X8_28 fq_118_18 ?_
  refine j_sipush dX8_comes_12 (by decide) ?_
  refine j_iload dX8_comes_15 rfl ?_
  refine j_iadd dX8_comes_17 ?_
  refine j_iload_n dX8_comes_18 rfl ?_
  refine j_iast dX8_comes_19 aq_125 (by omega) (by omega) (by omega) ?_
  refine j_aload_n dX8_comes_20 rfl ?_
  refine j_getR dX8_comes_21 fg_X8_25 fq_118_17 ?_
  refine j_iload dX8_comes_24 rfl ?_
  refine j_iload_n dX8_comes_26 rfl ?_
  refine j_iast dX8_comes_27 aq_124 (by omega) (by omega) (by omega) ?_
  refine j_aload_n dX8_comes_28 rfl ?_
  refine j_getR dX8_comes_29 fg_X8_28 fq_118_18 ?_
  refine j_bipush dX8_comes_32 (by decide) ?_
  refine j_iload dX8_comes_34 rfl ?_
  refine j_iadd dX8_comes_36 ?_
  refine j_iload_n dX8_comes_37 rfl ?_
  refine j_iast dX8_comes_38 aq_125 (by omega) (by omega) (by omega) ?_
  refine j_aload_n dX8_comes_39 rfl ?_
  refine j_getR dX8_comes_40 fg_X8_28 fq_118_18 ?_
  refine j_iconst dX8_comes_43 ?_
  refine j_iload dX8_comes_44 rfl ?_
  refine j_iadd dX8_comes_46 ?_
  refine j_iload dX8_comes_47 rfl ?_
  refine j_iast dX8_comes_49 aq_125 (by omega) (by omega) (by omega) ?_
  refine j_aload_n dX8_comes_50 rfl ?_
  refine j_getR dX8_comes_51 fg_X8_28 fq_118_18 ?_
  refine j_iconst dX8_comes_54 ?_
  refine j_dup2 dX8_comes_55 rfl rfl ?_
  refine j_iald (x := S 125 1) dX8_comes_56 aq_125 (by omega) (by omega) (by rw [up_i (by omega), up_i (by omega), up_c (by decide), up_i (by omega)]) (fun hi56 => ?_)
  refine j_iconst dX8_comes_57 ?_
  refine j_iadd dX8_comes_58 ?_
  refine j_iast dX8_comes_59 aq_125 (by omega) (by omega) (by omega) ?_
  refine j_iload dX8_comes_60 rfl ?_
  exact j_iret rfl dX8_comes_62 (fun h => by cases h) (hP _ _ ⟨rfl, rfl⟩)
