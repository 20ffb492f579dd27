/-- T holds at d from o on what S holds at c from p on, n of them -/
def Mcp (S T : St) (d : Nat) (o : Int) (c : Nat) (p n : Int) : Prop := Same [d] S T ∧ (∀ j, 0 ≤ j → j < n → T d (o + j) = S c (p + j)) ∧ ∀ j, j < o ∨ o + n ≤ j → T d j = S d j
theorem Mcp.z {S : St} {d c : Nat} {o p : Int} : Mcp S S d o c p 0 := ⟨Same.rf, fun j a b => by omega, fun j _ => rfl⟩
theorem Mcp.in {S T : St} {d c : Nat} {o p k i v : Int} (h : Mcp S T d o c p k) (h0 : 0 ≤ k) (hi : i = o + k) (hv : v = S c (p + k)) : Mcp S (up T d i v) d o c p (k + 1) := by
  subst hi
  subst hv
  obtain ⟨h1, h2, h3⟩ := h
  refine ⟨same_up h1 (by simp), fun j a b => ?_, fun j a => ?_⟩
  · by_cases e : j = k
    · subst e; simp [up]
    · rw [up_i (by omega)]; exact h2 j a (by omega)
  · rw [up_i (by omega)]; exact h3 j (by omega)
set_option maxRecDepth 100000 in
set_option maxHeartbeats 4000000 in
theorem t_X8_undo (S : St)  (hM : MI S) (hu0 : 0 ≤ S 118 22) (hu1 : S 118 22 ≤ 10) : EX mX8_undo [.ref 118] S (fun r S' => (S 118 22 = 0 ∧ r = -2 ∧ S' = S) ∨ (S 118 22 ≠ 0 ∧ r = S 118 22 - 1 ∧ Mcp (up S 118 22 (S 118 22 - 1)) S' 125 0 128 (189 * (S 118 22 - 1)) 189)) := by
  suffices hh : ∀ P : Int → St → Prop, (∀ r S', ((S 118 22 = 0 ∧ r = -2 ∧ S' = S) ∨ (S 118 22 ≠ 0 ∧ r = S 118 22 - 1 ∧ Mcp (up S 118 22 (S 118 22 - 1)) S' 125 0 128 (189 * (S 118 22 - 1)) 189)) → P r S') → EX mX8_undo [.ref 118] S P from hh _ (fun _ _ h => h)
  intro P hP
  refine EX.of (L := [(0, .ref 118)]) rfl rfl (Nat.le_of_ble_eq_true rfl) rfl ?_
  obtain ⟨⟨hn0, hn1⟩, hwl, ⟨hp0, hp1⟩, ⟨hs0, hs1⟩, hyr, hpt, hhd, hth⟩ := id hM
  have hwt : ∀ k, 0 ≤ k → k < 6 → 1 ≤ S 120 k ∧ S 120 k ≤ 9 := fun k a b => ⟨(hwl k a b).1, (hwl k a b).2.1⟩
  refine j_aload_n dX8_undo_0 rfl ?_
  refine j_iconst dX8_undo_1 ?_
  refine j_putI (i := 0) dX8_undo_2 fg_X8_63 ft_8_0 fq_118_0 rfl (by omega) ?_
  rw [up_thr hth]
  refine j_aload_n dX8_undo_5 rfl ?_
  refine j_getI (x := S 118 22) dX8_undo_6 fg_X8_137 fq_118_22 rfl (fun hi6 => ?_)
  refine j_if_ne (tgt := 15) dX8_undo_9 (by decide) (by omega)  (fun h9 => ?_) (fun h9 => ?_)
  · refine j_aload_n dX8_undo_15 rfl ?_
    refine j_dup dX8_undo_16 rfl ?_
    refine j_getI (x := S 118 22) dX8_undo_17 fg_X8_137 fq_118_22 rfl (fun hi17 => ?_)
    refine j_iconst dX8_undo_20 ?_
    refine j_isub dX8_undo_21 ?_
    refine j_putI (i := 22) dX8_undo_22 fg_X8_137 ft_8_22 fq_118_22 rfl (by omega) ?_
    refine j_iconst dX8_undo_25 ?_
    refine j_istore_n (L' := [(0, .ref 118), (1, vi 0)]) dX8_undo_26 (Nat.le_of_ble_eq_true rfl) rfl ?_
    have lp27 : ∀ (n : Nat) (k : Int) (T : St), (189 - k).toNat < n → (0 ≤ k ∧ k ≤ 189 ∧ Mcp (up S 118 22 (S 118 22 - 1)) T 125 0 128 (189 * (S 118 22 - 1)) k) → JJ mX8_undo (RX mX8_undo P) 27 [(0, .ref 118), (1, vi k)] [] T := by
      intro n
      induction n with
      | zero => intro k T hm; exact absurd hm (Nat.not_lt_zero _)
      | succ n ih27 =>
        intro k T hm27 hv27
        obtain ⟨hv1, hv2, hv3⟩ := hv27
        refine j_iload_n dX8_undo_27 rfl ?_
        refine j_sipush dX8_undo_28 (by decide) ?_
        refine j_icmp_ge (tgt := 61) dX8_undo_31 (by decide) (by omega) (by omega) (fun h31 => ?_) (fun h31 => ?_)
        · refine j_aload_n dX8_undo_61 rfl ?_
          refine j_getI (x := S 118 22 - 1) dX8_undo_62 fg_X8_137 fq_118_22 (by rw [hv3.1 118 (by decide)]; simp [up]) (fun hi62 => ?_)
          exact j_iret rfl dX8_undo_65 (fun h => by cases h) (hP _ _ (Or.inr ⟨by omega, rfl, by rw [show k = 189 by omega] at hv3; exact hv3⟩))
        · refine j_aload_n dX8_undo_34 rfl ?_
          refine j_getR dX8_undo_35 fg_X8_28 fq_118_18 ?_
          refine j_iload_n dX8_undo_38 rfl ?_
          refine j_aload_n dX8_undo_39 rfl ?_
          refine j_getR dX8_undo_40 fg_X8_38 fq_118_21 ?_
          refine j_sipush dX8_undo_43 (by decide) ?_
          refine j_aload_n dX8_undo_46 rfl ?_
          refine j_getI (x := S 118 22 - 1) dX8_undo_47 fg_X8_137 fq_118_22 (by rw [hv3.1 118 (by decide)]; simp [up]) (fun hi47 => ?_)
          refine j_imul dX8_undo_50 ?_
          refine j_iload_n dX8_undo_51 rfl ?_
          refine j_iadd dX8_undo_52 ?_
          refine j_iald (x := S 128 (189 * (S 118 22 - 1) + k)) dX8_undo_53 aq_128 (by omega) (by omega) (by rw [hv3.1 128 (by decide), up_c (by decide)]) (fun hi53 => ?_)
          refine j_iast dX8_undo_54 aq_125 (by omega) (by omega) (by omega) ?_
          refine j_iinc (L' := [(0, .ref 118), (1, vi (k + 1))]) dX8_undo_55 (Nat.le_of_ble_eq_true rfl) rfl rfl ?_
          refine j_goto (tgt := 27) dX8_undo_58 (by decide) ?_
          exact ih27 (k + 1) (up T 125 k (S 128 (189 * (S 118 22 - 1) + k))) (by omega) ⟨by omega, by omega, hv3.in hv1 (by omega) (by rw [up_c (by decide)])⟩
    exact lp27 _ 0 (up S 118 22 ((S 118 22) - 1)) (Nat.lt_succ_self _) ⟨by omega, by omega, Mcp.z⟩
  · refine j_bipush dX8_undo_12 (by decide) ?_
    exact j_iret rfl dX8_undo_14 (fun h => by cases h) (hP _ _ (Or.inl ⟨by omega, rfl, rfl⟩))
set_option maxRecDepth 100000 in
set_option maxHeartbeats 4000000 in
theorem t_X8_keep (S : St) (i : Int) (r_i : InR i) (hM : MI S) : EX mX8_keep [.ref 118, vi i] S (fun r S' => (¬ (0 ≤ i ∧ i ≤ 1) ∧ r = -1 ∧ S' = S) ∨ ((0 ≤ i ∧ i ≤ 1) ∧ r = S 125 0 ∧ ∃ T, Mcp S T 126 (189 * i) 125 0 189 ∧ S' = up T 127 i 1)) := by
  suffices hh : ∀ P : Int → St → Prop, (∀ r S', ((¬ (0 ≤ i ∧ i ≤ 1) ∧ r = -1 ∧ S' = S) ∨ ((0 ≤ i ∧ i ≤ 1) ∧ r = S 125 0 ∧ ∃ T, Mcp S T 126 (189 * i) 125 0 189 ∧ S' = up T 127 i 1)) → P r S') → EX mX8_keep [.ref 118, vi i] S P from hh _ (fun _ _ h => h)
  intro P hP
  refine EX.of (L := [(0, .ref 118), (1, vi i)]) rfl rfl (Nat.le_of_ble_eq_true rfl) rfl ?_
  obtain ⟨⟨hn0, hn1⟩, hwl, ⟨hp0, hp1⟩, ⟨hs0, hs1⟩, hyr, hpt, hhd, hth⟩ := id hM
  have hwt : ∀ k, 0 ≤ k → k < 6 → 1 ≤ S 120 k ∧ S 120 k ≤ 9 := fun k a b => ⟨(hwl k a b).1, (hwl k a b).2.1⟩
  refine j_aload_n dX8_keep_0 rfl ?_
  refine j_iconst dX8_keep_1 ?_
  refine j_putI (i := 0) dX8_keep_2 fg_X8_63 ft_8_0 fq_118_0 rfl (by omega) ?_
  rw [up_thr hth]
  refine j_iload_n dX8_keep_5 rfl ?_
  refine j_iconst dX8_keep_6 ?_
  refine j_iconst dX8_keep_7 ?_
  refine j_callSi (As := [vi i, vi 0, vi 1]) (rest := []) (t_X8_in _ i 0 1 (by omega) (by omega) (by omega)) rfl cm_X8_in cs_X8_in ml_X8_66 rfl (Nat.le_of_ble_eq_true rfl) (Nat.le_of_ble_eq_true rfl) dX8_keep_8 (fun r8 S8 hp8 => ?_)
  obtain ⟨⟨rfl, hc8⟩ | ⟨rfl, hc8⟩, he8⟩ := hp8
  · rw [he8]
    refine j_if_ne (tgt := 16) dX8_keep_11 (by decide) (by omega)  (fun _ => ?_) (fun h => absurd h (by decide))
    refine j_iconst dX8_keep_16 ?_
    refine j_istore_n (L' := [(0, .ref 118), (1, vi i), (2, vi 0)]) dX8_keep_17 (Nat.le_of_ble_eq_true rfl) rfl ?_
    have lp18 : ∀ (n : Nat) (k : Int) (T : St), (189 - k).toNat < n → (0 ≤ k ∧ k ≤ 189 ∧ Mcp S T 126 (189 * i) 125 0 k) → JJ mX8_keep (RX mX8_keep P) 18 [(0, .ref 118), (1, vi i), (2, vi k)] [] T := by
      intro n
      induction n with
      | zero => intro k T hm; exact absurd hm (Nat.not_lt_zero _)
      | succ n ih18 =>
        intro k T hm18 hv18
        obtain ⟨hv1, hv2, hv3⟩ := hv18
        refine j_iload_n dX8_keep_18 rfl ?_
        refine j_sipush dX8_keep_19 (by decide) ?_
        refine j_icmp_ge (tgt := 49) dX8_keep_22 (by decide) (by omega) (by omega) (fun h22 => ?_) (fun h22 => ?_)
        · refine j_aload_n dX8_keep_49 rfl ?_
          refine j_getR dX8_keep_50 fg_X8_34 fq_118_20 ?_
          refine j_iload_n dX8_keep_53 rfl ?_
          refine j_iconst dX8_keep_54 ?_
          refine j_zast dX8_keep_55 aq_127 (by omega) (by omega) (by omega) ?_
          refine j_aload_n dX8_keep_56 rfl ?_
          refine j_getR dX8_keep_57 fg_X8_28 fq_118_18 ?_
          refine j_iconst dX8_keep_60 ?_
          refine j_iald (x := S 125 0) dX8_keep_61 aq_125 (by omega) (by omega) (by rw [up_c (by decide), hv3.1 125 (by decide)]) (fun hi61 => ?_)
          exact j_iret rfl dX8_keep_62 (fun h => by cases h) (hP _ _ (Or.inr ⟨by omega, rfl, T, by rw [show k = 189 by omega] at hv3; exact hv3, rfl⟩))
        · refine j_aload_n dX8_keep_25 rfl ?_
          refine j_getR dX8_keep_26 fg_X8_31 fq_118_19 ?_
          refine j_sipush dX8_keep_29 (by decide) ?_
          refine j_iload_n dX8_keep_32 rfl ?_
          refine j_imul dX8_keep_33 ?_
          refine j_iload_n dX8_keep_34 rfl ?_
          refine j_iadd dX8_keep_35 ?_
          refine j_aload_n dX8_keep_36 rfl ?_
          refine j_getR dX8_keep_37 fg_X8_28 fq_118_18 ?_
          refine j_iload_n dX8_keep_40 rfl ?_
          refine j_iald (x := S 125 k) dX8_keep_41 aq_125 (by omega) (by omega) (by rw [hv3.1 125 (by decide)]) (fun hi41 => ?_)
          refine j_iast dX8_keep_42 aq_126 (by omega) (by omega) (by omega) ?_
          refine j_iinc (L' := [(0, .ref 118), (1, vi i), (2, vi (k + 1))]) dX8_keep_43 (Nat.le_of_ble_eq_true rfl) rfl rfl ?_
          refine j_goto (tgt := 18) dX8_keep_46 (by decide) ?_
          exact ih18 (k + 1) (up T 126 ((189 * i) + k) (S 125 k)) (by omega) ⟨by omega, by omega, hv3.in hv1 (by omega) (by rw [Int.zero_add])⟩
    exact lp18 _ 0 S (Nat.lt_succ_self _) ⟨by omega, by omega, Mcp.z⟩
  · rw [he8]
    refine j_if_ne (tgt := 16) dX8_keep_11 (by decide) (by omega)  (fun h => absurd h (by decide)) (fun _ => ?_)
    refine j_iconst dX8_keep_14 ?_
    exact j_iret rfl dX8_keep_15 (fun h => by cases h) (hP _ _ (Or.inl ⟨by omega, rfl, rfl⟩))
set_option maxRecDepth 100000 in
set_option maxHeartbeats 4000000 in
theorem t_X8_back (S : St) (i : Int) (r_i : InR i) (hM : MI S) : EX mX8_back [.ref 118, vi i] S (fun r S' => (¬ (0 ≤ i ∧ i ≤ 1) ∧ r = -1 ∧ S' = S) ∨ ((0 ≤ i ∧ i ≤ 1) ∧ S 127 i = 0 ∧ r = -2 ∧ S' = S) ∨ ((0 ≤ i ∧ i ≤ 1) ∧ S 127 i ≠ 0 ∧ r = S 126 (189 * i) ∧ ∃ T, Mcp S T 125 0 126 (189 * i) 189 ∧ S' = up T 118 22 0)) := by
  suffices hh : ∀ P : Int → St → Prop, (∀ r S', ((¬ (0 ≤ i ∧ i ≤ 1) ∧ r = -1 ∧ S' = S) ∨ ((0 ≤ i ∧ i ≤ 1) ∧ S 127 i = 0 ∧ r = -2 ∧ S' = S) ∨ ((0 ≤ i ∧ i ≤ 1) ∧ S 127 i ≠ 0 ∧ r = S 126 (189 * i) ∧ ∃ T, Mcp S T 125 0 126 (189 * i) 189 ∧ S' = up T 118 22 0)) → P r S') → EX mX8_back [.ref 118, vi i] S P from hh _ (fun _ _ h => h)
  intro P hP
  refine EX.of (L := [(0, .ref 118), (1, vi i)]) rfl rfl (Nat.le_of_ble_eq_true rfl) rfl ?_
  obtain ⟨⟨hn0, hn1⟩, hwl, ⟨hp0, hp1⟩, ⟨hs0, hs1⟩, hyr, hpt, hhd, hth⟩ := id hM
  have hwt : ∀ k, 0 ≤ k → k < 6 → 1 ≤ S 120 k ∧ S 120 k ≤ 9 := fun k a b => ⟨(hwl k a b).1, (hwl k a b).2.1⟩
  refine j_aload_n dX8_back_0 rfl ?_
  refine j_iconst dX8_back_1 ?_
  refine j_putI (i := 0) dX8_back_2 fg_X8_63 ft_8_0 fq_118_0 rfl (by omega) ?_
  rw [up_thr hth]
  refine j_iload_n dX8_back_5 rfl ?_
  refine j_iconst dX8_back_6 ?_
  refine j_iconst dX8_back_7 ?_
  refine j_callSi (As := [vi i, vi 0, vi 1]) (rest := []) (t_X8_in _ i 0 1 (by omega) (by omega) (by omega)) rfl cm_X8_in cs_X8_in ml_X8_66 rfl (Nat.le_of_ble_eq_true rfl) (Nat.le_of_ble_eq_true rfl) dX8_back_8 (fun r8 S8 hp8 => ?_)
  obtain ⟨⟨rfl, hc8⟩ | ⟨rfl, hc8⟩, he8⟩ := hp8
  · rw [he8]
    refine j_if_ne (tgt := 16) dX8_back_11 (by decide) (by omega)  (fun _ => ?_) (fun h => absurd h (by decide))
    refine j_aload_n dX8_back_16 rfl ?_
    refine j_getR dX8_back_17 fg_X8_34 fq_118_20 ?_
    refine j_iload_n dX8_back_20 rfl ?_
    refine j_zald (x := S 127 i) dX8_back_21 aq_127 (by omega) (by omega) rfl (fun hi21 => ?_)
    refine j_if_ne (tgt := 28) dX8_back_22 (by decide) (by omega)  (fun h22 => ?_) (fun h22 => ?_)
    · refine j_iconst dX8_back_28 ?_
      refine j_istore_n (L' := [(0, .ref 118), (1, vi i), (2, vi 0)]) dX8_back_29 (Nat.le_of_ble_eq_true rfl) rfl ?_
      have lp30 : ∀ (n : Nat) (k : Int) (T : St), (189 - k).toNat < n → (0 ≤ k ∧ k ≤ 189 ∧ Mcp S T 125 0 126 (189 * i) k) → JJ mX8_back (RX mX8_back P) 30 [(0, .ref 118), (1, vi i), (2, vi k)] [] T := by
        intro n
        induction n with
        | zero => intro k T hm; exact absurd hm (Nat.not_lt_zero _)
        | succ n ih30 =>
          intro k T hm30 hv30
          obtain ⟨hv1, hv2, hv3⟩ := hv30
          refine j_iload_n dX8_back_30 rfl ?_
          refine j_sipush dX8_back_31 (by decide) ?_
          refine j_icmp_ge (tgt := 61) dX8_back_34 (by decide) (by omega) (by omega) (fun h34 => ?_) (fun h34 => ?_)
          · refine j_aload_n dX8_back_61 rfl ?_
            refine j_iconst dX8_back_62 ?_
            refine j_putI (i := 22) dX8_back_63 fg_X8_137 ft_8_22 fq_118_22 rfl (by omega) ?_
            refine j_aload_n dX8_back_66 rfl ?_
            refine j_getR dX8_back_67 fg_X8_28 fq_118_18 ?_
            refine j_iconst dX8_back_70 ?_
            refine j_iald (x := S 126 (189 * i)) dX8_back_71 aq_125 (by omega) (by omega) (by have q := hv3.2.1 0 (by omega) (by omega); rw [Int.add_zero, Int.add_zero] at q; rw [up_c (by decide)]; exact q) (fun hi71 => ?_)
            exact j_iret rfl dX8_back_72 (fun h => by cases h) (hP _ _ (Or.inr (Or.inr ⟨by omega, by omega, rfl, T, by rw [show k = 189 by omega] at hv3; exact hv3, rfl⟩)))
          · refine j_aload_n dX8_back_37 rfl ?_
            refine j_getR dX8_back_38 fg_X8_28 fq_118_18 ?_
            refine j_iload_n dX8_back_41 rfl ?_
            refine j_aload_n dX8_back_42 rfl ?_
            refine j_getR dX8_back_43 fg_X8_31 fq_118_19 ?_
            refine j_sipush dX8_back_46 (by decide) ?_
            refine j_iload_n dX8_back_49 rfl ?_
            refine j_imul dX8_back_50 ?_
            refine j_iload_n dX8_back_51 rfl ?_
            refine j_iadd dX8_back_52 ?_
            refine j_iald (x := S 126 (189 * i + k)) dX8_back_53 aq_126 (by omega) (by omega) (by rw [hv3.1 126 (by decide)]) (fun hi53 => ?_)
            refine j_iast dX8_back_54 aq_125 (by omega) (by omega) (by omega) ?_
            refine j_iinc (L' := [(0, .ref 118), (1, vi i), (2, vi (k + 1))]) dX8_back_55 (Nat.le_of_ble_eq_true rfl) rfl rfl ?_
            refine j_goto (tgt := 30) dX8_back_58 (by decide) ?_
            exact ih30 (k + 1) (up T 125 k (S 126 (189 * i + k))) (by omega) ⟨by omega, by omega, hv3.in hv1 (by omega) rfl⟩
      exact lp30 _ 0 S (Nat.lt_succ_self _) ⟨by omega, by omega, Mcp.z⟩
    · refine j_bipush dX8_back_25 (by decide) ?_
      exact j_iret rfl dX8_back_27 (fun h => by cases h) (hP _ _ (Or.inr (Or.inl ⟨by omega, by omega, rfl, rfl⟩)))
  · rw [he8]
    refine j_if_ne (tgt := 16) dX8_back_11 (by decide) (by omega)  (fun h => absurd h (by decide)) (fun _ => ?_)
    refine j_iconst dX8_back_14 ?_
    exact j_iret rfl dX8_back_15 (fun h => by cases h) (hP _ _ (Or.inl ⟨by omega, rfl, rfl⟩))
