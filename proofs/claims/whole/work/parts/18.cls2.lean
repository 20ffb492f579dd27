set_option maxRecDepth 100000 in
set_option maxHeartbeats 4000000 in
theorem t_X7_fairLaws (S : St) (hX : XI S) : EX mX7_fairLaws [.ref 0] S (fun r S' => r = fair (S 1 0) (S 27 2) (S 29) (S 30) (S 2) (S 33) ∧ Same [5, 6, 7] S S') := by
  suffices hh : ∀ P : Int → St → Prop, (∀ r S', (r = fair (S 1 0) (S 27 2) (S 29) (S 30) (S 2) (S 33) ∧ Same [5, 6, 7] S S') → P r S') → EX mX7_fairLaws [.ref 0] S P from hh _ (fun _ _ h => h)
  intro P hP
  refine EX.of (L := [(0, .ref 0)]) rfl rfl (Nat.le_of_ble_eq_true rfl) rfl ?_
  obtain ⟨⟨hn0, hn1⟩, hwl, ⟨hp0, hp1⟩, ⟨hs0, hs1⟩, hyr, hpt, hhd⟩ := id hX
  have hwt : ∀ k, 0 ≤ k → k < 6 → 1 ≤ S 2 k ∧ S 2 k ≤ 9 := fun k a b => ⟨(hwl k a b).1, (hwl k a b).2.1⟩
  refine j_iconst dX7_fairLaws_0 ?_
  refine j_istore_n (L' := [(0, .ref 0), (1, vi 0)]) dX7_fairLaws_1 (Nat.le_of_ble_eq_true rfl) rfl ?_
  refine j_iconst dX7_fairLaws_2 ?_
  refine j_istore_n (L' := [(0, .ref 0), (1, vi 0), (2, vi 0)]) dX7_fairLaws_3 (Nat.le_of_ble_eq_true rfl) rfl ?_
  have lp4 : ∀ (n : Nat) (b k : Int) (T : St), (5 - k).toNat < n → (0 ≤ k ∧ k ≤ 5 ∧ Same [5, 6, 7] S T ∧ b = sm (fun law => if twB (S 1 0) (S 27 2) (S 29) (S 30) (S 2) (S 33) law = -9 then ((2 ^ law.toNat : Nat) : Int) else 0) k.toNat) → JJ mX7_fairLaws (RX mX7_fairLaws P) 4 [(0, .ref 0), (1, vi b), (2, vi k)] [] T := by
    intro n
    induction n with
    | zero => intro b k T hm; exact absurd hm (Nat.not_lt_zero _)
    | succ n ih4 =>
      intro b k T hm4 hv4
      obtain ⟨hv1, hv2, hv3, hv4⟩ := hv4
      have hb := bs_lt (f := fun law => if twB (S 1 0) (S 27 2) (S 29) (S 30) (S 2) (S 33) law = -9 then ((2 ^ law.toNat : Nat) : Int) else 0) (n := k.toNat) (fun i i0 i1 => by split; exact Or.inr rfl; exact Or.inl rfl)
      rw [← hv4] at hb
      have eT_1 : T 1 = S 1 := hv3 1 (by decide)
      have eT_2 : T 2 = S 2 := hv3 2 (by decide)
      have eT_3 : T 3 = S 3 := hv3 3 (by decide)
      have eT_27 : T 27 = S 27 := hv3 27 (by decide)
      have eT_28 : T 28 = S 28 := hv3 28 (by decide)
      have eT_29 : T 29 = S 29 := hv3 29 (by decide)
      have eT_30 : T 30 = S 30 := hv3 30 (by decide)
      have eT_31 : T 31 = S 31 := hv3 31 (by decide)
      have eT_32 : T 32 = S 32 := hv3 32 (by decide)
      have eT_33 : T 33 = S 33 := hv3 33 (by decide)
      refine j_iload_n dX7_fairLaws_4 rfl ?_
      refine j_iconst dX7_fairLaws_5 ?_
      refine j_icmp_ge (tgt := 31) dX7_fairLaws_6 (by decide) (by omega) (by omega) (fun h6 => ?_) (fun h6 => ?_)
      · refine j_iload_n dX7_fairLaws_31 rfl ?_
        exact j_iret rfl dX7_fairLaws_32 (fun h => by cases h) (hP _ _ ⟨by rw [hv4, show k = 5 by omega]; rfl, hv3⟩)
      · refine j_aload_n dX7_fairLaws_9 rfl ?_
        refine j_iload_n dX7_fairLaws_10 rfl ?_
        refine j_callVi (As := [vi k]) (rest := []) (t_X7_firstTwins _ k (hX.same hv3 (by decide)) (by omega) (by omega)) rfl cm_X7_firstTwins ci_X7_firstTwins ml_X7_199 oq_0 rfl (Nat.le_of_ble_eq_true rfl) (Nat.le_of_ble_eq_true rfl) dX7_fairLaws_11 (fun r11 S11 hp11 => ?_)
        obtain ⟨ht11, hsm11⟩ := hp11
        rw [eT_1, eT_2, eT_27, eT_29, eT_30, eT_33] at ht11
        have hsm11 := hv3.tr hsm11
        have htb11 := tw_bd ht11 (by omega)
        have hte11 : twB (S 1 0) (S 27 2) (S 29) (S 30) (S 2) (S 33) k = r11 := tw_eq ht11
        refine j_bipush dX7_fairLaws_14 (by decide) ?_
        refine j_icmp_ne (tgt := 25) dX7_fairLaws_16 (by decide) (by omega) (by omega) (fun h16 => ?_) (fun h16 => ?_)
        · refine j_iinc (L' := [(0, .ref 0), (1, vi b), (2, vi (k + 1))]) dX7_fairLaws_25 (Nat.le_of_ble_eq_true rfl) rfl rfl ?_
          refine j_goto (tgt := 4) dX7_fairLaws_28 (by decide) ?_
          exact ih4 b (k + 1) S11 (by omega) ⟨by omega, by omega, hsm11, by rw [sm_s (by omega)]; split <;> omega⟩
        · refine j_iload_n dX7_fairLaws_19 rfl ?_
          refine j_iconst dX7_fairLaws_20 ?_
          refine j_iload_n dX7_fairLaws_21 rfl ?_
          refine j_shl dX7_fairLaws_22 (by omega) (by omega) ?_
          refine j_ior dX7_fairLaws_23 (by omega) (by omega) ?_
          rw [or_bit (by omega) (by omega)]
          refine j_istore_n (L' := [(0, .ref 0), (1, vi (b + ((2 ^ k.toNat : Nat) : Int))), (2, vi k)]) dX7_fairLaws_24 (Nat.le_of_ble_eq_true rfl) rfl ?_
          refine j_iinc (L' := [(0, .ref 0), (1, vi (b + ((2 ^ k.toNat : Nat) : Int))), (2, vi (k + 1))]) dX7_fairLaws_25 (Nat.le_of_ble_eq_true rfl) rfl rfl ?_
          refine j_goto (tgt := 4) dX7_fairLaws_28 (by decide) ?_
          exact ih4 (b + ((2 ^ k.toNat : Nat) : Int)) (k + 1) S11 (by omega) ⟨by omega, by omega, hsm11, by rw [sm_s (by omega)]; split <;> omega⟩
  exact lp4 _ 0 0 S (Nat.lt_succ_self _) ⟨by omega, by omega, Same.rf, rfl⟩
set_option maxRecDepth 100000 in
set_option maxHeartbeats 4000000 in
theorem t_X7_type (S : St) (l : Int) (hl : InR l) (h0 : 0 ≤ S 0 12) : EX mX7_type [.ref 0, vi l] S (fun r S' => (¬ (0 ≤ l ∧ l ≤ 255) ∧ r = -1 ∧ S' = S) ∨ ((0 ≤ l ∧ l ≤ 255) ∧ 200 ≤ S 0 12 ∧ r = -3 ∧ S' = S) ∨ ((0 ≤ l ∧ l ≤ 255) ∧ S 0 12 < 200 ∧ r = S 0 12 + 1 ∧ S' = up (up S 16 (S 0 12) l) 0 12 (S 0 12 + 1))) := by
  suffices hh : ∀ P : Int → St → Prop, (∀ r S', ((¬ (0 ≤ l ∧ l ≤ 255) ∧ r = -1 ∧ S' = S) ∨ ((0 ≤ l ∧ l ≤ 255) ∧ 200 ≤ S 0 12 ∧ r = -3 ∧ S' = S) ∨ ((0 ≤ l ∧ l ≤ 255) ∧ S 0 12 < 200 ∧ r = S 0 12 + 1 ∧ S' = up (up S 16 (S 0 12) l) 0 12 (S 0 12 + 1))) → P r S') → EX mX7_type [.ref 0, vi l] S P from hh _ (fun _ _ h => h)
  intro P hP
  refine EX.of (L := [(0, .ref 0), (1, vi l)]) rfl rfl (Nat.le_of_ble_eq_true rfl) rfl ?_
  refine j_iload_n dX7_type_0 rfl ?_
  refine j_if_lt (tgt := 11) dX7_type_1 (by decide) (by omega)  (fun h1 => ?_) (fun h1 => ?_)
  · refine j_iconst dX7_type_11 ?_
    exact j_iret rfl dX7_type_12 (fun h => by cases h) (hP _ _ (Or.inl ⟨by omega, rfl, rfl⟩))
  · refine j_iload_n dX7_type_4 rfl ?_
    refine j_sipush dX7_type_5 (by decide) ?_
    refine j_icmp_le (tgt := 13) dX7_type_8 (by decide) (by omega) (by omega) (fun h8 => ?_) (fun h8 => ?_)
    · refine j_aload_n dX7_type_13 rfl ?_
      refine j_getI (x := S 0 12) dX7_type_14 fg_X7_82 fq_0_12 rfl (fun hi14 => ?_)
      refine j_sipush dX7_type_17 (by decide) ?_
      refine j_icmp_lt (tgt := 26) dX7_type_20 (by decide) (by omega) (by omega) (fun h20 => ?_) (fun h20 => ?_)
      · refine j_aload_n dX7_type_26 rfl ?_
        refine j_getR dX7_type_27 fg_X7_63 fq_0_8 ?_
        refine j_aload_n dX7_type_30 rfl ?_
        refine j_getI (x := S 0 12) dX7_type_31 fg_X7_82 fq_0_12 rfl (fun hi31 => ?_)
        refine j_iload_n dX7_type_34 rfl ?_
        refine j_iast dX7_type_35 aq_16 (by omega) (by omega) (by omega) ?_
        refine j_aload_n dX7_type_36 rfl ?_
        refine j_dup dX7_type_37 rfl ?_
        refine j_getI (x := S 0 12) dX7_type_38 fg_X7_82 fq_0_12 rfl (fun hi38 => ?_)
        refine j_iconst dX7_type_41 ?_
        refine j_iadd dX7_type_42 ?_
        refine j_putI (i := 12) dX7_type_43 fg_X7_82 ft_7_12 fq_0_12 rfl (by omega) ?_
        refine j_aload_n dX7_type_46 rfl ?_
        refine j_getI (x := (S 0 12) + 1) dX7_type_47 fg_X7_82 fq_0_12 rfl (fun hi47 => ?_)
        exact j_iret rfl dX7_type_50 (fun h => by cases h) (hP _ _ (Or.inr (Or.inr ⟨by omega, by omega, rfl, rfl⟩)))
      · refine j_bipush dX7_type_23 (by decide) ?_
        exact j_iret rfl dX7_type_25 (fun h => by cases h) (hP _ _ (Or.inr (Or.inl ⟨by omega, by omega, rfl, rfl⟩)))
    · refine j_iconst dX7_type_11 ?_
      exact j_iret rfl dX7_type_12 (fun h => by cases h) (hP _ _ (Or.inl ⟨by omega, rfl, rfl⟩))
set_option maxRecDepth 100000 in
set_option maxHeartbeats 4000000 in
theorem t_X7_clear (S : St) : EX mX7_clear [.ref 0] S (fun r S' => r = S 0 12 ∧ S' = up S 0 12 0) := by
  suffices hh : ∀ P : Int → St → Prop, (∀ r S', (r = S 0 12 ∧ S' = up S 0 12 0) → P r S') → EX mX7_clear [.ref 0] S P from hh _ (fun _ _ h => h)
  intro P hP
  refine EX.of (L := [(0, .ref 0)]) rfl rfl (Nat.le_of_ble_eq_true rfl) rfl ?_
  refine j_aload_n dX7_clear_0 rfl ?_
  refine j_getI (x := S 0 12) dX7_clear_1 fg_X7_82 fq_0_12 rfl (fun hi1 => ?_)
  refine j_istore_n (L' := [(0, .ref 0), (1, vi (S 0 12))]) dX7_clear_4 (Nat.le_of_ble_eq_true rfl) rfl ?_
  refine j_aload_n dX7_clear_5 rfl ?_
  refine j_iconst dX7_clear_6 ?_
  refine j_putI (i := 12) dX7_clear_7 fg_X7_82 ft_7_12 fq_0_12 rfl (by omega) ?_
  refine j_iload_n dX7_clear_10 rfl ?_
  exact j_iret rfl dX7_clear_11 (fun h => by cases h) (hP _ _ ⟨rfl, rfl⟩)
set_option maxRecDepth 100000 in
set_option maxHeartbeats 4000000 in
theorem t_X7_forget (S : St) : EX mX7_forget [.ref 0] S (fun r S' => r = S 0 13 ∧ S' = up S 0 13 0) := by
  suffices hh : ∀ P : Int → St → Prop, (∀ r S', (r = S 0 13 ∧ S' = up S 0 13 0) → P r S') → EX mX7_forget [.ref 0] S P from hh _ (fun _ _ h => h)
  intro P hP
  refine EX.of (L := [(0, .ref 0)]) rfl rfl (Nat.le_of_ble_eq_true rfl) rfl ?_
  refine j_aload_n dX7_forget_0 rfl ?_
  refine j_getI (x := S 0 13) dX7_forget_1 fg_X7_86 fq_0_13 rfl (fun hi1 => ?_)
  refine j_istore_n (L' := [(0, .ref 0), (1, vi (S 0 13))]) dX7_forget_4 (Nat.le_of_ble_eq_true rfl) rfl ?_
  refine j_aload_n dX7_forget_5 rfl ?_
  refine j_iconst dX7_forget_6 ?_
  refine j_putI (i := 13) dX7_forget_7 fg_X7_86 ft_7_13 fq_0_13 rfl (by omega) ?_
  refine j_iload_n dX7_forget_10 rfl ?_
  exact j_iret rfl dX7_forget_11 (fun h => by cases h) (hP _ _ ⟨rfl, rfl⟩)
set_option maxRecDepth 100000 in
set_option maxHeartbeats 4000000 in
theorem t_X7_trace (S : St) : EX mX7_trace [.ref 0] S (fun r S' => r = S 13 2 ∧ S' = S) := by
  suffices hh : ∀ P : Int → St → Prop, (∀ r S', (r = S 13 2 ∧ S' = S) → P r S') → EX mX7_trace [.ref 0] S P from hh _ (fun _ _ h => h)
  intro P hP
  refine EX.of (L := [(0, .ref 0)]) rfl rfl (Nat.le_of_ble_eq_true rfl) rfl ?_
  refine j_aload_n dX7_trace_0 rfl ?_
  refine j_getR dX7_trace_1 fg_X7_51 fq_0_5 ?_
  refine j_getL (x := S 13 2) dX7_trace_4 fg_X7_281 fq_13_2 rfl ?_
  exact j_lret rfl dX7_trace_7 (fun h => by cases h) (hP _ _ ⟨rfl, rfl⟩)
set_option maxRecDepth 100000 in
set_option maxHeartbeats 4000000 in
theorem t_X7_saw (S : St) (k mk : Int) (hk : InR k) (hm : InR mk) (h0 : 0 ≤ S 0 13) : EX mX7_saw [.ref 0, vi k, vi mk] S (fun r S' => (¬ ((0 ≤ k ∧ k < S 1 0) ∧ isMk mk) ∧ r = -1 ∧ S' = S) ∨ (((0 ≤ k ∧ k < S 1 0) ∧ isMk mk) ∧ 6 ≤ S 0 13 ∧ r = -3 ∧ S' = S) ∨ (((0 ≤ k ∧ k < S 1 0) ∧ isMk mk) ∧ S 0 13 < 6 ∧ r = S 0 13 + 1 ∧ S' = up (up (up S 25 (S 0 13) k) 26 (S 0 13) mk) 0 13 (S 0 13 + 1))) := by
  suffices hh : ∀ P : Int → St → Prop, (∀ r S', ((¬ ((0 ≤ k ∧ k < S 1 0) ∧ isMk mk) ∧ r = -1 ∧ S' = S) ∨ (((0 ≤ k ∧ k < S 1 0) ∧ isMk mk) ∧ 6 ≤ S 0 13 ∧ r = -3 ∧ S' = S) ∨ (((0 ≤ k ∧ k < S 1 0) ∧ isMk mk) ∧ S 0 13 < 6 ∧ r = S 0 13 + 1 ∧ S' = up (up (up S 25 (S 0 13) k) 26 (S 0 13) mk) 0 13 (S 0 13 + 1))) → P r S') → EX mX7_saw [.ref 0, vi k, vi mk] S P from hh _ (fun _ _ h => h)
  intro P hP
  refine EX.of (L := [(0, .ref 0), (1, vi k), (2, vi mk)]) rfl rfl (Nat.le_of_ble_eq_true rfl) rfl ?_
  refine j_aload_n dX7_saw_0 rfl ?_
  refine j_iload_n dX7_saw_1 rfl ?_
  refine j_callVi (As := [vi k]) (rest := []) (t_X7_isPlace _ k (by omega)) rfl cm_X7_isPlace ci_X7_isPlace ml_X7_107 oq_0 rfl (Nat.le_of_ble_eq_true rfl) (Nat.le_of_ble_eq_true rfl) dX7_saw_2 (fun r2 S2 hp2 => ?_)
  obtain ⟨⟨rfl, hc2⟩ | ⟨rfl, hc2⟩, he2⟩ := hp2
  · rw [he2]
    refine j_if_eq (tgt := 15) dX7_saw_5 (by decide) (by omega)  (fun h => absurd h (by decide)) (fun _ => ?_)
    refine j_iload_n dX7_saw_8 rfl ?_
    refine j_callSi (As := [vi mk]) (rest := []) (t_X7_isMake _ mk (by omega)) rfl cm_X7_isMake cs_X7_isMake ml_X7_222 rfl (Nat.le_of_ble_eq_true rfl) (Nat.le_of_ble_eq_true rfl) dX7_saw_9 (fun r9 S9 hp9 => ?_)
    obtain ⟨⟨rfl, hc9⟩ | ⟨rfl, hc9⟩, he9⟩ := hp9
    · rw [he9]
      refine j_if_ne (tgt := 17) dX7_saw_12 (by decide) (by omega)  (fun _ => ?_) (fun h => absurd h (by decide))
      refine j_aload_n dX7_saw_17 rfl ?_
      refine j_getI (x := S 0 13) dX7_saw_18 fg_X7_86 fq_0_13 rfl (fun hi18 => ?_)
      refine j_bipush dX7_saw_21 (by decide) ?_
      refine j_icmp_lt (tgt := 29) dX7_saw_23 (by decide) (by omega) (by omega) (fun h23 => ?_) (fun h23 => ?_)
      · refine j_aload_n dX7_saw_29 rfl ?_
        refine j_getR dX7_saw_30 fg_X7_76 fq_0_10 ?_
        refine j_aload_n dX7_saw_33 rfl ?_
        refine j_getI (x := S 0 13) dX7_saw_34 fg_X7_86 fq_0_13 rfl (fun hi34 => ?_)
        refine j_iload_n dX7_saw_37 rfl ?_
        refine j_iast dX7_saw_38 aq_25 (by omega) (by omega) (by omega) ?_
        refine j_aload_n dX7_saw_39 rfl ?_
        refine j_getR dX7_saw_40 fg_X7_79 fq_0_11 ?_
        refine j_aload_n dX7_saw_43 rfl ?_
        refine j_getI (x := S 0 13) dX7_saw_44 fg_X7_86 fq_0_13 rfl (fun hi44 => ?_)
        refine j_iload_n dX7_saw_47 rfl ?_
        refine j_iast dX7_saw_48 aq_26 (by omega) (by omega) (by omega) ?_
        refine j_aload_n dX7_saw_49 rfl ?_
        refine j_dup dX7_saw_50 rfl ?_
        refine j_getI (x := S 0 13) dX7_saw_51 fg_X7_86 fq_0_13 rfl (fun hi51 => ?_)
        refine j_iconst dX7_saw_54 ?_
        refine j_iadd dX7_saw_55 ?_
        refine j_putI (i := 13) dX7_saw_56 fg_X7_86 ft_7_13 fq_0_13 rfl (by omega) ?_
        refine j_aload_n dX7_saw_59 rfl ?_
        refine j_getI (x := (S 0 13) + 1) dX7_saw_60 fg_X7_86 fq_0_13 rfl (fun hi60 => ?_)
        exact j_iret rfl dX7_saw_63 (fun h => by cases h) (hP _ _ (Or.inr (Or.inr ⟨by omega, by omega, rfl, rfl⟩)))
      · refine j_bipush dX7_saw_26 (by decide) ?_
        exact j_iret rfl dX7_saw_28 (fun h => by cases h) (hP _ _ (Or.inr (Or.inl ⟨by omega, by omega, rfl, rfl⟩)))
    · rw [he9]
      refine j_if_ne (tgt := 17) dX7_saw_12 (by decide) (by omega)  (fun h => absurd h (by decide)) (fun _ => ?_)
      refine j_iconst dX7_saw_15 ?_
      exact j_iret rfl dX7_saw_16 (fun h => by cases h) (hP _ _ (Or.inl ⟨by omega, rfl, rfl⟩))
  · rw [he2]
    refine j_if_eq (tgt := 15) dX7_saw_5 (by decide) (by omega)  (fun _ => ?_) (fun h => absurd h (by decide))
    refine j_iconst dX7_saw_15 ?_
    exact j_iret rfl dX7_saw_16 (fun h => by cases h) (hP _ _ (Or.inl ⟨by omega, rfl, rfl⟩))
set_option maxRecDepth 100000 in
set_option maxHeartbeats 4000000 in
theorem t_X7_place (S : St) (k what : Int) (r_k : InR k) (r_what : InR what) (hX : XI S) : EX mX7_place [.ref 0, vi k, vi what] S (fun r S' => r = fPlace (S 1 0) (S 2) (S 3) (S 27 1) (S 31) (S 28) k what ∧ S' = S) := by
  suffices hh : ∀ P : Int → St → Prop, (∀ r S', (r = fPlace (S 1 0) (S 2) (S 3) (S 27 1) (S 31) (S 28) k what ∧ S' = S) → P r S') → EX mX7_place [.ref 0, vi k, vi what] S P from hh _ (fun _ _ h => h)
  intro P hP
  refine EX.of (L := [(0, .ref 0), (1, vi k), (2, vi what)]) rfl rfl (Nat.le_of_ble_eq_true rfl) rfl ?_
  obtain ⟨⟨hn0, hn1⟩, hwl, ⟨hp0, hp1⟩, ⟨hs0, hs1⟩, hyr, hpt, hhd⟩ := id hX
  have hwt : ∀ k, 0 ≤ k → k < 6 → 1 ≤ S 2 k ∧ S 2 k ≤ 9 := fun k a b => ⟨(hwl k a b).1, (hwl k a b).2.1⟩
  refine j_aload_n dX7_place_0 rfl ?_
  refine j_iload_n dX7_place_1 rfl ?_
  refine j_callVi (As := [vi k]) (rest := []) (t_X7_isPlace _ k (by omega)) rfl cm_X7_isPlace ci_X7_isPlace ml_X7_107 oq_0 rfl (Nat.le_of_ble_eq_true rfl) (Nat.le_of_ble_eq_true rfl) dX7_place_2 (fun r2 S2 hp2 => ?_)
  obtain ⟨⟨rfl, hc2⟩ | ⟨rfl, hc2⟩, he2⟩ := hp2
  · rw [he2]
    refine j_if_ne (tgt := 10) dX7_place_5 (by decide) (by omega)  (fun _ => ?_) (fun h => absurd h (by decide))
    refine j_iload_n dX7_place_10 rfl ?_
    rcases (by omega : (what < 0 ∨ 2 < what) ∨ what = 0 ∨ what = 1 ∨ what = 2) with hs11 | hs11 | hs11 | hs11
    · refine j_tblOut (tgt := 65) dX7_place_11 (by omega) (by omega) (by decide) ?_
      refine j_iconst dX7_place_65 ?_
      exact j_iret rfl dX7_place_66 (fun h => by cases h) (hP _ _ ⟨by unfold fPlace lyO; (repeat' split) <;> omega, rfl⟩)
    · refine j_tblIn (off := 25) (tgt := 36) dX7_place_11 (by omega) (by omega) (by omega) (by rw [hs11]; decide) (by decide) ?_
      refine j_aload_n dX7_place_36 rfl ?_
      refine j_getR dX7_place_37 fg_X7_10 fq_0_0 ?_
      refine j_getR dX7_place_40 fg_X7_111 fq_1_1 ?_
      refine j_iload_n dX7_place_43 rfl ?_
      refine j_iald (x := S 2 k) dX7_place_44 aq_2 (by omega) (by omega) rfl (fun hi44 => ?_)
      exact j_iret rfl dX7_place_45 (fun h => by cases h) (hP _ _ ⟨by unfold fPlace lyO; (repeat' split) <;> omega, rfl⟩)
    · refine j_tblIn (off := 35) (tgt := 46) dX7_place_11 (by omega) (by omega) (by omega) (by rw [hs11]; decide) (by decide) ?_
      refine j_aload_n dX7_place_46 rfl ?_
      refine j_getR dX7_place_47 fg_X7_10 fq_0_0 ?_
      refine j_getR dX7_place_50 fg_X7_114 fq_1_2 ?_
      refine j_iload_n dX7_place_53 rfl ?_
      refine j_iald (x := S 3 k) dX7_place_54 aq_3 (by omega) (by omega) rfl (fun hi54 => ?_)
      exact j_iret rfl dX7_place_55 (fun h => by cases h) (hP _ _ ⟨by unfold fPlace lyO; (repeat' split) <;> omega, rfl⟩)
    · refine j_tblIn (off := 45) (tgt := 56) dX7_place_11 (by omega) (by omega) (by omega) (by rw [hs11]; decide) (by decide) ?_
      refine j_aload_n dX7_place_56 rfl ?_
      refine j_getR dX7_place_57 fg_X7_19 fq_0_1 ?_
      refine j_iload_n dX7_place_60 rfl ?_
      refine j_callVi (As := [vi k]) (rest := []) (t_X1_lyingOf _ k (by omega) (by omega) (by omega)) rfl cm_X1_lyingOf ci_X1_lyingOf ml_X7_117 oq_27 rfl (Nat.le_of_ble_eq_true rfl) (Nat.le_of_ble_eq_true rfl) dX7_place_61 (fun r61 S61 hp61 => ?_)
      obtain ⟨hr61, he61⟩ := hp61
      rw [he61]
      exact j_iret rfl dX7_place_64 (fun h => by cases h) (hP _ _ ⟨by unfold fPlace lyO; (repeat' split) <;> omega, rfl⟩)
  · rw [he2]
    refine j_if_ne (tgt := 10) dX7_place_5 (by decide) (by omega)  (fun h => absurd h (by decide)) (fun _ => ?_)
    refine j_iconst dX7_place_8 ?_
    exact j_iret rfl dX7_place_9 (fun h => by cases h) (hP _ _ ⟨by unfold fPlace lyO; (repeat' split) <;> omega, rfl⟩)
set_option maxRecDepth 100000 in
set_option maxHeartbeats 4000000 in
theorem t_X7_part (S : St) (p what : Int) (r_p : InR p) (r_what : InR what) (hX : XI S) : EX mX7_part [.ref 0, vi p, vi what] S (fun r S' => r = fPart (S 27 1) (S 28) (S 29) (S 30) (S 31) p what ∧ S' = S) := by
  suffices hh : ∀ P : Int → St → Prop, (∀ r S', (r = fPart (S 27 1) (S 28) (S 29) (S 30) (S 31) p what ∧ S' = S) → P r S') → EX mX7_part [.ref 0, vi p, vi what] S P from hh _ (fun _ _ h => h)
  intro P hP
  refine EX.of (L := [(0, .ref 0), (1, vi p), (2, vi what)]) rfl rfl (Nat.le_of_ble_eq_true rfl) rfl ?_
  obtain ⟨⟨hn0, hn1⟩, hwl, ⟨hp0, hp1⟩, ⟨hs0, hs1⟩, hyr, hpt, hhd⟩ := id hX
  have hwt : ∀ k, 0 ≤ k → k < 6 → 1 ≤ S 2 k ∧ S 2 k ≤ 9 := fun k a b => ⟨(hwl k a b).1, (hwl k a b).2.1⟩
  refine j_aload_n dX7_part_0 rfl ?_
  refine j_iload_n dX7_part_1 rfl ?_
  refine j_callVi (As := [vi p]) (rest := []) (t_X7_isPart _ p (by omega)) rfl cm_X7_isPart ci_X7_isPart ml_X7_120 oq_0 rfl (Nat.le_of_ble_eq_true rfl) (Nat.le_of_ble_eq_true rfl) dX7_part_2 (fun r2 S2 hp2 => ?_)
  obtain ⟨⟨rfl, hc2⟩ | ⟨rfl, hc2⟩, he2⟩ := hp2
  · rw [he2]
    refine j_if_ne (tgt := 10) dX7_part_5 (by decide) (by omega)  (fun _ => ?_) (fun h => absurd h (by decide))
    refine j_iload_n dX7_part_10 rfl ?_
    rcases (by omega : (what < 0 ∨ 3 < what) ∨ what = 0 ∨ what = 1 ∨ what = 2 ∨ what = 3) with hs11 | hs11 | hs11 | hs11 | hs11
    · refine j_tblOut (tgt := 80) dX7_part_11 (by omega) (by omega) (by decide) ?_
      refine j_iconst dX7_part_80 ?_
      exact j_iret rfl dX7_part_81 (fun h => by cases h) (hP _ _ ⟨by unfold fPart; (repeat' split) <;> omega, rfl⟩)
    · refine j_tblIn (off := 29) (tgt := 40) dX7_part_11 (by omega) (by omega) (by omega) (by rw [hs11]; decide) (by decide) ?_
      refine j_aload_n dX7_part_40 rfl ?_
      refine j_getR dX7_part_41 fg_X7_19 fq_0_1 ?_
      refine j_getR dX7_part_44 fg_X7_123 fq_27_3 ?_
      refine j_iload_n dX7_part_47 rfl ?_
      refine j_iald (x := S 28 p) dX7_part_48 aq_28 (by omega) (by omega) rfl (fun hi48 => ?_)
      exact j_iret rfl dX7_part_49 (fun h => by cases h) (hP _ _ ⟨by unfold fPart; (repeat' split) <;> omega, rfl⟩)
    · refine j_tblIn (off := 39) (tgt := 50) dX7_part_11 (by omega) (by omega) (by omega) (by rw [hs11]; decide) (by decide) ?_
      refine j_aload_n dX7_part_50 rfl ?_
      refine j_getR dX7_part_51 fg_X7_19 fq_0_1 ?_
      refine j_getR dX7_part_54 fg_X7_126 fq_27_4 ?_
      refine j_iload_n dX7_part_57 rfl ?_
      refine j_iald (x := S 29 p) dX7_part_58 aq_29 (by omega) (by omega) rfl (fun hi58 => ?_)
      exact j_iret rfl dX7_part_59 (fun h => by cases h) (hP _ _ ⟨by unfold fPart; (repeat' split) <;> omega, rfl⟩)
    · refine j_tblIn (off := 49) (tgt := 60) dX7_part_11 (by omega) (by omega) (by omega) (by rw [hs11]; decide) (by decide) ?_
      refine j_aload_n dX7_part_60 rfl ?_
      refine j_getR dX7_part_61 fg_X7_19 fq_0_1 ?_
      refine j_getR dX7_part_64 fg_X7_129 fq_27_5 ?_
      refine j_iload_n dX7_part_67 rfl ?_
      refine j_iald (x := S 30 p) dX7_part_68 aq_30 (by omega) (by omega) rfl (fun hi68 => ?_)
      exact j_iret rfl dX7_part_69 (fun h => by cases h) (hP _ _ ⟨by unfold fPart; (repeat' split) <;> omega, rfl⟩)
    · refine j_tblIn (off := 59) (tgt := 70) dX7_part_11 (by omega) (by omega) (by omega) (by rw [hs11]; decide) (by decide) ?_
      refine j_aload_n dX7_part_70 rfl ?_
      refine j_getR dX7_part_71 fg_X7_19 fq_0_1 ?_
      refine j_getR dX7_part_74 fg_X7_132 fq_27_6 ?_
      refine j_iload_n dX7_part_77 rfl ?_
      refine j_iald (x := S 31 p) dX7_part_78 aq_31 (by omega) (by omega) rfl (fun hi78 => ?_)
      exact j_iret rfl dX7_part_79 (fun h => by cases h) (hP _ _ ⟨by unfold fPart; (repeat' split) <;> omega, rfl⟩)
  · rw [he2]
    refine j_if_ne (tgt := 10) dX7_part_5 (by decide) (by omega)  (fun h => absurd h (by decide)) (fun _ => ?_)
    refine j_iconst dX7_part_8 ?_
    exact j_iret rfl dX7_part_9 (fun h => by cases h) (hP _ _ ⟨by unfold fPart; (repeat' split) <;> omega, rfl⟩)
set_option maxRecDepth 100000 in
set_option maxHeartbeats 4000000 in
theorem t_X7_inPlace (S : St) (s k : Int) (r_s : InR s) (r_k : InR k) (hX : XI S) : EX mX7_inPlace [.ref 0, vi s, vi k] S (fun r S' => r = fInPlace (S 1 0) (S 27 2) (S 33) s k ∧ S' = S) := by
  suffices hh : ∀ P : Int → St → Prop, (∀ r S', (r = fInPlace (S 1 0) (S 27 2) (S 33) s k ∧ S' = S) → P r S') → EX mX7_inPlace [.ref 0, vi s, vi k] S P from hh _ (fun _ _ h => h)
  intro P hP
  refine EX.of (L := [(0, .ref 0), (1, vi s), (2, vi k)]) rfl rfl (Nat.le_of_ble_eq_true rfl) rfl ?_
  obtain ⟨⟨hn0, hn1⟩, hwl, ⟨hp0, hp1⟩, ⟨hs0, hs1⟩, hyr, hpt, hhd⟩ := id hX
  have hwt : ∀ k, 0 ≤ k → k < 6 → 1 ≤ S 2 k ∧ S 2 k ≤ 9 := fun k a b => ⟨(hwl k a b).1, (hwl k a b).2.1⟩
  refine j_aload_n dX7_inPlace_0 rfl ?_
  refine j_iload_n dX7_inPlace_1 rfl ?_
  refine j_callVi (As := [vi s]) (rest := []) (t_X7_isShip _ s (by omega)) rfl cm_X7_isShip ci_X7_isShip ml_X7_135 oq_0 rfl (Nat.le_of_ble_eq_true rfl) (Nat.le_of_ble_eq_true rfl) dX7_inPlace_2 (fun r2 S2 hp2 => ?_)
  obtain ⟨⟨rfl, hc2⟩ | ⟨rfl, hc2⟩, he2⟩ := hp2
  · rw [he2]
    refine j_if_eq (tgt := 16) dX7_inPlace_5 (by decide) (by omega)  (fun h => absurd h (by decide)) (fun _ => ?_)
    refine j_aload_n dX7_inPlace_8 rfl ?_
    refine j_iload_n dX7_inPlace_9 rfl ?_
    refine j_callVi (As := [vi k]) (rest := []) (t_X7_isPlace _ k (by omega)) rfl cm_X7_isPlace ci_X7_isPlace ml_X7_107 oq_0 rfl (Nat.le_of_ble_eq_true rfl) (Nat.le_of_ble_eq_true rfl) dX7_inPlace_10 (fun r10 S10 hp10 => ?_)
    obtain ⟨⟨rfl, hc10⟩ | ⟨rfl, hc10⟩, he10⟩ := hp10
    · rw [he10]
      refine j_if_ne (tgt := 18) dX7_inPlace_13 (by decide) (by omega)  (fun _ => ?_) (fun h => absurd h (by decide))
      refine j_aload_n dX7_inPlace_18 rfl ?_
      refine j_getR dX7_inPlace_19 fg_X7_19 fq_0_1 ?_
      refine j_iload_n dX7_inPlace_22 rfl ?_
      refine j_iload_n dX7_inPlace_23 rfl ?_
      refine j_callVi (As := [vi s, vi k]) (rest := []) (t_X1_partAt _ s k (by omega) (by omega) (by omega) (by omega)) rfl cm_X1_partAt ci_X1_partAt ml_X7_138 oq_27 rfl (Nat.le_of_ble_eq_true rfl) (Nat.le_of_ble_eq_true rfl) dX7_inPlace_24 (fun r24 S24 hp24 => ?_)
      obtain ⟨hr24, he24⟩ := hp24
      rw [he24]
      rw [show r24 = S 33 (s * 6 + k) from hr24.trans rfl]
      exact j_iret rfl dX7_inPlace_27 (fun h => by cases h) (hP _ _ ⟨by unfold fInPlace; (repeat' split) <;> omega, rfl⟩)
    · rw [he10]
      refine j_if_ne (tgt := 18) dX7_inPlace_13 (by decide) (by omega)  (fun h => absurd h (by decide)) (fun _ => ?_)
      refine j_iconst dX7_inPlace_16 ?_
      exact j_iret rfl dX7_inPlace_17 (fun h => by cases h) (hP _ _ ⟨by unfold fInPlace; (repeat' split) <;> omega, rfl⟩)
  · rw [he2]
    refine j_if_eq (tgt := 16) dX7_inPlace_5 (by decide) (by omega)  (fun _ => ?_) (fun h => absurd h (by decide))
    refine j_iconst dX7_inPlace_16 ?_
    exact j_iret rfl dX7_inPlace_17 (fun h => by cases h) (hP _ _ ⟨by unfold fInPlace; (repeat' split) <;> omega, rfl⟩)
set_option maxRecDepth 100000 in
set_option maxHeartbeats 4000000 in
theorem t_X7_ship (S : St) (s what : Int) (r_s : InR s) (r_what : InR what) (hX : XI S) : EX mX7_ship [.ref 0, vi s, vi what] S (fun r S' => r = fShip (S 1 0) (S 27 2) (S 3) (S 30) (S 33) (S 32) s what ∧ S' = S) := by
  suffices hh : ∀ P : Int → St → Prop, (∀ r S', (r = fShip (S 1 0) (S 27 2) (S 3) (S 30) (S 33) (S 32) s what ∧ S' = S) → P r S') → EX mX7_ship [.ref 0, vi s, vi what] S P from hh _ (fun _ _ h => h)
  intro P hP
  refine EX.of (L := [(0, .ref 0), (1, vi s), (2, vi what)]) rfl rfl (Nat.le_of_ble_eq_true rfl) rfl ?_
  obtain ⟨⟨hn0, hn1⟩, hwl, ⟨hp0, hp1⟩, ⟨hs0, hs1⟩, hyr, hpt, hhd⟩ := id hX
  have hwt : ∀ k, 0 ≤ k → k < 6 → 1 ≤ S 2 k ∧ S 2 k ≤ 9 := fun k a b => ⟨(hwl k a b).1, (hwl k a b).2.1⟩
  refine j_aload_n dX7_ship_0 rfl ?_
  refine j_iload_n dX7_ship_1 rfl ?_
  refine j_callVi (As := [vi s]) (rest := []) (t_X7_isShip _ s (by omega)) rfl cm_X7_isShip ci_X7_isShip ml_X7_135 oq_0 rfl (Nat.le_of_ble_eq_true rfl) (Nat.le_of_ble_eq_true rfl) dX7_ship_2 (fun r2 S2 hp2 => ?_)
  obtain ⟨⟨rfl, hc2⟩ | ⟨rfl, hc2⟩, he2⟩ := hp2
  · rw [he2]
    refine j_if_ne (tgt := 10) dX7_ship_5 (by decide) (by omega)  (fun _ => ?_) (fun h => absurd h (by decide))
    refine j_iload_n dX7_ship_10 rfl ?_
    rcases (by omega : (what ≠ 0 ∧ what ≠ 1) ∨ what = 0 ∨ what = 1) with hs11 | hs11 | hs11
    · refine j_lookup (off := 41) (tgt := 52) dX7_ship_11 (by decide) (by omega) (by show Op.lookupswitch.offset [(0, 25), (1, 35)] (41) what = _; rw [Op.lookupswitch.offset_cons, if_neg (by omega), Op.lookupswitch.offset_cons, if_neg (by omega)]; rfl) (by decide) ?_
      refine j_iconst dX7_ship_52 ?_
      exact j_iret rfl dX7_ship_53 (fun h => by cases h) (hP _ _ ⟨by unfold fShip; (repeat' split) <;> omega, rfl⟩)
    · refine j_lookup (off := 25) (tgt := 36) dX7_ship_11 (by decide) (by omega) (by rw [hs11]; decide) (by decide) ?_
      refine j_aload_n dX7_ship_36 rfl ?_
      refine j_getR dX7_ship_37 fg_X7_19 fq_0_1 ?_
      refine j_getR dX7_ship_40 fg_X7_142 fq_27_7 ?_
      refine j_iload_n dX7_ship_43 rfl ?_
      refine j_iald (x := S 32 s) dX7_ship_44 aq_32 (by omega) (by omega) rfl (fun hi44 => ?_)
      exact j_iret rfl dX7_ship_45 (fun h => by cases h) (hP _ _ ⟨by unfold fShip; (repeat' split) <;> omega, rfl⟩)
    · refine j_lookup (off := 35) (tgt := 46) dX7_ship_11 (by decide) (by omega) (by rw [hs11]; decide) (by decide) ?_
      refine j_aload_n dX7_ship_46 rfl ?_
      refine j_iload_n dX7_ship_47 rfl ?_
      refine j_callVi (As := [vi s]) (rest := []) (t_X7_rottenPlaces _ s hX (by omega) (by omega)) rfl cm_X7_rottenPlaces ci_X7_rottenPlaces ml_X7_145 oq_0 rfl (Nat.le_of_ble_eq_true rfl) (Nat.le_of_ble_eq_true rfl) dX7_ship_48 (fun r48 S48 hp48 => ?_)
      obtain ⟨hr48, he48⟩ := hp48
      rw [he48]
      exact j_iret rfl dX7_ship_51 (fun h => by cases h) (hP _ _ ⟨by unfold fShip; (repeat' split) <;> omega, rfl⟩)
  · rw [he2]
    refine j_if_ne (tgt := 10) dX7_ship_5 (by decide) (by omega)  (fun h => absurd h (by decide)) (fun _ => ?_)
    refine j_iconst dX7_ship_8 ?_
    exact j_iret rfl dX7_ship_9 (fun h => by cases h) (hP _ _ ⟨by unfold fShip; (repeat' split) <;> omega, rfl⟩)
set_option maxRecDepth 100000 in
set_option maxHeartbeats 4000000 in
theorem t_X7_is (S : St) (s law : Int) (r_s : InR s) (r_law : InR law) (hX : XI S) : EX mX7_is [.ref 0, vi s, vi law] S (fun r S' => r = fIs (S 1 0) (S 27 2) (S 29) (S 30) (S 2) (S 33) s law ∧ Same [5, 6, 7] S S') := by
  suffices hh : ∀ P : Int → St → Prop, (∀ r S', (r = fIs (S 1 0) (S 27 2) (S 29) (S 30) (S 2) (S 33) s law ∧ Same [5, 6, 7] S S') → P r S') → EX mX7_is [.ref 0, vi s, vi law] S P from hh _ (fun _ _ h => h)
  intro P hP
  refine EX.of (L := [(0, .ref 0), (1, vi s), (2, vi law)]) rfl rfl (Nat.le_of_ble_eq_true rfl) rfl ?_
  obtain ⟨⟨hn0, hn1⟩, hwl, ⟨hp0, hp1⟩, ⟨hs0, hs1⟩, hyr, hpt, hhd⟩ := id hX
  have hwt : ∀ k, 0 ≤ k → k < 6 → 1 ≤ S 2 k ∧ S 2 k ≤ 9 := fun k a b => ⟨(hwl k a b).1, (hwl k a b).2.1⟩
  refine j_aload_n dX7_is_0 rfl ?_
  refine j_iload_n dX7_is_1 rfl ?_
  refine j_callVi (As := [vi s]) (rest := []) (t_X7_isShip _ s (by omega)) rfl cm_X7_isShip ci_X7_isShip ml_X7_135 oq_0 rfl (Nat.le_of_ble_eq_true rfl) (Nat.le_of_ble_eq_true rfl) dX7_is_2 (fun r2 S2 hp2 => ?_)
  obtain ⟨⟨rfl, hc2⟩ | ⟨rfl, hc2⟩, he2⟩ := hp2
  · rw [he2]
    refine j_if_eq (tgt := 15) dX7_is_5 (by decide) (by omega)  (fun h => absurd h (by decide)) (fun _ => ?_)
    refine j_iload_n dX7_is_8 rfl ?_
    refine j_callSi (As := [vi law]) (rest := []) (t_X7_isLaw _ law (by omega)) rfl cm_X7_isLaw cs_X7_isLaw ml_X7_148 rfl (Nat.le_of_ble_eq_true rfl) (Nat.le_of_ble_eq_true rfl) dX7_is_9 (fun r9 S9 hp9 => ?_)
    obtain ⟨⟨rfl, hc9⟩ | ⟨rfl, hc9⟩, he9⟩ := hp9
    · rw [he9]
      refine j_if_ne (tgt := 17) dX7_is_12 (by decide) (by omega)  (fun _ => ?_) (fun h => absurd h (by decide))
      refine j_aload_n dX7_is_17 rfl ?_
      refine j_iload_n dX7_is_18 rfl ?_
      refine j_iload_n dX7_is_19 rfl ?_
      refine j_callVi (As := [vi s, vi law]) (rest := []) (t_X7_whoseNow _ s law hX (by omega) (by omega) (by omega) (by omega)) rfl cm_X7_whoseNow ci_X7_whoseNow ml_X7_151 oq_0 rfl (Nat.le_of_ble_eq_true rfl) (Nat.le_of_ble_eq_true rfl) dX7_is_20 (fun r20 S20 hp20 => ?_)
      obtain ⟨hr20, hsm20, hl20⟩ := hp20
      have eS20_1 : S20 1 = S 1 := hsm20 1 (by decide)
      have eS20_2 : S20 2 = S 2 := hsm20 2 (by decide)
      have eS20_3 : S20 3 = S 3 := hsm20 3 (by decide)
      have eS20_27 : S20 27 = S 27 := hsm20 27 (by decide)
      have eS20_28 : S20 28 = S 28 := hsm20 28 (by decide)
      have eS20_29 : S20 29 = S 29 := hsm20 29 (by decide)
      have eS20_30 : S20 30 = S 30 := hsm20 30 (by decide)
      have eS20_31 : S20 31 = S 31 := hsm20 31 (by decide)
      have eS20_32 : S20 32 = S 32 := hsm20 32 (by decide)
      have eS20_33 : S20 33 = S 33 := hsm20 33 (by decide)
      exact j_iret rfl dX7_is_23 (fun h => by cases h) (hP _ _ ⟨by unfold fIs; (repeat' split) <;> omega, hsm20⟩)
    · rw [he9]
      refine j_if_ne (tgt := 17) dX7_is_12 (by decide) (by omega)  (fun h => absurd h (by decide)) (fun _ => ?_)
      refine j_iconst dX7_is_15 ?_
      exact j_iret rfl dX7_is_16 (fun h => by cases h) (hP _ _ ⟨by unfold fIs; (repeat' split) <;> omega, Same.rf⟩)
  · rw [he2]
    refine j_if_eq (tgt := 15) dX7_is_5 (by decide) (by omega)  (fun _ => ?_) (fun h => absurd h (by decide))
    refine j_iconst dX7_is_15 ?_
    exact j_iret rfl dX7_is_16 (fun h => by cases h) (hP _ _ ⟨by unfold fIs; (repeat' split) <;> omega, Same.rf⟩)
set_option maxRecDepth 100000 in
set_option maxHeartbeats 4000000 in
theorem t_X7_twins (S : St) (law : Int) (r_law : InR law) (hX : XI S) : EX mX7_twins [.ref 0, vi law] S (fun r S' => r = fTwins (S 1 0) (S 27 2) (S 29) (S 30) (S 2) (S 33) law ∧ Same [5, 6, 7] S S') := by
  suffices hh : ∀ P : Int → St → Prop, (∀ r S', (r = fTwins (S 1 0) (S 27 2) (S 29) (S 30) (S 2) (S 33) law ∧ Same [5, 6, 7] S S') → P r S') → EX mX7_twins [.ref 0, vi law] S P from hh _ (fun _ _ h => h)
  intro P hP
  refine EX.of (L := [(0, .ref 0), (1, vi law)]) rfl rfl (Nat.le_of_ble_eq_true rfl) rfl ?_
  obtain ⟨⟨hn0, hn1⟩, hwl, ⟨hp0, hp1⟩, ⟨hs0, hs1⟩, hyr, hpt, hhd⟩ := id hX
  have hwt : ∀ k, 0 ≤ k → k < 6 → 1 ≤ S 2 k ∧ S 2 k ≤ 9 := fun k a b => ⟨(hwl k a b).1, (hwl k a b).2.1⟩
  refine j_iload_n dX7_twins_0 rfl ?_
  refine j_callSi (As := [vi law]) (rest := []) (t_X7_isLaw _ law (by omega)) rfl cm_X7_isLaw cs_X7_isLaw ml_X7_148 rfl (Nat.le_of_ble_eq_true rfl) (Nat.le_of_ble_eq_true rfl) dX7_twins_1 (fun r1 S1 hp1 => ?_)
  obtain ⟨⟨rfl, hc1⟩ | ⟨rfl, hc1⟩, he1⟩ := hp1
  · rw [he1]
    refine j_if_ne (tgt := 9) dX7_twins_4 (by decide) (by omega)  (fun _ => ?_) (fun h => absurd h (by decide))
    refine j_aload_n dX7_twins_9 rfl ?_
    refine j_iload_n dX7_twins_10 rfl ?_
    refine j_callVi (As := [vi law]) (rest := []) (t_X7_firstTwins _ law hX (by omega) (by omega)) rfl cm_X7_firstTwins ci_X7_firstTwins ml_X7_199 oq_0 rfl (Nat.le_of_ble_eq_true rfl) (Nat.le_of_ble_eq_true rfl) dX7_twins_11 (fun r11 S11 hp11 => ?_)
    obtain ⟨ht11, hsm11⟩ := hp11
    have hte11 : twB (S 1 0) (S 27 2) (S 29) (S 30) (S 2) (S 33) law = r11 := tw_eq ht11
    exact j_iret rfl dX7_twins_14 (fun h => by cases h) (hP _ _ ⟨by unfold fTwins; (repeat' split) <;> omega, hsm11⟩)
  · rw [he1]
    refine j_if_ne (tgt := 9) dX7_twins_4 (by decide) (by omega)  (fun h => absurd h (by decide)) (fun _ => ?_)
    refine j_iconst dX7_twins_7 ?_
    exact j_iret rfl dX7_twins_8 (fun h => by cases h) (hP _ _ ⟨by unfold fTwins; (repeat' split) <;> omega, Same.rf⟩)
set_option maxRecDepth 100000 in
set_option maxHeartbeats 4000000 in
theorem t_X7_now (S : St) (what : Int) (r_what : InR what) (hX : XI S) : EX mX7_now [.ref 0, vi what] S (fun r S' => r = fNow (S 1 0) (S 27 2) (S 27 1) (S 27 0) (S 11 2) (S 2) (S 3) (S 29) (S 30) (S 31) (S 33) what ∧ Same [5, 6, 7] S S') := by
  suffices hh : ∀ P : Int → St → Prop, (∀ r S', (r = fNow (S 1 0) (S 27 2) (S 27 1) (S 27 0) (S 11 2) (S 2) (S 3) (S 29) (S 30) (S 31) (S 33) what ∧ Same [5, 6, 7] S S') → P r S') → EX mX7_now [.ref 0, vi what] S P from hh _ (fun _ _ h => h)
  intro P hP
  refine EX.of (L := [(0, .ref 0), (1, vi what)]) rfl rfl (Nat.le_of_ble_eq_true rfl) rfl ?_
  obtain ⟨⟨hn0, hn1⟩, hwl, ⟨hp0, hp1⟩, ⟨hs0, hs1⟩, hyr, hpt, hhd⟩ := id hX
  have hwt : ∀ k, 0 ≤ k → k < 6 → 1 ≤ S 2 k ∧ S 2 k ≤ 9 := fun k a b => ⟨(hwl k a b).1, (hwl k a b).2.1⟩
  refine j_iload_n dX7_now_0 rfl ?_
  rcases (by omega : (what < 0 ∨ 4 < what) ∨ what = 0 ∨ what = 1 ∨ what = 2 ∨ what = 3 ∨ what = 4) with hs1 | hs1 | hs1 | hs1 | hs1 | hs1
  · refine j_tblOut (tgt := 70) dX7_now_1 (by omega) (by omega) (by decide) ?_
    refine j_iconst dX7_now_70 ?_
    exact j_iret rfl dX7_now_71 (fun h => by cases h) (hP _ _ ⟨by unfold fNow lyA rotA; (repeat' split) <;> omega, Same.rf⟩)
  · refine j_tblIn (off := 35) (tgt := 36) dX7_now_1 (by omega) (by omega) (by omega) (by rw [hs1]; decide) (by decide) ?_
    refine j_aload_n dX7_now_36 rfl ?_
    refine j_getR dX7_now_37 fg_X7_19 fq_0_1 ?_
    refine j_getI (x := S 27 0) dX7_now_40 fg_X7_154 fq_27_0 rfl (fun hi40 => ?_)
    exact j_iret rfl dX7_now_43 (fun h => by cases h) (hP _ _ ⟨by unfold fNow lyA rotA; (repeat' split) <;> omega, Same.rf⟩)
  · refine j_tblIn (off := 43) (tgt := 44) dX7_now_1 (by omega) (by omega) (by omega) (by rw [hs1]; decide) (by decide) ?_
    refine j_aload_n dX7_now_44 rfl ?_
    refine j_getR dX7_now_45 fg_X7_19 fq_0_1 ?_
    refine j_callVi (As := []) (rest := []) (t_X1_lying _ (by omega) (by omega)) rfl cm_X1_lying ci_X1_lying ml_X7_157 oq_27 rfl (Nat.le_of_ble_eq_true rfl) (Nat.le_of_ble_eq_true rfl) dX7_now_48 (fun r48 S48 hp48 => ?_)
    obtain ⟨hr48, he48⟩ := hp48
    rw [he48]
    exact j_iret rfl dX7_now_51 (fun h => by cases h) (hP _ _ ⟨by unfold fNow lyA rotA; (repeat' split) <;> omega, Same.rf⟩)
  · refine j_tblIn (off := 51) (tgt := 52) dX7_now_1 (by omega) (by omega) (by omega) (by rw [hs1]; decide) (by decide) ?_
    refine j_aload_n dX7_now_52 rfl ?_
    refine j_callVi (As := []) (rest := []) (t_X7_rottenShips _ hX) rfl cm_X7_rottenShips ci_X7_rottenShips ml_X7_161 oq_0 rfl (Nat.le_of_ble_eq_true rfl) (Nat.le_of_ble_eq_true rfl) dX7_now_53 (fun r53 S53 hp53 => ?_)
    obtain ⟨hr53, he53⟩ := hp53
    rw [he53]
    exact j_iret rfl dX7_now_56 (fun h => by cases h) (hP _ _ ⟨by unfold fNow lyA rotA; (repeat' split) <;> omega, Same.rf⟩)
  · refine j_tblIn (off := 56) (tgt := 57) dX7_now_1 (by omega) (by omega) (by omega) (by rw [hs1]; decide) (by decide) ?_
    refine j_aload_n dX7_now_57 rfl ?_
    refine j_callVi (As := []) (rest := []) (t_X7_fairLaws _ hX) rfl cm_X7_fairLaws ci_X7_fairLaws ml_X7_164 oq_0 rfl (Nat.le_of_ble_eq_true rfl) (Nat.le_of_ble_eq_true rfl) dX7_now_58 (fun r58 S58 hp58 => ?_)
    obtain ⟨hr58, hsm58⟩ := hp58
    exact j_iret rfl dX7_now_61 (fun h => by cases h) (hP _ _ ⟨by unfold fNow lyA rotA; (repeat' split) <;> omega, hsm58⟩)
  · refine j_tblIn (off := 61) (tgt := 62) dX7_now_1 (by omega) (by omega) (by omega) (by rw [hs1]; decide) (by decide) ?_
    refine j_aload_n dX7_now_62 rfl ?_
    refine j_getR dX7_now_63 fg_X7_44 fq_0_4 ?_
    refine j_getI (x := S 11 2) dX7_now_66 fg_X7_167 fq_11_2 rfl (fun hi66 => ?_)
    exact j_iret rfl dX7_now_69 (fun h => by cases h) (hP _ _ ⟨by unfold fNow lyA rotA; (repeat' split) <;> omega, Same.rf⟩)
set_option maxRecDepth 100000 in
set_option maxHeartbeats 4000000 in
theorem t_X7_count (S : St) (what : Int) (r_what : InR what) (hX : XI S) : EX mX7_count [.ref 0, vi what] S (fun r S' => r = fCount (S 1 0) (S 27 2) (S 27 1) (S 0 13) (S 0 12) what ∧ S' = S) := by
  suffices hh : ∀ P : Int → St → Prop, (∀ r S', (r = fCount (S 1 0) (S 27 2) (S 27 1) (S 0 13) (S 0 12) what ∧ S' = S) → P r S') → EX mX7_count [.ref 0, vi what] S P from hh _ (fun _ _ h => h)
  intro P hP
  refine EX.of (L := [(0, .ref 0), (1, vi what)]) rfl rfl (Nat.le_of_ble_eq_true rfl) rfl ?_
  obtain ⟨⟨hn0, hn1⟩, hwl, ⟨hp0, hp1⟩, ⟨hs0, hs1⟩, hyr, hpt, hhd⟩ := id hX
  have hwt : ∀ k, 0 ≤ k → k < 6 → 1 ≤ S 2 k ∧ S 2 k ≤ 9 := fun k a b => ⟨(hwl k a b).1, (hwl k a b).2.1⟩
  refine j_iload_n dX7_count_0 rfl ?_
  rcases (by omega : (what < 0 ∨ 4 < what) ∨ what = 0 ∨ what = 1 ∨ what = 2 ∨ what = 3 ∨ what = 4) with hs1 | hs1 | hs1 | hs1 | hs1 | hs1
  · refine j_tblOut (tgt := 70) dX7_count_1 (by omega) (by omega) (by decide) ?_
    refine j_iconst dX7_count_70 ?_
    exact j_iret rfl dX7_count_71 (fun h => by cases h) (hP _ _ ⟨by unfold fCount; (repeat' split) <;> omega, rfl⟩)
  · refine j_tblIn (off := 35) (tgt := 36) dX7_count_1 (by omega) (by omega) (by omega) (by rw [hs1]; decide) (by decide) ?_
    refine j_aload_n dX7_count_36 rfl ?_
    refine j_getR dX7_count_37 fg_X7_10 fq_0_0 ?_
    refine j_getI (x := S 1 0) dX7_count_40 fg_X7_184 fq_1_0 rfl (fun hi40 => ?_)
    exact j_iret rfl dX7_count_43 (fun h => by cases h) (hP _ _ ⟨by unfold fCount; (repeat' split) <;> omega, rfl⟩)
  · refine j_tblIn (off := 43) (tgt := 44) dX7_count_1 (by omega) (by omega) (by omega) (by rw [hs1]; decide) (by decide) ?_
    refine j_aload_n dX7_count_44 rfl ?_
    refine j_getR dX7_count_45 fg_X7_19 fq_0_1 ?_
    refine j_getI (x := S 27 2) dX7_count_48 fg_X7_190 fq_27_2 rfl (fun hi48 => ?_)
    exact j_iret rfl dX7_count_51 (fun h => by cases h) (hP _ _ ⟨by unfold fCount; (repeat' split) <;> omega, rfl⟩)
  · refine j_tblIn (off := 51) (tgt := 52) dX7_count_1 (by omega) (by omega) (by omega) (by rw [hs1]; decide) (by decide) ?_
    refine j_aload_n dX7_count_52 rfl ?_
    refine j_getR dX7_count_53 fg_X7_19 fq_0_1 ?_
    refine j_getI (x := S 27 1) dX7_count_56 fg_X7_177 fq_27_1 rfl (fun hi56 => ?_)
    exact j_iret rfl dX7_count_59 (fun h => by cases h) (hP _ _ ⟨by unfold fCount; (repeat' split) <;> omega, rfl⟩)
  · refine j_tblIn (off := 59) (tgt := 60) dX7_count_1 (by omega) (by omega) (by omega) (by rw [hs1]; decide) (by decide) ?_
    refine j_aload_n dX7_count_60 rfl ?_
    refine j_getI (x := S 0 13) dX7_count_61 fg_X7_86 fq_0_13 rfl (fun hi61 => ?_)
    exact j_iret rfl dX7_count_64 (fun h => by cases h) (hP _ _ ⟨by unfold fCount; (repeat' split) <;> omega, rfl⟩)
  · refine j_tblIn (off := 64) (tgt := 65) dX7_count_1 (by omega) (by omega) (by omega) (by rw [hs1]; decide) (by decide) ?_
    refine j_aload_n dX7_count_65 rfl ?_
    refine j_getI (x := S 0 12) dX7_count_66 fg_X7_82 fq_0_12 rfl (fun hi66 => ?_)
    exact j_iret rfl dX7_count_69 (fun h => by cases h) (hP _ _ ⟨by unfold fCount; (repeat' split) <;> omega, rfl⟩)
set_option maxRecDepth 100000 in
set_option maxHeartbeats 4000000 in
theorem t_X7_isAsSeen (S : St) (s : Int) (hX : XI S) (h0 : 0 ≤ s) (h1 : s < S 27 2) (hsn0 : 0 ≤ S 0 13) (hsn1 : S 0 13 ≤ 6) (hsp : ∀ i, 0 ≤ i → i < S 0 13 → 0 ≤ S 25 i ∧ S 25 i < S 1 0) : EX mX7_isAsSeen [.ref 0, vi s] S (fun r S' => ((r = 1 ∧ (asSn (S 0 13) (S 29) (S 33) (S 25) (S 26) s)) ∨ (r = 0 ∧ ¬ (asSn (S 0 13) (S 29) (S 33) (S 25) (S 26) s))) ∧ S' = S) := by
  suffices hh : ∀ P : Int → St → Prop, (∀ r S', (((r = 1 ∧ (asSn (S 0 13) (S 29) (S 33) (S 25) (S 26) s)) ∨ (r = 0 ∧ ¬ (asSn (S 0 13) (S 29) (S 33) (S 25) (S 26) s))) ∧ S' = S) → P r S') → EX mX7_isAsSeen [.ref 0, vi s] S P from hh _ (fun _ _ h => h)
  intro P hP
  refine EX.of (L := [(0, .ref 0), (1, vi s)]) rfl rfl (Nat.le_of_ble_eq_true rfl) rfl ?_
  obtain ⟨⟨hn0, hn1⟩, hwl, ⟨hp0, hp1⟩, ⟨hs0, hs1⟩, hyr, hpt, hhd⟩ := id hX
  have hwt : ∀ k, 0 ≤ k → k < 6 → 1 ≤ S 2 k ∧ S 2 k ≤ 9 := fun k a b => ⟨(hwl k a b).1, (hwl k a b).2.1⟩
  refine j_iconst dX7_isAsSeen_0 ?_
  refine j_istore_n (L' := [(0, .ref 0), (1, vi s), (2, vi 0)]) dX7_isAsSeen_1 (Nat.le_of_ble_eq_true rfl) rfl ?_
  have lp2 : ∀ (n : Nat) (i : Int), (S 0 13 - i).toNat < n → (0 ≤ i ∧ i ≤ S 0 13 ∧ ∀ j, 0 ≤ j → j < i → S 29 (S 33 (s * 6 + S 25 j)) = S 26 j) → JJ mX7_isAsSeen (RX mX7_isAsSeen P) 2 [(0, .ref 0), (1, vi s), (2, vi i)] [] S := by
    intro n
    induction n with
    | zero => intro i hm; exact absurd hm (Nat.not_lt_zero _)
    | succ n ih2 =>
      intro i hm2 hv2
      obtain ⟨hv1, hv2, hv3⟩ := hv2
      refine j_iload_n dX7_isAsSeen_2 rfl ?_
      refine j_aload_n dX7_isAsSeen_3 rfl ?_
      refine j_getI (x := S 0 13) dX7_isAsSeen_4 fg_X7_86 fq_0_13 rfl (fun hi4 => ?_)
      refine j_icmp_ge (tgt := 49) dX7_isAsSeen_7 (by decide) (by omega) (by omega) (fun h7 => ?_) (fun h7 => ?_)
      · refine j_iconst dX7_isAsSeen_49 ?_
        exact j_iret rfl dX7_isAsSeen_50 (fun _ => Or.inr rfl) (hP _ _ ⟨Or.inl ⟨rfl, fun j a b => hv3 j a (by omega)⟩, rfl⟩)
      · have hg1 := hsp i (by omega) (by omega)
        have hg := hhd s (S 25 i) h0 h1 hg1.1 hg1.2
        refine j_aload_n dX7_isAsSeen_10 rfl ?_
        refine j_getR dX7_isAsSeen_11 fg_X7_19 fq_0_1 ?_
        refine j_getR dX7_isAsSeen_14 fg_X7_126 fq_27_4 ?_
        refine j_aload_n dX7_isAsSeen_17 rfl ?_
        refine j_getR dX7_isAsSeen_18 fg_X7_19 fq_0_1 ?_
        refine j_iload_n dX7_isAsSeen_21 rfl ?_
        refine j_aload_n dX7_isAsSeen_22 rfl ?_
        refine j_getR dX7_isAsSeen_23 fg_X7_76 fq_0_10 ?_
        refine j_iload_n dX7_isAsSeen_26 rfl ?_
        refine j_iald (x := S 25 i) dX7_isAsSeen_27 aq_25 (by omega) (by omega) rfl (fun hi27 => ?_)
        refine j_callVi (As := [vi s, vi (S 25 i)]) (rest := [.ref 29]) (t_X1_partAt _ s (S 25 i) (by omega) (by omega) (by omega) (by omega)) rfl cm_X1_partAt ci_X1_partAt ml_X7_138 oq_27 rfl (Nat.le_of_ble_eq_true rfl) (Nat.le_of_ble_eq_true rfl) dX7_isAsSeen_28 (fun r28 S28 hp28 => ?_)
        obtain ⟨hr28, he28⟩ := hp28
        rw [he28]
        rw [show r28 = S 33 (s * 6 + (S 25 i)) from hr28.trans rfl]
        refine j_iald (x := S 29 (S 33 (s * 6 + (S 25 i)))) dX7_isAsSeen_31 aq_29 (by omega) (by omega) rfl (fun hi31 => ?_)
        refine j_aload_n dX7_isAsSeen_32 rfl ?_
        refine j_getR dX7_isAsSeen_33 fg_X7_79 fq_0_11 ?_
        refine j_iload_n dX7_isAsSeen_36 rfl ?_
        refine j_iald (x := S 26 i) dX7_isAsSeen_37 aq_26 (by omega) (by omega) rfl (fun hi37 => ?_)
        refine j_icmp_eq (tgt := 43) dX7_isAsSeen_38 (by decide) (by omega) (by omega) (fun h38 => ?_) (fun h38 => ?_)
        · refine j_iinc (L' := [(0, .ref 0), (1, vi s), (2, vi (i + 1))]) dX7_isAsSeen_43 (Nat.le_of_ble_eq_true rfl) rfl rfl ?_
          refine j_goto (tgt := 2) dX7_isAsSeen_46 (by decide) ?_
          exact ih2 (i + 1) (by omega) ⟨by omega, by omega, fun j a b => if e : j = i then by rw [e]; exact h38 else hv3 j a (by omega)⟩
        · refine j_iconst dX7_isAsSeen_41 ?_
          exact j_iret rfl dX7_isAsSeen_42 (fun _ => Or.inl rfl) (hP _ _ ⟨Or.inr ⟨rfl, fun z => h38 (z i (by omega) (by omega))⟩, rfl⟩)
  exact lp2 _ 0 (Nat.lt_succ_self _) ⟨by omega, by omega, fun j a b => by omega⟩
set_option maxRecDepth 100000 in
set_option maxHeartbeats 4000000 in
theorem t_X7_mayBe (S : St) (hX : XI S) (hsn0 : 0 ≤ S 0 13) (hsn1 : S 0 13 ≤ 6) (hsp : ∀ i, 0 ≤ i → i < S 0 13 → 0 ≤ S 25 i ∧ S 25 i < S 1 0) : EX mX7_mayBe [.ref 0] S (fun r S' => r = mayB (S 27 2) (S 0 13) (S 29) (S 33) (S 25) (S 26) ∧ S' = S) := by
  suffices hh : ∀ P : Int → St → Prop, (∀ r S', (r = mayB (S 27 2) (S 0 13) (S 29) (S 33) (S 25) (S 26) ∧ S' = S) → P r S') → EX mX7_mayBe [.ref 0] S P from hh _ (fun _ _ h => h)
  intro P hP
  refine EX.of (L := [(0, .ref 0)]) rfl rfl (Nat.le_of_ble_eq_true rfl) rfl ?_
  obtain ⟨⟨hn0, hn1⟩, hwl, ⟨hp0, hp1⟩, ⟨hs0, hs1⟩, hyr, hpt, hhd⟩ := id hX
  have hwt : ∀ k, 0 ≤ k → k < 6 → 1 ≤ S 2 k ∧ S 2 k ≤ 9 := fun k a b => ⟨(hwl k a b).1, (hwl k a b).2.1⟩
  refine j_iconst dX7_mayBe_0 ?_
  refine j_istore_n (L' := [(0, .ref 0), (1, vi 0)]) dX7_mayBe_1 (Nat.le_of_ble_eq_true rfl) rfl ?_
  refine j_iconst dX7_mayBe_2 ?_
  refine j_istore_n (L' := [(0, .ref 0), (1, vi 0), (2, vi 0)]) dX7_mayBe_3 (Nat.le_of_ble_eq_true rfl) rfl ?_
  have lp4 : ∀ (n : Nat) (b k : Int), (S 27 2 - k).toNat < n → (0 ≤ k ∧ k ≤ S 27 2 ∧ b = sm (fun s => cb (asSn (S 0 13) (S 29) (S 33) (S 25) (S 26) s) ((2 ^ s.toNat : Nat) : Int) 0) k.toNat) → JJ mX7_mayBe (RX mX7_mayBe P) 4 [(0, .ref 0), (1, vi b), (2, vi k)] [] S := by
    intro n
    induction n with
    | zero => intro b k hm; exact absurd hm (Nat.not_lt_zero _)
    | succ n ih4 =>
      intro b k hm4 hv4
      obtain ⟨hv1, hv2, hv3⟩ := hv4
      have hb := bs_lt (f := fun s => cb (asSn (S 0 13) (S 29) (S 33) (S 25) (S 26) s) ((2 ^ s.toNat : Nat) : Int) 0) (n := k.toNat) (fun i i0 i1 => by rcases cb_or (asSn (S 0 13) (S 29) (S 33) (S 25) (S 26) i) ((2 ^ i.toNat : Nat) : Int) 0 with ⟨_, h⟩ | ⟨_, h⟩; exact Or.inr h; exact Or.inl h)
      rw [← hv3] at hb
      refine j_iload_n dX7_mayBe_4 rfl ?_
      refine j_aload_n dX7_mayBe_5 rfl ?_
      refine j_getR dX7_mayBe_6 fg_X7_19 fq_0_1 ?_
      refine j_getI (x := S 27 2) dX7_mayBe_9 fg_X7_190 fq_27_2 rfl (fun hi9 => ?_)
      refine j_icmp_ge (tgt := 35) dX7_mayBe_12 (by decide) (by omega) (by omega) (fun h12 => ?_) (fun h12 => ?_)
      · refine j_iload_n dX7_mayBe_35 rfl ?_
        exact j_iret rfl dX7_mayBe_36 (fun h => by cases h) (hP _ _ ⟨by rw [hv3]; unfold mayB; congr 2; omega, rfl⟩)
      · refine j_aload_n dX7_mayBe_15 rfl ?_
        refine j_iload_n dX7_mayBe_16 rfl ?_
        refine j_callVi (As := [vi k]) (rest := []) (t_X7_isAsSeen _ k hX (by omega) (by omega) hsn0 hsn1 hsp) rfl cm_X7_isAsSeen ci_X7_isAsSeen ml_X7_262 oq_0 rfl (Nat.le_of_ble_eq_true rfl) (Nat.le_of_ble_eq_true rfl) dX7_mayBe_17 (fun r17 S17 hp17 => ?_)
        obtain ⟨⟨rfl, hc17⟩ | ⟨rfl, hc17⟩, he17⟩ := hp17
        · rw [he17]
          refine j_if_eq (tgt := 29) dX7_mayBe_20 (by decide) (by omega)  (fun h => absurd h (by decide)) (fun _ => ?_)
          refine j_iload_n dX7_mayBe_23 rfl ?_
          refine j_iconst dX7_mayBe_24 ?_
          refine j_iload_n dX7_mayBe_25 rfl ?_
          refine j_shl dX7_mayBe_26 (by omega) (by omega) ?_
          refine j_ior dX7_mayBe_27 (by omega) (by omega) ?_
          rw [or_bit (by omega) (by omega)]
          refine j_istore_n (L' := [(0, .ref 0), (1, vi (b + ((2 ^ k.toNat : Nat) : Int))), (2, vi k)]) dX7_mayBe_28 (Nat.le_of_ble_eq_true rfl) rfl ?_
          refine j_iinc (L' := [(0, .ref 0), (1, vi (b + ((2 ^ k.toNat : Nat) : Int))), (2, vi (k + 1))]) dX7_mayBe_29 (Nat.le_of_ble_eq_true rfl) rfl rfl ?_
          refine j_goto (tgt := 4) dX7_mayBe_32 (by decide) ?_
          exact ih4 (b + ((2 ^ k.toNat : Nat) : Int)) (k + 1) (by omega) ⟨by omega, by omega, by rw [sm_s (by omega), cb_pos hc17]; omega⟩
        · rw [he17]
          refine j_if_eq (tgt := 29) dX7_mayBe_20 (by decide) (by omega)  (fun _ => ?_) (fun h => absurd h (by decide))
          refine j_iinc (L' := [(0, .ref 0), (1, vi b), (2, vi (k + 1))]) dX7_mayBe_29 (Nat.le_of_ble_eq_true rfl) rfl rfl ?_
          refine j_goto (tgt := 4) dX7_mayBe_32 (by decide) ?_
          exact ih4 b (k + 1) (by omega) ⟨by omega, by omega, by rw [sm_s (by omega), cb_neg hc17]; omega⟩
  exact lp4 _ 0 0 (Nat.lt_succ_self _) ⟨by omega, by omega, rfl⟩
set_option maxRecDepth 100000 in
set_option maxHeartbeats 4000000 in
theorem t_X7_differIn (S : St) (s t b : Int) (hX : XI S) (h0 : 0 ≤ s) (h1 : s < S 27 2) (h2 : 0 ≤ t) (h3 : t < S 27 2) (hb0 : 0 ≤ b) (hb1 : b < 64) : EX mX7_differIn [.ref 0, vi s, vi t, vi b] S (fun r S' => ((r = 1 ∧ (difr (S 1 0) (S 29) (S 33) s t b)) ∨ (r = 0 ∧ ¬ (difr (S 1 0) (S 29) (S 33) s t b))) ∧ S' = S) := by
  suffices hh : ∀ P : Int → St → Prop, (∀ r S', (((r = 1 ∧ (difr (S 1 0) (S 29) (S 33) s t b)) ∨ (r = 0 ∧ ¬ (difr (S 1 0) (S 29) (S 33) s t b))) ∧ S' = S) → P r S') → EX mX7_differIn [.ref 0, vi s, vi t, vi b] S P from hh _ (fun _ _ h => h)
  intro P hP
  refine EX.of (L := [(0, .ref 0), (1, vi s), (2, vi t), (3, vi b)]) rfl rfl (Nat.le_of_ble_eq_true rfl) rfl ?_
  obtain ⟨⟨hn0, hn1⟩, hwl, ⟨hp0, hp1⟩, ⟨hs0, hs1⟩, hyr, hpt, hhd⟩ := id hX
  have hwt : ∀ k, 0 ≤ k → k < 6 → 1 ≤ S 2 k ∧ S 2 k ≤ 9 := fun k a b => ⟨(hwl k a b).1, (hwl k a b).2.1⟩
  refine j_iconst dX7_differIn_0 ?_
  refine j_istore (L' := [(0, .ref 0), (1, vi s), (2, vi t), (3, vi b), (4, vi 0)]) dX7_differIn_1 (Nat.le_of_ble_eq_true rfl) rfl ?_
  have lp3 : ∀ (n : Nat) (k : Int), (S 1 0 - k).toNat < n → (0 ≤ k ∧ k ≤ S 1 0 ∧ ∀ j, 0 ≤ j → j < k → ¬ (bitV b j = 1 ∧ S 29 (S 33 (s * 6 + j)) ≠ S 29 (S 33 (t * 6 + j)))) → JJ mX7_differIn (RX mX7_differIn P) 3 [(0, .ref 0), (1, vi s), (2, vi t), (3, vi b), (4, vi k)] [] S := by
    intro n
    induction n with
    | zero => intro k hm; exact absurd hm (Nat.not_lt_zero _)
    | succ n ih3 =>
      intro k hm3 hv3
      obtain ⟨hv1, hv2, hv3⟩ := hv3
      refine j_iload dX7_differIn_3 rfl ?_
      refine j_aload_n dX7_differIn_5 rfl ?_
      refine j_getR dX7_differIn_6 fg_X7_10 fq_0_0 ?_
      refine j_getI (x := S 1 0) dX7_differIn_9 fg_X7_184 fq_1_0 rfl (fun hi9 => ?_)
      refine j_icmp_ge (tgt := 84) dX7_differIn_12 (by decide) (by omega) (by omega) (fun h12 => ?_) (fun h12 => ?_)
      · refine j_iconst dX7_differIn_84 ?_
        exact j_iret rfl dX7_differIn_85 (fun _ => Or.inl rfl) (hP _ _ ⟨Or.inr ⟨rfl, fun ⟨j, j0, j1, j2, j3⟩ => hv3 j j0 (by omega) ⟨j2, j3⟩⟩, rfl⟩)
      · have hg1 := hhd s k h0 h1 (by omega) (by omega)
        have hg2 := hhd t k h2 h3 (by omega) (by omega)
        refine j_iload_n dX7_differIn_15 rfl ?_
        refine j_iload dX7_differIn_16 rfl ?_
        refine j_shr dX7_differIn_18 (by omega) (by omega) (by omega) (by omega) ?_
        refine j_iconst dX7_differIn_19 ?_
        refine j_iand dX7_differIn_20 (Int.natCast_nonneg _) (by decide) ?_
        refine j_top (fun q eq => ?_)
        have hq : q = bitV b k := eq
        have hqb := bitV_bd b k
        refine j_iconst dX7_differIn_21 ?_
        refine j_icmp_ne (tgt := 29) dX7_differIn_22 (by decide) (by omega) (by omega) (fun h22 => ?_) (fun h22 => ?_)
        · refine j_iconst dX7_differIn_29 ?_
          refine j_istore (L' := [(0, .ref 0), (1, vi s), (2, vi t), (3, vi b), (4, vi k), (5, vi 0)]) dX7_differIn_30 (Nat.le_of_ble_eq_true rfl) rfl ?_
          refine j_iload dX7_differIn_32 rfl ?_
          refine j_if_eq (tgt := 78) dX7_differIn_34 (by decide) (by omega)  (fun _ => ?_) (fun h => absurd h (by decide))
          refine j_iinc (L' := [(0, .ref 0), (1, vi s), (2, vi t), (3, vi b), (4, vi (k + 1)), (5, vi 0)]) dX7_differIn_78 (Nat.le_of_ble_eq_true rfl) rfl rfl ?_
          refine j_goto (tgt := 3) dX7_differIn_81 (by decide) ?_
          refine j_sub (L' := [(0, .ref 0), (1, vi s), (2, vi t), (3, vi b), (4, vi (k + 1))]) (by simp) ?_
          exact ih3 (k + 1) (by omega) ⟨by omega, by omega, fun j a c => if e : j = k then by rw [e]; omega else hv3 j a (by omega)⟩
        · refine j_iconst dX7_differIn_25 ?_
          refine j_goto (tgt := 30) dX7_differIn_26 (by decide) ?_
          refine j_istore (L' := [(0, .ref 0), (1, vi s), (2, vi t), (3, vi b), (4, vi k), (5, vi 1)]) dX7_differIn_30 (Nat.le_of_ble_eq_true rfl) rfl ?_
          refine j_iload dX7_differIn_32 rfl ?_
          refine j_if_eq (tgt := 78) dX7_differIn_34 (by decide) (by omega)  (fun h => absurd h (by decide)) (fun _ => ?_)
          refine j_aload_n dX7_differIn_37 rfl ?_
          refine j_getR dX7_differIn_38 fg_X7_19 fq_0_1 ?_
          refine j_getR dX7_differIn_41 fg_X7_126 fq_27_4 ?_
          refine j_aload_n dX7_differIn_44 rfl ?_
          refine j_getR dX7_differIn_45 fg_X7_19 fq_0_1 ?_
          refine j_iload_n dX7_differIn_48 rfl ?_
          refine j_iload dX7_differIn_49 rfl ?_
          refine j_callVi (As := [vi s, vi k]) (rest := [.ref 29]) (t_X1_partAt _ s k (by omega) (by omega) (by omega) (by omega)) rfl cm_X1_partAt ci_X1_partAt ml_X7_138 oq_27 rfl (Nat.le_of_ble_eq_true rfl) (Nat.le_of_ble_eq_true rfl) dX7_differIn_51 (fun r51 S51 hp51 => ?_)
          obtain ⟨hr51, he51⟩ := hp51
          rw [he51]
          rw [show r51 = S 33 (s * 6 + k) from hr51.trans rfl]
          refine j_iald (x := S 29 (S 33 (s * 6 + k))) dX7_differIn_54 aq_29 (by omega) (by omega) rfl (fun hi54 => ?_)
          refine j_aload_n dX7_differIn_55 rfl ?_
          refine j_getR dX7_differIn_56 fg_X7_19 fq_0_1 ?_
          refine j_getR dX7_differIn_59 fg_X7_126 fq_27_4 ?_
          refine j_aload_n dX7_differIn_62 rfl ?_
          refine j_getR dX7_differIn_63 fg_X7_19 fq_0_1 ?_
          refine j_iload_n dX7_differIn_66 rfl ?_
          refine j_iload dX7_differIn_67 rfl ?_
          refine j_callVi (As := [vi t, vi k]) (rest := [.ref 29, vi (S 29 (S 33 (s * 6 + k)))]) (t_X1_partAt _ t k (by omega) (by omega) (by omega) (by omega)) rfl cm_X1_partAt ci_X1_partAt ml_X7_138 oq_27 rfl (Nat.le_of_ble_eq_true rfl) (Nat.le_of_ble_eq_true rfl) dX7_differIn_69 (fun r69 S69 hp69 => ?_)
          obtain ⟨hr69, he69⟩ := hp69
          rw [he69]
          rw [show r69 = S 33 (t * 6 + k) from hr69.trans rfl]
          refine j_iald (x := S 29 (S 33 (t * 6 + k))) dX7_differIn_72 aq_29 (by omega) (by omega) rfl (fun hi72 => ?_)
          refine j_icmp_eq (tgt := 78) dX7_differIn_73 (by decide) (by omega) (by omega) (fun h73 => ?_) (fun h73 => ?_)
          · refine j_iinc (L' := [(0, .ref 0), (1, vi s), (2, vi t), (3, vi b), (4, vi (k + 1)), (5, vi 1)]) dX7_differIn_78 (Nat.le_of_ble_eq_true rfl) rfl rfl ?_
            refine j_goto (tgt := 3) dX7_differIn_81 (by decide) ?_
            refine j_sub (L' := [(0, .ref 0), (1, vi s), (2, vi t), (3, vi b), (4, vi (k + 1))]) (by simp) ?_
            exact ih3 (k + 1) (by omega) ⟨by omega, by omega, fun j a c => if e : j = k then by rw [e]; omega else hv3 j a (by omega)⟩
          · refine j_iconst dX7_differIn_76 ?_
            exact j_iret rfl dX7_differIn_77 (fun _ => Or.inr rfl) (hP _ _ ⟨Or.inl ⟨rfl, k, by omega, by omega, by omega, h73⟩, rfl⟩)
  exact lp3 _ 0 (Nat.lt_succ_self _) ⟨by omega, by omega, fun j a b => by omega⟩
set_option maxRecDepth 100000 in
set_option maxHeartbeats 4000000 in
theorem t_X7_tellsFromAll (S : St) (s b : Int) (hX : XI S) (h0 : 0 ≤ s) (h1 : s < S 27 2) (hb0 : 0 ≤ b) (hb1 : b < 64) : EX mX7_tellsFromAll [.ref 0, vi s, vi b] S (fun r S' => ((r = 1 ∧ (tels (S 1 0) (S 27 2) (S 29) (S 33) s b)) ∨ (r = 0 ∧ ¬ (tels (S 1 0) (S 27 2) (S 29) (S 33) s b))) ∧ S' = S) := by
  suffices hh : ∀ P : Int → St → Prop, (∀ r S', (((r = 1 ∧ (tels (S 1 0) (S 27 2) (S 29) (S 33) s b)) ∨ (r = 0 ∧ ¬ (tels (S 1 0) (S 27 2) (S 29) (S 33) s b))) ∧ S' = S) → P r S') → EX mX7_tellsFromAll [.ref 0, vi s, vi b] S P from hh _ (fun _ _ h => h)
  intro P hP
  refine EX.of (L := [(0, .ref 0), (1, vi s), (2, vi b)]) rfl rfl (Nat.le_of_ble_eq_true rfl) rfl ?_
  obtain ⟨⟨hn0, hn1⟩, hwl, ⟨hp0, hp1⟩, ⟨hs0, hs1⟩, hyr, hpt, hhd⟩ := id hX
  have hwt : ∀ k, 0 ≤ k → k < 6 → 1 ≤ S 2 k ∧ S 2 k ≤ 9 := fun k a b => ⟨(hwl k a b).1, (hwl k a b).2.1⟩
  refine j_iconst dX7_tellsFromAll_0 ?_
  refine j_istore_n (L' := [(0, .ref 0), (1, vi s), (2, vi b), (3, vi 0)]) dX7_tellsFromAll_1 (Nat.le_of_ble_eq_true rfl) rfl ?_
  have lp2 : ∀ (n : Nat) (t : Int), (S 27 2 - t).toNat < n → (0 ≤ t ∧ t ≤ S 27 2 ∧ ∀ j, 0 ≤ j → j < t → j ≠ s → difr (S 1 0) (S 29) (S 33) s j b) → JJ mX7_tellsFromAll (RX mX7_tellsFromAll P) 2 [(0, .ref 0), (1, vi s), (2, vi b), (3, vi t)] [] S := by
    intro n
    induction n with
    | zero => intro t hm; exact absurd hm (Nat.not_lt_zero _)
    | succ n ih2 =>
      intro t hm2 hv2
      obtain ⟨hv1, hv2, hv3⟩ := hv2
      refine j_iload_n dX7_tellsFromAll_2 rfl ?_
      refine j_aload_n dX7_tellsFromAll_3 rfl ?_
      refine j_getR dX7_tellsFromAll_4 fg_X7_19 fq_0_1 ?_
      refine j_getI (x := S 27 2) dX7_tellsFromAll_7 fg_X7_190 fq_27_2 rfl (fun hi7 => ?_)
      refine j_icmp_ge (tgt := 36) dX7_tellsFromAll_10 (by decide) (by omega) (by omega) (fun h10 => ?_) (fun h10 => ?_)
      · refine j_iconst dX7_tellsFromAll_36 ?_
        exact j_iret rfl dX7_tellsFromAll_37 (fun _ => Or.inr rfl) (hP _ _ ⟨Or.inl ⟨rfl, fun j a c d => hv3 j a (by omega) d⟩, rfl⟩)
      · refine j_iload_n dX7_tellsFromAll_13 rfl ?_
        refine j_iload_n dX7_tellsFromAll_14 rfl ?_
        refine j_icmp_eq (tgt := 30) dX7_tellsFromAll_15 (by decide) (by omega) (by omega) (fun h15 => ?_) (fun h15 => ?_)
        · refine j_iinc (L' := [(0, .ref 0), (1, vi s), (2, vi b), (3, vi (t + 1))]) dX7_tellsFromAll_30 (Nat.le_of_ble_eq_true rfl) rfl rfl ?_
          refine j_goto (tgt := 2) dX7_tellsFromAll_33 (by decide) ?_
          exact ih2 (t + 1) (by omega) ⟨by omega, by omega, fun j a c d => if e : j = t then by first | (exact absurd (e.trans h15) d) | (rw [e]; exact hc22) else hv3 j a (by omega) d⟩
        · refine j_aload_n dX7_tellsFromAll_18 rfl ?_
          refine j_iload_n dX7_tellsFromAll_19 rfl ?_
          refine j_iload_n dX7_tellsFromAll_20 rfl ?_
          refine j_iload_n dX7_tellsFromAll_21 rfl ?_
          refine j_callVi (As := [vi s, vi t, vi b]) (rest := []) (t_X7_differIn _ s t b hX h0 h1 (by omega) (by omega) hb0 hb1) rfl cm_X7_differIn ci_X7_differIn ml_X7_288 oq_0 rfl (Nat.le_of_ble_eq_true rfl) (Nat.le_of_ble_eq_true rfl) dX7_tellsFromAll_22 (fun r22 S22 hp22 => ?_)
          obtain ⟨⟨rfl, hc22⟩ | ⟨rfl, hc22⟩, he22⟩ := hp22
          · rw [he22]
            refine j_if_ne (tgt := 30) dX7_tellsFromAll_25 (by decide) (by omega)  (fun _ => ?_) (fun h => absurd h (by decide))
            refine j_iinc (L' := [(0, .ref 0), (1, vi s), (2, vi b), (3, vi (t + 1))]) dX7_tellsFromAll_30 (Nat.le_of_ble_eq_true rfl) rfl rfl ?_
            refine j_goto (tgt := 2) dX7_tellsFromAll_33 (by decide) ?_
            exact ih2 (t + 1) (by omega) ⟨by omega, by omega, fun j a c d => if e : j = t then by first | (exact absurd (e.trans h15) d) | (rw [e]; exact hc22) else hv3 j a (by omega) d⟩
          · rw [he22]
            refine j_if_ne (tgt := 30) dX7_tellsFromAll_25 (by decide) (by omega)  (fun h => absurd h (by decide)) (fun _ => ?_)
            refine j_iconst dX7_tellsFromAll_28 ?_
            exact j_iret rfl dX7_tellsFromAll_29 (fun _ => Or.inl rfl) (hP _ _ ⟨Or.inr ⟨rfl, fun z => hc22 (z t (by omega) (by omega) h15)⟩, rfl⟩)
  exact lp2 _ 0 (Nat.lt_succ_self _) ⟨by omega, by omega, fun j a b => by omega⟩
