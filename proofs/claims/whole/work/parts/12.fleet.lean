set_option maxRecDepth 100000 in
set_option maxHeartbeats 4000000 in
theorem t_X1_partAt (S : St) (s k : Int) (h0 : 0 ≤ s) (h1 : s < 6) (h2 : 0 ≤ k) (h3 : k < 6) : EX mX1_partAt [.ref 27, vi s, vi k] S (fun r S' => r = S 33 (s * 6 + k) ∧ S' = S) := by
  suffices hh : ∀ P : Int → St → Prop, (∀ r S', (r = S 33 (s * 6 + k) ∧ S' = S) → P r S') → EX mX1_partAt [.ref 27, vi s, vi k] S P from hh _ (fun _ _ h => h)
  intro P hP
  refine EX.of (L := [(0, .ref 27), (1, vi s), (2, vi k)]) rfl rfl (Nat.le_of_ble_eq_true rfl) rfl ?_
  refine j_aload_n dX1_partAt_0 rfl ?_
  refine j_getR dX1_partAt_1 fg_X1_37 fq_27_8 ?_
  refine j_iload_n dX1_partAt_4 rfl ?_
  refine j_bipush dX1_partAt_5 (by decide) ?_
  refine j_imul dX1_partAt_7 ?_
  refine j_iload_n dX1_partAt_8 rfl ?_
  refine j_iadd dX1_partAt_9 ?_
  refine j_iald (x := S 33 ((s * 6) + k)) dX1_partAt_10 aq_33 (by omega) (by omega) rfl (fun hi10 => ?_)
  exact j_iret rfl dX1_partAt_11 (fun h => by cases h) (hP _ _ ⟨rfl, rfl⟩)
set_option maxRecDepth 100000 in
set_option maxHeartbeats 4000000 in
theorem t_X1_liesFor (S : St) (p k : Int) (h0 : 0 ≤ p) (h1 : p < 48) (hk : InR k) : EX mX1_liesFor [.ref 27, vi p, vi k] S (fun r S' => ((r = 1 ∧ (S 31 p = 8 ∧ S 28 p = k)) ∨ (r = 0 ∧ ¬ (S 31 p = 8 ∧ S 28 p = k))) ∧ S' = S) := by
  suffices hh : ∀ P : Int → St → Prop, (∀ r S', (((r = 1 ∧ (S 31 p = 8 ∧ S 28 p = k)) ∨ (r = 0 ∧ ¬ (S 31 p = 8 ∧ S 28 p = k))) ∧ S' = S) → P r S') → EX mX1_liesFor [.ref 27, vi p, vi k] S P from hh _ (fun _ _ h => h)
  intro P hP
  refine EX.of (L := [(0, .ref 27), (1, vi p), (2, vi k)]) rfl rfl (Nat.le_of_ble_eq_true rfl) rfl ?_
  refine j_aload_n dX1_liesFor_0 rfl ?_
  refine j_getR dX1_liesFor_1 fg_X1_31 fq_27_6 ?_
  refine j_iload_n dX1_liesFor_4 rfl ?_
  refine j_iald (x := S 31 p) dX1_liesFor_5 aq_31 (by omega) (by omega) rfl (fun hi5 => ?_)
  refine j_bipush dX1_liesFor_6 (by decide) ?_
  refine j_icmp_ne (tgt := 25) dX1_liesFor_8 (by decide) (by omega) (by omega) (fun h8 => ?_) (fun h8 => ?_)
  · refine j_iconst dX1_liesFor_25 ?_
    exact j_iret rfl dX1_liesFor_26 (fun _ => Or.inl rfl) (hP _ _ ⟨by omega, rfl⟩)
  · refine j_aload_n dX1_liesFor_11 rfl ?_
    refine j_getR dX1_liesFor_12 fg_X1_21 fq_27_3 ?_
    refine j_iload_n dX1_liesFor_15 rfl ?_
    refine j_iald (x := S 28 p) dX1_liesFor_16 aq_28 (by omega) (by omega) rfl (fun hi16 => ?_)
    refine j_iload_n dX1_liesFor_17 rfl ?_
    refine j_icmp_ne (tgt := 25) dX1_liesFor_18 (by decide) (by omega) (by omega) (fun h18 => ?_) (fun h18 => ?_)
    · refine j_iconst dX1_liesFor_25 ?_
      exact j_iret rfl dX1_liesFor_26 (fun _ => Or.inl rfl) (hP _ _ ⟨by omega, rfl⟩)
    · refine j_iconst dX1_liesFor_21 ?_
      refine j_goto (tgt := 26) dX1_liesFor_22 (by decide) ?_
      exact j_iret rfl dX1_liesFor_26 (fun _ => Or.inr rfl) (hP _ _ ⟨by omega, rfl⟩)
set_option maxRecDepth 100000 in
set_option maxHeartbeats 4000000 in
theorem t_X1_lyingOf (S : St) (k : Int) (hp0 : 0 ≤ S 27 1) (hp1 : S 27 1 ≤ 48) (hk : InR k) : EX mX1_lyingOf [.ref 27, vi k] S (fun r S' => r = sm (fun p => if S 31 p = 8 ∧ S 28 p = k then 1 else 0) (S 27 1).toNat ∧ S' = S) := by
  suffices hh : ∀ P : Int → St → Prop, (∀ r S', (r = sm (fun p => if S 31 p = 8 ∧ S 28 p = k then 1 else 0) (S 27 1).toNat ∧ S' = S) → P r S') → EX mX1_lyingOf [.ref 27, vi k] S P from hh _ (fun _ _ h => h)
  intro P hP
  refine EX.of (L := [(0, .ref 27), (1, vi k)]) rfl rfl (Nat.le_of_ble_eq_true rfl) rfl ?_
  refine j_iconst dX1_lyingOf_0 ?_
  refine j_istore_n (L' := [(0, .ref 27), (1, vi k), (2, vi 0)]) dX1_lyingOf_1 (Nat.le_of_ble_eq_true rfl) rfl ?_
  refine j_iconst dX1_lyingOf_2 ?_
  refine j_istore_n (L' := [(0, .ref 27), (1, vi k), (2, vi 0), (3, vi 0)]) dX1_lyingOf_3 (Nat.le_of_ble_eq_true rfl) rfl ?_
  have lp4 : ∀ (n : Nat) (n0 p : Int), (S 27 1 - p).toNat < n → (0 ≤ p ∧ p ≤ S 27 1 ∧ n0 = sm (fun p => if S 31 p = 8 ∧ S 28 p = k then 1 else 0) p.toNat) → JJ mX1_lyingOf (RX mX1_lyingOf P) 4 [(0, .ref 27), (1, vi k), (2, vi n0), (3, vi p)] [] S := by
    intro n
    induction n with
    | zero => intro n0 p hm; exact absurd hm (Nat.not_lt_zero _)
    | succ n ih4 =>
      intro n0 p hm4 hv4
      obtain ⟨hv1, hv2, hv3⟩ := hv4
      refine j_iload_n dX1_lyingOf_4 rfl ?_
      refine j_aload_n dX1_lyingOf_5 rfl ?_
      refine j_getI (x := S 27 1) dX1_lyingOf_6 fg_X1_15 fq_27_1 rfl (fun hi6 => ?_)
      refine j_icmp_ge (tgt := 30) dX1_lyingOf_9 (by decide) (by omega) (by omega) (fun h9 => ?_) (fun h9 => ?_)
      · refine j_iload_n dX1_lyingOf_30 rfl ?_
        exact j_iret rfl dX1_lyingOf_31 (fun h => by cases h) (hP _ _ ⟨by rw [hv3]; congr 2; omega, rfl⟩)
      · refine j_aload_n dX1_lyingOf_12 rfl ?_
        refine j_iload_n dX1_lyingOf_13 rfl ?_
        refine j_iload_n dX1_lyingOf_14 rfl ?_
        refine j_callVi (As := [vi p, vi k]) (rest := []) (t_X1_liesFor _ p k (by omega) (by omega) (by omega)) rfl cm_X1_liesFor ci_X1_liesFor ml_X1_46 oq_27 rfl (Nat.le_of_ble_eq_true rfl) (Nat.le_of_ble_eq_true rfl) dX1_lyingOf_15 (fun r15 S15 hp15 => ?_)
        obtain ⟨⟨rfl, hc15⟩ | ⟨rfl, hc15⟩, he15⟩ := hp15
        · rw [he15]
          refine j_if_eq (tgt := 24) dX1_lyingOf_18 (by decide) (by omega)  (fun h => absurd h (by decide)) (fun _ => ?_)
          refine j_iinc (L' := [(0, .ref 27), (1, vi k), (2, vi (n0 + 1)), (3, vi p)]) dX1_lyingOf_21 (Nat.le_of_ble_eq_true rfl) rfl rfl ?_
          refine j_iinc (L' := [(0, .ref 27), (1, vi k), (2, vi (n0 + 1)), (3, vi (p + 1))]) dX1_lyingOf_24 (Nat.le_of_ble_eq_true rfl) rfl rfl ?_
          refine j_goto (tgt := 4) dX1_lyingOf_27 (by decide) ?_
          exact ih4 (n0 + 1) (p + 1) (by omega) ⟨by omega, by omega, by rw [sm_s (by omega)]; split <;> omega⟩
        · rw [he15]
          refine j_if_eq (tgt := 24) dX1_lyingOf_18 (by decide) (by omega)  (fun _ => ?_) (fun h => absurd h (by decide))
          refine j_iinc (L' := [(0, .ref 27), (1, vi k), (2, vi n0), (3, vi (p + 1))]) dX1_lyingOf_24 (Nat.le_of_ble_eq_true rfl) rfl rfl ?_
          refine j_goto (tgt := 4) dX1_lyingOf_27 (by decide) ?_
          exact ih4 n0 (p + 1) (by omega) ⟨by omega, by omega, by rw [sm_s (by omega)]; split <;> omega⟩
  exact lp4 _ 0 0 (Nat.lt_succ_self _) ⟨by omega, by omega, rfl⟩
set_option maxRecDepth 100000 in
set_option maxHeartbeats 4000000 in
theorem t_X1_lying (S : St) (hp0 : 0 ≤ S 27 1) (hp1 : S 27 1 ≤ 48) : EX mX1_lying [.ref 27] S (fun r S' => r = sm (fun p => if S 31 p = 8 then 1 else 0) (S 27 1).toNat ∧ S' = S) := by
  suffices hh : ∀ P : Int → St → Prop, (∀ r S', (r = sm (fun p => if S 31 p = 8 then 1 else 0) (S 27 1).toNat ∧ S' = S) → P r S') → EX mX1_lying [.ref 27] S P from hh _ (fun _ _ h => h)
  intro P hP
  refine EX.of (L := [(0, .ref 27)]) rfl rfl (Nat.le_of_ble_eq_true rfl) rfl ?_
  refine j_iconst dX1_lying_0 ?_
  refine j_istore_n (L' := [(0, .ref 27), (1, vi 0)]) dX1_lying_1 (Nat.le_of_ble_eq_true rfl) rfl ?_
  refine j_iconst dX1_lying_2 ?_
  refine j_istore_n (L' := [(0, .ref 27), (1, vi 0), (2, vi 0)]) dX1_lying_3 (Nat.le_of_ble_eq_true rfl) rfl ?_
  have lp4 : ∀ (n : Nat) (n0 p : Int), (S 27 1 - p).toNat < n → (0 ≤ p ∧ p ≤ S 27 1 ∧ n0 = sm (fun p => if S 31 p = 8 then 1 else 0) p.toNat) → JJ mX1_lying (RX mX1_lying P) 4 [(0, .ref 27), (1, vi n0), (2, vi p)] [] S := by
    intro n
    induction n with
    | zero => intro n0 p hm; exact absurd hm (Nat.not_lt_zero _)
    | succ n ih4 =>
      intro n0 p hm4 hv4
      obtain ⟨hv1, hv2, hv3⟩ := hv4
      refine j_iload_n dX1_lying_4 rfl ?_
      refine j_aload_n dX1_lying_5 rfl ?_
      refine j_getI (x := S 27 1) dX1_lying_6 fg_X1_15 fq_27_1 rfl (fun hi6 => ?_)
      refine j_icmp_ge (tgt := 32) dX1_lying_9 (by decide) (by omega) (by omega) (fun h9 => ?_) (fun h9 => ?_)
      · refine j_iload_n dX1_lying_32 rfl ?_
        exact j_iret rfl dX1_lying_33 (fun h => by cases h) (hP _ _ ⟨by rw [hv3]; congr 2; omega, rfl⟩)
      · refine j_aload_n dX1_lying_12 rfl ?_
        refine j_getR dX1_lying_13 fg_X1_31 fq_27_6 ?_
        refine j_iload_n dX1_lying_16 rfl ?_
        refine j_iald (x := S 31 p) dX1_lying_17 aq_31 (by omega) (by omega) rfl (fun hi17 => ?_)
        refine j_bipush dX1_lying_18 (by decide) ?_
        refine j_icmp_ne (tgt := 26) dX1_lying_20 (by decide) (by omega) (by omega) (fun h20 => ?_) (fun h20 => ?_)
        · refine j_iinc (L' := [(0, .ref 27), (1, vi n0), (2, vi (p + 1))]) dX1_lying_26 (Nat.le_of_ble_eq_true rfl) rfl rfl ?_
          refine j_goto (tgt := 4) dX1_lying_29 (by decide) ?_
          exact ih4 n0 (p + 1) (by omega) ⟨by omega, by omega, by rw [sm_s (by omega)]; split <;> omega⟩
        · refine j_iinc (L' := [(0, .ref 27), (1, vi (n0 + 1)), (2, vi p)]) dX1_lying_23 (Nat.le_of_ble_eq_true rfl) rfl rfl ?_
          refine j_iinc (L' := [(0, .ref 27), (1, vi (n0 + 1)), (2, vi (p + 1))]) dX1_lying_26 (Nat.le_of_ble_eq_true rfl) rfl rfl ?_
          refine j_goto (tgt := 4) dX1_lying_29 (by decide) ?_
          exact ih4 (n0 + 1) (p + 1) (by omega) ⟨by omega, by omega, by rw [sm_s (by omega)]; split <;> omega⟩
  exact lp4 _ 0 0 (Nat.lt_succ_self _) ⟨by omega, by omega, rfl⟩
set_option maxRecDepth 100000 in
set_option maxHeartbeats 4000000 in
theorem t_X1_firstLying (S : St) (k : Int) (hp0 : 0 ≤ S 27 1) (hp1 : S 27 1 ≤ 48) (hk : InR k) : EX mX1_firstLying [.ref 27, vi k] S (fun r S' => Fst (fun p => S 31 p = 8 ∧ S 28 p = k) (S 27 1) (-1) r ∧ S' = S) := by
  suffices hh : ∀ P : Int → St → Prop, (∀ r S', (Fst (fun p => S 31 p = 8 ∧ S 28 p = k) (S 27 1) (-1) r ∧ S' = S) → P r S') → EX mX1_firstLying [.ref 27, vi k] S P from hh _ (fun _ _ h => h)
  intro P hP
  refine EX.of (L := [(0, .ref 27), (1, vi k)]) rfl rfl (Nat.le_of_ble_eq_true rfl) rfl ?_
  refine j_iconst dX1_firstLying_0 ?_
  refine j_istore_n (L' := [(0, .ref 27), (1, vi k), (2, vi 0)]) dX1_firstLying_1 (Nat.le_of_ble_eq_true rfl) rfl ?_
  have lp2 : ∀ (n : Nat) (p : Int), (S 27 1 - p).toNat < n → (0 ≤ p ∧ p ≤ S 27 1 ∧ ∀ q, 0 ≤ q → q < p → ¬ (S 31 q = 8 ∧ S 28 q = k)) → JJ mX1_firstLying (RX mX1_firstLying P) 2 [(0, .ref 27), (1, vi k), (2, vi p)] [] S := by
    intro n
    induction n with
    | zero => intro p hm; exact absurd hm (Nat.not_lt_zero _)
    | succ n ih2 =>
      intro p hm2 hv2
      obtain ⟨hv1, hv2, hv3⟩ := hv2
      refine j_iload_n dX1_firstLying_2 rfl ?_
      refine j_aload_n dX1_firstLying_3 rfl ?_
      refine j_getI (x := S 27 1) dX1_firstLying_4 fg_X1_15 fq_27_1 rfl (fun hi4 => ?_)
      refine j_icmp_ge (tgt := 27) dX1_firstLying_7 (by decide) (by omega) (by omega) (fun h7 => ?_) (fun h7 => ?_)
      · refine j_iconst dX1_firstLying_27 ?_
        exact j_iret rfl dX1_firstLying_28 (fun h => by cases h) (hP _ _ ⟨Or.inr ⟨rfl, fun q q0 q1 => hv3 q q0 (by omega)⟩, rfl⟩)
      · refine j_aload_n dX1_firstLying_10 rfl ?_
        refine j_iload_n dX1_firstLying_11 rfl ?_
        refine j_iload_n dX1_firstLying_12 rfl ?_
        refine j_callVi (As := [vi p, vi k]) (rest := []) (t_X1_liesFor _ p k (by omega) (by omega) (by omega)) rfl cm_X1_liesFor ci_X1_liesFor ml_X1_46 oq_27 rfl (Nat.le_of_ble_eq_true rfl) (Nat.le_of_ble_eq_true rfl) dX1_firstLying_13 (fun r13 S13 hp13 => ?_)
        obtain ⟨⟨rfl, hc13⟩ | ⟨rfl, hc13⟩, he13⟩ := hp13
        · rw [he13]
          refine j_if_eq (tgt := 21) dX1_firstLying_16 (by decide) (by omega)  (fun h => absurd h (by decide)) (fun _ => ?_)
          refine j_iload_n dX1_firstLying_19 rfl ?_
          exact j_iret rfl dX1_firstLying_20 (fun h => by cases h) (hP _ _ ⟨Or.inl ⟨by omega, by omega, hc13, hv3⟩, rfl⟩)
        · rw [he13]
          refine j_if_eq (tgt := 21) dX1_firstLying_16 (by decide) (by omega)  (fun _ => ?_) (fun h => absurd h (by decide))
          refine j_iinc (L' := [(0, .ref 27), (1, vi k), (2, vi (p + 1))]) dX1_firstLying_21 (Nat.le_of_ble_eq_true rfl) rfl rfl ?_
          refine j_goto (tgt := 2) dX1_firstLying_24 (by decide) ?_
          exact ih2 (p + 1) (by omega) ⟨by omega, by omega, fun q q0 q1 => if e : q = p then e ▸ hc13 else hv3 q q0 (by omega)⟩
  exact lp2 _ 0 (Nat.lt_succ_self _) ⟨by omega, by omega, fun q q0 q1 => by omega⟩
set_option maxRecDepth 100000 in
set_option maxHeartbeats 4000000 in
theorem t_X1_addPart (S : St) (pl mk ag : Int) (h0 : 0 ≤ S 27 1) (h1 : S 27 1 < 48) (r1 : InR pl) (r2 : InR mk) (r3 : InR ag) : EX mX1_addPart [.ref 27, vi pl, vi mk, vi ag] S (fun r S' => r = S 27 1 ∧ S' = up (up (up (up (up S 28 (S 27 1) pl) 29 (S 27 1) mk) 30 (S 27 1) ag) 31 (S 27 1) 8) 27 1 (S 27 1 + 1)) := by
  suffices hh : ∀ P : Int → St → Prop, (∀ r S', (r = S 27 1 ∧ S' = up (up (up (up (up S 28 (S 27 1) pl) 29 (S 27 1) mk) 30 (S 27 1) ag) 31 (S 27 1) 8) 27 1 (S 27 1 + 1)) → P r S') → EX mX1_addPart [.ref 27, vi pl, vi mk, vi ag] S P from hh _ (fun _ _ h => h)
  intro P hP
  refine EX.of (L := [(0, .ref 27), (1, vi pl), (2, vi mk), (3, vi ag)]) rfl rfl (Nat.le_of_ble_eq_true rfl) rfl ?_
  refine j_aload_n dX1_addPart_0 rfl ?_
  refine j_getI (x := S 27 1) dX1_addPart_1 fg_X1_15 fq_27_1 rfl (fun hi1 => ?_)
  refine j_istore (L' := [(0, .ref 27), (1, vi pl), (2, vi mk), (3, vi ag), (4, vi (S 27 1))]) dX1_addPart_4 (Nat.le_of_ble_eq_true rfl) rfl ?_
  refine j_aload_n dX1_addPart_6 rfl ?_
  refine j_getR dX1_addPart_7 fg_X1_21 fq_27_3 ?_
  refine j_iload dX1_addPart_10 rfl ?_
  refine j_iload_n dX1_addPart_12 rfl ?_
  refine j_iast dX1_addPart_13 aq_28 (by omega) (by omega) (by omega) ?_
  refine j_aload_n dX1_addPart_14 rfl ?_
  refine j_getR dX1_addPart_15 fg_X1_25 fq_27_4 ?_
  refine j_iload dX1_addPart_18 rfl ?_
  refine j_iload_n dX1_addPart_20 rfl ?_
  refine j_iast dX1_addPart_21 aq_29 (by omega) (by omega) (by omega) ?_
  refine j_aload_n dX1_addPart_22 rfl ?_
  refine j_getR dX1_addPart_23 fg_X1_28 fq_27_5 ?_
  refine j_iload dX1_addPart_26 rfl ?_
  refine j_iload_n dX1_addPart_28 rfl ?_
  refine j_iast dX1_addPart_29 aq_30 (by omega) (by omega) (by omega) ?_
  refine j_aload_n dX1_addPart_30 rfl ?_
  refine j_getR dX1_addPart_31 fg_X1_31 fq_27_6 ?_
  refine j_iload dX1_addPart_34 rfl ?_
  refine j_bipush dX1_addPart_36 (by decide) ?_
  refine j_iast dX1_addPart_38 aq_31 (by omega) (by omega) (by omega) ?_
  refine j_aload_n dX1_addPart_39 rfl ?_
  refine j_dup dX1_addPart_40 rfl ?_
  refine j_getI (x := S 27 1) dX1_addPart_41 fg_X1_15 fq_27_1 rfl (fun hi41 => ?_)
  refine j_iconst dX1_addPart_44 ?_
  refine j_iadd dX1_addPart_45 ?_
  refine j_putI (i := 1) dX1_addPart_46 fg_X1_15 ft_1_1 fq_27_1 rfl (by omega) ?_
  refine j_iload dX1_addPart_49 rfl ?_
  exact j_iret rfl dX1_addPart_51 (fun h => by cases h) (hP _ _ ⟨rfl, rfl⟩)
set_option maxRecDepth 100000 in
set_option maxHeartbeats 4000000 in
theorem t_X1_addShip (S : St) (o : Int) (h0 : 0 ≤ S 27 2) (h1 : S 27 2 < 6) (r1 : InR o) : EX mX1_addShip [.ref 27, vi o] S (fun r S' => r = S 27 2 ∧ S' = up (up S 32 (S 27 2) o) 27 2 (S 27 2 + 1)) := by
  suffices hh : ∀ P : Int → St → Prop, (∀ r S', (r = S 27 2 ∧ S' = up (up S 32 (S 27 2) o) 27 2 (S 27 2 + 1)) → P r S') → EX mX1_addShip [.ref 27, vi o] S P from hh _ (fun _ _ h => h)
  intro P hP
  refine EX.of (L := [(0, .ref 27), (1, vi o)]) rfl rfl (Nat.le_of_ble_eq_true rfl) rfl ?_
  refine j_aload_n dX1_addShip_0 rfl ?_
  refine j_getI (x := S 27 2) dX1_addShip_1 fg_X1_18 fq_27_2 rfl (fun hi1 => ?_)
  refine j_istore_n (L' := [(0, .ref 27), (1, vi o), (2, vi (S 27 2))]) dX1_addShip_4 (Nat.le_of_ble_eq_true rfl) rfl ?_
  refine j_aload_n dX1_addShip_5 rfl ?_
  refine j_getR dX1_addShip_6 fg_X1_34 fq_27_7 ?_
  refine j_iload_n dX1_addShip_9 rfl ?_
  refine j_iload_n dX1_addShip_10 rfl ?_
  refine j_iast dX1_addShip_11 aq_32 (by omega) (by omega) (by omega) ?_
  refine j_aload_n dX1_addShip_12 rfl ?_
  refine j_dup dX1_addShip_13 rfl ?_
  refine j_getI (x := S 27 2) dX1_addShip_14 fg_X1_18 fq_27_2 rfl (fun hi14 => ?_)
  refine j_iconst dX1_addShip_17 ?_
  refine j_iadd dX1_addShip_18 ?_
  refine j_putI (i := 2) dX1_addShip_19 fg_X1_18 ft_1_2 fq_27_2 rfl (by omega) ?_
  refine j_iload_n dX1_addShip_22 rfl ?_
  exact j_iret rfl dX1_addShip_23 (fun h => by cases h) (hP _ _ ⟨rfl, rfl⟩)
set_option maxRecDepth 100000 in
set_option maxHeartbeats 4000000 in
theorem t_X1_putIn (S : St) (s p : Int) (h0 : 0 ≤ s) (h1 : s < 6) (h2 : 0 ≤ p) (h3 : p < 48) (h4 : 0 ≤ S 28 p) (h5 : S 28 p < 6) : EX mX1_putIn [.ref 27, vi s, vi p] S (fun r S' => S' = up (up S 33 (s * 6 + S 28 p) p) 31 p s) := by
  suffices hh : ∀ P : Int → St → Prop, (∀ r S', (S' = up (up S 33 (s * 6 + S 28 p) p) 31 p s) → P r S') → EX mX1_putIn [.ref 27, vi s, vi p] S P from hh _ (fun _ _ h => h)
  intro P hP
  refine EX.of (L := [(0, .ref 27), (1, vi s), (2, vi p)]) rfl rfl (Nat.le_of_ble_eq_true rfl) rfl ?_
  refine j_aload_n dX1_putIn_0 rfl ?_
  refine j_getR dX1_putIn_1 fg_X1_37 fq_27_8 ?_
  refine j_iload_n dX1_putIn_4 rfl ?_
  refine j_bipush dX1_putIn_5 (by decide) ?_
  refine j_imul dX1_putIn_7 ?_
  refine j_aload_n dX1_putIn_8 rfl ?_
  refine j_getR dX1_putIn_9 fg_X1_21 fq_27_3 ?_
  refine j_iload_n dX1_putIn_12 rfl ?_
  refine j_iald (x := S 28 p) dX1_putIn_13 aq_28 (by omega) (by omega) rfl (fun hi13 => ?_)
  refine j_iadd dX1_putIn_14 ?_
  refine j_iload_n dX1_putIn_15 rfl ?_
  refine j_iast dX1_putIn_16 aq_33 (by omega) (by omega) (by omega) ?_
  refine j_aload_n dX1_putIn_17 rfl ?_
  refine j_getR dX1_putIn_18 fg_X1_31 fq_27_6 ?_
  refine j_iload_n dX1_putIn_21 rfl ?_
  refine j_iload_n dX1_putIn_22 rfl ?_
  refine j_iast dX1_putIn_23 aq_31 (by omega) (by omega) (by omega) ?_
  exact j_vret rfl dX1_putIn_24 (fun h => by cases h) (hP _ _ rfl)
set_option maxRecDepth 100000 in
set_option maxHeartbeats 4000000 in
theorem t_X1_startAnew (S : St) : EX mX1_startAnew [.ref 27] S (fun r S' => S' = up (up (up S 27 0 0) 27 1 0) 27 2 0) := by
  suffices hh : ∀ P : Int → St → Prop, (∀ r S', (S' = up (up (up S 27 0 0) 27 1 0) 27 2 0) → P r S') → EX mX1_startAnew [.ref 27] S P from hh _ (fun _ _ h => h)
  intro P hP
  refine EX.of (L := [(0, .ref 27)]) rfl rfl (Nat.le_of_ble_eq_true rfl) rfl ?_
  refine j_aload_n dX1_startAnew_0 rfl ?_
  refine j_iconst dX1_startAnew_1 ?_
  refine j_putI (i := 0) dX1_startAnew_2 fg_X1_9 ft_1_0 fq_27_0 rfl (by omega) ?_
  refine j_aload_n dX1_startAnew_5 rfl ?_
  refine j_iconst dX1_startAnew_6 ?_
  refine j_putI (i := 1) dX1_startAnew_7 fg_X1_15 ft_1_1 fq_27_1 rfl (by omega) ?_
  refine j_aload_n dX1_startAnew_10 rfl ?_
  refine j_iconst dX1_startAnew_11 ?_
  refine j_putI (i := 2) dX1_startAnew_12 fg_X1_18 ft_1_2 fq_27_2 rfl (by omega) ?_
  exact j_vret rfl dX1_startAnew_15 (fun h => by cases h) (hP _ _ rfl)
def IsF (c : Nat) : Prop := ∃ f, f < 13 ∧ c = 27 + 7 * f
theorem fqF_0 {c : Nat} (h : IsF c) : fdq c 0 = some (1, 0) := by
  obtain ⟨f, hf, rfl⟩ := h
  exact (by decide +kernel : ∀ f, f < 13 → fdq (27 + 7 * f) 0 = some (1, 0)) f hf
theorem fqF_1 {c : Nat} (h : IsF c) : fdq c 1 = some (1, 0) := by
  obtain ⟨f, hf, rfl⟩ := h
  exact (by decide +kernel : ∀ f, f < 13 → fdq (27 + 7 * f) 1 = some (1, 0)) f hf
theorem fqF_2 {c : Nat} (h : IsF c) : fdq c 2 = some (1, 0) := by
  obtain ⟨f, hf, rfl⟩ := h
  exact (by decide +kernel : ∀ f, f < 13 → fdq (27 + 7 * f) 2 = some (1, 0)) f hf
theorem fqF_3 {c : Nat} (h : IsF c) : fdq c 3 = some (1, (c + 1) + 2) := by
  obtain ⟨f, hf, rfl⟩ := h
  exact (by decide +kernel : ∀ f, f < 13 → fdq (27 + 7 * f) 3 = some (1, ((27 + 7 * f) + 1) + 2)) f hf
theorem fqF_4 {c : Nat} (h : IsF c) : fdq c 4 = some (1, (c + 2) + 2) := by
  obtain ⟨f, hf, rfl⟩ := h
  exact (by decide +kernel : ∀ f, f < 13 → fdq (27 + 7 * f) 4 = some (1, ((27 + 7 * f) + 2) + 2)) f hf
theorem fqF_5 {c : Nat} (h : IsF c) : fdq c 5 = some (1, (c + 3) + 2) := by
  obtain ⟨f, hf, rfl⟩ := h
  exact (by decide +kernel : ∀ f, f < 13 → fdq (27 + 7 * f) 5 = some (1, ((27 + 7 * f) + 3) + 2)) f hf
theorem fqF_6 {c : Nat} (h : IsF c) : fdq c 6 = some (1, (c + 4) + 2) := by
  obtain ⟨f, hf, rfl⟩ := h
  exact (by decide +kernel : ∀ f, f < 13 → fdq (27 + 7 * f) 6 = some (1, ((27 + 7 * f) + 4) + 2)) f hf
theorem fqF_7 {c : Nat} (h : IsF c) : fdq c 7 = some (1, (c + 5) + 2) := by
  obtain ⟨f, hf, rfl⟩ := h
  exact (by decide +kernel : ∀ f, f < 13 → fdq (27 + 7 * f) 7 = some (1, ((27 + 7 * f) + 5) + 2)) f hf
theorem fqF_8 {c : Nat} (h : IsF c) : fdq c 8 = some (1, (c + 6) + 2) := by
  obtain ⟨f, hf, rfl⟩ := h
  exact (by decide +kernel : ∀ f, f < 13 → fdq (27 + 7 * f) 8 = some (1, ((27 + 7 * f) + 6) + 2)) f hf
theorem aqF_1 {c : Nat} (h : IsF c) : arq (c + 1) = some (1, 48) := by
  obtain ⟨f, hf, rfl⟩ := h
  exact (by decide +kernel : ∀ f, f < 13 → arq (27 + 7 * f + 1) = some (1, 48)) f hf
theorem aqF_2 {c : Nat} (h : IsF c) : arq (c + 2) = some (1, 48) := by
  obtain ⟨f, hf, rfl⟩ := h
  exact (by decide +kernel : ∀ f, f < 13 → arq (27 + 7 * f + 2) = some (1, 48)) f hf
theorem aqF_3 {c : Nat} (h : IsF c) : arq (c + 3) = some (1, 48) := by
  obtain ⟨f, hf, rfl⟩ := h
  exact (by decide +kernel : ∀ f, f < 13 → arq (27 + 7 * f + 3) = some (1, 48)) f hf
theorem aqF_4 {c : Nat} (h : IsF c) : arq (c + 4) = some (1, 48) := by
  obtain ⟨f, hf, rfl⟩ := h
  exact (by decide +kernel : ∀ f, f < 13 → arq (27 + 7 * f + 4) = some (1, 48)) f hf
theorem aqF_5 {c : Nat} (h : IsF c) : arq (c + 5) = some (1, 6) := by
  obtain ⟨f, hf, rfl⟩ := h
  exact (by decide +kernel : ∀ f, f < 13 → arq (27 + 7 * f + 5) = some (1, 6)) f hf
theorem aqF_6 {c : Nat} (h : IsF c) : arq (c + 6) = some (1, 36) := by
  obtain ⟨f, hf, rfl⟩ := h
  exact (by decide +kernel : ∀ f, f < 13 → arq (27 + 7 * f + 6) = some (1, 36)) f hf
theorem j_st {M : MT} {X : CtxT} {pc : Nat} {L : List (Nat × Value)} {st : List Value} {S : St} (k : ∀ T, T = S → JJ M X pc L st T) : JJ M X pc L st S := k S rfl
/-- fleet d holds what fleet c holds, as far as it counts -/
def Cpd (S : St) (d c : Nat) (S' : St) : Prop := S' d 0 = S c 0 ∧ S' d 1 = S c 1 ∧ S' d 2 = S c 2 ∧ (∀ i, 0 ≤ i → i < S c 1 → S' (d + 1) i = S (c + 1) i ∧ S' (d + 2) i = S (c + 2) i ∧ S' (d + 3) i = S (c + 3) i ∧ S' (d + 4) i = S (c + 4) i) ∧ (∀ i, 0 ≤ i → i < S c 2 → S' (d + 5) i = S (c + 5) i) ∧ (∀ i, 0 ≤ i → i < S c 2 * 6 → S' (d + 6) i = S (c + 6) i) ∧ ∀ c', c' < d ∨ d + 6 < c' → S' c' = S c'
theorem isF_apart {c d : Nat} (hc : IsF c) (hd : IsF d) (h : d ≠ c) : d + 6 < c ∨ c + 6 < d := by
  obtain ⟨f, hf, rfl⟩ := hc
  obtain ⟨g, hg, rfl⟩ := hd
  omega
theorem cpd_of {S T : St} {d c : Nat} (hap : d + 6 < c ∨ c + 6 < d) (t0 : T d 0 = S c 0) (t1 : T d 1 = S c 1) (t2 : T d 2 = S c 2) (t3 : ∀ c', c' ≠ d → T c' = S c') : Cpd S d c (cpy (cpy (cpy (cpy (cpy (cpy T (c + 1) (d + 1) (S c 1)) (c + 2) (d + 2) (S c 1)) (c + 3) (d + 3) (S c 1)) (c + 4) (d + 4) (S c 1)) (c + 5) (d + 5) (S c 2)) (c + 6) (d + 6) (S c 2 * 6)) := by
  refine ⟨?_, ?_, ?_, fun i i0 i1 => ⟨?_, ?_, ?_, ?_⟩, fun i i0 i1 => ?_, fun i i0 i1 => ?_, fun c' h => ?_⟩
  · rw [cpy_c (by omega), cpy_c (by omega), cpy_c (by omega), cpy_c (by omega), cpy_c (by omega), cpy_c (by omega)]; exact t0
  · rw [cpy_c (by omega), cpy_c (by omega), cpy_c (by omega), cpy_c (by omega), cpy_c (by omega), cpy_c (by omega)]; exact t1
  · rw [cpy_c (by omega), cpy_c (by omega), cpy_c (by omega), cpy_c (by omega), cpy_c (by omega), cpy_c (by omega)]; exact t2
  · rw [cpy_c (by omega), cpy_c (by omega), cpy_c (by omega), cpy_c (by omega), cpy_c (by omega), cpy_in i0 i1, t3 _ (by omega)]
  · rw [cpy_c (by omega), cpy_c (by omega), cpy_c (by omega), cpy_c (by omega), cpy_in i0 i1, cpy_c (by omega), t3 _ (by omega)]
  · rw [cpy_c (by omega), cpy_c (by omega), cpy_c (by omega), cpy_in i0 i1, cpy_c (by omega), cpy_c (by omega), t3 _ (by omega)]
  · rw [cpy_c (by omega), cpy_c (by omega), cpy_in i0 i1, cpy_c (by omega), cpy_c (by omega), cpy_c (by omega), t3 _ (by omega)]
  · rw [cpy_c (by omega), cpy_in i0 i1, cpy_c (by omega), cpy_c (by omega), cpy_c (by omega), cpy_c (by omega), t3 _ (by omega)]
  · rw [cpy_in i0 i1, cpy_c (by omega), cpy_c (by omega), cpy_c (by omega), cpy_c (by omega), cpy_c (by omega), t3 _ (by omega)]
  · rw [cpy_c (by omega), cpy_c (by omega), cpy_c (by omega), cpy_c (by omega), cpy_c (by omega), cpy_c (by omega), t3 _ (by omega)]
set_option maxRecDepth 100000 in
set_option maxHeartbeats 4000000 in
theorem t_X1_copyFrom (S : St) (d c : Nat) (hd : IsF d) (hc : IsF c) (hne : d ≠ c) (h0 : 0 ≤ S c 1) (h1 : S c 1 ≤ 48) (h2 : 0 ≤ S c 2) (h3 : S c 2 ≤ 6) : EX mX1_copyFrom [.ref d, .ref c] S (fun r S' => Cpd S d c S') := by
  suffices hh : ∀ P : Int → St → Prop, (∀ r S', (Cpd S d c S') → P r S') → EX mX1_copyFrom [.ref d, .ref c] S P from hh _ (fun _ _ h => h)
  intro P hP
  refine EX.of (L := [(0, .ref d), (1, .ref c)]) rfl rfl (Nat.le_of_ble_eq_true rfl) rfl ?_
  have hap := isF_apart hc hd hne
  refine j_aload_n dX1_copyFrom_0 rfl ?_
  refine j_aload_n dX1_copyFrom_1 rfl ?_
  refine j_getI (x := S c 0) dX1_copyFrom_2 fg_X1_9 (fqF_0 hc) rfl (fun hi2 => ?_)
  refine j_putI (i := 0) dX1_copyFrom_5 fg_X1_9 ft_1_0 (fqF_0 hd) rfl (by omega) ?_
  refine j_aload_n dX1_copyFrom_8 rfl ?_
  refine j_aload_n dX1_copyFrom_9 rfl ?_
  refine j_getI (x := S c 1) dX1_copyFrom_10 fg_X1_15 (fqF_1 hc) (up_c (by omega)) (fun hi10 => ?_)
  refine j_putI (i := 1) dX1_copyFrom_13 fg_X1_15 ft_1_1 (fqF_1 hd) rfl (by omega) ?_
  refine j_aload_n dX1_copyFrom_16 rfl ?_
  refine j_aload_n dX1_copyFrom_17 rfl ?_
  refine j_getI (x := S c 2) dX1_copyFrom_18 fg_X1_18 (fqF_2 hc) ((up_c (by omega)).trans (up_c (by omega))) (fun hi18 => ?_)
  refine j_putI (i := 2) dX1_copyFrom_21 fg_X1_18 ft_1_2 (fqF_2 hd) rfl (by omega) ?_
  refine j_st (fun T eT => ?_)
  have t0 : T d 0 = S c 0 := by rw [eT]; simp [up]
  have t1 : T d 1 = S c 1 := by rw [eT]; simp [up]
  have t2 : T d 2 = S c 2 := by rw [eT]; simp [up]
  have t3 : ∀ c', c' ≠ d → T c' = S c' := by intro c' h; rw [eT, up_row h, up_row h, up_row h]
  refine j_aload_n dX1_copyFrom_24 rfl ?_
  refine j_getR dX1_copyFrom_25 fg_X1_21 (fqF_3 hc) ?_
  refine j_iconst dX1_copyFrom_28 ?_
  refine j_aload_n dX1_copyFrom_29 rfl ?_
  refine j_getR dX1_copyFrom_30 fg_X1_21 (fqF_3 hd) ?_
  refine j_iconst dX1_copyFrom_33 ?_
  refine j_aload_n dX1_copyFrom_34 rfl ?_
  refine j_getI (x := S c 1) dX1_copyFrom_35 fg_X1_15 (fqF_1 hd) (by exact t1) (fun hi35 => ?_)
  refine j_copy dX1_copyFrom_38 cw_X1_40 (aqF_1 hc) (aqF_1 hd) (by omega) (by omega) (by omega) (Nat.le_of_ble_eq_true rfl) (Nat.le_of_ble_eq_true rfl) ?_
  refine j_aload_n dX1_copyFrom_41 rfl ?_
  refine j_getR dX1_copyFrom_42 fg_X1_25 (fqF_4 hc) ?_
  refine j_iconst dX1_copyFrom_45 ?_
  refine j_aload_n dX1_copyFrom_46 rfl ?_
  refine j_getR dX1_copyFrom_47 fg_X1_25 (fqF_4 hd) ?_
  refine j_iconst dX1_copyFrom_50 ?_
  refine j_aload_n dX1_copyFrom_51 rfl ?_
  refine j_getI (x := S c 1) dX1_copyFrom_52 fg_X1_15 (fqF_1 hd) (by rw [cpy_c (by omega)]; exact t1) (fun hi52 => ?_)
  refine j_copy dX1_copyFrom_55 cw_X1_40 (aqF_2 hc) (aqF_2 hd) (by omega) (by omega) (by omega) (Nat.le_of_ble_eq_true rfl) (Nat.le_of_ble_eq_true rfl) ?_
  refine j_aload_n dX1_copyFrom_58 rfl ?_
  refine j_getR dX1_copyFrom_59 fg_X1_28 (fqF_5 hc) ?_
  refine j_iconst dX1_copyFrom_62 ?_
  refine j_aload_n dX1_copyFrom_63 rfl ?_
  refine j_getR dX1_copyFrom_64 fg_X1_28 (fqF_5 hd) ?_
  refine j_iconst dX1_copyFrom_67 ?_
  refine j_aload_n dX1_copyFrom_68 rfl ?_
  refine j_getI (x := S c 1) dX1_copyFrom_69 fg_X1_15 (fqF_1 hd) (by rw [cpy_c (by omega)]; rw [cpy_c (by omega)]; exact t1) (fun hi69 => ?_)
  refine j_copy dX1_copyFrom_72 cw_X1_40 (aqF_3 hc) (aqF_3 hd) (by omega) (by omega) (by omega) (Nat.le_of_ble_eq_true rfl) (Nat.le_of_ble_eq_true rfl) ?_
  refine j_aload_n dX1_copyFrom_75 rfl ?_
  refine j_getR dX1_copyFrom_76 fg_X1_31 (fqF_6 hc) ?_
  refine j_iconst dX1_copyFrom_79 ?_
  refine j_aload_n dX1_copyFrom_80 rfl ?_
  refine j_getR dX1_copyFrom_81 fg_X1_31 (fqF_6 hd) ?_
  refine j_iconst dX1_copyFrom_84 ?_
  refine j_aload_n dX1_copyFrom_85 rfl ?_
  refine j_getI (x := S c 1) dX1_copyFrom_86 fg_X1_15 (fqF_1 hd) (by rw [cpy_c (by omega)]; rw [cpy_c (by omega)]; rw [cpy_c (by omega)]; exact t1) (fun hi86 => ?_)
  refine j_copy dX1_copyFrom_89 cw_X1_40 (aqF_4 hc) (aqF_4 hd) (by omega) (by omega) (by omega) (Nat.le_of_ble_eq_true rfl) (Nat.le_of_ble_eq_true rfl) ?_
  refine j_aload_n dX1_copyFrom_92 rfl ?_
  refine j_getR dX1_copyFrom_93 fg_X1_34 (fqF_7 hc) ?_
  refine j_iconst dX1_copyFrom_96 ?_
  refine j_aload_n dX1_copyFrom_97 rfl ?_
  refine j_getR dX1_copyFrom_98 fg_X1_34 (fqF_7 hd) ?_
  refine j_iconst dX1_copyFrom_101 ?_
  refine j_aload_n dX1_copyFrom_102 rfl ?_
  refine j_getI (x := S c 2) dX1_copyFrom_103 fg_X1_18 (fqF_2 hd) (by rw [cpy_c (by omega)]; rw [cpy_c (by omega)]; rw [cpy_c (by omega)]; rw [cpy_c (by omega)]; exact t2) (fun hi103 => ?_)
  refine j_copy dX1_copyFrom_106 cw_X1_40 (aqF_5 hc) (aqF_5 hd) (by omega) (by omega) (by omega) (Nat.le_of_ble_eq_true rfl) (Nat.le_of_ble_eq_true rfl) ?_
  refine j_aload_n dX1_copyFrom_109 rfl ?_
  refine j_getR dX1_copyFrom_110 fg_X1_37 (fqF_8 hc) ?_
  refine j_iconst dX1_copyFrom_113 ?_
  refine j_aload_n dX1_copyFrom_114 rfl ?_
  refine j_getR dX1_copyFrom_115 fg_X1_37 (fqF_8 hd) ?_
  refine j_iconst dX1_copyFrom_118 ?_
  refine j_aload_n dX1_copyFrom_119 rfl ?_
  refine j_getI (x := S c 2) dX1_copyFrom_120 fg_X1_18 (fqF_2 hd) (by rw [cpy_c (by omega)]; rw [cpy_c (by omega)]; rw [cpy_c (by omega)]; rw [cpy_c (by omega)]; rw [cpy_c (by omega)]; exact t2) (fun hi120 => ?_)
  refine j_bipush dX1_copyFrom_123 (by decide) ?_
  refine j_imul dX1_copyFrom_125 ?_
  refine j_copy dX1_copyFrom_126 cw_X1_40 (aqF_6 hc) (aqF_6 hd) (by omega) (by omega) (by omega) (Nat.le_of_ble_eq_true rfl) (Nat.le_of_ble_eq_true rfl) ?_
  exact j_vret rfl dX1_copyFrom_129 (fun h => by cases h) (hP _ _ (cpd_of hap t0 t1 t2 t3))
