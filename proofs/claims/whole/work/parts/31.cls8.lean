set_option maxRecDepth 100000 in
set_option maxHeartbeats 4000000 in
theorem t_X0_comesFirst (S : St) (hn0 : 2 ≤ S 1 0) (hn1 : S 1 0 ≤ 6) : EX mX0_comesFirst [.ref 8] S (fun r S' => ((r = 1 ∧ lex (S 1 0) (S 9) (S 10)) ∨ (r = 0 ∧ lex (S 1 0) (S 10) (S 9))) ∧ S' = S) := by
  suffices hh : ∀ P : Int → St → Prop, (∀ r S', (((r = 1 ∧ lex (S 1 0) (S 9) (S 10)) ∨ (r = 0 ∧ lex (S 1 0) (S 10) (S 9))) ∧ S' = S) → P r S') → EX mX0_comesFirst [.ref 8] S P from hh _ (fun _ _ h => h)
  intro P hP
  refine EX.of (L := [(0, .ref 8)]) rfl rfl (Nat.le_of_ble_eq_true rfl) rfl ?_
  refine j_iconst dX0_comesFirst_0 ?_
  refine j_istore_n (L' := [(0, .ref 8), (1, vi 0)]) dX0_comesFirst_1 (Nat.le_of_ble_eq_true rfl) rfl ?_
  have lp2 : ∀ (n : Nat) (k : Int), (S 1 0 - k).toNat < n → (0 ≤ k ∧ k ≤ S 1 0 ∧ ∀ j, 0 ≤ j → j < k → S 9 j = S 10 j) → JJ mX0_comesFirst (RX mX0_comesFirst P) 2 [(0, .ref 8), (1, vi k)] [] S := by
    intro n
    induction n with
    | zero => intro k hm; exact absurd hm (Nat.not_lt_zero _)
    | succ n ih2 =>
      intro k hm2 hv2
      obtain ⟨hv1, hv2, hv3⟩ := hv2
      refine j_iload_n dX0_comesFirst_2 rfl ?_
      refine j_aload_n dX0_comesFirst_3 rfl ?_
      refine j_getR dX0_comesFirst_4 fg_X0_35 fq_8_0 ?_
      refine j_getI (x := S 1 0) dX0_comesFirst_7 fg_X0_47 fq_1_0 rfl (fun hi7 => ?_)
      refine j_icmp_ge (tgt := 55) dX0_comesFirst_10 (by decide) (by omega) (by omega) (fun h10 => ?_) (fun h10 => ?_)
      · refine j_iconst dX0_comesFirst_55 ?_
        exact j_iret rfl dX0_comesFirst_56 (fun _ => Or.inl rfl) (hP _ _ ⟨Or.inr ⟨rfl, Or.inl fun j a b => (hv3 j a (by omega)).symm⟩, rfl⟩)
      · refine j_aload_n dX0_comesFirst_13 rfl ?_
        refine j_getR dX0_comesFirst_14 fg_X0_9 fq_8_3 ?_
        refine j_iload_n dX0_comesFirst_17 rfl ?_
        refine j_iald (x := S 9 k) dX0_comesFirst_18 aq_9 (by omega) (by omega) rfl (fun hi18 => ?_)
        refine j_aload_n dX0_comesFirst_19 rfl ?_
        refine j_getR dX0_comesFirst_20 fg_X0_15 fq_8_4 ?_
        refine j_iload_n dX0_comesFirst_23 rfl ?_
        refine j_iald (x := S 10 k) dX0_comesFirst_24 aq_10 (by omega) (by omega) rfl (fun hi24 => ?_)
        refine j_icmp_eq (tgt := 49) dX0_comesFirst_25 (by decide) (by omega) (by omega) (fun h25 => ?_) (fun h25 => ?_)
        · refine j_iinc (L' := [(0, .ref 8), (1, vi (k + 1))]) dX0_comesFirst_49 (Nat.le_of_ble_eq_true rfl) rfl rfl ?_
          refine j_goto (tgt := 2) dX0_comesFirst_52 (by decide) ?_
          exact ih2 (k + 1) (by omega) ⟨by omega, by omega, fun j a b => if e : j = k then by rw [e]; exact h25 else hv3 j a (by omega)⟩
        · refine j_aload_n dX0_comesFirst_28 rfl ?_
          refine j_getR dX0_comesFirst_29 fg_X0_9 fq_8_3 ?_
          refine j_iload_n dX0_comesFirst_32 rfl ?_
          refine j_iald (x := S 9 k) dX0_comesFirst_33 aq_9 (by omega) (by omega) rfl (fun hi33 => ?_)
          refine j_aload_n dX0_comesFirst_34 rfl ?_
          refine j_getR dX0_comesFirst_35 fg_X0_15 fq_8_4 ?_
          refine j_iload_n dX0_comesFirst_38 rfl ?_
          refine j_iald (x := S 10 k) dX0_comesFirst_39 aq_10 (by omega) (by omega) rfl (fun hi39 => ?_)
          refine j_icmp_ge (tgt := 47) dX0_comesFirst_40 (by decide) (by omega) (by omega) (fun h40 => ?_) (fun h40 => ?_)
          · refine j_iconst dX0_comesFirst_47 ?_
            exact j_iret rfl dX0_comesFirst_48 (fun _ => Or.inl rfl) (hP _ _ ⟨Or.inr ⟨rfl, Or.inr ⟨k, by omega, by omega, by omega, fun j a b => (hv3 j a b).symm⟩⟩, rfl⟩)
          · refine j_iconst dX0_comesFirst_43 ?_
            refine j_goto (tgt := 48) dX0_comesFirst_44 (by decide) ?_
            exact j_iret rfl dX0_comesFirst_48 (fun _ => Or.inr rfl) (hP _ _ ⟨Or.inl ⟨rfl, Or.inr ⟨k, by omega, by omega, h40, hv3⟩⟩, rfl⟩)
  exact lp2 _ 0 (Nat.lt_succ_self _) ⟨by omega, by omega, fun j a b => by omega⟩
set_option maxRecDepth 100000 in
set_option maxHeartbeats 4000000 in
theorem t_X0_noOlder (S : St) (k bd : Int) (hK : ChK S) (hk0 : 0 ≤ k) (hk1 : k < S 1 0) (hb : InR bd) : EX mX0_noOlder [.ref 8, vi k, vi bd] S (fun r S' => NoR S k bd r ∧ S' = S) := by
  suffices hh : ∀ P : Int → St → Prop, (∀ r S', (NoR S k bd r ∧ S' = S) → P r S') → EX mX0_noOlder [.ref 8, vi k, vi bd] S P from hh _ (fun _ _ h => h)
  intro P hP
  refine EX.of (L := [(0, .ref 8), (1, vi k), (2, vi bd)]) rfl rfl (Nat.le_of_ble_eq_true rfl) rfl ?_
  obtain ⟨hX, ⟨sh0, sh1⟩, ⟨hl0, hl1⟩, ⟨hg0, hg1⟩, hfd, hfw0, hfw1⟩ := id hK
  obtain ⟨⟨hn0, hn1⟩, hwl, ⟨hp0, hp1⟩, ⟨hs0, hs1⟩, hyr, hpt, hhd⟩ := id hX
  have hwt : ∀ k, 0 ≤ k → k < 6 → 1 ≤ S 2 k ∧ S 2 k ≤ 9 := fun k a b => ⟨(hwl k a b).1, (hwl k a b).2.1⟩
  have hgk := hhd (S 8 7) k sh0 sh1 hk0 hk1
  refine j_aload_n dX0_noOlder_0 rfl ?_
  refine j_getR dX0_noOlder_1 fg_X0_39 fq_8_1 ?_
  refine j_getR dX0_noOlder_4 fg_X0_101 fq_27_5 ?_
  refine j_aload_n dX0_noOlder_7 rfl ?_
  refine j_getR dX0_noOlder_8 fg_X0_39 fq_8_1 ?_
  refine j_aload_n dX0_noOlder_11 rfl ?_
  refine j_getI (x := S 8 7) dX0_noOlder_12 fg_X0_26 fq_8_7 rfl (fun hi12 => ?_)
  refine j_iload_n dX0_noOlder_15 rfl ?_
  refine j_callVi (As := [vi (S 8 7), vi k]) (rest := [.ref 30]) (t_X1_partAt _ (S 8 7) k (by omega) (by omega) (by omega) (by omega)) rfl cm_X1_partAt ci_X1_partAt ml_X0_72 oq_27 rfl (Nat.le_of_ble_eq_true rfl) (Nat.le_of_ble_eq_true rfl) dX0_noOlder_16 (fun r16 S16 hp16 => ?_)
  obtain ⟨hr16, he16⟩ := hp16
  rw [he16]
  rw [show r16 = S 33 ((S 8 7) * 6 + k) from hr16.trans rfl]
  refine j_iald (x := S 30 (S 33 ((S 8 7) * 6 + k))) dX0_noOlder_19 aq_30 (by omega) (by omega) rfl (fun hi19 => ?_)
  refine j_iload_n dX0_noOlder_20 rfl ?_
  refine j_icmp_gt (tgt := 27) dX0_noOlder_21 (by decide) (by omega) (by omega) (fun h21 => ?_) (fun h21 => ?_)
  · refine j_iconst dX0_noOlder_27 ?_
    refine j_istore_n (L' := [(0, .ref 8), (1, vi k), (2, vi bd), (3, vi 0)]) dX0_noOlder_28 (Nat.le_of_ble_eq_true rfl) rfl ?_
    have lp29 : ∀ (n : Nat) (p : Int), (S 27 1 - p).toNat < n → (0 ≤ p ∧ p ≤ S 27 1 ∧ ∀ q, 0 ≤ q → q < p → ¬ ((S 31 q = 8 ∧ S 28 q = k) ∧ S 30 q ≤ bd)) → JJ mX0_noOlder (RX mX0_noOlder P) 29 [(0, .ref 8), (1, vi k), (2, vi bd), (3, vi p)] [] S := by
      intro n
      induction n with
      | zero => intro p hm; exact absurd hm (Nat.not_lt_zero _)
      | succ n ih29 =>
        intro p hm29 hv29
        obtain ⟨hv1, hv2, hv3⟩ := hv29
        refine j_iload_n dX0_noOlder_29 rfl ?_
        refine j_aload_n dX0_noOlder_30 rfl ?_
        refine j_getR dX0_noOlder_31 fg_X0_39 fq_8_1 ?_
        refine j_getI (x := S 27 1) dX0_noOlder_34 fg_X0_81 fq_27_1 rfl (fun hi34 => ?_)
        refine j_icmp_ge (tgt := 73) dX0_noOlder_37 (by decide) (by omega) (by omega) (fun h37 => ?_) (fun h37 => ?_)
        · refine j_bipush dX0_noOlder_73 (by decide) ?_
          exact j_iret rfl dX0_noOlder_75 (fun h => by cases h) (hP _ _ ⟨Or.inr ⟨h21, Or.inr ⟨rfl, fun q a b => hv3 q a (by omega)⟩⟩, rfl⟩)
        · refine j_aload_n dX0_noOlder_40 rfl ?_
          refine j_getR dX0_noOlder_41 fg_X0_39 fq_8_1 ?_
          refine j_iload_n dX0_noOlder_44 rfl ?_
          refine j_iload_n dX0_noOlder_45 rfl ?_
          refine j_callVi (As := [vi p, vi k]) (rest := []) (t_X1_liesFor _ p k (by omega) (by omega) (by omega)) rfl cm_X1_liesFor ci_X1_liesFor ml_X0_84 oq_27 rfl (Nat.le_of_ble_eq_true rfl) (Nat.le_of_ble_eq_true rfl) dX0_noOlder_46 (fun r46 S46 hp46 => ?_)
          obtain ⟨⟨rfl, hc46⟩ | ⟨rfl, hc46⟩, he46⟩ := hp46
          · rw [he46]
            refine j_if_eq (tgt := 67) dX0_noOlder_49 (by decide) (by omega)  (fun h => absurd h (by decide)) (fun _ => ?_)
            refine j_aload_n dX0_noOlder_52 rfl ?_
            refine j_getR dX0_noOlder_53 fg_X0_39 fq_8_1 ?_
            refine j_getR dX0_noOlder_56 fg_X0_101 fq_27_5 ?_
            refine j_iload_n dX0_noOlder_59 rfl ?_
            refine j_iald (x := S 30 p) dX0_noOlder_60 aq_30 (by omega) (by omega) rfl (fun hi60 => ?_)
            refine j_iload_n dX0_noOlder_61 rfl ?_
            refine j_icmp_gt (tgt := 67) dX0_noOlder_62 (by decide) (by omega) (by omega) (fun h62 => ?_) (fun h62 => ?_)
            · refine j_iinc (L' := [(0, .ref 8), (1, vi k), (2, vi bd), (3, vi (p + 1))]) dX0_noOlder_67 (Nat.le_of_ble_eq_true rfl) rfl rfl ?_
              refine j_goto (tgt := 29) dX0_noOlder_70 (by decide) ?_
              exact ih29 (p + 1) (by omega) ⟨by omega, by omega, fun q a b => if e : q = p then by rw [e]; first | exact fun z => hc46 z.1 | (intro z; have := z.2; omega) else hv3 q a (by omega)⟩
            · refine j_iload_n dX0_noOlder_65 rfl ?_
              exact j_iret rfl dX0_noOlder_66 (fun h => by cases h) (hP _ _ ⟨Or.inr ⟨h21, Or.inl ⟨by omega, by omega, ⟨hc46, h62⟩, hv3⟩⟩, rfl⟩)
          · rw [he46]
            refine j_if_eq (tgt := 67) dX0_noOlder_49 (by decide) (by omega)  (fun _ => ?_) (fun h => absurd h (by decide))
            refine j_iinc (L' := [(0, .ref 8), (1, vi k), (2, vi bd), (3, vi (p + 1))]) dX0_noOlder_67 (Nat.le_of_ble_eq_true rfl) rfl rfl ?_
            refine j_goto (tgt := 29) dX0_noOlder_70 (by decide) ?_
            exact ih29 (p + 1) (by omega) ⟨by omega, by omega, fun q a b => if e : q = p then by rw [e]; first | exact fun z => hc46 z.1 | (intro z; have := z.2; omega) else hv3 q a (by omega)⟩
    exact lp29 _ 0 (Nat.lt_succ_self _) ⟨by omega, by omega, fun q a b => by omega⟩
  · refine j_bipush dX0_noOlder_24 (by decide) ?_
    exact j_iret rfl dX0_noOlder_26 (fun h => by cases h) (hP _ _ ⟨Or.inl ⟨h21, rfl⟩, rfl⟩)
theorem opt_acc {S T S1 : St} {D : (Int → Int) → Prop} {k p rep : Int} (hO : Opt (S 1 0) D (S 8 5) (S 8 6) (S 10)) (heo : EO S k p (T 9)) (hbt : ∀ c, EO S k p c → bett (S 1 0) (T 9) c) (hk : (0 ≤ k ∧ k < S 1 0) ∧ S 1 0 ≤ 6) (hv2 : rep = cnC (S 1 0) (T 9)) (hs : Same [9] S T) (hx : rep < S 8 6 ∨ (rep = S 8 6 ∧ lex (S 1 0) (T 9) (S 10))) (hS : ChS S T) (he : S1 = cpy (up (up T 8 5 1) 8 6 rep) 9 10 (S 1 0)) : Opt (S 1 0) (fun c => D c ∨ EO S k p c) (S1 8 5) (S1 8 6) (S1 10) ∧ ChS S S1 := by
  have hcb := cnC_bd (S 1 0) (by omega) (T 9)
  have h5 : S1 8 5 = 1 := by rw [he, cpy_c (by decide), up_i (by decide), up_s]
  have h6 : S1 8 6 = rep := by rw [he, cpy_c (by decide), up_s]
  refine ⟨?_, ?_, fun i a b => ?_, ?_, ?_⟩
  · rw [h5, h6, hv2]
    refine Opt.take (by omega) hO heo hbt (fun c => Iff.rfl) (by rw [← hv2]; exact hx) (fun j a b => by rw [he, cpy_in a b, up_c (by decide), up_c (by decide)]) (fun x y hxy g => g.ext hk.1.1 hk.1.2 hxy)
  · intro c hc
    have h10 : c ≠ 10 := fun z => hc (by rw [z]; decide)
    have h8 : c ≠ 8 := fun z => hc (by rw [z]; decide)
    rw [he, cpy_c h10, up_row h8, up_row h8]
    exact hS.1 c hc
  · rw [he, cpy_c (by decide), up_i b, up_i a]; exact hS.2.1 i a b
  · rw [h5]; exact Or.inr rfl
  · rw [h6]; omega
set_option maxRecDepth 100000 in
set_option maxHeartbeats 4000000 in
theorem t_X0_tryOldest (S : St) (D : (Int → Int) → Prop) (k p ch : Int) (hK : ChK S) (hk0 : 0 ≤ k) (hk1 : k < S 1 0) (hq : qual S k p) (hch : (ch = -5 ∧ p = own S k) ∨ (ch = p ∧ p ≠ own S k)) (hO : Opt (S 1 0) D (S 8 5) (S 8 6) (S 10)) : EX mX0_tryOldest [.ref 8, vi k, vi p, vi ch] S (fun r S' => Opt (S 1 0) (fun c => D c ∨ EO S k p c) (S' 8 5) (S' 8 6) (S' 10) ∧ ChS S S') := by
  suffices hh : ∀ P : Int → St → Prop, (∀ r S', (Opt (S 1 0) (fun c => D c ∨ EO S k p c) (S' 8 5) (S' 8 6) (S' 10) ∧ ChS S S') → P r S') → EX mX0_tryOldest [.ref 8, vi k, vi p, vi ch] S P from hh _ (fun _ _ h => h)
  intro P hP
  refine EX.of (L := [(0, .ref 8), (1, vi k), (2, vi p), (3, vi ch)]) rfl rfl (Nat.le_of_ble_eq_true rfl) rfl ?_
  obtain ⟨hX, ⟨sh0, sh1⟩, ⟨hl0, hl1⟩, ⟨hg0, hg1⟩, hfd, hfw0, hfw1⟩ := id hK
  obtain ⟨⟨hn0, hn1⟩, hwl, ⟨hp0, hp1⟩, ⟨hs0, hs1⟩, hyr, hpt, hhd⟩ := id hX
  have hwt : ∀ k, 0 ≤ k → k < 6 → 1 ≤ S 2 k ∧ S 2 k ≤ 9 := fun k a b => ⟨(hwl k a b).1, (hwl k a b).2.1⟩
  have hpp := hpt p hq.1.1 hq.1.2
  have hS0 : ChS S S := ⟨Same.rf, fun _ _ _ => rfl, hfd, hfw0, hfw1⟩
  have hqq := hq.1
  refine j_iconst dX0_tryOldest_0 ?_
  refine j_istore (L' := [(0, .ref 8), (1, vi k), (2, vi p), (3, vi ch), (4, vi 0)]) dX0_tryOldest_1 (Nat.le_of_ble_eq_true rfl) rfl ?_
  refine j_iconst dX0_tryOldest_3 ?_
  refine j_istore (L' := [(0, .ref 8), (1, vi k), (2, vi p), (3, vi ch), (4, vi 0), (5, vi 0)]) dX0_tryOldest_4 (Nat.le_of_ble_eq_true rfl) rfl ?_
  have lp6 : ∀ (n : Nat) (rep j : Int) (T : St), (S 1 0 - j).toNat < n → ((0 ≤ j ∧ j ≤ S 1 0) ∧ rep = cnC j (T 9) ∧ Same [9] S T ∧ WO S k p ch (T 9) j) → JJ mX0_tryOldest (RX mX0_tryOldest P) 6 [(0, .ref 8), (1, vi k), (2, vi p), (3, vi ch), (4, vi rep), (5, vi j)] [] T := by
    intro n
    induction n with
    | zero => intro rep j T hm; exact absurd hm (Nat.not_lt_zero _)
    | succ n ih6 =>
      intro rep j T hm6 hv6
      obtain ⟨hv1, hv2, hv3, hv4⟩ := hv6
      have hrb := cnC_bd j hv1.1 (T 9)
      rw [← hv2] at hrb
      have eT_1 : T 1 = S 1 := hv3 1 (by decide)
      have eT_2 : T 2 = S 2 := hv3 2 (by decide)
      have eT_3 : T 3 = S 3 := hv3 3 (by decide)
      have eT_8 : T 8 = S 8 := hv3 8 (by decide)
      have eT_10 : T 10 = S 10 := hv3 10 (by decide)
      have eT_27 : T 27 = S 27 := hv3 27 (by decide)
      have eT_28 : T 28 = S 28 := hv3 28 (by decide)
      have eT_29 : T 29 = S 29 := hv3 29 (by decide)
      have eT_30 : T 30 = S 30 := hv3 30 (by decide)
      have eT_31 : T 31 = S 31 := hv3 31 (by decide)
      have eT_33 : T 33 = S 33 := hv3 33 (by decide)
      refine j_iload dX0_tryOldest_6 rfl ?_
      refine j_aload_n dX0_tryOldest_8 rfl ?_
      refine j_getR dX0_tryOldest_9 fg_X0_35 fq_8_0 ?_
      refine j_getI (x := S 1 0) dX0_tryOldest_12 fg_X0_47 fq_1_0 (congrFun eT_1 _) (fun hi12 => ?_)
      refine j_icmp_ge (tgt := 108) dX0_tryOldest_15 (by decide) (by omega) (by omega) (fun h15 => ?_) (fun h15 => ?_)
      · have hje : j = S 1 0 := by omega
        rw [hje] at hv2 hv4
        have heo := WO.eo hX sh0 sh1 hk0 hk1 hq hch hv4
        have hbt : ∀ c, EO S k p c → bett (S 1 0) (T 9) c := fun c hc => pt_bett (EO.row (Int.le_refl _) hqq.1 hch hv4 hc)
        have hSCT : ChS S T := ⟨hv3.mono (by decide), fun i _ _ => by rw [eT_8], by rw [eT_8]; exact hfd, by rw [eT_8]; exact ⟨hfw0, hfw1⟩⟩
        refine j_iload dX0_tryOldest_108 rfl ?_
        refine j_aload_n dX0_tryOldest_110 rfl ?_
        refine j_getI (x := S 8 6) dX0_tryOldest_111 fg_X0_22 fq_8_6 (congrFun eT_8 _) (fun hi111 => ?_)
        refine j_icmp_lt (tgt := 133) dX0_tryOldest_114 (by decide) (by omega) (by omega) (fun h114 => ?_) (fun h114 => ?_)
        · refine j_aload_n dX0_tryOldest_133 rfl ?_
          refine j_iload dX0_tryOldest_134 rfl ?_
          refine j_callVv (As := [vi rep]) (rest := []) (t_X0_accept _ rep (by rw [eT_1]; omega) (by rw [eT_1]; omega) (by omega)) rfl cm_X0_accept ci_X0_accept ml_X0_69 oq_8 rfl (Nat.le_of_ble_eq_true rfl) (Nat.le_of_ble_eq_true rfl) dX0_tryOldest_136 (fun r136 S136 hp136 => ?_)
          rw [eT_1] at hp136
          exact j_vret rfl dX0_tryOldest_139 (fun h => by cases h) (hP _ _ (opt_acc hO heo hbt (by omega) hv2 hv3 (Or.inl h114) hSCT hp136))
        · refine j_iload dX0_tryOldest_117 rfl ?_
          refine j_aload_n dX0_tryOldest_119 rfl ?_
          refine j_getI (x := S 8 6) dX0_tryOldest_120 fg_X0_22 fq_8_6 (congrFun eT_8 _) (fun hi120 => ?_)
          refine j_icmp_ne (tgt := 139) dX0_tryOldest_123 (by decide) (by omega) (by omega) (fun h123 => ?_) (fun h123 => ?_)
          · exact j_vret rfl dX0_tryOldest_139 (fun h => by cases h) (hP _ _ ⟨Opt.keep (E := EO S k p) (by omega) (by rw [eT_8, eT_10]; exact hO) hbt (fun c => Iff.rfl) (Or.inl (by rw [eT_8]; omega)), hSCT⟩)
          · refine j_aload_n dX0_tryOldest_126 rfl ?_
            refine j_callVi (As := []) (rest := []) (t_X0_comesFirst _ (by rw [eT_1]; exact hn0) (by rw [eT_1]; exact hn1)) rfl cm_X0_comesFirst ci_X0_comesFirst ml_X0_107 oq_8 rfl (Nat.le_of_ble_eq_true rfl) (Nat.le_of_ble_eq_true rfl) dX0_tryOldest_127 (fun r127 S127 hp127 => ?_)
            obtain ⟨⟨rfl, hc127⟩ | ⟨rfl, hc127⟩, he127⟩ := hp127
            · rw [he127]
              rw [eT_1] at hc127
              rw [eT_10] at hc127
              refine j_if_eq (tgt := 139) dX0_tryOldest_130 (by decide) (by omega)  (fun h => absurd h (by decide)) (fun _ => ?_)
              refine j_aload_n dX0_tryOldest_133 rfl ?_
              refine j_iload dX0_tryOldest_134 rfl ?_
              refine j_callVv (As := [vi rep]) (rest := []) (t_X0_accept _ rep (by rw [eT_1]; omega) (by rw [eT_1]; omega) (by omega)) rfl cm_X0_accept ci_X0_accept ml_X0_69 oq_8 rfl (Nat.le_of_ble_eq_true rfl) (Nat.le_of_ble_eq_true rfl) dX0_tryOldest_136 (fun r136 S136 hp136 => ?_)
              rw [eT_1] at hp136
              exact j_vret rfl dX0_tryOldest_139 (fun h => by cases h) (hP _ _ (opt_acc hO heo hbt (by omega) hv2 hv3 (Or.inr ⟨h123, hc127⟩) hSCT hp136))
            · rw [he127]
              rw [eT_1] at hc127
              rw [eT_10] at hc127
              refine j_if_eq (tgt := 139) dX0_tryOldest_130 (by decide) (by omega)  (fun _ => ?_) (fun h => absurd h (by decide))
              exact j_vret rfl dX0_tryOldest_139 (fun h => by cases h) (hP _ _ ⟨Opt.keep (E := EO S k p) (by omega) (by rw [eT_8, eT_10]; exact hO) hbt (fun c => Iff.rfl) (Or.inr ⟨by rw [eT_8]; omega, by rw [eT_10]; exact hc127⟩), hSCT⟩)
      · refine j_iload dX0_tryOldest_18 rfl ?_
        refine j_iload_n dX0_tryOldest_20 rfl ?_
        refine j_icmp_ge (tgt := 38) dX0_tryOldest_21 (by decide) (by omega) (by omega) (fun h21 => ?_) (fun h21 => ?_)
        · refine j_aload_n dX0_tryOldest_38 rfl ?_
          refine j_getR dX0_tryOldest_39 fg_X0_39 fq_8_1 ?_
          refine j_getR dX0_tryOldest_42 fg_X0_101 fq_27_5 ?_
          refine j_iload_n dX0_tryOldest_45 rfl ?_
          refine j_iald (x := S 30 p) dX0_tryOldest_46 aq_30 (by omega) (by omega) (congrFun eT_30 _) (fun hi46 => ?_)
          refine j_top (fun bd ebd => ?_)
          have hbd : bd = bdO S k p j := by unfold bdO; split <;> omega
          refine j_istore (L' := [(0, .ref 8), (1, vi k), (2, vi p), (3, vi ch), (4, vi rep), (5, vi j), (6, vi bd)]) dX0_tryOldest_47 (Nat.le_of_ble_eq_true rfl) rfl ?_
          refine j_aload_n dX0_tryOldest_49 rfl ?_
          refine j_getR dX0_tryOldest_50 fg_X0_9 fq_8_3 ?_
          refine j_iload dX0_tryOldest_53 rfl ?_
          refine j_iload dX0_tryOldest_55 rfl ?_
          refine j_iload_n dX0_tryOldest_57 rfl ?_
          refine j_icmp_ne (tgt := 65) dX0_tryOldest_58 (by decide) (by omega) (by omega) (fun h58 => ?_) (fun h58 => ?_)
          · refine j_aload_n dX0_tryOldest_65 rfl ?_
            refine j_iload dX0_tryOldest_66 rfl ?_
            refine j_iload dX0_tryOldest_68 rfl ?_
            have hSCT : ChS S T := ⟨hv3.mono (by decide), fun i _ _ => by rw [eT_8], by rw [eT_8]; exact hfd, by rw [eT_8]; exact ⟨hfw0, hfw1⟩⟩
            have hKT := (hK.tr hSCT).1
            refine j_callVi (As := [vi j, vi bd]) (rest := [vi j, .ref 9]) (t_X0_noOlder _ j bd hKT (by omega) (by rw [eT_1]; omega) (by omega)) rfl cm_X0_noOlder ci_X0_noOlder ml_X0_104 oq_8 rfl (Nat.le_of_ble_eq_true rfl) (Nat.le_of_ble_eq_true rfl) dX0_tryOldest_70 (fun r70 S70 hp70 => ?_)
            obtain ⟨hr70, he70⟩ := hp70
            rw [he70]
            have hn70 : NoR S j (bdO S k p j) r70 := by
              rw [← hbd]
              unfold NoR cAG at hr70 ⊢
              rw [eT_8, eT_27, eT_28, eT_30, eT_31, eT_33] at hr70
              exact hr70
            have hrb70 : -9 ≤ r70 ∧ r70 < 48 := by
              rcases hn70 with ⟨_, z⟩ | ⟨_, ⟨z1, z2, _⟩ | ⟨z, _⟩⟩ <;> omega
            refine j_iast dX0_tryOldest_73 aq_9 (by omega) (by omega) (by omega) ?_
            refine j_aload_n dX0_tryOldest_74 rfl ?_
            refine j_getR dX0_tryOldest_75 fg_X0_9 fq_8_3 ?_
            refine j_iload dX0_tryOldest_78 rfl ?_
            refine j_iald (x := r70) dX0_tryOldest_80 aq_9 (by omega) (by omega) (by simp [up]) (fun hi80 => ?_)
            refine j_bipush dX0_tryOldest_81 (by decide) ?_
            refine j_icmp_ne (tgt := 87) dX0_tryOldest_83 (by decide) (by omega) (by omega) (fun h83 => ?_) (fun h83 => ?_)
            · refine j_aload_n dX0_tryOldest_87 rfl ?_
              refine j_getR dX0_tryOldest_88 fg_X0_9 fq_8_3 ?_
              refine j_iload dX0_tryOldest_91 rfl ?_
              refine j_iald (x := r70) dX0_tryOldest_93 aq_9 (by omega) (by omega) (by simp [up]) (fun hi93 => ?_)
              refine j_bipush dX0_tryOldest_94 (by decide) ?_
              refine j_icmp_eq (tgt := 102) dX0_tryOldest_96 (by decide) (by omega) (by omega) (fun h96 => ?_) (fun h96 => ?_)
              · refine j_iinc (L' := [(0, .ref 8), (1, vi k), (2, vi p), (3, vi ch), (4, vi rep), (5, vi (j + 1)), (6, vi bd)]) dX0_tryOldest_102 (Nat.le_of_ble_eq_true rfl) rfl rfl ?_
                refine j_goto (tgt := 6) dX0_tryOldest_105 (by decide) ?_
                refine j_sub (L' := [(0, .ref 8), (1, vi k), (2, vi p), (3, vi ch), (4, vi rep), (5, vi (j + 1))]) (by simp) ?_
                exact ih6 rep (j + 1) (up T 9 j r70) (by omega) ⟨by omega, by rw [cnC_s (by omega), up_s, cnC_congr (fun i a b => up_i (by omega)), ← hv2]; split <;> omega, same_up hv3 (by decide), fun i a b => if e : i = j then by rw [e, up_s]; rw [if_neg h58]; exact ⟨hn70, h83⟩ else by rw [up_i e]; exact hv4 i a (by omega)⟩
              · refine j_iinc (L' := [(0, .ref 8), (1, vi k), (2, vi p), (3, vi ch), (4, vi (rep + 1)), (5, vi j), (6, vi bd)]) dX0_tryOldest_99 (Nat.le_of_ble_eq_true rfl) rfl rfl ?_
                refine j_iinc (L' := [(0, .ref 8), (1, vi k), (2, vi p), (3, vi ch), (4, vi (rep + 1)), (5, vi (j + 1)), (6, vi bd)]) dX0_tryOldest_102 (Nat.le_of_ble_eq_true rfl) rfl rfl ?_
                refine j_goto (tgt := 6) dX0_tryOldest_105 (by decide) ?_
                refine j_sub (L' := [(0, .ref 8), (1, vi k), (2, vi p), (3, vi ch), (4, vi (rep + 1)), (5, vi (j + 1))]) (by simp) ?_
                exact ih6 (rep + 1) (j + 1) (up T 9 j r70) (by omega) ⟨by omega, by rw [cnC_s (by omega), up_s, cnC_congr (fun i a b => up_i (by omega)), ← hv2]; split <;> omega, same_up hv3 (by decide), fun i a b => if e : i = j then by rw [e, up_s]; rw [if_neg h58]; exact ⟨hn70, h83⟩ else by rw [up_i e]; exact hv4 i a (by omega)⟩
            · exact j_vret rfl dX0_tryOldest_86 (fun h => by cases h) (hP _ _ ⟨Opt.none (E := EO S k p) (by rw [up_c (by decide), up_c (by decide), up_row (by decide), eT_8, eT_10]; exact hO) (EO.fail (by omega) (by omega) h58 (by rw [← h83]; exact hn70)) (fun c => Iff.rfl), ChS.up ⟨hv3.mono (by decide), fun i _ _ => by rw [eT_8], by rw [eT_8]; exact hfd, by rw [eT_8]; exact ⟨hfw0, hfw1⟩⟩ (by decide)⟩)
          · refine j_iload_n dX0_tryOldest_61 rfl ?_
            refine j_goto (tgt := 73) dX0_tryOldest_62 (by decide) ?_
            refine j_iast dX0_tryOldest_73 aq_9 (by omega) (by omega) (by omega) ?_
            refine j_aload_n dX0_tryOldest_74 rfl ?_
            refine j_getR dX0_tryOldest_75 fg_X0_9 fq_8_3 ?_
            refine j_iload dX0_tryOldest_78 rfl ?_
            refine j_iald (x := ch) dX0_tryOldest_80 aq_9 (by omega) (by omega) (by simp [up]) (fun hi80 => ?_)
            refine j_bipush dX0_tryOldest_81 (by decide) ?_
            refine j_icmp_ne (tgt := 87) dX0_tryOldest_83 (by decide) (by omega) (by omega) (fun h83 => ?_) (fun h83 => ?_)
            · refine j_aload_n dX0_tryOldest_87 rfl ?_
              refine j_getR dX0_tryOldest_88 fg_X0_9 fq_8_3 ?_
              refine j_iload dX0_tryOldest_91 rfl ?_
              refine j_iald (x := ch) dX0_tryOldest_93 aq_9 (by omega) (by omega) (by simp [up]) (fun hi93 => ?_)
              refine j_bipush dX0_tryOldest_94 (by decide) ?_
              refine j_icmp_eq (tgt := 102) dX0_tryOldest_96 (by decide) (by omega) (by omega) (fun h96 => ?_) (fun h96 => ?_)
              · refine j_iinc (L' := [(0, .ref 8), (1, vi k), (2, vi p), (3, vi ch), (4, vi rep), (5, vi (j + 1)), (6, vi bd)]) dX0_tryOldest_102 (Nat.le_of_ble_eq_true rfl) rfl rfl ?_
                refine j_goto (tgt := 6) dX0_tryOldest_105 (by decide) ?_
                refine j_sub (L' := [(0, .ref 8), (1, vi k), (2, vi p), (3, vi ch), (4, vi rep), (5, vi (j + 1))]) (by simp) ?_
                exact ih6 rep (j + 1) (up T 9 j ch) (by omega) ⟨by omega, by rw [cnC_s (by omega), up_s, cnC_congr (fun i a b => up_i (by omega)), ← hv2]; split <;> omega, same_up hv3 (by decide), fun i a b => if e : i = j then by rw [e, up_s]; rw [if_pos h58] else by rw [up_i e]; exact hv4 i a (by omega)⟩
              · refine j_iinc (L' := [(0, .ref 8), (1, vi k), (2, vi p), (3, vi ch), (4, vi (rep + 1)), (5, vi j), (6, vi bd)]) dX0_tryOldest_99 (Nat.le_of_ble_eq_true rfl) rfl rfl ?_
                refine j_iinc (L' := [(0, .ref 8), (1, vi k), (2, vi p), (3, vi ch), (4, vi (rep + 1)), (5, vi (j + 1)), (6, vi bd)]) dX0_tryOldest_102 (Nat.le_of_ble_eq_true rfl) rfl rfl ?_
                refine j_goto (tgt := 6) dX0_tryOldest_105 (by decide) ?_
                refine j_sub (L' := [(0, .ref 8), (1, vi k), (2, vi p), (3, vi ch), (4, vi (rep + 1)), (5, vi (j + 1))]) (by simp) ?_
                exact ih6 (rep + 1) (j + 1) (up T 9 j ch) (by omega) ⟨by omega, by rw [cnC_s (by omega), up_s, cnC_congr (fun i a b => up_i (by omega)), ← hv2]; split <;> omega, same_up hv3 (by decide), fun i a b => if e : i = j then by rw [e, up_s]; rw [if_pos h58] else by rw [up_i e]; exact hv4 i a (by omega)⟩
            · exact j_vret rfl dX0_tryOldest_86 (fun h => by cases h) (hP _ _ (by exfalso; omega))
        · refine j_aload_n dX0_tryOldest_24 rfl ?_
          refine j_getR dX0_tryOldest_25 fg_X0_39 fq_8_1 ?_
          refine j_getR dX0_tryOldest_28 fg_X0_101 fq_27_5 ?_
          refine j_iload_n dX0_tryOldest_31 rfl ?_
          refine j_iald (x := S 30 p) dX0_tryOldest_32 aq_30 (by omega) (by omega) (congrFun eT_30 _) (fun hi32 => ?_)
          refine j_iconst dX0_tryOldest_33 ?_
          refine j_isub dX0_tryOldest_34 ?_
          refine j_goto (tgt := 47) dX0_tryOldest_35 (by decide) ?_
          refine j_top (fun bd ebd => ?_)
          have hbd : bd = bdO S k p j := by unfold bdO; split <;> omega
          refine j_istore (L' := [(0, .ref 8), (1, vi k), (2, vi p), (3, vi ch), (4, vi rep), (5, vi j), (6, vi bd)]) dX0_tryOldest_47 (Nat.le_of_ble_eq_true rfl) rfl ?_
          refine j_aload_n dX0_tryOldest_49 rfl ?_
          refine j_getR dX0_tryOldest_50 fg_X0_9 fq_8_3 ?_
          refine j_iload dX0_tryOldest_53 rfl ?_
          refine j_iload dX0_tryOldest_55 rfl ?_
          refine j_iload_n dX0_tryOldest_57 rfl ?_
          refine j_icmp_ne (tgt := 65) dX0_tryOldest_58 (by decide) (by omega) (by omega) (fun h58 => ?_) (fun h58 => ?_)
          · refine j_aload_n dX0_tryOldest_65 rfl ?_
            refine j_iload dX0_tryOldest_66 rfl ?_
            refine j_iload dX0_tryOldest_68 rfl ?_
            have hSCT : ChS S T := ⟨hv3.mono (by decide), fun i _ _ => by rw [eT_8], by rw [eT_8]; exact hfd, by rw [eT_8]; exact ⟨hfw0, hfw1⟩⟩
            have hKT := (hK.tr hSCT).1
            refine j_callVi (As := [vi j, vi bd]) (rest := [vi j, .ref 9]) (t_X0_noOlder _ j bd hKT (by omega) (by rw [eT_1]; omega) (by omega)) rfl cm_X0_noOlder ci_X0_noOlder ml_X0_104 oq_8 rfl (Nat.le_of_ble_eq_true rfl) (Nat.le_of_ble_eq_true rfl) dX0_tryOldest_70 (fun r70 S70 hp70 => ?_)
            obtain ⟨hr70, he70⟩ := hp70
            rw [he70]
            have hn70 : NoR S j (bdO S k p j) r70 := by
              rw [← hbd]
              unfold NoR cAG at hr70 ⊢
              rw [eT_8, eT_27, eT_28, eT_30, eT_31, eT_33] at hr70
              exact hr70
            have hrb70 : -9 ≤ r70 ∧ r70 < 48 := by
              rcases hn70 with ⟨_, z⟩ | ⟨_, ⟨z1, z2, _⟩ | ⟨z, _⟩⟩ <;> omega
            refine j_iast dX0_tryOldest_73 aq_9 (by omega) (by omega) (by omega) ?_
            refine j_aload_n dX0_tryOldest_74 rfl ?_
            refine j_getR dX0_tryOldest_75 fg_X0_9 fq_8_3 ?_
            refine j_iload dX0_tryOldest_78 rfl ?_
            refine j_iald (x := r70) dX0_tryOldest_80 aq_9 (by omega) (by omega) (by simp [up]) (fun hi80 => ?_)
            refine j_bipush dX0_tryOldest_81 (by decide) ?_
            refine j_icmp_ne (tgt := 87) dX0_tryOldest_83 (by decide) (by omega) (by omega) (fun h83 => ?_) (fun h83 => ?_)
            · refine j_aload_n dX0_tryOldest_87 rfl ?_
              refine j_getR dX0_tryOldest_88 fg_X0_9 fq_8_3 ?_
              refine j_iload dX0_tryOldest_91 rfl ?_
              refine j_iald (x := r70) dX0_tryOldest_93 aq_9 (by omega) (by omega) (by simp [up]) (fun hi93 => ?_)
              refine j_bipush dX0_tryOldest_94 (by decide) ?_
              refine j_icmp_eq (tgt := 102) dX0_tryOldest_96 (by decide) (by omega) (by omega) (fun h96 => ?_) (fun h96 => ?_)
              · refine j_iinc (L' := [(0, .ref 8), (1, vi k), (2, vi p), (3, vi ch), (4, vi rep), (5, vi (j + 1)), (6, vi bd)]) dX0_tryOldest_102 (Nat.le_of_ble_eq_true rfl) rfl rfl ?_
                refine j_goto (tgt := 6) dX0_tryOldest_105 (by decide) ?_
                refine j_sub (L' := [(0, .ref 8), (1, vi k), (2, vi p), (3, vi ch), (4, vi rep), (5, vi (j + 1))]) (by simp) ?_
                exact ih6 rep (j + 1) (up T 9 j r70) (by omega) ⟨by omega, by rw [cnC_s (by omega), up_s, cnC_congr (fun i a b => up_i (by omega)), ← hv2]; split <;> omega, same_up hv3 (by decide), fun i a b => if e : i = j then by rw [e, up_s]; rw [if_neg h58]; exact ⟨hn70, h83⟩ else by rw [up_i e]; exact hv4 i a (by omega)⟩
              · refine j_iinc (L' := [(0, .ref 8), (1, vi k), (2, vi p), (3, vi ch), (4, vi (rep + 1)), (5, vi j), (6, vi bd)]) dX0_tryOldest_99 (Nat.le_of_ble_eq_true rfl) rfl rfl ?_
                refine j_iinc (L' := [(0, .ref 8), (1, vi k), (2, vi p), (3, vi ch), (4, vi (rep + 1)), (5, vi (j + 1)), (6, vi bd)]) dX0_tryOldest_102 (Nat.le_of_ble_eq_true rfl) rfl rfl ?_
                refine j_goto (tgt := 6) dX0_tryOldest_105 (by decide) ?_
                refine j_sub (L' := [(0, .ref 8), (1, vi k), (2, vi p), (3, vi ch), (4, vi (rep + 1)), (5, vi (j + 1))]) (by simp) ?_
                exact ih6 (rep + 1) (j + 1) (up T 9 j r70) (by omega) ⟨by omega, by rw [cnC_s (by omega), up_s, cnC_congr (fun i a b => up_i (by omega)), ← hv2]; split <;> omega, same_up hv3 (by decide), fun i a b => if e : i = j then by rw [e, up_s]; rw [if_neg h58]; exact ⟨hn70, h83⟩ else by rw [up_i e]; exact hv4 i a (by omega)⟩
            · exact j_vret rfl dX0_tryOldest_86 (fun h => by cases h) (hP _ _ ⟨Opt.none (E := EO S k p) (by rw [up_c (by decide), up_c (by decide), up_row (by decide), eT_8, eT_10]; exact hO) (EO.fail (by omega) (by omega) h58 (by rw [← h83]; exact hn70)) (fun c => Iff.rfl), ChS.up ⟨hv3.mono (by decide), fun i _ _ => by rw [eT_8], by rw [eT_8]; exact hfd, by rw [eT_8]; exact ⟨hfw0, hfw1⟩⟩ (by decide)⟩)
          · refine j_iload_n dX0_tryOldest_61 rfl ?_
            refine j_goto (tgt := 73) dX0_tryOldest_62 (by decide) ?_
            refine j_iast dX0_tryOldest_73 aq_9 (by omega) (by omega) (by omega) ?_
            refine j_aload_n dX0_tryOldest_74 rfl ?_
            refine j_getR dX0_tryOldest_75 fg_X0_9 fq_8_3 ?_
            refine j_iload dX0_tryOldest_78 rfl ?_
            refine j_iald (x := ch) dX0_tryOldest_80 aq_9 (by omega) (by omega) (by simp [up]) (fun hi80 => ?_)
            refine j_bipush dX0_tryOldest_81 (by decide) ?_
            refine j_icmp_ne (tgt := 87) dX0_tryOldest_83 (by decide) (by omega) (by omega) (fun h83 => ?_) (fun h83 => ?_)
            · refine j_aload_n dX0_tryOldest_87 rfl ?_
              refine j_getR dX0_tryOldest_88 fg_X0_9 fq_8_3 ?_
              refine j_iload dX0_tryOldest_91 rfl ?_
              refine j_iald (x := ch) dX0_tryOldest_93 aq_9 (by omega) (by omega) (by simp [up]) (fun hi93 => ?_)
              refine j_bipush dX0_tryOldest_94 (by decide) ?_
              refine j_icmp_eq (tgt := 102) dX0_tryOldest_96 (by decide) (by omega) (by omega) (fun h96 => ?_) (fun h96 => ?_)
              · refine j_iinc (L' := [(0, .ref 8), (1, vi k), (2, vi p), (3, vi ch), (4, vi rep), (5, vi (j + 1)), (6, vi bd)]) dX0_tryOldest_102 (Nat.le_of_ble_eq_true rfl) rfl rfl ?_
                refine j_goto (tgt := 6) dX0_tryOldest_105 (by decide) ?_
                refine j_sub (L' := [(0, .ref 8), (1, vi k), (2, vi p), (3, vi ch), (4, vi rep), (5, vi (j + 1))]) (by simp) ?_
                exact ih6 rep (j + 1) (up T 9 j ch) (by omega) ⟨by omega, by rw [cnC_s (by omega), up_s, cnC_congr (fun i a b => up_i (by omega)), ← hv2]; split <;> omega, same_up hv3 (by decide), fun i a b => if e : i = j then by rw [e, up_s]; rw [if_pos h58] else by rw [up_i e]; exact hv4 i a (by omega)⟩
              · refine j_iinc (L' := [(0, .ref 8), (1, vi k), (2, vi p), (3, vi ch), (4, vi (rep + 1)), (5, vi j), (6, vi bd)]) dX0_tryOldest_99 (Nat.le_of_ble_eq_true rfl) rfl rfl ?_
                refine j_iinc (L' := [(0, .ref 8), (1, vi k), (2, vi p), (3, vi ch), (4, vi (rep + 1)), (5, vi (j + 1)), (6, vi bd)]) dX0_tryOldest_102 (Nat.le_of_ble_eq_true rfl) rfl rfl ?_
                refine j_goto (tgt := 6) dX0_tryOldest_105 (by decide) ?_
                refine j_sub (L' := [(0, .ref 8), (1, vi k), (2, vi p), (3, vi ch), (4, vi (rep + 1)), (5, vi (j + 1))]) (by simp) ?_
                exact ih6 (rep + 1) (j + 1) (up T 9 j ch) (by omega) ⟨by omega, by rw [cnC_s (by omega), up_s, cnC_congr (fun i a b => up_i (by omega)), ← hv2]; split <;> omega, same_up hv3 (by decide), fun i a b => if e : i = j then by rw [e, up_s]; rw [if_pos h58] else by rw [up_i e]; exact hv4 i a (by omega)⟩
            · exact j_vret rfl dX0_tryOldest_86 (fun h => by cases h) (hP _ _ (by exfalso; omega))
  exact lp6 _ 0 0 S (Nat.lt_succ_self _) ⟨by omega, rfl, Same.rf, fun i a b => by omega⟩
