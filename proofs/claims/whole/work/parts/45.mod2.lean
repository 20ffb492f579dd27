theorem or_z {x : Int} (h : 0 ≤ x) : ((x.toNat ||| (0 : Int).toNat : Nat) : Int) = x := by
  rw [show (0 : Int).toNat = 0 from rfl, Nat.or_zero]
  omega
set_option maxRecDepth 100000 in
set_option maxHeartbeats 4000000 in
theorem t_X8_rotten (S : St) (s : Int) (hM : MI S) (h0 : 0 ≤ s) (h1 : s < S 125 2) : EX mX8_rotten [.ref 118, vi s] S (fun r S' => r = rotS (S 118 13) (S 121) (mAg S) (mHd S) s ∧ S' = S) := by
  suffices hh : ∀ P : Int → St → Prop, (∀ r S', (r = rotS (S 118 13) (S 121) (mAg S) (mHd S) s ∧ S' = S) → P r S') → EX mX8_rotten [.ref 118, vi s] S P from hh _ (fun _ _ h => h)
  intro P hP
  refine EX.of (L := [(0, .ref 118), (1, vi s)]) rfl rfl (Nat.le_of_ble_eq_true rfl) rfl ?_
  obtain ⟨⟨hn0, hn1⟩, hwl, ⟨hp0, hp1⟩, ⟨hs0, hs1⟩, hyr, hpt, hhd, hth⟩ := id hM
  have hwt : ∀ k, 0 ≤ k → k < 6 → 1 ≤ S 120 k ∧ S 120 k ≤ 9 := fun k a b => ⟨(hwl k a b).1, (hwl k a b).2.1⟩
  refine j_iconst dX8_rotten_0 ?_
  refine j_istore_n (L' := [(0, .ref 118), (1, vi s), (2, vi 0)]) dX8_rotten_1 (Nat.le_of_ble_eq_true rfl) rfl ?_
  refine j_iconst dX8_rotten_2 ?_
  refine j_istore_n (L' := [(0, .ref 118), (1, vi s), (2, vi 0), (3, vi 0)]) dX8_rotten_3 (Nat.le_of_ble_eq_true rfl) rfl ?_
  have lp4 : ∀ (n : Nat) (b k : Int), (S 118 13 - k).toNat < n → (0 ≤ k ∧ k ≤ S 118 13 ∧ b = sm (fun j => if S 121 j ≤ mAg S (mHd S (s * 6 + j)) then ((2 ^ j.toNat : Nat) : Int) else 0) k.toNat) → JJ mX8_rotten (RX mX8_rotten P) 4 [(0, .ref 118), (1, vi s), (2, vi b), (3, vi k)] [] S := by
    intro n
    induction n with
    | zero => intro b k hm; exact absurd hm (Nat.not_lt_zero _)
    | succ n ih4 =>
      intro b k hm4 hv4
      obtain ⟨hv1, hv2, hv3⟩ := hv4
      have hb := bs_lt (f := fun j => if S 121 j ≤ mAg S (mHd S (s * 6 + j)) then ((2 ^ j.toNat : Nat) : Int) else 0) (n := k.toNat) (fun i i0 i1 => by split; exact Or.inr rfl; exact Or.inl rfl)
      rw [← hv3] at hb
      refine j_iload_n dX8_rotten_4 rfl ?_
      refine j_aload_n dX8_rotten_5 rfl ?_
      refine j_getI (x := S 118 13) dX8_rotten_6 fg_X8_59 fq_118_13 rfl (fun hi6 => ?_)
      refine j_icmp_ge (tgt := 59) dX8_rotten_9 (by decide) (by omega) (by omega) (fun h9 => ?_) (fun h9 => ?_)
      · refine j_iload_n dX8_rotten_59 rfl ?_
        exact j_iret rfl dX8_rotten_60 (fun h => by cases h) (hP _ _ ⟨by rw [hv3]; unfold rotS; congr 2; omega, rfl⟩)
      · have hg := hhd s k h0 h1 (by omega) (by omega)
        refine j_iload_n dX8_rotten_12 rfl ?_
        refine j_aload_n dX8_rotten_13 rfl ?_
        refine j_getR dX8_rotten_14 fg_X8_28 fq_118_18 ?_
        refine j_bipush dX8_rotten_17 (by decide) ?_
        refine j_aload_n dX8_rotten_19 rfl ?_
        refine j_getR dX8_rotten_20 fg_X8_28 fq_118_18 ?_
        refine j_bipush dX8_rotten_23 (by decide) ?_
        refine j_bipush dX8_rotten_25 (by decide) ?_
        refine j_iload_n dX8_rotten_27 rfl ?_
        refine j_imul dX8_rotten_28 ?_
        refine j_iadd dX8_rotten_29 ?_
        refine j_iload_n dX8_rotten_30 rfl ?_
        refine j_iadd dX8_rotten_31 ?_
        refine j_iald (x := mHd S (s * 6 + k)) dX8_rotten_32 aq_125 (by omega) (by omega) (congrArg (S 125) (by omega)) (fun hi32 => ?_)
        refine j_iadd dX8_rotten_33 ?_
        refine j_iald (x := mAg S (mHd S (s * 6 + k))) dX8_rotten_34 aq_125 (by omega) (by omega) rfl (fun hi34 => ?_)
        refine j_aload_n dX8_rotten_35 rfl ?_
        refine j_getR dX8_rotten_36 fg_X8_16 fq_118_10 ?_
        refine j_iload_n dX8_rotten_39 rfl ?_
        refine j_iald (x := S 121 k) dX8_rotten_40 aq_121 (by omega) (by omega) rfl (fun hi40 => ?_)
        refine j_icmp_lt (tgt := 50) dX8_rotten_41 (by decide) (by omega) (by omega) (fun h41 => ?_) (fun h41 => ?_)
        · refine j_iconst dX8_rotten_50 ?_
          refine j_ior dX8_rotten_51 (by omega) (by omega) ?_
          rw [or_z (by omega)]
          refine j_istore_n (L' := [(0, .ref 118), (1, vi s), (2, vi b), (3, vi k)]) dX8_rotten_52 (Nat.le_of_ble_eq_true rfl) rfl ?_
          refine j_iinc (L' := [(0, .ref 118), (1, vi s), (2, vi b), (3, vi (k + 1))]) dX8_rotten_53 (Nat.le_of_ble_eq_true rfl) rfl rfl ?_
          refine j_goto (tgt := 4) dX8_rotten_56 (by decide) ?_
          exact ih4 b (k + 1) (by omega) ⟨by omega, by omega, by rw [sm_s (by omega)]; split <;> omega⟩
        · refine j_iconst dX8_rotten_44 ?_
          refine j_iload_n dX8_rotten_45 rfl ?_
          refine j_shl dX8_rotten_46 (by omega) (by omega) ?_
          refine j_goto (tgt := 51) dX8_rotten_47 (by decide) ?_
          refine j_ior dX8_rotten_51 (by omega) (by omega) ?_
          rw [or_bit (by omega) (by omega)]
          refine j_istore_n (L' := [(0, .ref 118), (1, vi s), (2, vi (b + ((2 ^ k.toNat : Nat) : Int))), (3, vi k)]) dX8_rotten_52 (Nat.le_of_ble_eq_true rfl) rfl ?_
          refine j_iinc (L' := [(0, .ref 118), (1, vi s), (2, vi (b + ((2 ^ k.toNat : Nat) : Int))), (3, vi (k + 1))]) dX8_rotten_53 (Nat.le_of_ble_eq_true rfl) rfl rfl ?_
          refine j_goto (tgt := 4) dX8_rotten_56 (by decide) ?_
          exact ih4 (b + ((2 ^ k.toNat : Nat) : Int)) (k + 1) (by omega) ⟨by omega, by omega, by rw [sm_s (by omega)]; split <;> omega⟩
  exact lp4 _ 0 0 (Nat.lt_succ_self _) ⟨by omega, by omega, rfl⟩
set_option maxRecDepth 100000 in
set_option maxHeartbeats 4000000 in
theorem t_X8_asIs (S : St) (s : Int) (hM : MI S) (h0 : 0 ≤ s) (h1 : s < S 125 2) : EX mX8_asIs [.ref 118, vi s] S (fun r S' => Same [131, 132] S S' ∧ ∀ j, 0 ≤ j → j < S 118 13 → S' 131 j = S 124 (mHd S (s * 6 + j)) ∧ S' 132 j = mAg S (mHd S (s * 6 + j))) := by
  suffices hh : ∀ P : Int → St → Prop, (∀ r S', (Same [131, 132] S S' ∧ ∀ j, 0 ≤ j → j < S 118 13 → S' 131 j = S 124 (mHd S (s * 6 + j)) ∧ S' 132 j = mAg S (mHd S (s * 6 + j))) → P r S') → EX mX8_asIs [.ref 118, vi s] S P from hh _ (fun _ _ h => h)
  intro P hP
  refine EX.of (L := [(0, .ref 118), (1, vi s)]) rfl rfl (Nat.le_of_ble_eq_true rfl) rfl ?_
  obtain ⟨⟨hn0, hn1⟩, hwl, ⟨hp0, hp1⟩, ⟨hs0, hs1⟩, hyr, hpt, hhd, hth⟩ := id hM
  have hwt : ∀ k, 0 ≤ k → k < 6 → 1 ≤ S 120 k ∧ S 120 k ≤ 9 := fun k a b => ⟨(hwl k a b).1, (hwl k a b).2.1⟩
  refine j_iconst dX8_asIs_0 ?_
  refine j_istore_n (L' := [(0, .ref 118), (1, vi s), (2, vi 0)]) dX8_asIs_1 (Nat.le_of_ble_eq_true rfl) rfl ?_
  have lp2 : ∀ (n : Nat) (k : Int) (T : St), (S 118 13 - k).toNat < n → (0 ≤ k ∧ k ≤ S 118 13 ∧ Same [131, 132] S T ∧ ∀ j, 0 ≤ j → j < k → T 131 j = S 124 (mHd S (s * 6 + j)) ∧ T 132 j = mAg S (mHd S (s * 6 + j))) → JJ mX8_asIs (RX mX8_asIs P) 2 [(0, .ref 118), (1, vi s), (2, vi k)] [] T := by
    intro n
    induction n with
    | zero => intro k T hm; exact absurd hm (Nat.not_lt_zero _)
    | succ n ih2 =>
      intro k T hm2 hv2
      obtain ⟨hv1, hv2, hv3, hv4⟩ := hv2
      have eT_118 : T 118 = S 118 := hv3 118 (by decide)
      have eT_124 : T 124 = S 124 := hv3 124 (by decide)
      have eT_125 : T 125 = S 125 := hv3 125 (by decide)
      refine j_iload_n dX8_asIs_2 rfl ?_
      refine j_aload_n dX8_asIs_3 rfl ?_
      refine j_getI (x := S 118 13) dX8_asIs_4 fg_X8_59 fq_118_13 (congrFun eT_118 _) (fun hi4 => ?_)
      refine j_icmp_ge (tgt := 58) dX8_asIs_7 (by decide) (by omega) (by omega) (fun h7 => ?_) (fun h7 => ?_)
      · exact j_vret rfl dX8_asIs_58 (fun h => by cases h) (hP _ _ ⟨hv3, fun j a b => hv4 j a (by omega)⟩)
      · have hg := hhd s k h0 h1 (by omega) (by omega)
        refine j_aload_n dX8_asIs_10 rfl ?_
        refine j_getR dX8_asIs_11 fg_X8_28 fq_118_18 ?_
        refine j_bipush dX8_asIs_14 (by decide) ?_
        refine j_bipush dX8_asIs_16 (by decide) ?_
        refine j_iload_n dX8_asIs_18 rfl ?_
        refine j_imul dX8_asIs_19 ?_
        refine j_iadd dX8_asIs_20 ?_
        refine j_iload_n dX8_asIs_21 rfl ?_
        refine j_iadd dX8_asIs_22 ?_
        refine j_iald (x := mHd S (s * 6 + k)) dX8_asIs_23 aq_125 (by omega) (by omega) ((congrFun eT_125 _).trans (congrArg (S 125) (by omega))) (fun hi23 => ?_)
        refine j_istore_n (L' := [(0, .ref 118), (1, vi s), (2, vi k), (3, vi (mHd S (s * 6 + k)))]) dX8_asIs_24 (Nat.le_of_ble_eq_true rfl) rfl ?_
        refine j_aload_n dX8_asIs_25 rfl ?_
        refine j_getR dX8_asIs_26 fg_X8_47 fq_118_26 ?_
        refine j_iload_n dX8_asIs_29 rfl ?_
        refine j_aload_n dX8_asIs_30 rfl ?_
        refine j_getR dX8_asIs_31 fg_X8_25 fq_118_17 ?_
        refine j_iload_n dX8_asIs_34 rfl ?_
        refine j_iald (x := S 124 (mHd S (s * 6 + k))) dX8_asIs_35 aq_124 (by omega) (by omega) (congrFun eT_124 _) (fun hi35 => ?_)
        refine j_iast dX8_asIs_36 aq_131 (by omega) (by omega) (by omega) ?_
        refine j_aload_n dX8_asIs_37 rfl ?_
        refine j_getR dX8_asIs_38 fg_X8_50 fq_118_27 ?_
        refine j_iload_n dX8_asIs_41 rfl ?_
        refine j_aload_n dX8_asIs_42 rfl ?_
        refine j_getR dX8_asIs_43 fg_X8_28 fq_118_18 ?_
        refine j_bipush dX8_asIs_46 (by decide) ?_
        refine j_iload_n dX8_asIs_48 rfl ?_
        refine j_iadd dX8_asIs_49 ?_
        refine j_iald (x := mAg S (mHd S (s * 6 + k))) dX8_asIs_50 aq_125 (by omega) (by omega) (congrFun eT_125 _) (fun hi50 => ?_)
        refine j_iast dX8_asIs_51 aq_132 (by omega) (by omega) (by omega) ?_
        refine j_iinc (L' := [(0, .ref 118), (1, vi s), (2, vi (k + 1)), (3, vi (mHd S (s * 6 + k)))]) dX8_asIs_52 (Nat.le_of_ble_eq_true rfl) rfl rfl ?_
        refine j_goto (tgt := 2) dX8_asIs_55 (by decide) ?_
        refine j_sub (L' := [(0, .ref 118), (1, vi s), (2, vi (k + 1))]) (by simp) ?_
        exact ih2 (k + 1) (up (up T 131 k (S 124 (mHd S (s * 6 + k)))) 132 k (mAg S (mHd S (s * 6 + k)))) (by omega) ⟨by omega, by omega, same_up (same_up hv3 (by decide)) (by decide), fun j a b => if e : j = k then by subst e; exact ⟨by simp [up], by simp [up]⟩ else by rw [up_c (by decide), up_i e, up_i e, up_c (by decide)]; exact hv4 j a (by omega)⟩
  exact lp2 _ 0 S (Nat.lt_succ_self _) ⟨by omega, by omega, Same.rf, fun j a b => by omega⟩
set_option maxRecDepth 100000 in
set_option maxHeartbeats 4000000 in
theorem t_X8_weightOf (S : St) (x : Int) (hx : InR x) (hn0 : 2 ≤ S 118 13) (hn1 : S 118 13 ≤ 6) (hwt : ∀ k, 0 ≤ k → k < 6 → 1 ≤ S 120 k ∧ S 120 k ≤ 9) : EX mX8_weightOf [.ref 118, vi x] S (fun r S' => r = wgt (S 118 13) (S 131) (S 120) x ∧ S' = S) := by
  suffices hh : ∀ P : Int → St → Prop, (∀ r S', (r = wgt (S 118 13) (S 131) (S 120) x ∧ S' = S) → P r S') → EX mX8_weightOf [.ref 118, vi x] S P from hh _ (fun _ _ h => h)
  intro P hP
  refine EX.of (L := [(0, .ref 118), (1, vi x)]) rfl rfl (Nat.le_of_ble_eq_true rfl) rfl ?_
  refine j_iconst dX8_weightOf_0 ?_
  refine j_istore_n (L' := [(0, .ref 118), (1, vi x), (2, vi 0)]) dX8_weightOf_1 (Nat.le_of_ble_eq_true rfl) rfl ?_
  refine j_iconst dX8_weightOf_2 ?_
  refine j_istore_n (L' := [(0, .ref 118), (1, vi x), (2, vi 0), (3, vi 0)]) dX8_weightOf_3 (Nat.le_of_ble_eq_true rfl) rfl ?_
  have lp4 : ∀ (n : Nat) (n0 k : Int), (S 118 13 - k).toNat < n → (0 ≤ k ∧ k ≤ S 118 13 ∧ n0 = sm (fun q => if S 131 q = x then S 120 q else 0) k.toNat) → JJ mX8_weightOf (RX mX8_weightOf P) 4 [(0, .ref 118), (1, vi x), (2, vi n0), (3, vi k)] [] S := by
    intro n
    induction n with
    | zero => intro n0 k hm; exact absurd hm (Nat.not_lt_zero _)
    | succ n ih4 =>
      intro n0 k hm4 hv4
      obtain ⟨hv1, hv2, hv3⟩ := hv4
      refine j_iload_n dX8_weightOf_4 rfl ?_
      refine j_aload_n dX8_weightOf_5 rfl ?_
      refine j_getI (x := S 118 13) dX8_weightOf_6 fg_X8_59 fq_118_13 rfl (fun hi6 => ?_)
      refine j_icmp_ge (tgt := 41) dX8_weightOf_9 (by decide) (by omega) (by omega) (fun h9 => ?_) (fun h9 => ?_)
      · refine j_iload_n dX8_weightOf_41 rfl ?_
        exact j_iret rfl dX8_weightOf_42 (fun h => by cases h) (hP _ _ ⟨by rw [hv3]; unfold wgt; congr 2; omega, rfl⟩)
      · refine j_iload_n dX8_weightOf_12 rfl ?_
        refine j_aload_n dX8_weightOf_13 rfl ?_
        refine j_getR dX8_weightOf_14 fg_X8_47 fq_118_26 ?_
        refine j_iload_n dX8_weightOf_17 rfl ?_
        refine j_iald (x := S 131 k) dX8_weightOf_18 aq_131 (by omega) (by omega) rfl (fun hi18 => ?_)
        refine j_iload_n dX8_weightOf_19 rfl ?_
        refine j_icmp_ne (tgt := 32) dX8_weightOf_20 (by decide) (by omega) (by omega) (fun h20 => ?_) (fun h20 => ?_)
        · refine j_iconst dX8_weightOf_32 ?_
          refine j_iadd dX8_weightOf_33 ?_
          refine j_istore_n (L' := [(0, .ref 118), (1, vi x), (2, vi (n0 + 0)), (3, vi k)]) dX8_weightOf_34 (Nat.le_of_ble_eq_true rfl) rfl ?_
          refine j_iinc (L' := [(0, .ref 118), (1, vi x), (2, vi (n0 + 0)), (3, vi (k + 1))]) dX8_weightOf_35 (Nat.le_of_ble_eq_true rfl) rfl rfl ?_
          refine j_goto (tgt := 4) dX8_weightOf_38 (by decide) ?_
          exact ih4 (n0 + 0) (k + 1) (by omega) ⟨by omega, by omega, by rw [sm_s (by omega)]; split <;> omega⟩
        · refine j_aload_n dX8_weightOf_23 rfl ?_
          refine j_getR dX8_weightOf_24 fg_X8_13 fq_118_9 ?_
          refine j_iload_n dX8_weightOf_27 rfl ?_
          refine j_iald (x := S 120 k) dX8_weightOf_28 aq_120 (by omega) (by omega) rfl (fun hi28 => ?_)
          refine j_goto (tgt := 33) dX8_weightOf_29 (by decide) ?_
          refine j_iadd dX8_weightOf_33 ?_
          refine j_istore_n (L' := [(0, .ref 118), (1, vi x), (2, vi (n0 + (S 120 k))), (3, vi k)]) dX8_weightOf_34 (Nat.le_of_ble_eq_true rfl) rfl ?_
          refine j_iinc (L' := [(0, .ref 118), (1, vi x), (2, vi (n0 + (S 120 k))), (3, vi (k + 1))]) dX8_weightOf_35 (Nat.le_of_ble_eq_true rfl) rfl rfl ?_
          refine j_goto (tgt := 4) dX8_weightOf_38 (by decide) ?_
          exact ih4 (n0 + (S 120 k)) (k + 1) (by omega) ⟨by omega, by omega, by rw [sm_s (by omega)]; split <;> omega⟩
  exact lp4 _ 0 0 (Nat.lt_succ_self _) ⟨by omega, by omega, rfl⟩
set_option maxRecDepth 100000 in
set_option maxHeartbeats 4000000 in
theorem t_X8_allWeights (S : St) (hn0 : 2 ≤ S 118 13) (hn1 : S 118 13 ≤ 6) (hwt : ∀ k, 0 ≤ k → k < 6 → 1 ≤ S 120 k ∧ S 120 k ≤ 9) : EX mX8_allWeights [.ref 118] S (fun r S' => r = sm (S 120) (S 118 13).toNat ∧ S' = S) := by
  suffices hh : ∀ P : Int → St → Prop, (∀ r S', (r = sm (S 120) (S 118 13).toNat ∧ S' = S) → P r S') → EX mX8_allWeights [.ref 118] S P from hh _ (fun _ _ h => h)
  intro P hP
  refine EX.of (L := [(0, .ref 118)]) rfl rfl (Nat.le_of_ble_eq_true rfl) rfl ?_
  refine j_iconst dX8_allWeights_0 ?_
  refine j_istore_n (L' := [(0, .ref 118), (1, vi 0)]) dX8_allWeights_1 (Nat.le_of_ble_eq_true rfl) rfl ?_
  refine j_iconst dX8_allWeights_2 ?_
  refine j_istore_n (L' := [(0, .ref 118), (1, vi 0), (2, vi 0)]) dX8_allWeights_3 (Nat.le_of_ble_eq_true rfl) rfl ?_
  have lp4 : ∀ (n : Nat) (a k : Int), (S 118 13 - k).toNat < n → (0 ≤ k ∧ k ≤ S 118 13 ∧ a = sm (S 120) k.toNat) → JJ mX8_allWeights (RX mX8_allWeights P) 4 [(0, .ref 118), (1, vi a), (2, vi k)] [] S := by
    intro n
    induction n with
    | zero => intro a k hm; exact absurd hm (Nat.not_lt_zero _)
    | succ n ih4 =>
      intro a k hm4 hv4
      obtain ⟨hv1, hv2, hv3⟩ := hv4
      refine j_iload_n dX8_allWeights_4 rfl ?_
      refine j_aload_n dX8_allWeights_5 rfl ?_
      refine j_getI (x := S 118 13) dX8_allWeights_6 fg_X8_59 fq_118_13 rfl (fun hi6 => ?_)
      refine j_icmp_ge (tgt := 27) dX8_allWeights_9 (by decide) (by omega) (by omega) (fun h9 => ?_) (fun h9 => ?_)
      · refine j_iload_n dX8_allWeights_27 rfl ?_
        exact j_iret rfl dX8_allWeights_28 (fun h => by cases h) (hP _ _ ⟨by rw [hv3]; congr 2; omega, rfl⟩)
      · refine j_iload_n dX8_allWeights_12 rfl ?_
        refine j_aload_n dX8_allWeights_13 rfl ?_
        refine j_getR dX8_allWeights_14 fg_X8_13 fq_118_9 ?_
        refine j_iload_n dX8_allWeights_17 rfl ?_
        refine j_iald (x := S 120 k) dX8_allWeights_18 aq_120 (by omega) (by omega) rfl (fun hi18 => ?_)
        refine j_iadd dX8_allWeights_19 ?_
        refine j_istore_n (L' := [(0, .ref 118), (1, vi (a + (S 120 k))), (2, vi k)]) dX8_allWeights_20 (Nat.le_of_ble_eq_true rfl) rfl ?_
        refine j_iinc (L' := [(0, .ref 118), (1, vi (a + (S 120 k))), (2, vi (k + 1))]) dX8_allWeights_21 (Nat.le_of_ble_eq_true rfl) rfl rfl ?_
        refine j_goto (tgt := 4) dX8_allWeights_24 (by decide) ?_
        exact ih4 (a + (S 120 k)) (k + 1) (by omega) ⟨by omega, by omega, by rw [sm_s (by omega)]; omega⟩
  exact lp4 _ 0 0 (Nat.lt_succ_self _) ⟨by omega, by omega, rfl⟩
set_option maxRecDepth 100000 in
set_option maxHeartbeats 4000000 in
theorem t_X8_countOf (S : St) (x : Int) (hx : InR x) (hn0 : 2 ≤ S 118 13) (hn1 : S 118 13 ≤ 6) : EX mX8_countOf [.ref 118, vi x] S (fun r S' => r = cnm (S 118 13) (S 131) x ∧ S' = S) := by
  suffices hh : ∀ P : Int → St → Prop, (∀ r S', (r = cnm (S 118 13) (S 131) x ∧ S' = S) → P r S') → EX mX8_countOf [.ref 118, vi x] S P from hh _ (fun _ _ h => h)
  intro P hP
  refine EX.of (L := [(0, .ref 118), (1, vi x)]) rfl rfl (Nat.le_of_ble_eq_true rfl) rfl ?_
  refine j_iconst dX8_countOf_0 ?_
  refine j_istore_n (L' := [(0, .ref 118), (1, vi x), (2, vi 0)]) dX8_countOf_1 (Nat.le_of_ble_eq_true rfl) rfl ?_
  refine j_iconst dX8_countOf_2 ?_
  refine j_istore_n (L' := [(0, .ref 118), (1, vi x), (2, vi 0), (3, vi 0)]) dX8_countOf_3 (Nat.le_of_ble_eq_true rfl) rfl ?_
  have lp4 : ∀ (n : Nat) (n0 k : Int), (S 118 13 - k).toNat < n → (0 ≤ k ∧ k ≤ S 118 13 ∧ n0 = sm (fun q => if S 131 q = x then 1 else 0) k.toNat) → JJ mX8_countOf (RX mX8_countOf P) 4 [(0, .ref 118), (1, vi x), (2, vi n0), (3, vi k)] [] S := by
    intro n
    induction n with
    | zero => intro n0 k hm; exact absurd hm (Nat.not_lt_zero _)
    | succ n ih4 =>
      intro n0 k hm4 hv4
      obtain ⟨hv1, hv2, hv3⟩ := hv4
      refine j_iload_n dX8_countOf_4 rfl ?_
      refine j_aload_n dX8_countOf_5 rfl ?_
      refine j_getI (x := S 118 13) dX8_countOf_6 fg_X8_59 fq_118_13 rfl (fun hi6 => ?_)
      refine j_icmp_ge (tgt := 36) dX8_countOf_9 (by decide) (by omega) (by omega) (fun h9 => ?_) (fun h9 => ?_)
      · refine j_iload_n dX8_countOf_36 rfl ?_
        exact j_iret rfl dX8_countOf_37 (fun h => by cases h) (hP _ _ ⟨by rw [hv3]; unfold cnm; congr 2; omega, rfl⟩)
      · refine j_iload_n dX8_countOf_12 rfl ?_
        refine j_aload_n dX8_countOf_13 rfl ?_
        refine j_getR dX8_countOf_14 fg_X8_47 fq_118_26 ?_
        refine j_iload_n dX8_countOf_17 rfl ?_
        refine j_iald (x := S 131 k) dX8_countOf_18 aq_131 (by omega) (by omega) rfl (fun hi18 => ?_)
        refine j_iload_n dX8_countOf_19 rfl ?_
        refine j_icmp_ne (tgt := 27) dX8_countOf_20 (by decide) (by omega) (by omega) (fun h20 => ?_) (fun h20 => ?_)
        · refine j_iconst dX8_countOf_27 ?_
          refine j_iadd dX8_countOf_28 ?_
          refine j_istore_n (L' := [(0, .ref 118), (1, vi x), (2, vi (n0 + 0)), (3, vi k)]) dX8_countOf_29 (Nat.le_of_ble_eq_true rfl) rfl ?_
          refine j_iinc (L' := [(0, .ref 118), (1, vi x), (2, vi (n0 + 0)), (3, vi (k + 1))]) dX8_countOf_30 (Nat.le_of_ble_eq_true rfl) rfl rfl ?_
          refine j_goto (tgt := 4) dX8_countOf_33 (by decide) ?_
          exact ih4 (n0 + 0) (k + 1) (by omega) ⟨by omega, by omega, by rw [sm_s (by omega)]; split <;> omega⟩
        · refine j_iconst dX8_countOf_23 ?_
          refine j_goto (tgt := 28) dX8_countOf_24 (by decide) ?_
          refine j_iadd dX8_countOf_28 ?_
          refine j_istore_n (L' := [(0, .ref 118), (1, vi x), (2, vi (n0 + 1)), (3, vi k)]) dX8_countOf_29 (Nat.le_of_ble_eq_true rfl) rfl ?_
          refine j_iinc (L' := [(0, .ref 118), (1, vi x), (2, vi (n0 + 1)), (3, vi (k + 1))]) dX8_countOf_30 (Nat.le_of_ble_eq_true rfl) rfl rfl ?_
          refine j_goto (tgt := 4) dX8_countOf_33 (by decide) ?_
          exact ih4 (n0 + 1) (k + 1) (by omega) ⟨by omega, by omega, by rw [sm_s (by omega)]; split <;> omega⟩
  exact lp4 _ 0 0 (Nat.lt_succ_self _) ⟨by omega, by omega, rfl⟩
set_option maxRecDepth 100000 in
set_option maxHeartbeats 4000000 in
theorem t_X8_oldest (S : St) (hn0 : 2 ≤ S 118 13) (hn1 : S 118 13 ≤ 6) : EX mX8_oldest [.ref 118] S (fun r S' => r = S 131 (oldI (S 132) (S 118 13).toNat) ∧ S' = S) := by
  suffices hh : ∀ P : Int → St → Prop, (∀ r S', (r = S 131 (oldI (S 132) (S 118 13).toNat) ∧ S' = S) → P r S') → EX mX8_oldest [.ref 118] S P from hh _ (fun _ _ h => h)
  intro P hP
  refine EX.of (L := [(0, .ref 118)]) rfl rfl (Nat.le_of_ble_eq_true rfl) rfl ?_
  refine j_iconst dX8_oldest_0 ?_
  refine j_istore_n (L' := [(0, .ref 118), (1, vi 0)]) dX8_oldest_1 (Nat.le_of_ble_eq_true rfl) rfl ?_
  refine j_iconst dX8_oldest_2 ?_
  refine j_istore_n (L' := [(0, .ref 118), (1, vi 0), (2, vi 1)]) dX8_oldest_3 (Nat.le_of_ble_eq_true rfl) rfl ?_
  have lp4 : ∀ (n : Nat) (f k : Int), (S 118 13 - k).toNat < n → (1 ≤ k ∧ k ≤ S 118 13 ∧ f = oldI (S 132) k.toNat) → JJ mX8_oldest (RX mX8_oldest P) 4 [(0, .ref 118), (1, vi f), (2, vi k)] [] S := by
    intro n
    induction n with
    | zero => intro f k hm; exact absurd hm (Nat.not_lt_zero _)
    | succ n ih4 =>
      intro f k hm4 hv4
      obtain ⟨hv1, hv2, hv3⟩ := hv4
      have hfb := oldI_bd (S 132) k.toNat
      rw [← hv3] at hfb
      refine j_iload_n dX8_oldest_4 rfl ?_
      refine j_aload_n dX8_oldest_5 rfl ?_
      refine j_getI (x := S 118 13) dX8_oldest_6 fg_X8_59 fq_118_13 rfl (fun hi6 => ?_)
      refine j_icmp_ge (tgt := 39) dX8_oldest_9 (by decide) (by omega) (by omega) (fun h9 => ?_) (fun h9 => ?_)
      · refine j_aload_n dX8_oldest_39 rfl ?_
        refine j_getR dX8_oldest_40 fg_X8_47 fq_118_26 ?_
        refine j_iload_n dX8_oldest_43 rfl ?_
        refine j_iald (x := S 131 f) dX8_oldest_44 aq_131 (by omega) (by omega) rfl (fun hi44 => ?_)
        exact j_iret rfl dX8_oldest_45 (fun h => by cases h) (hP _ _ ⟨by rw [hv3, show k = S 118 13 by omega], rfl⟩)
      · refine j_aload_n dX8_oldest_12 rfl ?_
        refine j_getR dX8_oldest_13 fg_X8_50 fq_118_27 ?_
        refine j_iload_n dX8_oldest_16 rfl ?_
        refine j_iald (x := S 132 k) dX8_oldest_17 aq_132 (by omega) (by omega) rfl (fun hi17 => ?_)
        refine j_aload_n dX8_oldest_18 rfl ?_
        refine j_getR dX8_oldest_19 fg_X8_50 fq_118_27 ?_
        refine j_iload_n dX8_oldest_22 rfl ?_
        refine j_iald (x := S 132 f) dX8_oldest_23 aq_132 (by omega) (by omega) rfl (fun hi23 => ?_)
        refine j_icmp_le (tgt := 31) dX8_oldest_24 (by decide) (by omega) (by omega) (fun h24 => ?_) (fun h24 => ?_)
        · refine j_iload_n dX8_oldest_31 rfl ?_
          refine j_istore_n (L' := [(0, .ref 118), (1, vi f), (2, vi k)]) dX8_oldest_32 (Nat.le_of_ble_eq_true rfl) rfl ?_
          refine j_iinc (L' := [(0, .ref 118), (1, vi f), (2, vi (k + 1))]) dX8_oldest_33 (Nat.le_of_ble_eq_true rfl) rfl rfl ?_
          refine j_goto (tgt := 4) dX8_oldest_36 (by decide) ?_
          exact ih4 f (k + 1) (by omega) ⟨by omega, by omega, by rw [oldI_s (by omega), ← hv3]; split <;> omega⟩
        · refine j_iload_n dX8_oldest_27 rfl ?_
          refine j_goto (tgt := 32) dX8_oldest_28 (by decide) ?_
          refine j_istore_n (L' := [(0, .ref 118), (1, vi k), (2, vi k)]) dX8_oldest_32 (Nat.le_of_ble_eq_true rfl) rfl ?_
          refine j_iinc (L' := [(0, .ref 118), (1, vi k), (2, vi (k + 1))]) dX8_oldest_33 (Nat.le_of_ble_eq_true rfl) rfl rfl ?_
          refine j_goto (tgt := 4) dX8_oldest_36 (by decide) ?_
          exact ih4 k (k + 1) (by omega) ⟨by omega, by omega, by rw [oldI_s (by omega), ← hv3]; split <;> omega⟩
  exact lp4 _ 0 1 (Nat.lt_succ_self _) ⟨by omega, by omega, by simp [oldI]⟩
set_option maxRecDepth 100000 in
set_option maxHeartbeats 4000000 in
theorem t_X8_isMore (S : St) (x : Int) (hx : InR x) (hn0 : 2 ≤ S 118 13) (hn1 : S 118 13 ≤ 6) (hwt : ∀ k, 0 ≤ k → k < 6 → 1 ≤ S 120 k ∧ S 120 k ≤ 9) : EX mX8_isMore [.ref 118, vi x] S (fun r S' => ((r = 1 ∧ (isMo (S 118 13) (S 131) (S 120) x)) ∨ (r = 0 ∧ ¬ (isMo (S 118 13) (S 131) (S 120) x))) ∧ S' = S) := by
  suffices hh : ∀ P : Int → St → Prop, (∀ r S', (((r = 1 ∧ (isMo (S 118 13) (S 131) (S 120) x)) ∨ (r = 0 ∧ ¬ (isMo (S 118 13) (S 131) (S 120) x))) ∧ S' = S) → P r S') → EX mX8_isMore [.ref 118, vi x] S P from hh _ (fun _ _ h => h)
  intro P hP
  refine EX.of (L := [(0, .ref 118), (1, vi x)]) rfl rfl (Nat.le_of_ble_eq_true rfl) rfl ?_
  refine j_iconst dX8_isMore_0 ?_
  refine j_istore_n (L' := [(0, .ref 118), (1, vi x), (2, vi 1)]) dX8_isMore_1 (Nat.le_of_ble_eq_true rfl) rfl ?_
  refine j_iconst dX8_isMore_2 ?_
  refine j_istore_n (L' := [(0, .ref 118), (1, vi x), (2, vi 1), (3, vi 0)]) dX8_isMore_3 (Nat.le_of_ble_eq_true rfl) rfl ?_
  have lp4 : ∀ (n : Nat) (is o : Int), (10 - o).toNat < n → (0 ≤ o ∧ o ≤ 10 ∧ ((is = 1 ∧ ∀ q, 0 ≤ q → q < o → q ≠ x → wgt (S 118 13) (S 131) (S 120) q < wgt (S 118 13) (S 131) (S 120) x) ∨ (is = 0 ∧ Exs (fun q => 0 ≤ q ∧ q < 10 ∧ q ≠ x ∧ wgt (S 118 13) (S 131) (S 120) x ≤ wgt (S 118 13) (S 131) (S 120) q)))) → JJ mX8_isMore (RX mX8_isMore P) 4 [(0, .ref 118), (1, vi x), (2, vi is), (3, vi o)] [] S := by
    intro n
    induction n with
    | zero => intro is o hm; exact absurd hm (Nat.not_lt_zero _)
    | succ n ih4 =>
      intro is o hm4 hv4
      obtain ⟨hv1, hv2, hv3⟩ := hv4
      refine j_iload_n dX8_isMore_4 rfl ?_
      refine j_bipush dX8_isMore_5 (by decide) ?_
      refine j_icmp_ge (tgt := 44) dX8_isMore_7 (by decide) (by omega) (by omega) (fun h7 => ?_) (fun h7 => ?_)
      · refine j_iload_n dX8_isMore_44 rfl ?_
        exact j_iret rfl dX8_isMore_45 (fun _ => by omega) (hP _ _ ⟨by rcases hv3 with ⟨z1, z2⟩ | ⟨z1, q, q0, q1, q2, q3⟩; exact Or.inl ⟨z1, fun o a b c => z2 o a (by omega) c⟩; exact Or.inr ⟨z1, fun z => by have := z q q0 q1 q2; omega⟩, rfl⟩)
      · refine j_iload_n dX8_isMore_10 rfl ?_
        refine j_if_eq (tgt := 36) dX8_isMore_11 (by decide) (by omega)  (fun h11 => ?_) (fun h11 => ?_)
        · refine j_iconst dX8_isMore_36 ?_
          refine j_istore_n (L' := [(0, .ref 118), (1, vi x), (2, vi 0), (3, vi o)]) dX8_isMore_37 (Nat.le_of_ble_eq_true rfl) rfl ?_
          refine j_iinc (L' := [(0, .ref 118), (1, vi x), (2, vi 0), (3, vi (o + 1))]) dX8_isMore_38 (Nat.le_of_ble_eq_true rfl) rfl rfl ?_
          refine j_goto (tgt := 4) dX8_isMore_41 (by decide) ?_
          exact ih4 0 (o + 1) (by omega) ⟨by omega, by omega, (by rcases hv3 with ⟨z1, z2⟩ | ⟨z1, z2⟩ <;> first | exact Or.inr ⟨rfl, z2⟩ | omega | exact Or.inr ⟨rfl, o, by omega, by omega, h16, h29⟩)⟩
        · refine j_iload_n dX8_isMore_14 rfl ?_
          refine j_iload_n dX8_isMore_15 rfl ?_
          refine j_icmp_eq (tgt := 32) dX8_isMore_16 (by decide) (by omega) (by omega) (fun h16 => ?_) (fun h16 => ?_)
          · refine j_iconst dX8_isMore_32 ?_
            refine j_goto (tgt := 37) dX8_isMore_33 (by decide) ?_
            refine j_istore_n (L' := [(0, .ref 118), (1, vi x), (2, vi 1), (3, vi o)]) dX8_isMore_37 (Nat.le_of_ble_eq_true rfl) rfl ?_
            refine j_iinc (L' := [(0, .ref 118), (1, vi x), (2, vi 1), (3, vi (o + 1))]) dX8_isMore_38 (Nat.le_of_ble_eq_true rfl) rfl rfl ?_
            refine j_goto (tgt := 4) dX8_isMore_41 (by decide) ?_
            exact ih4 1 (o + 1) (by omega) ⟨by omega, by omega, (by rcases hv3 with ⟨z1, z2⟩ | ⟨z1, z2⟩; exact Or.inl ⟨rfl, fun q a b c => if e : q = o then by first | exact absurd (e.trans h16) c | (rw [e]; exact h29) else z2 q a (by omega) c⟩; omega)⟩
          · refine j_aload_n dX8_isMore_19 rfl ?_
            refine j_iload_n dX8_isMore_20 rfl ?_
            refine j_callVi (As := [vi o]) (rest := []) (t_X8_weightOf _ o (by omega) hn0 hn1 hwt) rfl cm_X8_weightOf ci_X8_weightOf ml_X8_162 oq_118 rfl (Nat.le_of_ble_eq_true rfl) (Nat.le_of_ble_eq_true rfl) dX8_isMore_21 (fun r21 S21 hp21 => ?_)
            obtain ⟨hr21, he21⟩ := hp21
            rw [he21]
            subst hr21
            have hwb21 := wgt_nn (n := S 118 13) (mk := S 131) (wt := S 120) (m := o) (fun i i0 i1 => by have := hwt i i0 (by omega); omega)
            refine j_aload_n dX8_isMore_24 rfl ?_
            refine j_iload_n dX8_isMore_25 rfl ?_
            refine j_callVi (As := [vi x]) (rest := [vi (wgt (S 118 13) (S 131) (S 120) o)]) (t_X8_weightOf _ x (by omega) hn0 hn1 hwt) rfl cm_X8_weightOf ci_X8_weightOf ml_X8_162 oq_118 rfl (Nat.le_of_ble_eq_true rfl) (Nat.le_of_ble_eq_true rfl) dX8_isMore_26 (fun r26 S26 hp26 => ?_)
            obtain ⟨hr26, he26⟩ := hp26
            rw [he26]
            subst hr26
            have hwb26 := wgt_nn (n := S 118 13) (mk := S 131) (wt := S 120) (m := x) (fun i i0 i1 => by have := hwt i i0 (by omega); omega)
            refine j_icmp_ge (tgt := 36) dX8_isMore_29 (by decide) (by omega) (by omega) (fun h29 => ?_) (fun h29 => ?_)
            · refine j_iconst dX8_isMore_36 ?_
              refine j_istore_n (L' := [(0, .ref 118), (1, vi x), (2, vi 0), (3, vi o)]) dX8_isMore_37 (Nat.le_of_ble_eq_true rfl) rfl ?_
              refine j_iinc (L' := [(0, .ref 118), (1, vi x), (2, vi 0), (3, vi (o + 1))]) dX8_isMore_38 (Nat.le_of_ble_eq_true rfl) rfl rfl ?_
              refine j_goto (tgt := 4) dX8_isMore_41 (by decide) ?_
              exact ih4 0 (o + 1) (by omega) ⟨by omega, by omega, (by rcases hv3 with ⟨z1, z2⟩ | ⟨z1, z2⟩ <;> first | exact Or.inr ⟨rfl, z2⟩ | omega | exact Or.inr ⟨rfl, o, by omega, by omega, h16, h29⟩)⟩
            · refine j_iconst dX8_isMore_32 ?_
              refine j_goto (tgt := 37) dX8_isMore_33 (by decide) ?_
              refine j_istore_n (L' := [(0, .ref 118), (1, vi x), (2, vi 1), (3, vi o)]) dX8_isMore_37 (Nat.le_of_ble_eq_true rfl) rfl ?_
              refine j_iinc (L' := [(0, .ref 118), (1, vi x), (2, vi 1), (3, vi (o + 1))]) dX8_isMore_38 (Nat.le_of_ble_eq_true rfl) rfl rfl ?_
              refine j_goto (tgt := 4) dX8_isMore_41 (by decide) ?_
              exact ih4 1 (o + 1) (by omega) ⟨by omega, by omega, (by rcases hv3 with ⟨z1, z2⟩ | ⟨z1, z2⟩; exact Or.inl ⟨rfl, fun q a b c => if e : q = o then by first | exact absurd (e.trans h16) c | (rw [e]; exact h29) else z2 q a (by omega) c⟩; omega)⟩
  exact lp4 _ 1 0 (Nat.lt_succ_self _) ⟨by omega, by omega, Or.inl ⟨rfl, fun q a b => by omega⟩⟩
