set_option maxRecDepth 100000 in
set_option maxHeartbeats 4000000 in
theorem t_X8_in (S : St) (v a b : Int) (rv : InR v) (ra : InR a) (rb : InR b) : EX mX8_in [vi v, vi a, vi b] S (fun r S' => ((r = 1 ∧ (a ≤ v ∧ v ≤ b)) ∨ (r = 0 ∧ ¬ (a ≤ v ∧ v ≤ b))) ∧ S' = S) := by
  suffices hh : ∀ P : Int → St → Prop, (∀ r S', (((r = 1 ∧ (a ≤ v ∧ v ≤ b)) ∨ (r = 0 ∧ ¬ (a ≤ v ∧ v ≤ b))) ∧ S' = S) → P r S') → EX mX8_in [vi v, vi a, vi b] S P from hh _ (fun _ _ h => h)
  intro P hP
  refine EX.of (L := [(0, vi v), (1, vi a), (2, vi b)]) rfl rfl (Nat.le_of_ble_eq_true rfl) rfl ?_
  refine j_iload_n dX8_in_0 rfl ?_
  refine j_iload_n dX8_in_1 rfl ?_
  refine j_icmp_lt (tgt := 14) dX8_in_2 (by decide) (by omega) (by omega) (fun h2 => ?_) (fun h2 => ?_)
  · refine j_iconst dX8_in_14 ?_
    exact j_iret rfl dX8_in_15 (fun _ => Or.inl rfl) (hP _ _ ⟨by omega, rfl⟩)
  · refine j_iload_n dX8_in_5 rfl ?_
    refine j_iload_n dX8_in_6 rfl ?_
    refine j_icmp_gt (tgt := 14) dX8_in_7 (by decide) (by omega) (by omega) (fun h7 => ?_) (fun h7 => ?_)
    · refine j_iconst dX8_in_14 ?_
      exact j_iret rfl dX8_in_15 (fun _ => Or.inl rfl) (hP _ _ ⟨by omega, rfl⟩)
    · refine j_iconst dX8_in_10 ?_
      refine j_goto (tgt := 15) dX8_in_11 (by decide) ?_
      exact j_iret rfl dX8_in_15 (fun _ => Or.inr rfl) (hP _ _ ⟨by omega, rfl⟩)
set_option maxRecDepth 100000 in
set_option maxHeartbeats 4000000 in
theorem t_X8_isPlace (S : St) (k : Int) (hk : InR k) (h : 0 ≤ S 118 13 ∧ S 118 13 ≤ 6) : EX mX8_isPlace [.ref 118, vi k] S (fun r S' => ((r = 1 ∧ (0 ≤ k ∧ k < S 118 13)) ∨ (r = 0 ∧ ¬ (0 ≤ k ∧ k < S 118 13))) ∧ S' = S) := by
  suffices hh : ∀ P : Int → St → Prop, (∀ r S', (((r = 1 ∧ (0 ≤ k ∧ k < S 118 13)) ∨ (r = 0 ∧ ¬ (0 ≤ k ∧ k < S 118 13))) ∧ S' = S) → P r S') → EX mX8_isPlace [.ref 118, vi k] S P from hh _ (fun _ _ h => h)
  intro P hP
  refine EX.of (L := [(0, .ref 118), (1, vi k)]) rfl rfl (Nat.le_of_ble_eq_true rfl) rfl ?_
  refine j_iload_n dX8_isPlace_0 rfl ?_
  refine j_iconst dX8_isPlace_1 ?_
  refine j_aload_n dX8_isPlace_2 rfl ?_
  refine j_getI (x := S 118 13) dX8_isPlace_3 fg_X8_59 fq_118_13 rfl (fun hi3 => ?_)
  refine j_iconst dX8_isPlace_6 ?_
  refine j_isub dX8_isPlace_7 ?_
  refine j_callSi (As := [vi k, vi 0, vi ((S 118 13) - 1)]) (rest := []) (t_X8_in _ k 0 ((S 118 13) - 1) (by omega) (by omega) (by omega)) rfl cm_X8_in cs_X8_in ml_X8_66 rfl (Nat.le_of_ble_eq_true rfl) (Nat.le_of_ble_eq_true rfl) dX8_isPlace_8 (fun r8 S8 hp8 => ?_)
  obtain ⟨hc8, he8⟩ := hp8
  rw [he8]
  have hr8b : r8 = 0 ∨ r8 = 1 := by omega
  exact j_iret rfl dX8_isPlace_11 (fun _ => by omega) (hP _ _ ⟨by omega, rfl⟩)
set_option maxRecDepth 100000 in
set_option maxHeartbeats 4000000 in
theorem t_X8_isShip (S : St) (k : Int) (hk : InR k) (h : 0 ≤ S 125 2 ∧ S 125 2 ≤ 6) : EX mX8_isShip [.ref 118, vi k] S (fun r S' => ((r = 1 ∧ (0 ≤ k ∧ k < S 125 2)) ∨ (r = 0 ∧ ¬ (0 ≤ k ∧ k < S 125 2))) ∧ S' = S) := by
  suffices hh : ∀ P : Int → St → Prop, (∀ r S', (((r = 1 ∧ (0 ≤ k ∧ k < S 125 2)) ∨ (r = 0 ∧ ¬ (0 ≤ k ∧ k < S 125 2))) ∧ S' = S) → P r S') → EX mX8_isShip [.ref 118, vi k] S P from hh _ (fun _ _ h => h)
  intro P hP
  refine EX.of (L := [(0, .ref 118), (1, vi k)]) rfl rfl (Nat.le_of_ble_eq_true rfl) rfl ?_
  refine j_iload_n dX8_isShip_0 rfl ?_
  refine j_iconst dX8_isShip_1 ?_
  refine j_aload_n dX8_isShip_2 rfl ?_
  refine j_getR dX8_isShip_3 fg_X8_28 fq_118_18 ?_
  refine j_iconst dX8_isShip_6 ?_
  refine j_iald (x := S 125 2) dX8_isShip_7 aq_125 (by omega) (by omega) rfl (fun hi7 => ?_)
  refine j_iconst dX8_isShip_8 ?_
  refine j_isub dX8_isShip_9 ?_
  refine j_callSi (As := [vi k, vi 0, vi ((S 125 2) - 1)]) (rest := []) (t_X8_in _ k 0 ((S 125 2) - 1) (by omega) (by omega) (by omega)) rfl cm_X8_in cs_X8_in ml_X8_66 rfl (Nat.le_of_ble_eq_true rfl) (Nat.le_of_ble_eq_true rfl) dX8_isShip_10 (fun r10 S10 hp10 => ?_)
  obtain ⟨hc10, he10⟩ := hp10
  rw [he10]
  have hr10b : r10 = 0 ∨ r10 = 1 := by omega
  exact j_iret rfl dX8_isShip_13 (fun _ => by omega) (hP _ _ ⟨by omega, rfl⟩)
set_option maxRecDepth 100000 in
set_option maxHeartbeats 4000000 in
theorem t_X8_isPart (S : St) (k : Int) (hk : InR k) (h : 0 ≤ S 125 1 ∧ S 125 1 ≤ 48) : EX mX8_isPart [.ref 118, vi k] S (fun r S' => ((r = 1 ∧ (0 ≤ k ∧ k < S 125 1)) ∨ (r = 0 ∧ ¬ (0 ≤ k ∧ k < S 125 1))) ∧ S' = S) := by
  suffices hh : ∀ P : Int → St → Prop, (∀ r S', (((r = 1 ∧ (0 ≤ k ∧ k < S 125 1)) ∨ (r = 0 ∧ ¬ (0 ≤ k ∧ k < S 125 1))) ∧ S' = S) → P r S') → EX mX8_isPart [.ref 118, vi k] S P from hh _ (fun _ _ h => h)
  intro P hP
  refine EX.of (L := [(0, .ref 118), (1, vi k)]) rfl rfl (Nat.le_of_ble_eq_true rfl) rfl ?_
  refine j_iload_n dX8_isPart_0 rfl ?_
  refine j_iconst dX8_isPart_1 ?_
  refine j_aload_n dX8_isPart_2 rfl ?_
  refine j_getR dX8_isPart_3 fg_X8_28 fq_118_18 ?_
  refine j_iconst dX8_isPart_6 ?_
  refine j_iald (x := S 125 1) dX8_isPart_7 aq_125 (by omega) (by omega) rfl (fun hi7 => ?_)
  refine j_iconst dX8_isPart_8 ?_
  refine j_isub dX8_isPart_9 ?_
  refine j_callSi (As := [vi k, vi 0, vi ((S 125 1) - 1)]) (rest := []) (t_X8_in _ k 0 ((S 125 1) - 1) (by omega) (by omega) (by omega)) rfl cm_X8_in cs_X8_in ml_X8_66 rfl (Nat.le_of_ble_eq_true rfl) (Nat.le_of_ble_eq_true rfl) dX8_isPart_10 (fun r10 S10 hp10 => ?_)
  obtain ⟨hc10, he10⟩ := hp10
  rw [he10]
  have hr10b : r10 = 0 ∨ r10 = 1 := by omega
  exact j_iret rfl dX8_isPart_13 (fun _ => by omega) (hP _ _ ⟨by omega, rfl⟩)
set_option maxRecDepth 100000 in
set_option maxHeartbeats 4000000 in
theorem t_X8_isLaw (S : St) (k : Int) (hk : InR k) : EX mX8_isLaw [vi k] S (fun r S' => ((r = 1 ∧ (0 ≤ k ∧ k < 5)) ∨ (r = 0 ∧ ¬ (0 ≤ k ∧ k < 5))) ∧ S' = S) := by
  suffices hh : ∀ P : Int → St → Prop, (∀ r S', (((r = 1 ∧ (0 ≤ k ∧ k < 5)) ∨ (r = 0 ∧ ¬ (0 ≤ k ∧ k < 5))) ∧ S' = S) → P r S') → EX mX8_isLaw [vi k] S P from hh _ (fun _ _ h => h)
  intro P hP
  refine EX.of (L := [(0, vi k)]) rfl rfl (Nat.le_of_ble_eq_true rfl) rfl ?_
  refine j_iload_n dX8_isLaw_0 rfl ?_
  refine j_iconst dX8_isLaw_1 ?_
  refine j_iconst dX8_isLaw_2 ?_
  refine j_callSi (As := [vi k, vi 0, vi 4]) (rest := []) (t_X8_in _ k 0 4 (by omega) (by omega) (by omega)) rfl cm_X8_in cs_X8_in ml_X8_66 rfl (Nat.le_of_ble_eq_true rfl) (Nat.le_of_ble_eq_true rfl) dX8_isLaw_3 (fun r3 S3 hp3 => ?_)
  obtain ⟨hc3, he3⟩ := hp3
  rw [he3]
  have hr3b : r3 = 0 ∨ r3 = 1 := by omega
  exact j_iret rfl dX8_isLaw_6 (fun _ => by omega) (hP _ _ ⟨by omega, rfl⟩)
set_option maxRecDepth 100000 in
set_option maxHeartbeats 4000000 in
theorem t_X8_isMake (S : St) (k : Int) (hk : InR k) : EX mX8_isMake [vi k] S (fun r S' => ((r = 1 ∧ (isMk k)) ∨ (r = 0 ∧ ¬ (isMk k))) ∧ S' = S) := by
  suffices hh : ∀ P : Int → St → Prop, (∀ r S', (((r = 1 ∧ (isMk k)) ∨ (r = 0 ∧ ¬ (isMk k))) ∧ S' = S) → P r S') → EX mX8_isMake [vi k] S P from hh _ (fun _ _ h => h)
  intro P hP
  refine EX.of (L := [(0, vi k)]) rfl rfl (Nat.le_of_ble_eq_true rfl) rfl ?_
  refine j_iload_n dX8_isMake_0 rfl ?_
  refine j_iconst dX8_isMake_1 ?_
  refine j_iconst dX8_isMake_2 ?_
  refine j_callSi (As := [vi k, vi 0, vi 3]) (rest := []) (t_X8_in _ k 0 3 (by omega) (by omega) (by omega)) rfl cm_X8_in cs_X8_in ml_X8_66 rfl (Nat.le_of_ble_eq_true rfl) (Nat.le_of_ble_eq_true rfl) dX8_isMake_3 (fun r3 S3 hp3 => ?_)
  obtain ⟨⟨rfl, hc3⟩ | ⟨rfl, hc3⟩, he3⟩ := hp3
  · rw [he3]
    refine j_if_ne (tgt := 15) dX8_isMake_6 (by decide) (by omega)  (fun _ => ?_) (fun h => absurd h (by decide))
    refine j_iconst dX8_isMake_15 ?_
    refine j_goto (tgt := 20) dX8_isMake_16 (by decide) ?_
    exact j_iret rfl dX8_isMake_20 (fun _ => Or.inr rfl) (hP _ _ ⟨by omega, rfl⟩)
  · rw [he3]
    refine j_if_ne (tgt := 15) dX8_isMake_6 (by decide) (by omega)  (fun h => absurd h (by decide)) (fun _ => ?_)
    refine j_iload_n dX8_isMake_9 rfl ?_
    refine j_bipush dX8_isMake_10 (by decide) ?_
    refine j_icmp_ne (tgt := 19) dX8_isMake_12 (by decide) (by omega) (by omega) (fun h12 => ?_) (fun h12 => ?_)
    · refine j_iconst dX8_isMake_19 ?_
      exact j_iret rfl dX8_isMake_20 (fun _ => Or.inl rfl) (hP _ _ ⟨by omega, rfl⟩)
    · refine j_iconst dX8_isMake_15 ?_
      refine j_goto (tgt := 20) dX8_isMake_16 (by decide) ?_
      exact j_iret rfl dX8_isMake_20 (fun _ => Or.inr rfl) (hP _ _ ⟨by omega, rfl⟩)
set_option maxRecDepth 100000 in
set_option maxHeartbeats 4000000 in
theorem t_X8_ones (S : St) (b : Int) (h0 : 0 ≤ b) (h1 : b < 64) : EX mX8_ones [vi b] S (fun r S' => r = onesF b ∧ S' = S) := by
  suffices hh : ∀ P : Int → St → Prop, (∀ r S', (r = onesF b ∧ S' = S) → P r S') → EX mX8_ones [vi b] S P from hh _ (fun _ _ h => h)
  intro P hP
  refine EX.of (L := [(0, vi b)]) rfl rfl (Nat.le_of_ble_eq_true rfl) rfl ?_
  refine j_iconst dX8_ones_0 ?_
  refine j_istore_n (L' := [(0, vi b), (1, vi 0)]) dX8_ones_1 (Nat.le_of_ble_eq_true rfl) rfl ?_
  refine j_iconst dX8_ones_2 ?_
  refine j_istore_n (L' := [(0, vi b), (1, vi 0), (2, vi 0)]) dX8_ones_3 (Nat.le_of_ble_eq_true rfl) rfl ?_
  have lp4 : ∀ (n : Nat) (n0 k : Int), (6 - k).toNat < n → (0 ≤ k ∧ k ≤ 6 ∧ n0 = sm (fun k => bitV b k) k.toNat) → JJ mX8_ones (RX mX8_ones P) 4 [(0, vi b), (1, vi n0), (2, vi k)] [] S := by
    intro n
    induction n with
    | zero => intro n0 k hm; exact absurd hm (Nat.not_lt_zero _)
    | succ n ih4 =>
      intro n0 k hm4 hv4
      obtain ⟨hv1, hv2, hv3⟩ := hv4
      refine j_iload_n dX8_ones_4 rfl ?_
      refine j_bipush dX8_ones_5 (by decide) ?_
      refine j_icmp_ge (tgt := 24) dX8_ones_7 (by decide) (by omega) (by omega) (fun h7 => ?_) (fun h7 => ?_)
      · refine j_iload_n dX8_ones_24 rfl ?_
        exact j_iret rfl dX8_ones_25 (fun h => by cases h) (hP _ _ ⟨by rw [hv3, show k = 6 by omega]; rfl, rfl⟩)
      · refine j_iload_n dX8_ones_10 rfl ?_
        refine j_iload_n dX8_ones_11 rfl ?_
        refine j_iload_n dX8_ones_12 rfl ?_
        refine j_shr dX8_ones_13 (by omega) (by omega) (by omega) (by omega) ?_
        refine j_iconst dX8_ones_14 ?_
        refine j_iand dX8_ones_15 (Int.natCast_nonneg _) (by decide) ?_
        refine j_top (fun q eq => ?_)
        have hq : bitV b k = q := eq.symm
        refine j_iadd dX8_ones_16 ?_
        refine j_istore_n (L' := [(0, vi b), (1, vi (n0 + q)), (2, vi k)]) dX8_ones_17 (Nat.le_of_ble_eq_true rfl) rfl ?_
        refine j_iinc (L' := [(0, vi b), (1, vi (n0 + q)), (2, vi (k + 1))]) dX8_ones_18 (Nat.le_of_ble_eq_true rfl) rfl rfl ?_
        refine j_goto (tgt := 4) dX8_ones_21 (by decide) ?_
        exact ih4 (n0 + q) (k + 1) (by omega) ⟨by omega, by omega, by rw [sm_s (by omega), hq, ← hv3]⟩
  exact lp4 _ 0 0 (Nat.lt_succ_self _) ⟨by omega, by omega, rfl⟩
set_option maxRecDepth 100000 in
set_option maxHeartbeats 4000000 in
theorem t_X8_liesOf (S : St) (p k : Int) (h0 : 0 ≤ p) (h1 : p < 48) (hk : InR k) : EX mX8_liesOf [.ref 118, vi p, vi k] S (fun r S' => ((r = 1 ∧ (mWh S p = 8 ∧ mPl S p = k)) ∨ (r = 0 ∧ ¬ (mWh S p = 8 ∧ mPl S p = k))) ∧ S' = S) := by
  suffices hh : ∀ P : Int → St → Prop, (∀ r S', (((r = 1 ∧ (mWh S p = 8 ∧ mPl S p = k)) ∨ (r = 0 ∧ ¬ (mWh S p = 8 ∧ mPl S p = k))) ∧ S' = S) → P r S') → EX mX8_liesOf [.ref 118, vi p, vi k] S P from hh _ (fun _ _ h => h)
  intro P hP
  refine EX.of (L := [(0, .ref 118), (1, vi p), (2, vi k)]) rfl rfl (Nat.le_of_ble_eq_true rfl) rfl ?_
  refine j_aload_n dX8_liesOf_0 rfl ?_
  refine j_getR dX8_liesOf_1 fg_X8_28 fq_118_18 ?_
  refine j_iconst dX8_liesOf_4 ?_
  refine j_iload_n dX8_liesOf_5 rfl ?_
  refine j_iadd dX8_liesOf_6 ?_
  refine j_iald (x := S 125 (3 + p)) dX8_liesOf_7 aq_125 (by omega) (by omega) rfl (fun hi7 => ?_)
  refine j_bipush dX8_liesOf_8 (by decide) ?_
  refine j_icmp_ne (tgt := 31) dX8_liesOf_10 (by decide) (by omega) (by omega) (fun h10 => ?_) (fun h10 => ?_)
  · refine j_iconst dX8_liesOf_31 ?_
    exact j_iret rfl dX8_liesOf_32 (fun _ => Or.inl rfl) (hP _ _ ⟨by unfold mWh mPl; omega, rfl⟩)
  · refine j_aload_n dX8_liesOf_13 rfl ?_
    refine j_getR dX8_liesOf_14 fg_X8_28 fq_118_18 ?_
    refine j_sipush dX8_liesOf_17 (by decide) ?_
    refine j_iload_n dX8_liesOf_20 rfl ?_
    refine j_iadd dX8_liesOf_21 ?_
    refine j_iald (x := S 125 (141 + p)) dX8_liesOf_22 aq_125 (by omega) (by omega) rfl (fun hi22 => ?_)
    refine j_iload_n dX8_liesOf_23 rfl ?_
    refine j_icmp_ne (tgt := 31) dX8_liesOf_24 (by decide) (by omega) (by omega) (fun h24 => ?_) (fun h24 => ?_)
    · refine j_iconst dX8_liesOf_31 ?_
      exact j_iret rfl dX8_liesOf_32 (fun _ => Or.inl rfl) (hP _ _ ⟨by unfold mWh mPl; omega, rfl⟩)
    · refine j_iconst dX8_liesOf_27 ?_
      refine j_goto (tgt := 32) dX8_liesOf_28 (by decide) ?_
      exact j_iret rfl dX8_liesOf_32 (fun _ => Or.inr rfl) (hP _ _ ⟨by unfold mWh mPl; omega, rfl⟩)
set_option maxRecDepth 100000 in
set_option maxHeartbeats 4000000 in
theorem t_X8_lying (S : St) (k : Int) (hp0 : 0 ≤ S 125 1) (hp1 : S 125 1 ≤ 48) (hk : InR k) : EX mX8_lying [.ref 118, vi k] S (fun r S' => r = lyO (S 125 1) (mWh S) (mPl S) k ∧ S' = S) := by
  suffices hh : ∀ P : Int → St → Prop, (∀ r S', (r = lyO (S 125 1) (mWh S) (mPl S) k ∧ S' = S) → P r S') → EX mX8_lying [.ref 118, vi k] S P from hh _ (fun _ _ h => h)
  intro P hP
  refine EX.of (L := [(0, .ref 118), (1, vi k)]) rfl rfl (Nat.le_of_ble_eq_true rfl) rfl ?_
  refine j_iconst dX8_lying_0 ?_
  refine j_istore_n (L' := [(0, .ref 118), (1, vi k), (2, vi 0)]) dX8_lying_1 (Nat.le_of_ble_eq_true rfl) rfl ?_
  refine j_iconst dX8_lying_2 ?_
  refine j_istore_n (L' := [(0, .ref 118), (1, vi k), (2, vi 0), (3, vi 0)]) dX8_lying_3 (Nat.le_of_ble_eq_true rfl) rfl ?_
  have lp4 : ∀ (n : Nat) (n0 p : Int), (S 125 1 - p).toNat < n → (0 ≤ p ∧ p ≤ S 125 1 ∧ n0 = sm (fun p => if mWh S p = 8 ∧ mPl S p = k then 1 else 0) p.toNat) → JJ mX8_lying (RX mX8_lying P) 4 [(0, .ref 118), (1, vi k), (2, vi n0), (3, vi p)] [] S := by
    intro n
    induction n with
    | zero => intro n0 p hm; exact absurd hm (Nat.not_lt_zero _)
    | succ n ih4 =>
      intro n0 p hm4 hv4
      obtain ⟨hv1, hv2, hv3⟩ := hv4
      refine j_iload_n dX8_lying_4 rfl ?_
      refine j_aload_n dX8_lying_5 rfl ?_
      refine j_getR dX8_lying_6 fg_X8_28 fq_118_18 ?_
      refine j_iconst dX8_lying_9 ?_
      refine j_iald (x := S 125 1) dX8_lying_10 aq_125 (by omega) (by omega) rfl (fun hi10 => ?_)
      refine j_icmp_ge (tgt := 37) dX8_lying_11 (by decide) (by omega) (by omega) (fun h11 => ?_) (fun h11 => ?_)
      · refine j_iload_n dX8_lying_37 rfl ?_
        exact j_iret rfl dX8_lying_38 (fun h => by cases h) (hP _ _ ⟨by rw [hv3]; unfold lyO; congr 2; omega, rfl⟩)
      · refine j_iload_n dX8_lying_14 rfl ?_
        refine j_aload_n dX8_lying_15 rfl ?_
        refine j_iload_n dX8_lying_16 rfl ?_
        refine j_iload_n dX8_lying_17 rfl ?_
        refine j_callVi (As := [vi p, vi k]) (rest := [vi n0]) (t_X8_liesOf _ p k (by omega) (by omega) (by omega)) rfl cm_X8_liesOf ci_X8_liesOf ml_X8_143 oq_118 rfl (Nat.le_of_ble_eq_true rfl) (Nat.le_of_ble_eq_true rfl) dX8_lying_18 (fun r18 S18 hp18 => ?_)
        obtain ⟨⟨rfl, hc18⟩ | ⟨rfl, hc18⟩, he18⟩ := hp18
        · rw [he18]
          refine j_if_eq (tgt := 28) dX8_lying_21 (by decide) (by omega)  (fun h => absurd h (by decide)) (fun _ => ?_)
          refine j_iconst dX8_lying_24 ?_
          refine j_goto (tgt := 29) dX8_lying_25 (by decide) ?_
          refine j_iadd dX8_lying_29 ?_
          refine j_istore_n (L' := [(0, .ref 118), (1, vi k), (2, vi (n0 + 1)), (3, vi p)]) dX8_lying_30 (Nat.le_of_ble_eq_true rfl) rfl ?_
          refine j_iinc (L' := [(0, .ref 118), (1, vi k), (2, vi (n0 + 1)), (3, vi (p + 1))]) dX8_lying_31 (Nat.le_of_ble_eq_true rfl) rfl rfl ?_
          refine j_goto (tgt := 4) dX8_lying_34 (by decide) ?_
          exact ih4 (n0 + 1) (p + 1) (by omega) ⟨by omega, by omega, by rw [sm_s (by omega)]; split <;> omega⟩
        · rw [he18]
          refine j_if_eq (tgt := 28) dX8_lying_21 (by decide) (by omega)  (fun _ => ?_) (fun h => absurd h (by decide))
          refine j_iconst dX8_lying_28 ?_
          refine j_iadd dX8_lying_29 ?_
          refine j_istore_n (L' := [(0, .ref 118), (1, vi k), (2, vi (n0 + 0)), (3, vi p)]) dX8_lying_30 (Nat.le_of_ble_eq_true rfl) rfl ?_
          refine j_iinc (L' := [(0, .ref 118), (1, vi k), (2, vi (n0 + 0)), (3, vi (p + 1))]) dX8_lying_31 (Nat.le_of_ble_eq_true rfl) rfl rfl ?_
          refine j_goto (tgt := 4) dX8_lying_34 (by decide) ?_
          exact ih4 (n0 + 0) (p + 1) (by omega) ⟨by omega, by omega, by rw [sm_s (by omega)]; split <;> omega⟩
  exact lp4 _ 0 0 (Nat.lt_succ_self _) ⟨by omega, by omega, rfl⟩
set_option maxRecDepth 100000 in
set_option maxHeartbeats 4000000 in
theorem t_X8_inYard (S : St) (hM : MI S) : EX mX8_inYard [.ref 118] S (fun r S' => r = lyA (S 125 1) (mWh S) ∧ S' = S) := by
  suffices hh : ∀ P : Int → St → Prop, (∀ r S', (r = lyA (S 125 1) (mWh S) ∧ S' = S) → P r S') → EX mX8_inYard [.ref 118] S P from hh _ (fun _ _ h => h)
  intro P hP
  refine EX.of (L := [(0, .ref 118)]) rfl rfl (Nat.le_of_ble_eq_true rfl) rfl ?_
  obtain ⟨⟨hn0, hn1⟩, hwl, ⟨hp0, hp1⟩, ⟨hs0, hs1⟩, hyr, hpt, hhd, hth⟩ := id hM
  have hwt : ∀ k, 0 ≤ k → k < 6 → 1 ≤ S 120 k ∧ S 120 k ≤ 9 := fun k a b => ⟨(hwl k a b).1, (hwl k a b).2.1⟩
  refine j_iconst dX8_inYard_0 ?_
  refine j_istore_n (L' := [(0, .ref 118), (1, vi 0)]) dX8_inYard_1 (Nat.le_of_ble_eq_true rfl) rfl ?_
  refine j_iconst dX8_inYard_2 ?_
  refine j_istore_n (L' := [(0, .ref 118), (1, vi 0), (2, vi 0)]) dX8_inYard_3 (Nat.le_of_ble_eq_true rfl) rfl ?_
  have lp4 : ∀ (n : Nat) (n0 k : Int), (S 118 13 - k).toNat < n → (0 ≤ k ∧ k ≤ S 118 13 ∧ n0 = sm (fun k => lyO (S 125 1) (mWh S) (mPl S) k) k.toNat) → JJ mX8_inYard (RX mX8_inYard P) 4 [(0, .ref 118), (1, vi n0), (2, vi k)] [] S := by
    intro n
    induction n with
    | zero => intro n0 k hm; exact absurd hm (Nat.not_lt_zero _)
    | succ n ih4 =>
      intro n0 k hm4 hv4
      obtain ⟨hv1, hv2, hv3⟩ := hv4
      refine j_iload_n dX8_inYard_4 rfl ?_
      refine j_aload_n dX8_inYard_5 rfl ?_
      refine j_getI (x := S 118 13) dX8_inYard_6 fg_X8_59 fq_118_13 rfl (fun hi6 => ?_)
      refine j_icmp_ge (tgt := 26) dX8_inYard_9 (by decide) (by omega) (by omega) (fun h9 => ?_) (fun h9 => ?_)
      · refine j_iload_n dX8_inYard_26 rfl ?_
        exact j_iret rfl dX8_inYard_27 (fun h => by cases h) (hP _ _ ⟨by rw [hv3, show k.toNat = (S 118 13).toNat by omega]; exact yard_sum (fun p a b => (hpt p a (by omega)).1), rfl⟩)
      · refine j_iload_n dX8_inYard_12 rfl ?_
        refine j_aload_n dX8_inYard_13 rfl ?_
        refine j_iload_n dX8_inYard_14 rfl ?_
        refine j_callVi (As := [vi k]) (rest := [vi n0]) (t_X8_lying _ k (by omega) (by omega) (by omega)) rfl cm_X8_lying ci_X8_lying ml_X8_147 oq_118 rfl (Nat.le_of_ble_eq_true rfl) (Nat.le_of_ble_eq_true rfl) dX8_inYard_15 (fun r15 S15 hp15 => ?_)
        obtain ⟨hr15, he15⟩ := hp15
        rw [he15]
        have hlb15 := lyO_bd (wh := mWh S) (pl := mPl S) (k := k) hp1
        rw [← hr15] at hlb15
        refine j_iadd dX8_inYard_18 ?_
        refine j_istore_n (L' := [(0, .ref 118), (1, vi (n0 + r15)), (2, vi k)]) dX8_inYard_19 (Nat.le_of_ble_eq_true rfl) rfl ?_
        refine j_iinc (L' := [(0, .ref 118), (1, vi (n0 + r15)), (2, vi (k + 1))]) dX8_inYard_20 (Nat.le_of_ble_eq_true rfl) rfl rfl ?_
        refine j_goto (tgt := 4) dX8_inYard_23 (by decide) ?_
        exact ih4 (n0 + r15) (k + 1) (by omega) ⟨by omega, by omega, by rw [sm_s (by omega)]; omega⟩
  exact lp4 _ 0 0 (Nat.lt_succ_self _) ⟨by omega, by omega, rfl⟩
