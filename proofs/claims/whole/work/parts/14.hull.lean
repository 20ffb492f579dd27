/-- some number has the property (kept from omega) -/
def Exs (c : Int → Prop) : Prop := ∃ o, c o
set_option maxRecDepth 100000 in
set_option maxHeartbeats 4000000 in
theorem t_X5_allWeights (S : St) (hn0 : 2 ≤ S 1 0) (hn1 : S 1 0 ≤ 6) (hwt : ∀ k, 0 ≤ k → k < 6 → 1 ≤ S 2 k ∧ S 2 k ≤ 9) : EX mX5_allWeights [.ref 1] S (fun r S' => r = sm (S 2) (S 1 0).toNat ∧ S' = S) := by
  suffices hh : ∀ P : Int → St → Prop, (∀ r S', (r = sm (S 2) (S 1 0).toNat ∧ S' = S) → P r S') → EX mX5_allWeights [.ref 1] S P from hh _ (fun _ _ h => h)
  intro P hP
  refine EX.of (L := [(0, .ref 1)]) rfl rfl (Nat.le_of_ble_eq_true rfl) rfl ?_
  refine j_iconst dX5_allWeights_0 ?_
  refine j_istore_n (L' := [(0, .ref 1), (1, vi 0)]) dX5_allWeights_1 (Nat.le_of_ble_eq_true rfl) rfl ?_
  refine j_iconst dX5_allWeights_2 ?_
  refine j_istore_n (L' := [(0, .ref 1), (1, vi 0), (2, vi 0)]) dX5_allWeights_3 (Nat.le_of_ble_eq_true rfl) rfl ?_
  have lp4 : ∀ (n : Nat) (a k : Int), (S 1 0 - k).toNat < n → (0 ≤ k ∧ k ≤ S 1 0 ∧ a = sm (S 2) k.toNat) → JJ mX5_allWeights (RX mX5_allWeights P) 4 [(0, .ref 1), (1, vi a), (2, vi k)] [] S := by
    intro n
    induction n with
    | zero => intro a k hm; exact absurd hm (Nat.not_lt_zero _)
    | succ n ih4 =>
      intro a k hm4 hv4
      obtain ⟨hv1, hv2, hv3⟩ := hv4
      refine j_iload_n dX5_allWeights_4 rfl ?_
      refine j_aload_n dX5_allWeights_5 rfl ?_
      refine j_getI (x := S 1 0) dX5_allWeights_6 fg_X5_21 fq_1_0 rfl (fun hi6 => ?_)
      refine j_icmp_ge (tgt := 27) dX5_allWeights_9 (by decide) (by omega) (by omega) (fun h9 => ?_) (fun h9 => ?_)
      · refine j_iload_n dX5_allWeights_27 rfl ?_
        exact j_iret rfl dX5_allWeights_28 (fun h => by cases h) (hP _ _ ⟨by rw [hv3]; congr 2; omega, rfl⟩)
      · refine j_iload_n dX5_allWeights_12 rfl ?_
        refine j_aload_n dX5_allWeights_13 rfl ?_
        refine j_getR dX5_allWeights_14 fg_X5_9 fq_1_1 ?_
        refine j_iload_n dX5_allWeights_17 rfl ?_
        refine j_iald (x := S 2 k) dX5_allWeights_18 aq_2 (by omega) (by omega) rfl (fun hi18 => ?_)
        refine j_iadd dX5_allWeights_19 ?_
        refine j_istore_n (L' := [(0, .ref 1), (1, vi (a + (S 2 k))), (2, vi k)]) dX5_allWeights_20 (Nat.le_of_ble_eq_true rfl) rfl ?_
        refine j_iinc (L' := [(0, .ref 1), (1, vi (a + (S 2 k))), (2, vi (k + 1))]) dX5_allWeights_21 (Nat.le_of_ble_eq_true rfl) rfl rfl ?_
        refine j_goto (tgt := 4) dX5_allWeights_24 (by decide) ?_
        exact ih4 (a + (S 2 k)) (k + 1) (by omega) ⟨by omega, by omega, by rw [sm_s (by omega)]; omega⟩
  exact lp4 _ 0 0 (Nat.lt_succ_self _) ⟨by omega, by omega, rfl⟩
set_option maxRecDepth 100000 in
set_option maxHeartbeats 4000000 in
theorem t_X5_startAnew (S : St) : EX mX5_startAnew [.ref 18] S (fun r S' => Same [18, 19, 20] S S' ∧ S' 18 0 = 3 ∧ ∀ k, 0 ≤ k → k < 6 → S' 19 k = 1 ∧ S' 20 k = 9) := by
  suffices hh : ∀ P : Int → St → Prop, (∀ r S', (Same [18, 19, 20] S S' ∧ S' 18 0 = 3 ∧ ∀ k, 0 ≤ k → k < 6 → S' 19 k = 1 ∧ S' 20 k = 9) → P r S') → EX mX5_startAnew [.ref 18] S P from hh _ (fun _ _ h => h)
  intro P hP
  refine EX.of (L := [(0, .ref 18)]) rfl rfl (Nat.le_of_ble_eq_true rfl) rfl ?_
  refine j_aload_n dX5_startAnew_0 rfl ?_
  refine j_iconst dX5_startAnew_1 ?_
  refine j_putI (i := 0) dX5_startAnew_2 fg_X5_21 ft_5_0 fq_18_0 rfl (by omega) ?_
  refine j_iconst dX5_startAnew_5 ?_
  refine j_istore_n (L' := [(0, .ref 18), (1, vi 0)]) dX5_startAnew_6 (Nat.le_of_ble_eq_true rfl) rfl ?_
  have lp7 : ∀ (n : Nat) (k : Int) (T : St), (6 - k).toNat < n → (0 ≤ k ∧ k ≤ 6 ∧ Same [18, 19, 20] S T ∧ T 18 0 = 3 ∧ ∀ j, 0 ≤ j → j < k → T 19 j = 1 ∧ T 20 j = 9) → JJ mX5_startAnew (RX mX5_startAnew P) 7 [(0, .ref 18), (1, vi k)] [] T := by
    intro n
    induction n with
    | zero => intro k T hm; exact absurd hm (Nat.not_lt_zero _)
    | succ n ih7 =>
      intro k T hm7 hv7
      obtain ⟨hv1, hv2, hv3, hv4, hv5⟩ := hv7
      refine j_iload_n dX5_startAnew_7 rfl ?_
      refine j_bipush dX5_startAnew_8 (by decide) ?_
      refine j_icmp_ge (tgt := 34) dX5_startAnew_10 (by decide) (by omega) (by omega) (fun h10 => ?_) (fun h10 => ?_)
      · exact j_vret rfl dX5_startAnew_34 (fun h => by cases h) (hP _ _ ⟨hv3, hv4, fun j a b => hv5 j a (by omega)⟩)
      · refine j_aload_n dX5_startAnew_13 rfl ?_
        refine j_getR dX5_startAnew_14 fg_X5_9 fq_18_1 ?_
        refine j_iload_n dX5_startAnew_17 rfl ?_
        refine j_iconst dX5_startAnew_18 ?_
        refine j_iast dX5_startAnew_19 aq_19 (by omega) (by omega) (by omega) ?_
        refine j_aload_n dX5_startAnew_20 rfl ?_
        refine j_getR dX5_startAnew_21 fg_X5_15 fq_18_2 ?_
        refine j_iload_n dX5_startAnew_24 rfl ?_
        refine j_bipush dX5_startAnew_25 (by decide) ?_
        refine j_iast dX5_startAnew_27 aq_20 (by omega) (by omega) (by omega) ?_
        refine j_iinc (L' := [(0, .ref 18), (1, vi (k + 1))]) dX5_startAnew_28 (Nat.le_of_ble_eq_true rfl) rfl rfl ?_
        refine j_goto (tgt := 7) dX5_startAnew_31 (by decide) ?_
        exact ih7 (k + 1) (up (up T 19 k 1) 20 k 9) (by omega) ⟨by omega, by omega, same_up (same_up hv3 (by decide)) (by decide), hv4, fun j a b => if e : j = k then by subst e; exact ⟨by simp [up], by simp [up]⟩ else by rw [up_c (by decide), up_i e, up_i e, up_c (by decide)]; exact hv5 j a (by omega)⟩
  exact lp7 _ 0 (up S 18 0 3) (Nat.lt_succ_self _) ⟨by omega, by omega, same_up Same.rf (by decide), rfl, fun j a b => by omega⟩
set_option maxRecDepth 100000 in
set_option maxHeartbeats 4000000 in
theorem t_X5_copyFrom (S : St) : EX mX5_copyFrom [.ref 1, .ref 18] S (fun r S' => S' = cpy (cpy (up S 1 0 (S 18 0)) 19 2 6) 20 3 6) := by
  suffices hh : ∀ P : Int → St → Prop, (∀ r S', (S' = cpy (cpy (up S 1 0 (S 18 0)) 19 2 6) 20 3 6) → P r S') → EX mX5_copyFrom [.ref 1, .ref 18] S P from hh _ (fun _ _ h => h)
  intro P hP
  refine EX.of (L := [(0, .ref 1), (1, .ref 18)]) rfl rfl (Nat.le_of_ble_eq_true rfl) rfl ?_
  refine j_aload_n dX5_copyFrom_0 rfl ?_
  refine j_aload_n dX5_copyFrom_1 rfl ?_
  refine j_getI (x := S 18 0) dX5_copyFrom_2 fg_X5_21 fq_18_0 rfl (fun hi2 => ?_)
  refine j_putI (i := 0) dX5_copyFrom_5 fg_X5_21 ft_5_0 fq_1_0 rfl (by omega) ?_
  refine j_aload_n dX5_copyFrom_8 rfl ?_
  refine j_getR dX5_copyFrom_9 fg_X5_9 fq_18_1 ?_
  refine j_iconst dX5_copyFrom_12 ?_
  refine j_aload_n dX5_copyFrom_13 rfl ?_
  refine j_getR dX5_copyFrom_14 fg_X5_9 fq_1_1 ?_
  refine j_iconst dX5_copyFrom_17 ?_
  refine j_bipush dX5_copyFrom_18 (by decide) ?_
  refine j_copy dX5_copyFrom_20 cw_X5_25 aq_19 aq_2 (by omega) (by omega) (by omega) (Nat.le_of_ble_eq_true rfl) (Nat.le_of_ble_eq_true rfl) ?_
  refine j_aload_n dX5_copyFrom_23 rfl ?_
  refine j_getR dX5_copyFrom_24 fg_X5_15 fq_18_2 ?_
  refine j_iconst dX5_copyFrom_27 ?_
  refine j_aload_n dX5_copyFrom_28 rfl ?_
  refine j_getR dX5_copyFrom_29 fg_X5_15 fq_1_2 ?_
  refine j_iconst dX5_copyFrom_32 ?_
  refine j_bipush dX5_copyFrom_33 (by decide) ?_
  refine j_copy dX5_copyFrom_35 cw_X5_25 aq_20 aq_3 (by omega) (by omega) (by omega) (Nat.le_of_ble_eq_true rfl) (Nat.le_of_ble_eq_true rfl) ?_
  exact j_vret rfl dX5_copyFrom_38 (fun h => by cases h) (hP _ _ rfl)
set_option maxRecDepth 100000 in
set_option maxHeartbeats 4000000 in
theorem t_X2_put (S : St) (k a b : Int) (h0 : 0 ≤ k) (h1 : k < 6) (ra : InR a) (rb : InR b) : EX mX2_put [.ref 4, vi k, vi a, vi b] S (fun r S' => S' = up (up S 5 k a) 6 k b) := by
  suffices hh : ∀ P : Int → St → Prop, (∀ r S', (S' = up (up S 5 k a) 6 k b) → P r S') → EX mX2_put [.ref 4, vi k, vi a, vi b] S P from hh _ (fun _ _ h => h)
  intro P hP
  refine EX.of (L := [(0, .ref 4), (1, vi k), (2, vi a), (3, vi b)]) rfl rfl (Nat.le_of_ble_eq_true rfl) rfl ?_
  refine j_aload_n dX2_put_0 rfl ?_
  refine j_getR dX2_put_1 fg_X2_9 fq_4_2 ?_
  refine j_iload_n dX2_put_4 rfl ?_
  refine j_iload_n dX2_put_5 rfl ?_
  refine j_iast dX2_put_6 aq_5 (by omega) (by omega) (by omega) ?_
  refine j_aload_n dX2_put_7 rfl ?_
  refine j_getR dX2_put_8 fg_X2_15 fq_4_3 ?_
  refine j_iload_n dX2_put_11 rfl ?_
  refine j_iload_n dX2_put_12 rfl ?_
  refine j_iast dX2_put_13 aq_6 (by omega) (by omega) (by omega) ?_
  exact j_vret rfl dX2_put_14 (fun h => by cases h) (hP _ _ rfl)
set_option maxRecDepth 100000 in
set_option maxHeartbeats 4000000 in
theorem t_X2_putPart (S : St) (k p : Int) (h0 : 0 ≤ k) (h1 : k < 6) (h2 : 0 ≤ p) (h3 : p < 48) : EX mX2_putPart [.ref 4, vi k, vi p] S (fun r S' => S' = up (up S 5 k (S 29 p)) 6 k (S 30 p)) := by
  suffices hh : ∀ P : Int → St → Prop, (∀ r S', (S' = up (up S 5 k (S 29 p)) 6 k (S 30 p)) → P r S') → EX mX2_putPart [.ref 4, vi k, vi p] S P from hh _ (fun _ _ h => h)
  intro P hP
  refine EX.of (L := [(0, .ref 4), (1, vi k), (2, vi p)]) rfl rfl (Nat.le_of_ble_eq_true rfl) rfl ?_
  refine j_aload_n dX2_putPart_0 rfl ?_
  refine j_iload_n dX2_putPart_1 rfl ?_
  refine j_aload_n dX2_putPart_2 rfl ?_
  refine j_getR dX2_putPart_3 fg_X2_25 fq_4_1 ?_
  refine j_getR dX2_putPart_6 fg_X2_45 fq_27_4 ?_
  refine j_iload_n dX2_putPart_9 rfl ?_
  refine j_iald (x := S 29 p) dX2_putPart_10 aq_29 (by omega) (by omega) rfl (fun hi10 => ?_)
  refine j_aload_n dX2_putPart_11 rfl ?_
  refine j_getR dX2_putPart_12 fg_X2_25 fq_4_1 ?_
  refine j_getR dX2_putPart_15 fg_X2_46 fq_27_5 ?_
  refine j_iload_n dX2_putPart_18 rfl ?_
  refine j_iald (x := S 30 p) dX2_putPart_19 aq_30 (by omega) (by omega) rfl (fun hi19 => ?_)
  refine j_callVv (As := [vi k, vi (S 29 p), vi (S 30 p)]) (rest := []) (t_X2_put _ k (S 29 p) (S 30 p) (by omega) (by omega) (by omega) (by omega)) rfl cm_X2_put ci_X2_put ml_X2_47 oq_4 rfl (Nat.le_of_ble_eq_true rfl) (Nat.le_of_ble_eq_true rfl) dX2_putPart_20 (fun r20 S20 hp20 => ?_)
  rw [hp20]
  exact j_vret rfl dX2_putPart_23 (fun h => by cases h) (hP _ _ rfl)
set_option maxRecDepth 100000 in
set_option maxHeartbeats 4000000 in
theorem t_X2_load (S : St) (s : Int) (hn0 : 2 ≤ S 1 0) (hn1 : S 1 0 ≤ 6) (h0 : 0 ≤ s) (h1 : s < 6) (hh : ∀ k, 0 ≤ k → k < S 1 0 → 0 ≤ S 33 (s * 6 + k) ∧ S 33 (s * 6 + k) < 48) : EX mX2_load [.ref 4, vi s] S (fun r S' => Same [5, 6] S S' ∧ ∀ j, 0 ≤ j → j < S 1 0 → S' 5 j = S 29 (S 33 (s * 6 + j)) ∧ S' 6 j = S 30 (S 33 (s * 6 + j))) := by
  suffices hh : ∀ P : Int → St → Prop, (∀ r S', (Same [5, 6] S S' ∧ ∀ j, 0 ≤ j → j < S 1 0 → S' 5 j = S 29 (S 33 (s * 6 + j)) ∧ S' 6 j = S 30 (S 33 (s * 6 + j))) → P r S') → EX mX2_load [.ref 4, vi s] S P from hh _ (fun _ _ h => h)
  intro P hP
  refine EX.of (L := [(0, .ref 4), (1, vi s)]) rfl rfl (Nat.le_of_ble_eq_true rfl) rfl ?_
  refine j_iconst dX2_load_0 ?_
  refine j_istore_n (L' := [(0, .ref 4), (1, vi s), (2, vi 0)]) dX2_load_1 (Nat.le_of_ble_eq_true rfl) rfl ?_
  have lp2 : ∀ (n : Nat) (k : Int) (T : St), (S 1 0 - k).toNat < n → (0 ≤ k ∧ k ≤ S 1 0 ∧ Same [5, 6] S T ∧ ∀ j, 0 ≤ j → j < k → T 5 j = S 29 (S 33 (s * 6 + j)) ∧ T 6 j = S 30 (S 33 (s * 6 + j))) → JJ mX2_load (RX mX2_load P) 2 [(0, .ref 4), (1, vi s), (2, vi k)] [] T := by
    intro n
    induction n with
    | zero => intro k T hm; exact absurd hm (Nat.not_lt_zero _)
    | succ n ih2 =>
      intro k T hm2 hv2
      obtain ⟨hv1, hv2, hv3, hv4⟩ := hv2
      have eT_1 : T 1 = S 1 := hv3 1 (by decide)
      have eT_29 : T 29 = S 29 := hv3 29 (by decide)
      have eT_30 : T 30 = S 30 := hv3 30 (by decide)
      have eT_33 : T 33 = S 33 := hv3 33 (by decide)
      refine j_iload_n dX2_load_2 rfl ?_
      refine j_aload_n dX2_load_3 rfl ?_
      refine j_getR dX2_load_4 fg_X2_21 fq_4_0 ?_
      refine j_getI (x := S 1 0) dX2_load_7 fg_X2_29 fq_1_0 (congrFun eT_1 _) (fun hi7 => ?_)
      refine j_icmp_ge (tgt := 33) dX2_load_10 (by decide) (by omega) (by omega) (fun h10 => ?_) (fun h10 => ?_)
      · exact j_vret rfl dX2_load_33 (fun h => by cases h) (hP _ _ ⟨hv3, fun j a b => hv4 j a (by omega)⟩)
      · have hhk := hh k (by omega) (by omega)
        refine j_aload_n dX2_load_13 rfl ?_
        refine j_iload_n dX2_load_14 rfl ?_
        refine j_aload_n dX2_load_15 rfl ?_
        refine j_getR dX2_load_16 fg_X2_25 fq_4_1 ?_
        refine j_iload_n dX2_load_19 rfl ?_
        refine j_iload_n dX2_load_20 rfl ?_
        refine j_callVi (As := [vi s, vi k]) (rest := [vi k, .ref 4]) (t_X1_partAt _ s k (by omega) (by omega) (by omega) (by omega)) rfl cm_X1_partAt ci_X1_partAt ml_X2_35 oq_27 rfl (Nat.le_of_ble_eq_true rfl) (Nat.le_of_ble_eq_true rfl) dX2_load_21 (fun r21 S21 hp21 => ?_)
        obtain ⟨hr21, he21⟩ := hp21
        rw [he21]
        rw [show r21 = S 33 (s * 6 + k) from hr21.trans (congrFun eT_33 _)]
        refine j_callVv (As := [vi k, vi (S 33 (s * 6 + k))]) (rest := []) (t_X2_putPart _ k (S 33 (s * 6 + k)) (by omega) (by omega) (by omega) (by omega)) rfl cm_X2_putPart ci_X2_putPart ml_X2_41 oq_4 rfl (Nat.le_of_ble_eq_true rfl) (Nat.le_of_ble_eq_true rfl) dX2_load_24 (fun r24 S24 hp24 => ?_)
        rw [hp24]
        rw [show T 29 (S 33 (s * 6 + k)) = S 29 (S 33 (s * 6 + k)) from (congrFun eT_29 _)]
        rw [show T 30 (S 33 (s * 6 + k)) = S 30 (S 33 (s * 6 + k)) from (congrFun eT_30 _)]
        refine j_iinc (L' := [(0, .ref 4), (1, vi s), (2, vi (k + 1))]) dX2_load_27 (Nat.le_of_ble_eq_true rfl) rfl rfl ?_
        refine j_goto (tgt := 2) dX2_load_30 (by decide) ?_
        exact ih2 (k + 1) (up (up T 5 k (S 29 (S 33 (s * 6 + k)))) 6 k (S 30 (S 33 (s * 6 + k)))) (by omega) ⟨by omega, by omega, same_up (same_up hv3 (by decide)) (by decide), fun j a b => if e : j = k then by subst e; exact ⟨by simp [up], by simp [up]⟩ else by rw [up_c (by decide), up_i e, up_i e, up_c (by decide)]; exact hv4 j a (by omega)⟩
  exact lp2 _ 0 S (Nat.lt_succ_self _) ⟨by omega, by omega, Same.rf, fun j a b => by omega⟩
set_option maxRecDepth 100000 in
set_option maxHeartbeats 4000000 in
theorem t_X2_shipOf (S : St) (x : Int) (hx : InR x) : EX mX2_shipOf [vi x] S (fun r S' => r = shO x ∧ S' = S) := by
  suffices hh : ∀ P : Int → St → Prop, (∀ r S', (r = shO x ∧ S' = S) → P r S') → EX mX2_shipOf [vi x] S P from hh _ (fun _ _ h => h)
  intro P hP
  refine EX.of (L := [(0, vi x)]) rfl rfl (Nat.le_of_ble_eq_true rfl) rfl ?_
  refine j_iload_n dX2_shipOf_0 rfl ?_
  refine j_bipush dX2_shipOf_1 (by decide) ?_
  refine j_icmp_ne (tgt := 11) dX2_shipOf_3 (by decide) (by omega) (by omega) (fun h3 => ?_) (fun h3 => ?_)
  · refine j_iload_n dX2_shipOf_11 rfl ?_
    exact j_iret rfl dX2_shipOf_12 (fun h => by cases h) (hP _ _ ⟨by unfold shO; split <;> omega, rfl⟩)
  · refine j_bipush dX2_shipOf_6 (by decide) ?_
    refine j_goto (tgt := 12) dX2_shipOf_8 (by decide) ?_
    exact j_iret rfl dX2_shipOf_12 (fun h => by cases h) (hP _ _ ⟨by unfold shO; split <;> omega, rfl⟩)
theorem ren_in {S T U : St} {k : Int} (h0 : 0 ≤ k) (h : (∀ j, 0 ≤ j → j < k → (S 3 j ≤ S 6 j + 1 → T 5 j = 9 ∧ T 6 j = 0) ∧ (S 6 j + 1 < S 3 j → T 5 j = S 5 j ∧ T 6 j = S 6 j + 1))) (hk : (S 3 k ≤ S 6 k + 1 ∧ U 5 k = 9 ∧ U 6 k = 0) ∨ (S 6 k + 1 < S 3 k ∧ U 5 k = S 5 k ∧ U 6 k = S 6 k + 1)) (ho : ∀ j, j ≠ k → U 5 j = T 5 j ∧ U 6 j = T 6 j) : (∀ j, 0 ≤ j → j < (k + 1) → (S 3 j ≤ S 6 j + 1 → U 5 j = 9 ∧ U 6 j = 0) ∧ (S 6 j + 1 < S 3 j → U 5 j = S 5 j ∧ U 6 j = S 6 j + 1)) := by
  intro j a b
  by_cases e : j = k
  · subst e
    rcases hk with ⟨h1, h2, h3⟩ | ⟨h1, h2, h3⟩
    · exact ⟨fun _ => ⟨h2, h3⟩, fun q => by omega⟩
    · exact ⟨fun q => by omega, fun _ => ⟨h2, h3⟩⟩
  · rw [(ho j e).1, (ho j e).2]
    exact h j a (by omega)
set_option maxRecDepth 100000 in
set_option maxHeartbeats 4000000 in
theorem t_X2_ageAndRenew (S : St) (hn0 : 2 ≤ S 1 0) (hn1 : S 1 0 ≤ 6) (hag : ∀ k, 0 ≤ k → k < S 1 0 → 0 ≤ S 6 k ∧ S 6 k ≤ 1000) : EX mX2_ageAndRenew [.ref 4] S (fun r S' => r = sm (fun j => if S 3 j ≤ S 6 j + 1 then 1 else 0) (S 1 0).toNat ∧ Same [5, 6] S S' ∧ (∀ j, 0 ≤ j → j < S 1 0 → (S 3 j ≤ S 6 j + 1 → S' 5 j = 9 ∧ S' 6 j = 0) ∧ (S 6 j + 1 < S 3 j → S' 5 j = S 5 j ∧ S' 6 j = S 6 j + 1))) := by
  suffices hh : ∀ P : Int → St → Prop, (∀ r S', (r = sm (fun j => if S 3 j ≤ S 6 j + 1 then 1 else 0) (S 1 0).toNat ∧ Same [5, 6] S S' ∧ (∀ j, 0 ≤ j → j < S 1 0 → (S 3 j ≤ S 6 j + 1 → S' 5 j = 9 ∧ S' 6 j = 0) ∧ (S 6 j + 1 < S 3 j → S' 5 j = S 5 j ∧ S' 6 j = S 6 j + 1))) → P r S') → EX mX2_ageAndRenew [.ref 4] S P from hh _ (fun _ _ h => h)
  intro P hP
  refine EX.of (L := [(0, .ref 4)]) rfl rfl (Nat.le_of_ble_eq_true rfl) rfl ?_
  refine j_iconst dX2_ageAndRenew_0 ?_
  refine j_istore_n (L' := [(0, .ref 4), (1, vi 0)]) dX2_ageAndRenew_1 (Nat.le_of_ble_eq_true rfl) rfl ?_
  refine j_iconst dX2_ageAndRenew_2 ?_
  refine j_istore_n (L' := [(0, .ref 4), (1, vi 0), (2, vi 0)]) dX2_ageAndRenew_3 (Nat.le_of_ble_eq_true rfl) rfl ?_
  have lp4 : ∀ (n : Nat) (r0 k : Int) (T : St), (S 1 0 - k).toNat < n → (0 ≤ k ∧ k ≤ S 1 0 ∧ r0 = sm (fun j => if S 3 j ≤ S 6 j + 1 then 1 else 0) k.toNat ∧ Same [5, 6] S T ∧ (∀ j, 0 ≤ j → j < k → (S 3 j ≤ S 6 j + 1 → T 5 j = 9 ∧ T 6 j = 0) ∧ (S 6 j + 1 < S 3 j → T 5 j = S 5 j ∧ T 6 j = S 6 j + 1)) ∧ ∀ j, k ≤ j → T 5 j = S 5 j ∧ T 6 j = S 6 j) → JJ mX2_ageAndRenew (RX mX2_ageAndRenew P) 4 [(0, .ref 4), (1, vi r0), (2, vi k)] [] T := by
    intro n
    induction n with
    | zero => intro r0 k T hm; exact absurd hm (Nat.not_lt_zero _)
    | succ n ih4 =>
      intro r0 k T hm4 hv4
      obtain ⟨hv1, hv2, hv3, hv4, hv5, hv6⟩ := hv4
      have eT_1 : T 1 = S 1 := hv4 1 (by decide)
      have eT_3 : T 3 = S 3 := hv4 3 (by decide)
      refine j_iload_n dX2_ageAndRenew_4 rfl ?_
      refine j_aload_n dX2_ageAndRenew_5 rfl ?_
      refine j_getR dX2_ageAndRenew_6 fg_X2_21 fq_4_0 ?_
      refine j_getI (x := S 1 0) dX2_ageAndRenew_9 fg_X2_29 fq_1_0 (congrFun eT_1 _) (fun hi9 => ?_)
      refine j_icmp_ge (tgt := 60) dX2_ageAndRenew_12 (by decide) (by omega) (by omega) (fun h12 => ?_) (fun h12 => ?_)
      · refine j_iload_n dX2_ageAndRenew_60 rfl ?_
        exact j_iret rfl dX2_ageAndRenew_61 (fun h => by cases h) (hP _ _ ⟨by rw [hv3]; congr 2; omega, hv4, fun j a b => hv5 j a (by omega)⟩)
      · have ek := hv6 k (by omega)
        have hak := hag k (by omega) (by omega)
        refine j_aload_n dX2_ageAndRenew_15 rfl ?_
        refine j_getR dX2_ageAndRenew_16 fg_X2_15 fq_4_3 ?_
        refine j_iload_n dX2_ageAndRenew_19 rfl ?_
        refine j_dup2 dX2_ageAndRenew_20 rfl rfl ?_
        refine j_iald (x := S 6 k) dX2_ageAndRenew_21 aq_6 (by omega) (by omega) ek.2 (fun hi21 => ?_)
        refine j_iconst dX2_ageAndRenew_22 ?_
        refine j_iadd dX2_ageAndRenew_23 ?_
        refine j_iast dX2_ageAndRenew_24 aq_6 (by omega) (by omega) (by omega) ?_
        refine j_aload_n dX2_ageAndRenew_25 rfl ?_
        refine j_getR dX2_ageAndRenew_26 fg_X2_15 fq_4_3 ?_
        refine j_iload_n dX2_ageAndRenew_29 rfl ?_
        refine j_iald (x := (S 6 k) + 1) dX2_ageAndRenew_30 aq_6 (by omega) (by omega) (by simp [up]) (fun hi30 => ?_)
        refine j_aload_n dX2_ageAndRenew_31 rfl ?_
        refine j_getR dX2_ageAndRenew_32 fg_X2_21 fq_4_0 ?_
        refine j_getR dX2_ageAndRenew_35 fg_X2_51 fq_1_2 ?_
        refine j_iload_n dX2_ageAndRenew_38 rfl ?_
        refine j_iald (x := S 3 k) dX2_ageAndRenew_39 aq_3 (by omega) (by omega) (congrFun eT_3 _) (fun hi39 => ?_)
        refine j_icmp_lt (tgt := 54) dX2_ageAndRenew_40 (by decide) (by omega) (by omega) (fun h40 => ?_) (fun h40 => ?_)
        · refine j_iinc (L' := [(0, .ref 4), (1, vi r0), (2, vi (k + 1))]) dX2_ageAndRenew_54 (Nat.le_of_ble_eq_true rfl) rfl rfl ?_
          refine j_goto (tgt := 4) dX2_ageAndRenew_57 (by decide) ?_
          exact ih4 r0 (k + 1) (up T 6 k ((S 6 k) + 1)) (by omega) ⟨by omega, by omega, (by rw [sm_s (by omega), if_neg (by omega)]; omega), (same_up hv4 (by decide)), ren_in hv1 hv5 (Or.inr ⟨h40, by simp [up, ek.1], by simp [up]⟩) (fun j e => by simp [up, e]), fun j a => by have e : j ≠ k := (by omega); have := hv6 j (by omega); simp [up, e, this]⟩
        · refine j_aload_n dX2_ageAndRenew_43 rfl ?_
          refine j_iload_n dX2_ageAndRenew_44 rfl ?_
          refine j_bipush dX2_ageAndRenew_45 (by decide) ?_
          refine j_iconst dX2_ageAndRenew_47 ?_
          refine j_callVv (As := [vi k, vi 9, vi 0]) (rest := []) (t_X2_put _ k 9 0 (by omega) (by omega) (by omega) (by omega)) rfl cm_X2_put ci_X2_put ml_X2_47 oq_4 rfl (Nat.le_of_ble_eq_true rfl) (Nat.le_of_ble_eq_true rfl) dX2_ageAndRenew_48 (fun r48 S48 hp48 => ?_)
          rw [hp48]
          refine j_iinc (L' := [(0, .ref 4), (1, vi (r0 + 1)), (2, vi k)]) dX2_ageAndRenew_51 (Nat.le_of_ble_eq_true rfl) rfl rfl ?_
          refine j_iinc (L' := [(0, .ref 4), (1, vi (r0 + 1)), (2, vi (k + 1))]) dX2_ageAndRenew_54 (Nat.le_of_ble_eq_true rfl) rfl rfl ?_
          refine j_goto (tgt := 4) dX2_ageAndRenew_57 (by decide) ?_
          exact ih4 (r0 + 1) (k + 1) (up (up (up T 6 k ((S 6 k) + 1)) 5 k 9) 6 k 0) (by omega) ⟨by omega, by omega, (by rw [sm_s (by omega), if_pos (by omega)]; omega), (same_up (same_up (same_up hv4 (by decide)) (by decide)) (by decide)), ren_in hv1 hv5 (Or.inl ⟨h40, by simp [up], by simp [up]⟩) (fun j e => by simp [up, e]), fun j a => by have e : j ≠ k := (by omega); have := hv6 j (by omega); simp [up, e, this]⟩
  exact lp4 _ 0 0 S (Nat.lt_succ_self _) ⟨by omega, by omega, rfl, Same.rf, fun j a b => by omega, fun j a => ⟨rfl, rfl⟩⟩
set_option maxRecDepth 100000 in
set_option maxHeartbeats 4000000 in
theorem t_X2_weigh (S : St) (hn0 : 2 ≤ S 1 0) (hn1 : S 1 0 ≤ 6) (hwt : ∀ k, 0 ≤ k → k < 6 → 1 ≤ S 2 k ∧ S 2 k ≤ 9) (hmk : ∀ k, 0 ≤ k → k < S 1 0 → isMk (S 5 k)) : EX mX2_weigh [.ref 4] S (fun r S' => Same [7] S S' ∧ ∀ j, 0 ≤ j → j < 10 → S' 7 j = wgt (S 1 0) (S 5) (S 2) j) := by
  suffices hh : ∀ P : Int → St → Prop, (∀ r S', (Same [7] S S' ∧ ∀ j, 0 ≤ j → j < 10 → S' 7 j = wgt (S 1 0) (S 5) (S 2) j) → P r S') → EX mX2_weigh [.ref 4] S P from hh _ (fun _ _ h => h)
  intro P hP
  refine EX.of (L := [(0, .ref 4)]) rfl rfl (Nat.le_of_ble_eq_true rfl) rfl ?_
  refine j_iconst dX2_weigh_0 ?_
  refine j_istore_n (L' := [(0, .ref 4), (1, vi 0)]) dX2_weigh_1 (Nat.le_of_ble_eq_true rfl) rfl ?_
  have lp2 : ∀ (n : Nat) (k : Int) (T : St), (10 - k).toNat < n → (0 ≤ k ∧ k ≤ 10 ∧ Same [7] S T ∧ ∀ j, 0 ≤ j → j < k → T 7 j = 0) → JJ mX2_weigh (RX mX2_weigh P) 2 [(0, .ref 4), (1, vi k)] [] T := by
    intro n
    induction n with
    | zero => intro k T hm; exact absurd hm (Nat.not_lt_zero _)
    | succ n ih2 =>
      intro k T hm2 hv2
      obtain ⟨hv1, hv2, hv3, hv4⟩ := hv2
      refine j_iload_n dX2_weigh_2 rfl ?_
      refine j_bipush dX2_weigh_3 (by decide) ?_
      refine j_icmp_ge (tgt := 21) dX2_weigh_5 (by decide) (by omega) (by omega) (fun h5 => ?_) (fun h5 => ?_)
      · refine j_iconst dX2_weigh_21 ?_
        refine j_istore_n (L' := [(0, .ref 4), (1, vi 0)]) dX2_weigh_22 (Nat.le_of_ble_eq_true rfl) rfl ?_
        have lp23 : ∀ (n : Nat) (k : Int) (U : St), (S 1 0 - k).toNat < n → (0 ≤ k ∧ k ≤ S 1 0 ∧ Same [7] S U ∧ ∀ j, 0 ≤ j → j < 10 → U 7 j = sm (fun q => if S 5 q = j then S 2 q else 0) k.toNat) → JJ mX2_weigh (RX mX2_weigh P) 23 [(0, .ref 4), (1, vi k)] [] U := by
          intro n
          induction n with
          | zero => intro k U hm; exact absurd hm (Nat.not_lt_zero _)
          | succ n ih23 =>
            intro k U hm23 hv23
            obtain ⟨hu1, hu2, hu3, hu4⟩ := hv23
            have eU_1 : U 1 = S 1 := hu3 1 (by decide)
            have eU_2 : U 2 = S 2 := hu3 2 (by decide)
            have eU_5 : U 5 = S 5 := hu3 5 (by decide)
            refine j_iload_n dX2_weigh_23 rfl ?_
            refine j_aload_n dX2_weigh_24 rfl ?_
            refine j_getR dX2_weigh_25 fg_X2_21 fq_4_0 ?_
            refine j_getI (x := S 1 0) dX2_weigh_28 fg_X2_29 fq_1_0 (congrFun eU_1 _) (fun hi28 => ?_)
            refine j_icmp_ge (tgt := 63) dX2_weigh_31 (by decide) (by omega) (by omega) (fun h31 => ?_) (fun h31 => ?_)
            · exact j_vret rfl dX2_weigh_63 (fun h => by cases h) (hP _ _ ⟨hu3, fun j a b => by rw [hu4 j a b]; unfold wgt; congr 2; omega⟩)
            · have hmk1 := hmk k (by omega) (by omega)
              have hwt1 := hwt k (by omega) (by omega)
              have hb1 := hu4 (S 5 k) (by omega) (by omega)
              have hb2 := sm_bd (f := fun q => if S 5 q = S 5 k then S 2 q else 0) (a := 9) (n := k.toNat) (fun i i0 i1 => by have := hwt i i0 (by omega); split <;> omega)
              refine j_aload_n dX2_weigh_34 rfl ?_
              refine j_getR dX2_weigh_35 fg_X2_18 fq_4_4 ?_
              refine j_aload_n dX2_weigh_38 rfl ?_
              refine j_getR dX2_weigh_39 fg_X2_9 fq_4_2 ?_
              refine j_iload_n dX2_weigh_42 rfl ?_
              refine j_iald (x := S 5 k) dX2_weigh_43 aq_5 (by omega) (by omega) (congrFun eU_5 _) (fun hi43 => ?_)
              refine j_dup2 dX2_weigh_44 rfl rfl ?_
              refine j_iald (x := U 7 (S 5 k)) dX2_weigh_45 aq_7 (by omega) (by omega) rfl (fun hi45 => ?_)
              refine j_aload_n dX2_weigh_46 rfl ?_
              refine j_getR dX2_weigh_47 fg_X2_21 fq_4_0 ?_
              refine j_getR dX2_weigh_50 fg_X2_54 fq_1_1 ?_
              refine j_iload_n dX2_weigh_53 rfl ?_
              refine j_iald (x := S 2 k) dX2_weigh_54 aq_2 (by omega) (by omega) (congrFun eU_2 _) (fun hi54 => ?_)
              refine j_iadd dX2_weigh_55 ?_
              refine j_iast dX2_weigh_56 aq_7 (by omega) (by omega) (by omega) ?_
              refine j_iinc (L' := [(0, .ref 4), (1, vi (k + 1))]) dX2_weigh_57 (Nat.le_of_ble_eq_true rfl) rfl rfl ?_
              refine j_goto (tgt := 23) dX2_weigh_60 (by decide) ?_
              exact ih23 (k + 1) (up U 7 (S 5 k) ((U 7 (S 5 k)) + (S 2 k))) (by omega) ⟨by omega, by omega, same_up hu3 (by decide), fun j a b => if e : j = S 5 k then by subst e; rw [up_s, sm_s (by omega), if_pos rfl, hu4 _ a b] else by rw [up_i e, sm_s (by omega), if_neg (fun z => e z.symm), hu4 j a b]; omega⟩
        exact lp23 _ 0 T (Nat.lt_succ_self _) ⟨by omega, by omega, hv3, fun j a b => by rw [hv4 j a (by omega)]; rfl⟩
      · refine j_aload_n dX2_weigh_8 rfl ?_
        refine j_getR dX2_weigh_9 fg_X2_18 fq_4_4 ?_
        refine j_iload_n dX2_weigh_12 rfl ?_
        refine j_iconst dX2_weigh_13 ?_
        refine j_iast dX2_weigh_14 aq_7 (by omega) (by omega) (by omega) ?_
        refine j_iinc (L' := [(0, .ref 4), (1, vi (k + 1))]) dX2_weigh_15 (Nat.le_of_ble_eq_true rfl) rfl rfl ?_
        refine j_goto (tgt := 2) dX2_weigh_18 (by decide) ?_
        exact ih2 (k + 1) (up T 7 k 0) (by omega) ⟨by omega, by omega, same_up hv3 (by decide), fun j a b => if e : j = k then by subst e; simp [up] else by rw [up_i e]; exact hv4 j a (by omega)⟩
  exact lp2 _ 0 S (Nat.lt_succ_self _) ⟨by omega, by omega, Same.rf, fun j a b => by omega⟩
set_option maxRecDepth 100000 in
set_option maxHeartbeats 4000000 in
theorem t_X2_byMost (S : St) (hn0 : 2 ≤ S 1 0) (hn1 : S 1 0 ≤ 6) (hwt : ∀ k, 0 ≤ k → k < 6 → 1 ≤ S 2 k ∧ S 2 k ≤ 9) (hmk : ∀ k, 0 ≤ k → k < S 1 0 → isMk (S 5 k)) : EX mX2_byMost [.ref 4] S (fun r S' => r = f4 (fun m => sm (S 2) (S 1 0).toNat < 2 * wgt (S 1 0) (S 5) (S 2) m) ∧ Same [7] S S') := by
  suffices hh : ∀ P : Int → St → Prop, (∀ r S', (r = f4 (fun m => sm (S 2) (S 1 0).toNat < 2 * wgt (S 1 0) (S 5) (S 2) m) ∧ Same [7] S S') → P r S') → EX mX2_byMost [.ref 4] S P from hh _ (fun _ _ h => h)
  intro P hP
  refine EX.of (L := [(0, .ref 4)]) rfl rfl (Nat.le_of_ble_eq_true rfl) rfl ?_
  refine j_aload_n dX2_byMost_0 rfl ?_
  refine j_callVv (As := []) (rest := []) (t_X2_weigh _ hn0 hn1 hwt hmk) rfl cm_X2_weigh ci_X2_weigh ml_X2_74 oq_4 rfl (Nat.le_of_ble_eq_true rfl) (Nat.le_of_ble_eq_true rfl) dX2_byMost_1 (fun r1 S1 hp1 => ?_)
  obtain ⟨hs1, hw1⟩ := hp1
  have eS1_1 : S1 1 = S 1 := hs1 1 (by decide)
  have eS1_2 : S1 2 = S 2 := hs1 2 (by decide)
  have eS1_5 : S1 5 = S 5 := hs1 5 (by decide)
  refine j_aload_n dX2_byMost_4 rfl ?_
  refine j_getR dX2_byMost_5 fg_X2_21 fq_4_0 ?_
  refine j_callVi (As := []) (rest := []) (t_X5_allWeights _ (by rw [eS1_1]; omega) (by rw [eS1_1]; omega) (by rw [eS1_2]; exact hwt)) rfl cm_X5_allWeights ci_X5_allWeights ml_X2_77 oq_1 rfl (Nat.le_of_ble_eq_true rfl) (Nat.le_of_ble_eq_true rfl) dX2_byMost_8 (fun r8 S8 hp8 => ?_)
  obtain ⟨hr8, he8⟩ := hp8
  rw [he8]
  rw [eS1_1, eS1_2] at hr8
  have hb8 := sm_bd (f := S 2) (a := 9) (n := (S 1 0).toNat) (fun i i0 i1 => by have := hwt i i0 (by omega); omega)
  refine j_istore_n (L' := [(0, .ref 4), (1, vi r8)]) dX2_byMost_11 (Nat.le_of_ble_eq_true rfl) rfl ?_
  refine j_iconst dX2_byMost_12 ?_
  refine j_istore_n (L' := [(0, .ref 4), (1, vi r8), (2, vi 0)]) dX2_byMost_13 (Nat.le_of_ble_eq_true rfl) rfl ?_
  have lp14 : ∀ (n : Nat) (k : Int), (4 - k).toNat < n → (0 ≤ k ∧ k ≤ 4 ∧ ∀ q, 0 ≤ q → q < k → ¬ (sm (S 2) (S 1 0).toNat < 2 * wgt (S 1 0) (S 5) (S 2) q)) → JJ mX2_byMost (RX mX2_byMost P) 14 [(0, .ref 4), (1, vi r8), (2, vi k)] [] S1 := by
    intro n
    induction n with
    | zero => intro k hm; exact absurd hm (Nat.not_lt_zero _)
    | succ n ih14 =>
      intro k hm14 hv14
      obtain ⟨hv1, hv2, hv3⟩ := hv14
      refine j_iload_n dX2_byMost_14 rfl ?_
      refine j_iconst dX2_byMost_15 ?_
      refine j_icmp_ge (tgt := 39) dX2_byMost_16 (by decide) (by omega) (by omega) (fun h16 => ?_) (fun h16 => ?_)
      · refine j_bipush dX2_byMost_39 (by decide) ?_
        exact j_iret rfl dX2_byMost_41 (fun h => by cases h) (hP _ _ ⟨f4_eq (Or.inr ⟨rfl, fun q a b => hv3 q a (by omega)⟩), hs1⟩)
      · have hw1k := hw1 k (by omega) (by omega)
        have hwb := wgt_nn (n := S 1 0) (mk := S 5) (wt := S 2) (m := k) (fun i i0 i1 => by have := hwt i i0 (by omega); omega)
        refine j_iconst dX2_byMost_19 ?_
        refine j_aload_n dX2_byMost_20 rfl ?_
        refine j_getR dX2_byMost_21 fg_X2_18 fq_4_4 ?_
        refine j_iload_n dX2_byMost_24 rfl ?_
        refine j_iald (x := wgt (S 1 0) (S 5) (S 2) k) dX2_byMost_25 aq_7 (by omega) (by omega) hw1k (fun hi25 => ?_)
        refine j_imul dX2_byMost_26 ?_
        refine j_iload_n dX2_byMost_27 rfl ?_
        refine j_icmp_le (tgt := 33) dX2_byMost_28 (by decide) (by omega) (by omega) (fun h28 => ?_) (fun h28 => ?_)
        · refine j_iinc (L' := [(0, .ref 4), (1, vi r8), (2, vi (k + 1))]) dX2_byMost_33 (Nat.le_of_ble_eq_true rfl) rfl rfl ?_
          refine j_goto (tgt := 14) dX2_byMost_36 (by decide) ?_
          exact ih14 (k + 1) (by omega) ⟨by omega, by omega, fun q a b => if e : q = k then by subst e; omega else hv3 q a (by omega)⟩
        · refine j_iload_n dX2_byMost_31 rfl ?_
          exact j_iret rfl dX2_byMost_32 (fun h => by cases h) (hP _ _ ⟨f4_eq (Or.inl ⟨by omega, by omega, by omega, hv3⟩), hs1⟩)
  exact lp14 _ 0 (Nat.lt_succ_self _) ⟨by omega, by omega, fun q a b => by omega⟩
set_option maxRecDepth 100000 in
set_option maxHeartbeats 4000000 in
theorem t_X2_byMore (S : St) (hn0 : 2 ≤ S 1 0) (hn1 : S 1 0 ≤ 6) (hwt : ∀ k, 0 ≤ k → k < 6 → 1 ≤ S 2 k ∧ S 2 k ≤ 9) (hmk : ∀ k, 0 ≤ k → k < S 1 0 → isMk (S 5 k)) : EX mX2_byMore [.ref 4] S (fun r S' => r = f4 (isMo (S 1 0) (S 5) (S 2)) ∧ Same [7] S S') := by
  suffices hh : ∀ P : Int → St → Prop, (∀ r S', (r = f4 (isMo (S 1 0) (S 5) (S 2)) ∧ Same [7] S S') → P r S') → EX mX2_byMore [.ref 4] S P from hh _ (fun _ _ h => h)
  intro P hP
  refine EX.of (L := [(0, .ref 4)]) rfl rfl (Nat.le_of_ble_eq_true rfl) rfl ?_
  refine j_aload_n dX2_byMore_0 rfl ?_
  refine j_callVv (As := []) (rest := []) (t_X2_weigh _ hn0 hn1 hwt hmk) rfl cm_X2_weigh ci_X2_weigh ml_X2_74 oq_4 rfl (Nat.le_of_ble_eq_true rfl) (Nat.le_of_ble_eq_true rfl) dX2_byMore_1 (fun r1 S1 hp1 => ?_)
  obtain ⟨hs1, hw1⟩ := hp1
  have eS1_1 : S1 1 = S 1 := hs1 1 (by decide)
  have eS1_2 : S1 2 = S 2 := hs1 2 (by decide)
  have eS1_5 : S1 5 = S 5 := hs1 5 (by decide)
  refine j_iconst dX2_byMore_4 ?_
  refine j_istore_n (L' := [(0, .ref 4), (1, vi 0)]) dX2_byMore_5 (Nat.le_of_ble_eq_true rfl) rfl ?_
  refine j_iconst dX2_byMore_6 ?_
  refine j_istore_n (L' := [(0, .ref 4), (1, vi 0), (2, vi 1)]) dX2_byMore_7 (Nat.le_of_ble_eq_true rfl) rfl ?_
  refine j_iconst dX2_byMore_8 ?_
  refine j_istore_n (L' := [(0, .ref 4), (1, vi 0), (2, vi 1), (3, vi 1)]) dX2_byMore_9 (Nat.le_of_ble_eq_true rfl) rfl ?_
  have lp10 : ∀ (n : Nat) (h al k : Int), (10 - k).toNat < n → (1 ≤ k ∧ k ≤ 10 ∧ 0 ≤ h ∧ h < k ∧ (al = 0 ∨ al = 1) ∧ (∀ o, 0 ≤ o → o < k → wgt (S 1 0) (S 5) (S 2) o ≤ wgt (S 1 0) (S 5) (S 2) h) ∧ (al = 1 → ∀ o, 0 ≤ o → o < k → o ≠ h → wgt (S 1 0) (S 5) (S 2) o < wgt (S 1 0) (S 5) (S 2) h) ∧ (al = 0 → Exs (fun o => 0 ≤ o ∧ o < k ∧ o ≠ h ∧ wgt (S 1 0) (S 5) (S 2) o = wgt (S 1 0) (S 5) (S 2) h))) → JJ mX2_byMore (RX mX2_byMore P) 10 [(0, .ref 4), (1, vi h), (2, vi al), (3, vi k)] [] S1 := by
    intro n
    induction n with
    | zero => intro h al k hm; exact absurd hm (Nat.not_lt_zero _)
    | succ n ih10 =>
      intro h al k hm10 hv10
      obtain ⟨hv1, hv2, hv3, hv4, hv5, hv6, hv7, hv8⟩ := hv10
      refine j_iload_n dX2_byMore_10 rfl ?_
      refine j_bipush dX2_byMore_11 (by decide) ?_
      refine j_icmp_ge (tgt := 61) dX2_byMore_13 (by decide) (by omega) (by omega) (fun h13 => ?_) (fun h13 => ?_)
      · refine j_iload_n dX2_byMore_61 rfl ?_
        refine j_if_eq (tgt := 72) dX2_byMore_62 (by decide) (by omega)  (fun h62 => ?_) (fun h62 => ?_)
        · refine j_bipush dX2_byMore_72 (by decide) ?_
          exact j_iret rfl dX2_byMore_74 (fun h => by cases h) (hP _ _ ⟨by rw [more_of (by omega) hmk (fun i i0 i1 => hwt i i0 (by omega)) hv3 (by omega) (fun o a b => hv6 o a (by omega)) (fun z o a b c => hv7 z o a (by omega) c) (fun z => by obtain ⟨o, o1, o2, o3, o4⟩ := hv8 z; exact ⟨o, o1, by omega, o3, o4⟩) hv5, if_pos h62], hs1⟩)
        · refine j_iload_n dX2_byMore_65 rfl ?_
          refine j_callSi (As := [vi h]) (rest := []) (t_X2_shipOf _ h (by omega)) rfl cm_X2_shipOf cs_X2_shipOf ml_X2_57 rfl (Nat.le_of_ble_eq_true rfl) (Nat.le_of_ble_eq_true rfl) dX2_byMore_66 (fun r66 S66 hp66 => ?_)
          obtain ⟨hr66, he66⟩ := hp66
          rw [he66]
          subst hr66
          refine j_goto (tgt := 74) dX2_byMore_69 (by decide) ?_
          exact j_iret rfl dX2_byMore_74 (fun h => by cases h) (hP _ _ ⟨by rw [more_of (by omega) hmk (fun i i0 i1 => hwt i i0 (by omega)) hv3 (by omega) (fun o a b => hv6 o a (by omega)) (fun z o a b c => hv7 z o a (by omega) c) (fun z => by obtain ⟨o, o1, o2, o3, o4⟩ := hv8 z; exact ⟨o, o1, by omega, o3, o4⟩) hv5, if_neg h62], hs1⟩)
      · have hwk := hw1 k (by omega) (by omega)
        have hwh := hw1 h (by omega) (by omega)
        refine j_aload_n dX2_byMore_16 rfl ?_
        refine j_getR dX2_byMore_17 fg_X2_18 fq_4_4 ?_
        refine j_iload_n dX2_byMore_20 rfl ?_
        refine j_iald (x := wgt (S 1 0) (S 5) (S 2) k) dX2_byMore_21 aq_7 (by omega) (by omega) hwk (fun hi21 => ?_)
        refine j_aload_n dX2_byMore_22 rfl ?_
        refine j_getR dX2_byMore_23 fg_X2_18 fq_4_4 ?_
        refine j_iload_n dX2_byMore_26 rfl ?_
        refine j_iald (x := wgt (S 1 0) (S 5) (S 2) h) dX2_byMore_27 aq_7 (by omega) (by omega) hwh (fun hi27 => ?_)
        refine j_icmp_le (tgt := 38) dX2_byMore_28 (by decide) (by omega) (by omega) (fun h28 => ?_) (fun h28 => ?_)
        · refine j_aload_n dX2_byMore_38 rfl ?_
          refine j_getR dX2_byMore_39 fg_X2_18 fq_4_4 ?_
          refine j_iload_n dX2_byMore_42 rfl ?_
          refine j_iald (x := wgt (S 1 0) (S 5) (S 2) k) dX2_byMore_43 aq_7 (by omega) (by omega) hwk (fun hi43 => ?_)
          refine j_aload_n dX2_byMore_44 rfl ?_
          refine j_getR dX2_byMore_45 fg_X2_18 fq_4_4 ?_
          refine j_iload_n dX2_byMore_48 rfl ?_
          refine j_iald (x := wgt (S 1 0) (S 5) (S 2) h) dX2_byMore_49 aq_7 (by omega) (by omega) hwh (fun hi49 => ?_)
          refine j_icmp_ne (tgt := 55) dX2_byMore_50 (by decide) (by omega) (by omega) (fun h50 => ?_) (fun h50 => ?_)
          · refine j_iinc (L' := [(0, .ref 4), (1, vi h), (2, vi al), (3, vi (k + 1))]) dX2_byMore_55 (Nat.le_of_ble_eq_true rfl) rfl rfl ?_
            refine j_goto (tgt := 10) dX2_byMore_58 (by decide) ?_
            exact ih10 h al (k + 1) (by omega) ⟨by omega, by omega, by omega, by omega, hv5, fun o a b => if e : o = k then by rw [e]; omega else hv6 o a (by omega), fun z o a b c => if e : o = k then by rw [e]; omega else hv7 z o a (by omega) c, fun z => by obtain ⟨o, o1, o2, o3, o4⟩ := hv8 z; exact ⟨o, o1, by omega, o3, o4⟩⟩
          · refine j_iconst dX2_byMore_53 ?_
            refine j_istore_n (L' := [(0, .ref 4), (1, vi h), (2, vi 0), (3, vi k)]) dX2_byMore_54 (Nat.le_of_ble_eq_true rfl) rfl ?_
            refine j_iinc (L' := [(0, .ref 4), (1, vi h), (2, vi 0), (3, vi (k + 1))]) dX2_byMore_55 (Nat.le_of_ble_eq_true rfl) rfl rfl ?_
            refine j_goto (tgt := 10) dX2_byMore_58 (by decide) ?_
            exact ih10 h 0 (k + 1) (by omega) ⟨by omega, by omega, by omega, by omega, Or.inl rfl, fun o a b => if e : o = k then by rw [e]; omega else hv6 o a (by omega), fun z => by omega, fun _ => ⟨k, by omega, by omega, by omega, by omega⟩⟩
        · refine j_iload_n dX2_byMore_31 rfl ?_
          refine j_istore_n (L' := [(0, .ref 4), (1, vi k), (2, vi al), (3, vi k)]) dX2_byMore_32 (Nat.le_of_ble_eq_true rfl) rfl ?_
          refine j_iconst dX2_byMore_33 ?_
          refine j_istore_n (L' := [(0, .ref 4), (1, vi k), (2, vi 1), (3, vi k)]) dX2_byMore_34 (Nat.le_of_ble_eq_true rfl) rfl ?_
          refine j_goto (tgt := 55) dX2_byMore_35 (by decide) ?_
          refine j_iinc (L' := [(0, .ref 4), (1, vi k), (2, vi 1), (3, vi (k + 1))]) dX2_byMore_55 (Nat.le_of_ble_eq_true rfl) rfl rfl ?_
          refine j_goto (tgt := 10) dX2_byMore_58 (by decide) ?_
          exact ih10 k 1 (k + 1) (by omega) ⟨by omega, by omega, by omega, by omega, Or.inr rfl, fun o a b => if e : o = k then by rw [e]; exact Int.le_refl _ else by have := hv6 o a (by omega); omega, fun _ o a b c => by have := hv6 o a (by omega); omega, fun z => by omega⟩
  exact lp10 _ 0 1 1 (Nat.lt_succ_self _) ⟨by omega, by omega, by omega, by omega, Or.inr rfl, fun o a b => by rw [show o = 0 by omega]; exact Int.le_refl _, fun _ o a b c => by omega, fun z => by omega⟩
set_option maxRecDepth 100000 in
set_option maxHeartbeats 4000000 in
theorem t_X2_oldest (S : St) (hn0 : 2 ≤ S 1 0) (hn1 : S 1 0 ≤ 6) : EX mX2_oldest [.ref 4] S (fun r S' => r = oldI (S 6) (S 1 0).toNat ∧ S' = S) := by
  suffices hh : ∀ P : Int → St → Prop, (∀ r S', (r = oldI (S 6) (S 1 0).toNat ∧ S' = S) → P r S') → EX mX2_oldest [.ref 4] S P from hh _ (fun _ _ h => h)
  intro P hP
  refine EX.of (L := [(0, .ref 4)]) rfl rfl (Nat.le_of_ble_eq_true rfl) rfl ?_
  refine j_iconst dX2_oldest_0 ?_
  refine j_istore_n (L' := [(0, .ref 4), (1, vi 0)]) dX2_oldest_1 (Nat.le_of_ble_eq_true rfl) rfl ?_
  refine j_iconst dX2_oldest_2 ?_
  refine j_istore_n (L' := [(0, .ref 4), (1, vi 0), (2, vi 1)]) dX2_oldest_3 (Nat.le_of_ble_eq_true rfl) rfl ?_
  have lp4 : ∀ (n : Nat) (f k : Int), (S 1 0 - k).toNat < n → (1 ≤ k ∧ k ≤ S 1 0 ∧ f = oldI (S 6) k.toNat) → JJ mX2_oldest (RX mX2_oldest P) 4 [(0, .ref 4), (1, vi f), (2, vi k)] [] S := by
    intro n
    induction n with
    | zero => intro f k hm; exact absurd hm (Nat.not_lt_zero _)
    | succ n ih4 =>
      intro f k hm4 hv4
      obtain ⟨hv1, hv2, hv3⟩ := hv4
      have hfb := oldI_bd (S 6) k.toNat
      rw [← hv3] at hfb
      refine j_iload_n dX2_oldest_4 rfl ?_
      refine j_aload_n dX2_oldest_5 rfl ?_
      refine j_getR dX2_oldest_6 fg_X2_21 fq_4_0 ?_
      refine j_getI (x := S 1 0) dX2_oldest_9 fg_X2_29 fq_1_0 rfl (fun hi9 => ?_)
      refine j_icmp_ge (tgt := 38) dX2_oldest_12 (by decide) (by omega) (by omega) (fun h12 => ?_) (fun h12 => ?_)
      · refine j_iload_n dX2_oldest_38 rfl ?_
        exact j_iret rfl dX2_oldest_39 (fun h => by cases h) (hP _ _ ⟨by rw [hv3]; congr 2; omega, rfl⟩)
      · refine j_aload_n dX2_oldest_15 rfl ?_
        refine j_getR dX2_oldest_16 fg_X2_15 fq_4_3 ?_
        refine j_iload_n dX2_oldest_19 rfl ?_
        refine j_iald (x := S 6 k) dX2_oldest_20 aq_6 (by omega) (by omega) rfl (fun hi20 => ?_)
        refine j_aload_n dX2_oldest_21 rfl ?_
        refine j_getR dX2_oldest_22 fg_X2_15 fq_4_3 ?_
        refine j_iload_n dX2_oldest_25 rfl ?_
        refine j_iald (x := S 6 f) dX2_oldest_26 aq_6 (by omega) (by omega) rfl (fun hi26 => ?_)
        refine j_icmp_le (tgt := 32) dX2_oldest_27 (by decide) (by omega) (by omega) (fun h27 => ?_) (fun h27 => ?_)
        · refine j_iinc (L' := [(0, .ref 4), (1, vi f), (2, vi (k + 1))]) dX2_oldest_32 (Nat.le_of_ble_eq_true rfl) rfl rfl ?_
          refine j_goto (tgt := 4) dX2_oldest_35 (by decide) ?_
          exact ih4 f (k + 1) (by omega) ⟨by omega, by omega, by rw [oldI_s (by omega), ← hv3]; split <;> omega⟩
        · refine j_iload_n dX2_oldest_30 rfl ?_
          refine j_istore_n (L' := [(0, .ref 4), (1, vi k), (2, vi k)]) dX2_oldest_31 (Nat.le_of_ble_eq_true rfl) rfl ?_
          refine j_iinc (L' := [(0, .ref 4), (1, vi k), (2, vi (k + 1))]) dX2_oldest_32 (Nat.le_of_ble_eq_true rfl) rfl rfl ?_
          refine j_goto (tgt := 4) dX2_oldest_35 (by decide) ?_
          exact ih4 k (k + 1) (by omega) ⟨by omega, by omega, by rw [oldI_s (by omega), ← hv3]; split <;> omega⟩
  exact lp4 _ 0 1 (Nat.lt_succ_self _) ⟨by omega, by omega, by simp [oldI]⟩
set_option maxRecDepth 100000 in
set_option maxHeartbeats 4000000 in
theorem t_X2_byHalf (S : St) (hn0 : 2 ≤ S 1 0) (hn1 : S 1 0 ≤ 6) : EX mX2_byHalf [.ref 4] S (fun r S' => r = f4 (fun m => S 1 0 ≤ 2 * cnm (S 1 0) (S 5) m) ∧ S' = S) := by
  suffices hh : ∀ P : Int → St → Prop, (∀ r S', (r = f4 (fun m => S 1 0 ≤ 2 * cnm (S 1 0) (S 5) m) ∧ S' = S) → P r S') → EX mX2_byHalf [.ref 4] S P from hh _ (fun _ _ h => h)
  intro P hP
  refine EX.of (L := [(0, .ref 4)]) rfl rfl (Nat.le_of_ble_eq_true rfl) rfl ?_
  refine j_iconst dX2_byHalf_0 ?_
  refine j_istore_n (L' := [(0, .ref 4), (1, vi 0)]) dX2_byHalf_1 (Nat.le_of_ble_eq_true rfl) rfl ?_
  have lp2 : ∀ (n : Nat) (k : Int), (4 - k).toNat < n → (0 ≤ k ∧ k ≤ 4 ∧ ∀ q, 0 ≤ q → q < k → ¬ (S 1 0 ≤ 2 * cnm (S 1 0) (S 5) q)) → JJ mX2_byHalf (RX mX2_byHalf P) 2 [(0, .ref 4), (1, vi k)] [] S := by
    intro n
    induction n with
    | zero => intro k hm; exact absurd hm (Nat.not_lt_zero _)
    | succ n ih2 =>
      intro k hm2 hv2
      obtain ⟨hv1, hv2, hv3⟩ := hv2
      refine j_iload_n dX2_byHalf_2 rfl ?_
      refine j_iconst dX2_byHalf_3 ?_
      refine j_icmp_ge (tgt := 62) dX2_byHalf_4 (by decide) (by omega) (by omega) (fun h4 => ?_) (fun h4 => ?_)
      · refine j_bipush dX2_byHalf_62 (by decide) ?_
        exact j_iret rfl dX2_byHalf_64 (fun h => by cases h) (hP _ _ ⟨f4_eq (Or.inr ⟨rfl, fun q a b => hv3 q a (by omega)⟩), rfl⟩)
      · refine j_iconst dX2_byHalf_7 ?_
        refine j_istore_n (L' := [(0, .ref 4), (1, vi k), (2, vi 0)]) dX2_byHalf_8 (Nat.le_of_ble_eq_true rfl) rfl ?_
        refine j_iconst dX2_byHalf_9 ?_
        refine j_istore_n (L' := [(0, .ref 4), (1, vi k), (2, vi 0), (3, vi 0)]) dX2_byHalf_10 (Nat.le_of_ble_eq_true rfl) rfl ?_
        have lp11 : ∀ (n : Nat) (c j : Int), (S 1 0 - j).toNat < n → (0 ≤ j ∧ j ≤ S 1 0 ∧ c = sm (fun q => if S 5 q = k then 1 else 0) j.toNat) → JJ mX2_byHalf (RX mX2_byHalf P) 11 [(0, .ref 4), (1, vi k), (2, vi c), (3, vi j)] [] S := by
          intro n
          induction n with
          | zero => intro c j hm; exact absurd hm (Nat.not_lt_zero _)
          | succ n ih11 =>
            intro c j hm11 hv11
            obtain ⟨hu1, hu2, hu3⟩ := hv11
            refine j_iload_n dX2_byHalf_11 rfl ?_
            refine j_aload_n dX2_byHalf_12 rfl ?_
            refine j_getR dX2_byHalf_13 fg_X2_21 fq_4_0 ?_
            refine j_getI (x := S 1 0) dX2_byHalf_16 fg_X2_29 fq_1_0 rfl (fun hi16 => ?_)
            refine j_icmp_ge (tgt := 41) dX2_byHalf_19 (by decide) (by omega) (by omega) (fun h19 => ?_) (fun h19 => ?_)
            · have hc : c = cnm (S 1 0) (S 5) k := by rw [hu3]; unfold cnm; congr 2; omega
              have hcb := sm_bd (f := fun q => if S 5 q = k then 1 else 0) (a := 1) (n := j.toNat) (fun i i0 i1 => by split <;> omega)
              refine j_iconst dX2_byHalf_41 ?_
              refine j_iload_n dX2_byHalf_42 rfl ?_
              refine j_imul dX2_byHalf_43 ?_
              refine j_aload_n dX2_byHalf_44 rfl ?_
              refine j_getR dX2_byHalf_45 fg_X2_21 fq_4_0 ?_
              refine j_getI (x := S 1 0) dX2_byHalf_48 fg_X2_29 fq_1_0 rfl (fun hi48 => ?_)
              refine j_icmp_lt (tgt := 56) dX2_byHalf_51 (by decide) (by omega) (by omega) (fun h51 => ?_) (fun h51 => ?_)
              · refine j_iinc (L' := [(0, .ref 4), (1, vi (k + 1)), (2, vi c), (3, vi j)]) dX2_byHalf_56 (Nat.le_of_ble_eq_true rfl) rfl rfl ?_
                refine j_goto (tgt := 2) dX2_byHalf_59 (by decide) ?_
                refine j_sub (L' := [(0, .ref 4), (1, vi (k + 1))]) (by simp) ?_
                exact ih2 (k + 1) (by omega) ⟨by omega, by omega, fun q a b => if e : q = k then by subst e; omega else hv3 q a (by omega)⟩
              · refine j_iload_n dX2_byHalf_54 rfl ?_
                exact j_iret rfl dX2_byHalf_55 (fun h => by cases h) (hP _ _ ⟨f4_eq (Or.inl ⟨by omega, by omega, by omega, hv3⟩), rfl⟩)
            · refine j_aload_n dX2_byHalf_22 rfl ?_
              refine j_getR dX2_byHalf_23 fg_X2_9 fq_4_2 ?_
              refine j_iload_n dX2_byHalf_26 rfl ?_
              refine j_iald (x := S 5 j) dX2_byHalf_27 aq_5 (by omega) (by omega) rfl (fun hi27 => ?_)
              refine j_iload_n dX2_byHalf_28 rfl ?_
              refine j_icmp_ne (tgt := 35) dX2_byHalf_29 (by decide) (by omega) (by omega) (fun h29 => ?_) (fun h29 => ?_)
              · refine j_iinc (L' := [(0, .ref 4), (1, vi k), (2, vi c), (3, vi (j + 1))]) dX2_byHalf_35 (Nat.le_of_ble_eq_true rfl) rfl rfl ?_
                refine j_goto (tgt := 11) dX2_byHalf_38 (by decide) ?_
                exact ih11 c (j + 1) (by omega) ⟨by omega, by omega, by rw [sm_s (by omega)]; split <;> omega⟩
              · refine j_iinc (L' := [(0, .ref 4), (1, vi k), (2, vi (c + 1)), (3, vi j)]) dX2_byHalf_32 (Nat.le_of_ble_eq_true rfl) rfl rfl ?_
                refine j_iinc (L' := [(0, .ref 4), (1, vi k), (2, vi (c + 1)), (3, vi (j + 1))]) dX2_byHalf_35 (Nat.le_of_ble_eq_true rfl) rfl rfl ?_
                refine j_goto (tgt := 11) dX2_byHalf_38 (by decide) ?_
                exact ih11 (c + 1) (j + 1) (by omega) ⟨by omega, by omega, by rw [sm_s (by omega)]; split <;> omega⟩
        exact lp11 _ 0 0 (Nat.lt_succ_self _) ⟨by omega, by omega, rfl⟩
  exact lp2 _ 0 (Nat.lt_succ_self _) ⟨by omega, by omega, fun q a b => by omega⟩
set_option maxRecDepth 100000 in
set_option maxHeartbeats 4000000 in
theorem t_X2_whose (S : St) (law : Int) (hn0 : 2 ≤ S 1 0) (hn1 : S 1 0 ≤ 6) (hwt : ∀ k, 0 ≤ k → k < 6 → 1 ≤ S 2 k ∧ S 2 k ≤ 9) (hmk : ∀ k, 0 ≤ k → k < S 1 0 → isMk (S 5 k)) (hl0 : 0 ≤ law) (hl1 : law < 5) : EX mX2_whose [.ref 4, vi law] S (fun r S' => r = who (S 1 0) (S 5) (S 6) (S 2) law ∧ Same [7] S S') := by
  suffices hh : ∀ P : Int → St → Prop, (∀ r S', (r = who (S 1 0) (S 5) (S 6) (S 2) law ∧ Same [7] S S') → P r S') → EX mX2_whose [.ref 4, vi law] S P from hh _ (fun _ _ h => h)
  intro P hP
  refine EX.of (L := [(0, .ref 4), (1, vi law)]) rfl rfl (Nat.le_of_ble_eq_true rfl) rfl ?_
  refine j_iload_n dX2_whose_0 rfl ?_
  rcases (by omega : (law < 0 ∨ 4 < law) ∨ law = 0 ∨ law = 1 ∨ law = 2 ∨ law = 3 ∨ law = 4) with hs1 | hs1 | hs1 | hs1 | hs1 | hs1
  · refine j_tblOut (tgt := 74) dX2_whose_1 (by omega) (by omega) (by decide) ?_
    exfalso; omega
  · refine j_tblIn (off := 35) (tgt := 36) dX2_whose_1 (by omega) (by omega) (by omega) (by rw [hs1]; decide) (by decide) ?_
    refine j_aload_n dX2_whose_36 rfl ?_
    refine j_getR dX2_whose_37 fg_X2_9 fq_4_2 ?_
    refine j_iconst dX2_whose_40 ?_
    refine j_iald (x := S 5 0) dX2_whose_41 aq_5 (by omega) (by omega) rfl (fun hi41 => ?_)
    refine j_callSi (As := [vi (S 5 0)]) (rest := []) (t_X2_shipOf _ (S 5 0) (by omega)) rfl cm_X2_shipOf cs_X2_shipOf ml_X2_57 rfl (Nat.le_of_ble_eq_true rfl) (Nat.le_of_ble_eq_true rfl) dX2_whose_42 (fun r42 S42 hp42 => ?_)
    obtain ⟨hr42, he42⟩ := hp42
    rw [he42]
    subst hr42
    exact j_iret rfl dX2_whose_45 (fun h => by cases h) (hP _ _ ⟨by unfold who; simp [hs1], Same.rf⟩)
  · refine j_tblIn (off := 45) (tgt := 46) dX2_whose_1 (by omega) (by omega) (by omega) (by rw [hs1]; decide) (by decide) ?_
    refine j_aload_n dX2_whose_46 rfl ?_
    refine j_callVi (As := []) (rest := []) (t_X2_byMost _ hn0 hn1 hwt hmk) rfl cm_X2_byMost ci_X2_byMost ml_X2_61 oq_4 rfl (Nat.le_of_ble_eq_true rfl) (Nat.le_of_ble_eq_true rfl) dX2_whose_47 (fun r47 S47 hp47 => ?_)
    obtain ⟨hr47, hs47⟩ := hp47
    exact j_iret rfl dX2_whose_50 (fun h => by cases h) (hP _ _ ⟨by rw [hr47]; unfold who; simp [hs1], hs47⟩)
  · refine j_tblIn (off := 50) (tgt := 51) dX2_whose_1 (by omega) (by omega) (by omega) (by rw [hs1]; decide) (by decide) ?_
    refine j_aload_n dX2_whose_51 rfl ?_
    refine j_callVi (As := []) (rest := []) (t_X2_byMore _ hn0 hn1 hwt hmk) rfl cm_X2_byMore ci_X2_byMore ml_X2_65 oq_4 rfl (Nat.le_of_ble_eq_true rfl) (Nat.le_of_ble_eq_true rfl) dX2_whose_52 (fun r52 S52 hp52 => ?_)
    obtain ⟨hr52, hs52⟩ := hp52
    exact j_iret rfl dX2_whose_55 (fun h => by cases h) (hP _ _ ⟨by rw [hr52]; unfold who; simp [hs1], hs52⟩)
  · refine j_tblIn (off := 55) (tgt := 56) dX2_whose_1 (by omega) (by omega) (by omega) (by rw [hs1]; decide) (by decide) ?_
    refine j_aload_n dX2_whose_56 rfl ?_
    refine j_getR dX2_whose_57 fg_X2_9 fq_4_2 ?_
    refine j_aload_n dX2_whose_60 rfl ?_
    refine j_callVi (As := []) (rest := [.ref 5]) (t_X2_oldest _ hn0 hn1) rfl cm_X2_oldest ci_X2_oldest ml_X2_68 oq_4 rfl (Nat.le_of_ble_eq_true rfl) (Nat.le_of_ble_eq_true rfl) dX2_whose_61 (fun r61 S61 hp61 => ?_)
    obtain ⟨hr61, he61⟩ := hp61
    rw [he61]
    subst hr61
    have hob := oldI_bd (S 6) (S 1 0).toNat
    refine j_iald (x := S 5 (oldI (S 6) (S 1 0).toNat)) dX2_whose_64 aq_5 (by omega) (by omega) rfl (fun hi64 => ?_)
    refine j_callSi (As := [vi (S 5 (oldI (S 6) (S 1 0).toNat))]) (rest := []) (t_X2_shipOf _ (S 5 (oldI (S 6) (S 1 0).toNat)) (by omega)) rfl cm_X2_shipOf cs_X2_shipOf ml_X2_57 rfl (Nat.le_of_ble_eq_true rfl) (Nat.le_of_ble_eq_true rfl) dX2_whose_65 (fun r65 S65 hp65 => ?_)
    obtain ⟨hr65, he65⟩ := hp65
    rw [he65]
    subst hr65
    exact j_iret rfl dX2_whose_68 (fun h => by cases h) (hP _ _ ⟨by unfold who; simp [hs1], Same.rf⟩)
  · refine j_tblIn (off := 68) (tgt := 69) dX2_whose_1 (by omega) (by omega) (by omega) (by rw [hs1]; decide) (by decide) ?_
    refine j_aload_n dX2_whose_69 rfl ?_
    refine j_callVi (As := []) (rest := []) (t_X2_byHalf _ hn0 hn1) rfl cm_X2_byHalf ci_X2_byHalf ml_X2_71 oq_4 rfl (Nat.le_of_ble_eq_true rfl) (Nat.le_of_ble_eq_true rfl) dX2_whose_70 (fun r70 S70 hp70 => ?_)
    obtain ⟨hr70, he70⟩ := hp70
    rw [he70]
    exact j_iret rfl dX2_whose_73 (fun h => by cases h) (hP _ _ ⟨by rw [hr70]; unfold who; simp [hs1], Same.rf⟩)
