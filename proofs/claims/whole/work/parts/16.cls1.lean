set_option maxRecDepth 100000 in
set_option maxHeartbeats 4000000 in
theorem t_X7_isPlace (S : St) (k : Int) (hk : InR k) : EX mX7_isPlace [.ref 0, vi k] S (fun r S' => ((r = 1 ∧ (0 ≤ k ∧ k < S 1 0)) ∨ (r = 0 ∧ ¬ (0 ≤ k ∧ k < S 1 0))) ∧ S' = S) := by
  suffices hh : ∀ P : Int → St → Prop, (∀ r S', (((r = 1 ∧ (0 ≤ k ∧ k < S 1 0)) ∨ (r = 0 ∧ ¬ (0 ≤ k ∧ k < S 1 0))) ∧ S' = S) → P r S') → EX mX7_isPlace [.ref 0, vi k] S P from hh _ (fun _ _ h => h)
  intro P hP
  refine EX.of (L := [(0, .ref 0), (1, vi k)]) rfl rfl (Nat.le_of_ble_eq_true rfl) rfl ?_
  refine j_iload_n dX7_isPlace_0 rfl ?_
  refine j_if_lt (tgt := 19) dX7_isPlace_1 (by decide) (by omega)  (fun h1 => ?_) (fun h1 => ?_)
  · refine j_iconst dX7_isPlace_19 ?_
    exact j_iret rfl dX7_isPlace_20 (fun _ => Or.inl rfl) (hP _ _ ⟨by omega, rfl⟩)
  · refine j_iload_n dX7_isPlace_4 rfl ?_
    refine j_aload_n dX7_isPlace_5 rfl ?_
    refine j_getR dX7_isPlace_6 fg_X7_10 fq_0_0 ?_
    refine j_getI (x := S 1 0) dX7_isPlace_9 fg_X7_184 fq_1_0 rfl (fun hi9 => ?_)
    refine j_icmp_ge (tgt := 19) dX7_isPlace_12 (by decide) (by omega) (by omega) (fun h12 => ?_) (fun h12 => ?_)
    · refine j_iconst dX7_isPlace_19 ?_
      exact j_iret rfl dX7_isPlace_20 (fun _ => Or.inl rfl) (hP _ _ ⟨by omega, rfl⟩)
    · refine j_iconst dX7_isPlace_15 ?_
      refine j_goto (tgt := 20) dX7_isPlace_16 (by decide) ?_
      exact j_iret rfl dX7_isPlace_20 (fun _ => Or.inr rfl) (hP _ _ ⟨by omega, rfl⟩)
set_option maxRecDepth 100000 in
set_option maxHeartbeats 4000000 in
theorem t_X7_isShip (S : St) (k : Int) (hk : InR k) : EX mX7_isShip [.ref 0, vi k] S (fun r S' => ((r = 1 ∧ (0 ≤ k ∧ k < S 27 2)) ∨ (r = 0 ∧ ¬ (0 ≤ k ∧ k < S 27 2))) ∧ S' = S) := by
  suffices hh : ∀ P : Int → St → Prop, (∀ r S', (((r = 1 ∧ (0 ≤ k ∧ k < S 27 2)) ∨ (r = 0 ∧ ¬ (0 ≤ k ∧ k < S 27 2))) ∧ S' = S) → P r S') → EX mX7_isShip [.ref 0, vi k] S P from hh _ (fun _ _ h => h)
  intro P hP
  refine EX.of (L := [(0, .ref 0), (1, vi k)]) rfl rfl (Nat.le_of_ble_eq_true rfl) rfl ?_
  refine j_iload_n dX7_isShip_0 rfl ?_
  refine j_if_lt (tgt := 19) dX7_isShip_1 (by decide) (by omega)  (fun h1 => ?_) (fun h1 => ?_)
  · refine j_iconst dX7_isShip_19 ?_
    exact j_iret rfl dX7_isShip_20 (fun _ => Or.inl rfl) (hP _ _ ⟨by omega, rfl⟩)
  · refine j_iload_n dX7_isShip_4 rfl ?_
    refine j_aload_n dX7_isShip_5 rfl ?_
    refine j_getR dX7_isShip_6 fg_X7_19 fq_0_1 ?_
    refine j_getI (x := S 27 2) dX7_isShip_9 fg_X7_190 fq_27_2 rfl (fun hi9 => ?_)
    refine j_icmp_ge (tgt := 19) dX7_isShip_12 (by decide) (by omega) (by omega) (fun h12 => ?_) (fun h12 => ?_)
    · refine j_iconst dX7_isShip_19 ?_
      exact j_iret rfl dX7_isShip_20 (fun _ => Or.inl rfl) (hP _ _ ⟨by omega, rfl⟩)
    · refine j_iconst dX7_isShip_15 ?_
      refine j_goto (tgt := 20) dX7_isShip_16 (by decide) ?_
      exact j_iret rfl dX7_isShip_20 (fun _ => Or.inr rfl) (hP _ _ ⟨by omega, rfl⟩)
set_option maxRecDepth 100000 in
set_option maxHeartbeats 4000000 in
theorem t_X7_isPart (S : St) (k : Int) (hk : InR k) : EX mX7_isPart [.ref 0, vi k] S (fun r S' => ((r = 1 ∧ (0 ≤ k ∧ k < S 27 1)) ∨ (r = 0 ∧ ¬ (0 ≤ k ∧ k < S 27 1))) ∧ S' = S) := by
  suffices hh : ∀ P : Int → St → Prop, (∀ r S', (((r = 1 ∧ (0 ≤ k ∧ k < S 27 1)) ∨ (r = 0 ∧ ¬ (0 ≤ k ∧ k < S 27 1))) ∧ S' = S) → P r S') → EX mX7_isPart [.ref 0, vi k] S P from hh _ (fun _ _ h => h)
  intro P hP
  refine EX.of (L := [(0, .ref 0), (1, vi k)]) rfl rfl (Nat.le_of_ble_eq_true rfl) rfl ?_
  refine j_iload_n dX7_isPart_0 rfl ?_
  refine j_if_lt (tgt := 19) dX7_isPart_1 (by decide) (by omega)  (fun h1 => ?_) (fun h1 => ?_)
  · refine j_iconst dX7_isPart_19 ?_
    exact j_iret rfl dX7_isPart_20 (fun _ => Or.inl rfl) (hP _ _ ⟨by omega, rfl⟩)
  · refine j_iload_n dX7_isPart_4 rfl ?_
    refine j_aload_n dX7_isPart_5 rfl ?_
    refine j_getR dX7_isPart_6 fg_X7_19 fq_0_1 ?_
    refine j_getI (x := S 27 1) dX7_isPart_9 fg_X7_177 fq_27_1 rfl (fun hi9 => ?_)
    refine j_icmp_ge (tgt := 19) dX7_isPart_12 (by decide) (by omega) (by omega) (fun h12 => ?_) (fun h12 => ?_)
    · refine j_iconst dX7_isPart_19 ?_
      exact j_iret rfl dX7_isPart_20 (fun _ => Or.inl rfl) (hP _ _ ⟨by omega, rfl⟩)
    · refine j_iconst dX7_isPart_15 ?_
      refine j_goto (tgt := 20) dX7_isPart_16 (by decide) ?_
      exact j_iret rfl dX7_isPart_20 (fun _ => Or.inr rfl) (hP _ _ ⟨by omega, rfl⟩)
set_option maxRecDepth 100000 in
set_option maxHeartbeats 4000000 in
theorem t_X7_isLaw (S : St) (k : Int) (hk : InR k) : EX mX7_isLaw [vi k] S (fun r S' => ((r = 1 ∧ (0 ≤ k ∧ k < 5)) ∨ (r = 0 ∧ ¬ (0 ≤ k ∧ k < 5))) ∧ S' = S) := by
  suffices hh : ∀ P : Int → St → Prop, (∀ r S', (((r = 1 ∧ (0 ≤ k ∧ k < 5)) ∨ (r = 0 ∧ ¬ (0 ≤ k ∧ k < 5))) ∧ S' = S) → P r S') → EX mX7_isLaw [vi k] S P from hh _ (fun _ _ h => h)
  intro P hP
  refine EX.of (L := [(0, vi k)]) rfl rfl (Nat.le_of_ble_eq_true rfl) rfl ?_
  refine j_iload_n dX7_isLaw_0 rfl ?_
  refine j_if_lt (tgt := 13) dX7_isLaw_1 (by decide) (by omega)  (fun h1 => ?_) (fun h1 => ?_)
  · refine j_iconst dX7_isLaw_13 ?_
    exact j_iret rfl dX7_isLaw_14 (fun _ => Or.inl rfl) (hP _ _ ⟨by omega, rfl⟩)
  · refine j_iload_n dX7_isLaw_4 rfl ?_
    refine j_iconst dX7_isLaw_5 ?_
    refine j_icmp_ge (tgt := 13) dX7_isLaw_6 (by decide) (by omega) (by omega) (fun h6 => ?_) (fun h6 => ?_)
    · refine j_iconst dX7_isLaw_13 ?_
      exact j_iret rfl dX7_isLaw_14 (fun _ => Or.inl rfl) (hP _ _ ⟨by omega, rfl⟩)
    · refine j_iconst dX7_isLaw_9 ?_
      refine j_goto (tgt := 14) dX7_isLaw_10 (by decide) ?_
      exact j_iret rfl dX7_isLaw_14 (fun _ => Or.inr rfl) (hP _ _ ⟨by omega, rfl⟩)
set_option maxRecDepth 100000 in
set_option maxHeartbeats 4000000 in
theorem t_X7_isMake (S : St) (k : Int) (hk : InR k) : EX mX7_isMake [vi k] S (fun r S' => ((r = 1 ∧ (isMk k)) ∨ (r = 0 ∧ ¬ (isMk k))) ∧ S' = S) := by
  suffices hh : ∀ P : Int → St → Prop, (∀ r S', (((r = 1 ∧ (isMk k)) ∨ (r = 0 ∧ ¬ (isMk k))) ∧ S' = S) → P r S') → EX mX7_isMake [vi k] S P from hh _ (fun _ _ h => h)
  intro P hP
  refine EX.of (L := [(0, vi k)]) rfl rfl (Nat.le_of_ble_eq_true rfl) rfl ?_
  refine j_iload_n dX7_isMake_0 rfl ?_
  refine j_if_lt (tgt := 9) dX7_isMake_1 (by decide) (by omega)  (fun h1 => ?_) (fun h1 => ?_)
  · refine j_iload_n dX7_isMake_9 rfl ?_
    refine j_bipush dX7_isMake_10 (by decide) ?_
    refine j_icmp_ne (tgt := 19) dX7_isMake_12 (by decide) (by omega) (by omega) (fun h12 => ?_) (fun h12 => ?_)
    · refine j_iconst dX7_isMake_19 ?_
      exact j_iret rfl dX7_isMake_20 (fun _ => Or.inl rfl) (hP _ _ ⟨by omega, rfl⟩)
    · refine j_iconst dX7_isMake_15 ?_
      refine j_goto (tgt := 20) dX7_isMake_16 (by decide) ?_
      exact j_iret rfl dX7_isMake_20 (fun _ => Or.inr rfl) (hP _ _ ⟨by omega, rfl⟩)
  · refine j_iload_n dX7_isMake_4 rfl ?_
    refine j_iconst dX7_isMake_5 ?_
    refine j_icmp_lt (tgt := 15) dX7_isMake_6 (by decide) (by omega) (by omega) (fun h6 => ?_) (fun h6 => ?_)
    · refine j_iconst dX7_isMake_15 ?_
      refine j_goto (tgt := 20) dX7_isMake_16 (by decide) ?_
      exact j_iret rfl dX7_isMake_20 (fun _ => Or.inr rfl) (hP _ _ ⟨by omega, rfl⟩)
    · refine j_iload_n dX7_isMake_9 rfl ?_
      refine j_bipush dX7_isMake_10 (by decide) ?_
      refine j_icmp_ne (tgt := 19) dX7_isMake_12 (by decide) (by omega) (by omega) (fun h12 => ?_) (fun h12 => ?_)
      · refine j_iconst dX7_isMake_19 ?_
        exact j_iret rfl dX7_isMake_20 (fun _ => Or.inl rfl) (hP _ _ ⟨by omega, rfl⟩)
      · refine j_iconst dX7_isMake_15 ?_
        refine j_goto (tgt := 20) dX7_isMake_16 (by decide) ?_
        exact j_iret rfl dX7_isMake_20 (fun _ => Or.inr rfl) (hP _ _ ⟨by omega, rfl⟩)
set_option maxRecDepth 100000 in
set_option maxHeartbeats 4000000 in
theorem t_X7_isFractionSide (S : St) (k : Int) (hk : InR k) : EX mX7_isFractionSide [vi k] S (fun r S' => ((r = 1 ∧ (k = 0 ∨ k = 1)) ∨ (r = 0 ∧ ¬ (k = 0 ∨ k = 1))) ∧ S' = S) := by
  suffices hh : ∀ P : Int → St → Prop, (∀ r S', (((r = 1 ∧ (k = 0 ∨ k = 1)) ∨ (r = 0 ∧ ¬ (k = 0 ∨ k = 1))) ∧ S' = S) → P r S') → EX mX7_isFractionSide [vi k] S P from hh _ (fun _ _ h => h)
  intro P hP
  refine EX.of (L := [(0, vi k)]) rfl rfl (Nat.le_of_ble_eq_true rfl) rfl ?_
  refine j_iload_n dX7_isFractionSide_0 rfl ?_
  refine j_if_eq (tgt := 9) dX7_isFractionSide_1 (by decide) (by omega)  (fun h1 => ?_) (fun h1 => ?_)
  · refine j_iconst dX7_isFractionSide_9 ?_
    refine j_goto (tgt := 14) dX7_isFractionSide_10 (by decide) ?_
    exact j_iret rfl dX7_isFractionSide_14 (fun _ => Or.inr rfl) (hP _ _ ⟨by omega, rfl⟩)
  · refine j_iload_n dX7_isFractionSide_4 rfl ?_
    refine j_iconst dX7_isFractionSide_5 ?_
    refine j_icmp_ne (tgt := 13) dX7_isFractionSide_6 (by decide) (by omega) (by omega) (fun h6 => ?_) (fun h6 => ?_)
    · refine j_iconst dX7_isFractionSide_13 ?_
      exact j_iret rfl dX7_isFractionSide_14 (fun _ => Or.inl rfl) (hP _ _ ⟨by omega, rfl⟩)
    · refine j_iconst dX7_isFractionSide_9 ?_
      refine j_goto (tgt := 14) dX7_isFractionSide_10 (by decide) ?_
      exact j_iret rfl dX7_isFractionSide_14 (fun _ => Or.inr rfl) (hP _ _ ⟨by omega, rfl⟩)
set_option maxRecDepth 100000 in
set_option maxHeartbeats 4000000 in
theorem t_X7_whoseNow (S : St) (s law : Int) (hX : XI S) (h0 : 0 ≤ s) (h1 : s < S 27 2) (hl0 : 0 ≤ law) (hl1 : law < 5) : EX mX7_whoseNow [.ref 0, vi s, vi law] S (fun r S' => r = whoS (S 1 0) (S 29) (S 30) (S 2) (S 33) s law ∧ Same [5, 6, 7] S S' ∧ ∀ j, 0 ≤ j → j < S 1 0 → S' 5 j = S 29 (S 33 (s * 6 + j)) ∧ S' 6 j = S 30 (S 33 (s * 6 + j))) := by
  suffices hh : ∀ P : Int → St → Prop, (∀ r S', (r = whoS (S 1 0) (S 29) (S 30) (S 2) (S 33) s law ∧ Same [5, 6, 7] S S' ∧ ∀ j, 0 ≤ j → j < S 1 0 → S' 5 j = S 29 (S 33 (s * 6 + j)) ∧ S' 6 j = S 30 (S 33 (s * 6 + j))) → P r S') → EX mX7_whoseNow [.ref 0, vi s, vi law] S P from hh _ (fun _ _ h => h)
  intro P hP
  refine EX.of (L := [(0, .ref 0), (1, vi s), (2, vi law)]) rfl rfl (Nat.le_of_ble_eq_true rfl) rfl ?_
  obtain ⟨⟨hn0, hn1⟩, hwl, ⟨hp0, hp1⟩, ⟨hs0, hs1⟩, hyr, hpt, hhd⟩ := id hX
  have hwt : ∀ k, 0 ≤ k → k < 6 → 1 ≤ S 2 k ∧ S 2 k ≤ 9 := fun k a b => ⟨(hwl k a b).1, (hwl k a b).2.1⟩
  refine j_aload_n dX7_whoseNow_0 rfl ?_
  refine j_getR dX7_whoseNow_1 fg_X7_28 fq_0_2 ?_
  refine j_iload_n dX7_whoseNow_4 rfl ?_
  refine j_callVv (As := [vi s]) (rest := []) (t_X2_load _ s hn0 hn1 (by omega) (by omega) (fun k a b => by have := hhd s k h0 h1 a b; omega)) rfl cm_X2_load ci_X2_load ml_X7_228 oq_4 rfl (Nat.le_of_ble_eq_true rfl) (Nat.le_of_ble_eq_true rfl) dX7_whoseNow_5 (fun r5 S5 hp5 => ?_)
  obtain ⟨hsm5, hl5⟩ := hp5
  have eS5_1 : S5 1 = S 1 := hsm5 1 (by decide)
  have eS5_2 : S5 2 = S 2 := hsm5 2 (by decide)
  have eS5_29 : S5 29 = S 29 := hsm5 29 (by decide)
  have eS5_30 : S5 30 = S 30 := hsm5 30 (by decide)
  have eS5_33 : S5 33 = S 33 := hsm5 33 (by decide)
  refine j_aload_n dX7_whoseNow_8 rfl ?_
  refine j_getR dX7_whoseNow_9 fg_X7_28 fq_0_2 ?_
  refine j_iload_n dX7_whoseNow_12 rfl ?_
  refine j_callVi (As := [vi law]) (rest := []) (t_X2_whose _ law (by rw [eS5_1]; exact hn0) (by rw [eS5_1]; exact hn1) (by rw [eS5_2]; exact hwt) (by rw [eS5_1]; intro k a b; rw [(hl5 k a b).1]; have g := hhd s k h0 h1 a b; exact (hpt _ g.1 g.2).2.1) hl0 hl1) rfl cm_X2_whose ci_X2_whose ml_X7_219 oq_4 rfl (Nat.le_of_ble_eq_true rfl) (Nat.le_of_ble_eq_true rfl) dX7_whoseNow_13 (fun r13 S13 hp13 => ?_)
  obtain ⟨hr13, hsm13⟩ := hp13
  exact j_iret rfl dX7_whoseNow_16 (fun h => by cases h) (hP _ _ ⟨by rw [hr13, eS5_1, eS5_2]; exact who_congr (by omega) (fun k a b => ⟨(hl5 k a b).1, (hl5 k a b).2, rfl⟩), (hsm5.mono (by decide)).tr (hsm13.mono (by decide)), fun j a b => by rw [hsm13 5 (by decide), hsm13 6 (by decide)]; exact hl5 j a b⟩)
set_option maxRecDepth 100000 in
set_option maxHeartbeats 4000000 in
theorem t_X7_rottenPlaces (S : St) (s : Int) (hX : XI S) (h0 : 0 ≤ s) (h1 : s < S 27 2) : EX mX7_rottenPlaces [.ref 0, vi s] S (fun r S' => r = rotS (S 1 0) (S 3) (S 30) (S 33) s ∧ S' = S) := by
  suffices hh : ∀ P : Int → St → Prop, (∀ r S', (r = rotS (S 1 0) (S 3) (S 30) (S 33) s ∧ S' = S) → P r S') → EX mX7_rottenPlaces [.ref 0, vi s] S P from hh _ (fun _ _ h => h)
  intro P hP
  refine EX.of (L := [(0, .ref 0), (1, vi s)]) rfl rfl (Nat.le_of_ble_eq_true rfl) rfl ?_
  obtain ⟨⟨hn0, hn1⟩, hwl, ⟨hp0, hp1⟩, ⟨hs0, hs1⟩, hyr, hpt, hhd⟩ := id hX
  have hwt : ∀ k, 0 ≤ k → k < 6 → 1 ≤ S 2 k ∧ S 2 k ≤ 9 := fun k a b => ⟨(hwl k a b).1, (hwl k a b).2.1⟩
  refine j_iconst dX7_rottenPlaces_0 ?_
  refine j_istore_n (L' := [(0, .ref 0), (1, vi s), (2, vi 0)]) dX7_rottenPlaces_1 (Nat.le_of_ble_eq_true rfl) rfl ?_
  refine j_iconst dX7_rottenPlaces_2 ?_
  refine j_istore_n (L' := [(0, .ref 0), (1, vi s), (2, vi 0), (3, vi 0)]) dX7_rottenPlaces_3 (Nat.le_of_ble_eq_true rfl) rfl ?_
  have lp4 : ∀ (n : Nat) (b k : Int), (S 1 0 - k).toNat < n → (0 ≤ k ∧ k ≤ S 1 0 ∧ b = sm (fun j => if S 3 j ≤ S 30 (S 33 (s * 6 + j)) then ((2 ^ j.toNat : Nat) : Int) else 0) k.toNat) → JJ mX7_rottenPlaces (RX mX7_rottenPlaces P) 4 [(0, .ref 0), (1, vi s), (2, vi b), (3, vi k)] [] S := by
    intro n
    induction n with
    | zero => intro b k hm; exact absurd hm (Nat.not_lt_zero _)
    | succ n ih4 =>
      intro b k hm4 hv4
      obtain ⟨hv1, hv2, hv3⟩ := hv4
      have hb := bs_lt (f := fun j => if S 3 j ≤ S 30 (S 33 (s * 6 + j)) then ((2 ^ j.toNat : Nat) : Int) else 0) (n := k.toNat) (fun i i0 i1 => by split; exact Or.inr rfl; exact Or.inl rfl)
      rw [← hv3] at hb
      refine j_iload_n dX7_rottenPlaces_4 rfl ?_
      refine j_aload_n dX7_rottenPlaces_5 rfl ?_
      refine j_getR dX7_rottenPlaces_6 fg_X7_10 fq_0_0 ?_
      refine j_getI (x := S 1 0) dX7_rottenPlaces_9 fg_X7_184 fq_1_0 rfl (fun hi9 => ?_)
      refine j_icmp_ge (tgt := 56) dX7_rottenPlaces_12 (by decide) (by omega) (by omega) (fun h12 => ?_) (fun h12 => ?_)
      · refine j_iload_n dX7_rottenPlaces_56 rfl ?_
        exact j_iret rfl dX7_rottenPlaces_57 (fun h => by cases h) (hP _ _ ⟨by rw [hv3]; unfold rotS; congr 2; omega, rfl⟩)
      · have hg := hhd s k h0 h1 (by omega) (by omega)
        refine j_aload_n dX7_rottenPlaces_15 rfl ?_
        refine j_getR dX7_rottenPlaces_16 fg_X7_19 fq_0_1 ?_
        refine j_getR dX7_rottenPlaces_19 fg_X7_129 fq_27_5 ?_
        refine j_aload_n dX7_rottenPlaces_22 rfl ?_
        refine j_getR dX7_rottenPlaces_23 fg_X7_19 fq_0_1 ?_
        refine j_iload_n dX7_rottenPlaces_26 rfl ?_
        refine j_iload_n dX7_rottenPlaces_27 rfl ?_
        refine j_callVi (As := [vi s, vi k]) (rest := [.ref 30]) (t_X1_partAt _ s k (by omega) (by omega) (by omega) (by omega)) rfl cm_X1_partAt ci_X1_partAt ml_X7_138 oq_27 rfl (Nat.le_of_ble_eq_true rfl) (Nat.le_of_ble_eq_true rfl) dX7_rottenPlaces_28 (fun r28 S28 hp28 => ?_)
        obtain ⟨hr28, he28⟩ := hp28
        rw [he28]
        rw [show r28 = S 33 (s * 6 + k) from hr28.trans rfl]
        refine j_iald (x := S 30 (S 33 (s * 6 + k))) dX7_rottenPlaces_31 aq_30 (by omega) (by omega) rfl (fun hi31 => ?_)
        refine j_aload_n dX7_rottenPlaces_32 rfl ?_
        refine j_getR dX7_rottenPlaces_33 fg_X7_10 fq_0_0 ?_
        refine j_getR dX7_rottenPlaces_36 fg_X7_114 fq_1_2 ?_
        refine j_iload_n dX7_rottenPlaces_39 rfl ?_
        refine j_iald (x := S 3 k) dX7_rottenPlaces_40 aq_3 (by omega) (by omega) rfl (fun hi40 => ?_)
        refine j_icmp_lt (tgt := 50) dX7_rottenPlaces_41 (by decide) (by omega) (by omega) (fun h41 => ?_) (fun h41 => ?_)
        · refine j_iinc (L' := [(0, .ref 0), (1, vi s), (2, vi b), (3, vi (k + 1))]) dX7_rottenPlaces_50 (Nat.le_of_ble_eq_true rfl) rfl rfl ?_
          refine j_goto (tgt := 4) dX7_rottenPlaces_53 (by decide) ?_
          exact ih4 b (k + 1) (by omega) ⟨by omega, by omega, by rw [sm_s (by omega)]; split <;> omega⟩
        · refine j_iload_n dX7_rottenPlaces_44 rfl ?_
          refine j_iconst dX7_rottenPlaces_45 ?_
          refine j_iload_n dX7_rottenPlaces_46 rfl ?_
          refine j_shl dX7_rottenPlaces_47 (by omega) (by omega) ?_
          refine j_ior dX7_rottenPlaces_48 (by omega) (by omega) ?_
          rw [or_bit (by omega) (by omega)]
          refine j_istore_n (L' := [(0, .ref 0), (1, vi s), (2, vi (b + ((2 ^ k.toNat : Nat) : Int))), (3, vi k)]) dX7_rottenPlaces_49 (Nat.le_of_ble_eq_true rfl) rfl ?_
          refine j_iinc (L' := [(0, .ref 0), (1, vi s), (2, vi (b + ((2 ^ k.toNat : Nat) : Int))), (3, vi (k + 1))]) dX7_rottenPlaces_50 (Nat.le_of_ble_eq_true rfl) rfl rfl ?_
          refine j_goto (tgt := 4) dX7_rottenPlaces_53 (by decide) ?_
          exact ih4 (b + ((2 ^ k.toNat : Nat) : Int)) (k + 1) (by omega) ⟨by omega, by omega, by rw [sm_s (by omega)]; split <;> omega⟩
  exact lp4 _ 0 0 (Nat.lt_succ_self _) ⟨by omega, by omega, rfl⟩
set_option maxRecDepth 100000 in
set_option maxHeartbeats 4000000 in
theorem t_X7_rottenShips (S : St) (hX : XI S) : EX mX7_rottenShips [.ref 0] S (fun r S' => r = sm (fun s => if rotS (S 1 0) (S 3) (S 30) (S 33) s ≠ 0 then ((2 ^ s.toNat : Nat) : Int) else 0) (S 27 2).toNat ∧ S' = S) := by
  suffices hh : ∀ P : Int → St → Prop, (∀ r S', (r = sm (fun s => if rotS (S 1 0) (S 3) (S 30) (S 33) s ≠ 0 then ((2 ^ s.toNat : Nat) : Int) else 0) (S 27 2).toNat ∧ S' = S) → P r S') → EX mX7_rottenShips [.ref 0] S P from hh _ (fun _ _ h => h)
  intro P hP
  refine EX.of (L := [(0, .ref 0)]) rfl rfl (Nat.le_of_ble_eq_true rfl) rfl ?_
  obtain ⟨⟨hn0, hn1⟩, hwl, ⟨hp0, hp1⟩, ⟨hs0, hs1⟩, hyr, hpt, hhd⟩ := id hX
  have hwt : ∀ k, 0 ≤ k → k < 6 → 1 ≤ S 2 k ∧ S 2 k ≤ 9 := fun k a b => ⟨(hwl k a b).1, (hwl k a b).2.1⟩
  refine j_iconst dX7_rottenShips_0 ?_
  refine j_istore_n (L' := [(0, .ref 0), (1, vi 0)]) dX7_rottenShips_1 (Nat.le_of_ble_eq_true rfl) rfl ?_
  refine j_iconst dX7_rottenShips_2 ?_
  refine j_istore_n (L' := [(0, .ref 0), (1, vi 0), (2, vi 0)]) dX7_rottenShips_3 (Nat.le_of_ble_eq_true rfl) rfl ?_
  have lp4 : ∀ (n : Nat) (b k : Int), (S 27 2 - k).toNat < n → (0 ≤ k ∧ k ≤ S 27 2 ∧ b = sm (fun s => if rotS (S 1 0) (S 3) (S 30) (S 33) s ≠ 0 then ((2 ^ s.toNat : Nat) : Int) else 0) k.toNat) → JJ mX7_rottenShips (RX mX7_rottenShips P) 4 [(0, .ref 0), (1, vi b), (2, vi k)] [] S := by
    intro n
    induction n with
    | zero => intro b k hm; exact absurd hm (Nat.not_lt_zero _)
    | succ n ih4 =>
      intro b k hm4 hv4
      obtain ⟨hv1, hv2, hv3⟩ := hv4
      have hb := bs_lt (f := fun s => if rotS (S 1 0) (S 3) (S 30) (S 33) s ≠ 0 then ((2 ^ s.toNat : Nat) : Int) else 0) (n := k.toNat) (fun i i0 i1 => by split; exact Or.inr rfl; exact Or.inl rfl)
      rw [← hv3] at hb
      refine j_iload_n dX7_rottenShips_4 rfl ?_
      refine j_aload_n dX7_rottenShips_5 rfl ?_
      refine j_getR dX7_rottenShips_6 fg_X7_19 fq_0_1 ?_
      refine j_getI (x := S 27 2) dX7_rottenShips_9 fg_X7_190 fq_27_2 rfl (fun hi9 => ?_)
      refine j_icmp_ge (tgt := 35) dX7_rottenShips_12 (by decide) (by omega) (by omega) (fun h12 => ?_) (fun h12 => ?_)
      · refine j_iload_n dX7_rottenShips_35 rfl ?_
        exact j_iret rfl dX7_rottenShips_36 (fun h => by cases h) (hP _ _ ⟨by rw [hv3]; congr 2; omega, rfl⟩)
      · refine j_aload_n dX7_rottenShips_15 rfl ?_
        refine j_iload_n dX7_rottenShips_16 rfl ?_
        refine j_callVi (As := [vi k]) (rest := []) (t_X7_rottenPlaces _ k hX (by omega) (by omega)) rfl cm_X7_rottenPlaces ci_X7_rottenPlaces ml_X7_145 oq_0 rfl (Nat.le_of_ble_eq_true rfl) (Nat.le_of_ble_eq_true rfl) dX7_rottenShips_17 (fun r17 S17 hp17 => ?_)
        obtain ⟨hr17, he17⟩ := hp17
        rw [he17]
        have hrb := bs_lt (f := fun j => if S 3 j ≤ S 30 (S 33 (k * 6 + j)) then ((2 ^ j.toNat : Nat) : Int) else 0) (n := (S 1 0).toNat) (fun i i0 i1 => by split; exact Or.inr rfl; exact Or.inl rfl)
        have hrc := pw_le (k := S 1 0) (m := 6) hn1
        have hrd : ((2 ^ (6 : Int).toNat : Nat) : Int) = 64 := by decide
        rw [show sm _ _ = r17 from hr17.symm] at hrb
        refine j_if_eq (tgt := 29) dX7_rottenShips_20 (by decide) (by omega)  (fun h20 => ?_) (fun h20 => ?_)
        · refine j_iinc (L' := [(0, .ref 0), (1, vi b), (2, vi (k + 1))]) dX7_rottenShips_29 (Nat.le_of_ble_eq_true rfl) rfl rfl ?_
          refine j_goto (tgt := 4) dX7_rottenShips_32 (by decide) ?_
          exact ih4 b (k + 1) (by omega) ⟨by omega, by omega, by rw [sm_s (by omega)]; split <;> omega⟩
        · refine j_iload_n dX7_rottenShips_23 rfl ?_
          refine j_iconst dX7_rottenShips_24 ?_
          refine j_iload_n dX7_rottenShips_25 rfl ?_
          refine j_shl dX7_rottenShips_26 (by omega) (by omega) ?_
          refine j_ior dX7_rottenShips_27 (by omega) (by omega) ?_
          rw [or_bit (by omega) (by omega)]
          refine j_istore_n (L' := [(0, .ref 0), (1, vi (b + ((2 ^ k.toNat : Nat) : Int))), (2, vi k)]) dX7_rottenShips_28 (Nat.le_of_ble_eq_true rfl) rfl ?_
          refine j_iinc (L' := [(0, .ref 0), (1, vi (b + ((2 ^ k.toNat : Nat) : Int))), (2, vi (k + 1))]) dX7_rottenShips_29 (Nat.le_of_ble_eq_true rfl) rfl rfl ?_
          refine j_goto (tgt := 4) dX7_rottenShips_32 (by decide) ?_
          exact ih4 (b + ((2 ^ k.toNat : Nat) : Int)) (k + 1) (by omega) ⟨by omega, by omega, by rw [sm_s (by omega)]; split <;> omega⟩
  exact lp4 _ 0 0 (Nat.lt_succ_self _) ⟨by omega, by omega, rfl⟩
set_option maxRecDepth 100000 in
set_option maxHeartbeats 4000000 in
theorem t_X7_firstTwins (S : St) (law : Int) (hX : XI S) (hl0 : 0 ≤ law) (hl1 : law < 5) : EX mX7_firstTwins [.ref 0, vi law] S (fun r S' => Twn (S 27 2) (fun s => whoS (S 1 0) (S 29) (S 30) (S 2) (S 33) s law) r ∧ Same [5, 6, 7] S S') := by
  suffices hh : ∀ P : Int → St → Prop, (∀ r S', (Twn (S 27 2) (fun s => whoS (S 1 0) (S 29) (S 30) (S 2) (S 33) s law) r ∧ Same [5, 6, 7] S S') → P r S') → EX mX7_firstTwins [.ref 0, vi law] S P from hh _ (fun _ _ h => h)
  intro P hP
  refine EX.of (L := [(0, .ref 0), (1, vi law)]) rfl rfl (Nat.le_of_ble_eq_true rfl) rfl ?_
  obtain ⟨⟨hn0, hn1⟩, hwl, ⟨hp0, hp1⟩, ⟨hs0, hs1⟩, hyr, hpt, hhd⟩ := id hX
  have hwt : ∀ k, 0 ≤ k → k < 6 → 1 ≤ S 2 k ∧ S 2 k ≤ 9 := fun k a b => ⟨(hwl k a b).1, (hwl k a b).2.1⟩
  refine j_iconst dX7_firstTwins_0 ?_
  refine j_istore_n (L' := [(0, .ref 0), (1, vi law), (2, vi 0)]) dX7_firstTwins_1 (Nat.le_of_ble_eq_true rfl) rfl ?_
  have lp2 : ∀ (n : Nat) (s : Int) (T : St), (S 27 2 - s).toNat < n → (0 ≤ s ∧ s ≤ S 27 2 ∧ Same [5, 6, 7] S T ∧ ∀ s' t', 0 ≤ s' → s' < s → s' < t' → t' < S 27 2 → whoS (S 1 0) (S 29) (S 30) (S 2) (S 33) s' law ≠ -9 → whoS (S 1 0) (S 29) (S 30) (S 2) (S 33) t' law ≠ whoS (S 1 0) (S 29) (S 30) (S 2) (S 33) s' law) → JJ mX7_firstTwins (RX mX7_firstTwins P) 2 [(0, .ref 0), (1, vi law), (2, vi s)] [] T := by
    intro n
    induction n with
    | zero => intro s T hm; exact absurd hm (Nat.not_lt_zero _)
    | succ n ih2 =>
      intro s T hm2 hv2
      obtain ⟨hv1, hv2, hv3, hv4⟩ := hv2
      have eT_1 : T 1 = S 1 := hv3 1 (by decide)
      have eT_2 : T 2 = S 2 := hv3 2 (by decide)
      have eT_3 : T 3 = S 3 := hv3 3 (by decide)
      have eT_27 : T 27 = S 27 := hv3 27 (by decide)
      have eT_28 : T 28 = S 28 := hv3 28 (by decide)
      have eT_29 : T 29 = S 29 := hv3 29 (by decide)
      have eT_30 : T 30 = S 30 := hv3 30 (by decide)
      have eT_31 : T 31 = S 31 := hv3 31 (by decide)
      have eT_32 : T 32 = S 32 := hv3 32 (by decide)
      have eT_33 : T 33 = S 33 := hv3 33 (by decide)
      refine j_iload_n dX7_firstTwins_2 rfl ?_
      refine j_aload_n dX7_firstTwins_3 rfl ?_
      refine j_getR dX7_firstTwins_4 fg_X7_19 fq_0_1 ?_
      refine j_getI (x := S 27 2) dX7_firstTwins_7 fg_X7_190 fq_27_2 (congrFun eT_27 _) (fun hi7 => ?_)
      refine j_icmp_ge (tgt := 74) dX7_firstTwins_10 (by decide) (by omega) (by omega) (fun h10 => ?_) (fun h10 => ?_)
      · refine j_bipush dX7_firstTwins_74 (by decide) ?_
        exact j_iret rfl dX7_firstTwins_76 (fun h => by cases h) (hP _ _ ⟨Or.inr ⟨rfl, fun s' t' a b c d => hv4 s' t' a (by omega) b c d⟩, hv3⟩)
      · refine j_aload_n dX7_firstTwins_13 rfl ?_
        refine j_iload_n dX7_firstTwins_14 rfl ?_
        refine j_iload_n dX7_firstTwins_15 rfl ?_
        refine j_callVi (As := [vi s, vi law]) (rest := []) (t_X7_whoseNow _ s law (hX.same hv3 (by decide)) (by omega) (by rw [eT_27]; omega) (by omega) (by omega)) rfl cm_X7_whoseNow ci_X7_whoseNow ml_X7_151 oq_0 rfl (Nat.le_of_ble_eq_true rfl) (Nat.le_of_ble_eq_true rfl) dX7_firstTwins_16 (fun r16 S16 hp16 => ?_)
        obtain ⟨hr16, hsm16, hl16⟩ := hp16
        rw [eT_1, eT_2, eT_29, eT_30, eT_33] at hr16
        have hsm16 := (hv3).tr hsm16
        have eS16_1 : S16 1 = S 1 := hsm16 1 (by decide)
        have eS16_2 : S16 2 = S 2 := hsm16 2 (by decide)
        have eS16_3 : S16 3 = S 3 := hsm16 3 (by decide)
        have eS16_27 : S16 27 = S 27 := hsm16 27 (by decide)
        have eS16_28 : S16 28 = S 28 := hsm16 28 (by decide)
        have eS16_29 : S16 29 = S 29 := hsm16 29 (by decide)
        have eS16_30 : S16 30 = S 30 := hsm16 30 (by decide)
        have eS16_31 : S16 31 = S 31 := hsm16 31 (by decide)
        have eS16_32 : S16 32 = S 32 := hsm16 32 (by decide)
        have eS16_33 : S16 33 = S 33 := hsm16 33 (by decide)
        have hwb := who_bd (n := S 1 0) (mk := fun k => S 29 (S 33 (s * 6 + k))) (ag := fun k => S 30 (S 33 (s * 6 + k))) (wt := S 2) (law := law) (by omega) (fun k a b => by have g := hhd s k (by omega) (by omega) a b; exact (hpt _ g.1 g.2).2.1)
        rw [show who _ _ _ _ _ = r16 from hr16.symm] at hwb
        refine j_istore_n (L' := [(0, .ref 0), (1, vi law), (2, vi s), (3, vi r16)]) dX7_firstTwins_19 (Nat.le_of_ble_eq_true rfl) rfl ?_
        refine j_iload_n dX7_firstTwins_20 rfl ?_
        refine j_iconst dX7_firstTwins_21 ?_
        refine j_iadd dX7_firstTwins_22 ?_
        refine j_istore (L' := [(0, .ref 0), (1, vi law), (2, vi s), (3, vi r16), (4, vi (s + 1))]) dX7_firstTwins_23 (Nat.le_of_ble_eq_true rfl) rfl ?_
        have lp25 : ∀ (n : Nat) (t : Int) (U : St), (S 27 2 - t).toNat < n → (s < t ∧ t ≤ S 27 2 ∧ Same [5, 6, 7] S U ∧ ∀ t', s < t' → t' < t → whoS (S 1 0) (S 29) (S 30) (S 2) (S 33) t' law ≠ whoS (S 1 0) (S 29) (S 30) (S 2) (S 33) s law) → JJ mX7_firstTwins (RX mX7_firstTwins P) 25 [(0, .ref 0), (1, vi law), (2, vi s), (3, vi r16), (4, vi t)] [] U := by
          intro n
          induction n with
          | zero => intro t U hm; exact absurd hm (Nat.not_lt_zero _)
          | succ n ih25 =>
            intro t U hm25 hv25
            obtain ⟨hu1, hu2, hu3, hu4⟩ := hv25
            have eU_1 : U 1 = S 1 := hu3 1 (by decide)
            have eU_2 : U 2 = S 2 := hu3 2 (by decide)
            have eU_3 : U 3 = S 3 := hu3 3 (by decide)
            have eU_27 : U 27 = S 27 := hu3 27 (by decide)
            have eU_28 : U 28 = S 28 := hu3 28 (by decide)
            have eU_29 : U 29 = S 29 := hu3 29 (by decide)
            have eU_30 : U 30 = S 30 := hu3 30 (by decide)
            have eU_31 : U 31 = S 31 := hu3 31 (by decide)
            have eU_32 : U 32 = S 32 := hu3 32 (by decide)
            have eU_33 : U 33 = S 33 := hu3 33 (by decide)
            refine j_iload_n dX7_firstTwins_25 rfl ?_
            refine j_bipush dX7_firstTwins_26 (by decide) ?_
            refine j_icmp_eq (tgt := 68) dX7_firstTwins_28 (by decide) (by omega) (by omega) (fun h28 => ?_) (fun h28 => ?_)
            · refine j_iinc (L' := [(0, .ref 0), (1, vi law), (2, vi (s + 1)), (3, vi r16), (4, vi t)]) dX7_firstTwins_68 (Nat.le_of_ble_eq_true rfl) rfl rfl ?_
              refine j_goto (tgt := 2) dX7_firstTwins_71 (by decide) ?_
              refine j_sub (L' := [(0, .ref 0), (1, vi law), (2, vi (s + 1))]) (by simp) ?_
              exact ih2 (s + 1) U (by omega) ⟨by omega, by omega, hu3, fun s' t' a b c d e => if q : s' = s then by rw [q]; rw [q] at e c; exact absurd hr16 (by rw [h28]; exact fun z => e z.symm) else hv4 s' t' a (by omega) c d e⟩
            · refine j_iload dX7_firstTwins_31 rfl ?_
              refine j_aload_n dX7_firstTwins_33 rfl ?_
              refine j_getR dX7_firstTwins_34 fg_X7_19 fq_0_1 ?_
              refine j_getI (x := S 27 2) dX7_firstTwins_37 fg_X7_190 fq_27_2 (congrFun eU_27 _) (fun hi37 => ?_)
              refine j_icmp_ge (tgt := 68) dX7_firstTwins_40 (by decide) (by omega) (by omega) (fun h40 => ?_) (fun h40 => ?_)
              · refine j_iinc (L' := [(0, .ref 0), (1, vi law), (2, vi (s + 1)), (3, vi r16), (4, vi t)]) dX7_firstTwins_68 (Nat.le_of_ble_eq_true rfl) rfl rfl ?_
                refine j_goto (tgt := 2) dX7_firstTwins_71 (by decide) ?_
                refine j_sub (L' := [(0, .ref 0), (1, vi law), (2, vi (s + 1))]) (by simp) ?_
                exact ih2 (s + 1) U (by omega) ⟨by omega, by omega, hu3, fun s' t' a b c d e => if q : s' = s then by rw [q]; rw [q] at e c; exact hu4 t' c (by omega) else hv4 s' t' a (by omega) c d e⟩
              · refine j_aload_n dX7_firstTwins_43 rfl ?_
                refine j_iload dX7_firstTwins_44 rfl ?_
                refine j_iload_n dX7_firstTwins_46 rfl ?_
                refine j_callVi (As := [vi t, vi law]) (rest := []) (t_X7_whoseNow _ t law (hX.same hu3 (by decide)) (by omega) (by rw [eU_27]; omega) (by omega) (by omega)) rfl cm_X7_whoseNow ci_X7_whoseNow ml_X7_151 oq_0 rfl (Nat.le_of_ble_eq_true rfl) (Nat.le_of_ble_eq_true rfl) dX7_firstTwins_47 (fun r47 S47 hp47 => ?_)
                obtain ⟨hr47, hsm47, hl47⟩ := hp47
                rw [eU_1, eU_2, eU_29, eU_30, eU_33] at hr47
                have hsm47 := (hu3).tr hsm47
                have eS47_1 : S47 1 = S 1 := hsm47 1 (by decide)
                have eS47_2 : S47 2 = S 2 := hsm47 2 (by decide)
                have eS47_3 : S47 3 = S 3 := hsm47 3 (by decide)
                have eS47_27 : S47 27 = S 27 := hsm47 27 (by decide)
                have eS47_28 : S47 28 = S 28 := hsm47 28 (by decide)
                have eS47_29 : S47 29 = S 29 := hsm47 29 (by decide)
                have eS47_30 : S47 30 = S 30 := hsm47 30 (by decide)
                have eS47_31 : S47 31 = S 31 := hsm47 31 (by decide)
                have eS47_32 : S47 32 = S 32 := hsm47 32 (by decide)
                have eS47_33 : S47 33 = S 33 := hsm47 33 (by decide)
                have hwt2 := who_bd (n := S 1 0) (mk := fun k => S 29 (S 33 (t * 6 + k))) (ag := fun k => S 30 (S 33 (t * 6 + k))) (wt := S 2) (law := law) (by omega) (fun k a b => by have g := hhd t k (by omega) (by omega) a b; exact (hpt _ g.1 g.2).2.1)
                rw [show who _ _ _ _ _ = r47 from hr47.symm] at hwt2
                refine j_iload_n dX7_firstTwins_50 rfl ?_
                refine j_icmp_ne (tgt := 62) dX7_firstTwins_51 (by decide) (by omega) (by omega) (fun h51 => ?_) (fun h51 => ?_)
                · refine j_iinc (L' := [(0, .ref 0), (1, vi law), (2, vi s), (3, vi r16), (4, vi (t + 1))]) dX7_firstTwins_62 (Nat.le_of_ble_eq_true rfl) rfl rfl ?_
                  refine j_goto (tgt := 25) dX7_firstTwins_65 (by decide) ?_
                  exact ih25 (t + 1) S47 (by omega) ⟨by omega, by omega, hsm47, fun t' a b => if q : t' = t then by rw [q, ← hr47, ← hr16]; exact h51 else hu4 t' a (by omega)⟩
                · refine j_bipush dX7_firstTwins_54 (by decide) ?_
                  refine j_iload_n dX7_firstTwins_56 rfl ?_
                  refine j_imul dX7_firstTwins_57 ?_
                  refine j_iload dX7_firstTwins_58 rfl ?_
                  refine j_iadd dX7_firstTwins_60 ?_
                  exact j_iret rfl dX7_firstTwins_61 (fun h => by cases h) (hP _ _ ⟨Or.inl ⟨s, t, by omega, by omega, by omega, fun z => h28 (hr16.trans z), hr47.symm.trans (h51.trans hr16), rfl, hv4, hu4⟩, hsm47⟩)
        exact lp25 _ (s + 1) S16 (Nat.lt_succ_self _) ⟨by omega, by omega, hsm16, fun t' a b => by omega⟩
  exact lp2 _ 0 S (Nat.lt_succ_self _) ⟨by omega, by omega, Same.rf, fun s' t' a b => by omega⟩
