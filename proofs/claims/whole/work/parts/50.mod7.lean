set_option maxRecDepth 100000 in
set_option maxHeartbeats 4000000 in
theorem t_X8_firstOf (S : St) (k : Int) (hk : InR k) (hp0 : 0 ≤ S 125 1) (hp1 : S 125 1 ≤ 48) : EX mX8_firstOf [.ref 118, vi k] S (fun r S' => Fst (fun q => (mWh S q = 8 ∧ mPl S q = k)) (S 125 1) (-9) r ∧ S' = S) := by
  suffices hh : ∀ P : Int → St → Prop, (∀ r S', (Fst (fun q => (mWh S q = 8 ∧ mPl S q = k)) (S 125 1) (-9) r ∧ S' = S) → P r S') → EX mX8_firstOf [.ref 118, vi k] S P from hh _ (fun _ _ h => h)
  intro P hP
  refine EX.of (L := [(0, .ref 118), (1, vi k)]) rfl rfl (Nat.le_of_ble_eq_true rfl) rfl ?_
  refine j_iconst dX8_firstOf_0 ?_
  refine j_istore_n (L' := [(0, .ref 118), (1, vi k), (2, vi 0)]) dX8_firstOf_1 (Nat.le_of_ble_eq_true rfl) rfl ?_
  have lp2 : ∀ (n : Nat) (p : Int), (S 125 1 - p).toNat < n → (0 ≤ p ∧ p ≤ S 125 1 ∧ ∀ q, 0 ≤ q → q < p → ¬ (mWh S q = 8 ∧ mPl S q = k)) → JJ mX8_firstOf (RX mX8_firstOf P) 2 [(0, .ref 118), (1, vi k), (2, vi p)] [] S := by
    intro n
    induction n with
    | zero => intro p hm; exact absurd hm (Nat.not_lt_zero _)
    | succ n ih2 =>
      intro p hm2 hv2
      obtain ⟨hv1, hv2, hv3⟩ := hv2
      refine j_iload_n dX8_firstOf_2 rfl ?_
      refine j_aload_n dX8_firstOf_3 rfl ?_
      refine j_getR dX8_firstOf_4 fg_X8_28 fq_118_18 ?_
      refine j_iconst dX8_firstOf_7 ?_
      refine j_iald (x := S 125 1) dX8_firstOf_8 aq_125 (by omega) (by omega) rfl (fun hi8 => ?_)
      refine j_icmp_ge (tgt := 29) dX8_firstOf_9 (by decide) (by omega) (by omega) (fun h9 => ?_) (fun h9 => ?_)
      · refine j_bipush dX8_firstOf_29 (by decide) ?_
        exact j_iret rfl dX8_firstOf_31 (fun h => by cases h) (hP _ _ ⟨Or.inr ⟨rfl, fun q a b => hv3 q a (by omega)⟩, rfl⟩)
      · refine j_aload_n dX8_firstOf_12 rfl ?_
        refine j_iload_n dX8_firstOf_13 rfl ?_
        refine j_iload_n dX8_firstOf_14 rfl ?_
        refine j_callVi (As := [vi p, vi k]) (rest := []) (t_X8_liesOf _ p k (by omega) (by omega) (by omega)) rfl cm_X8_liesOf ci_X8_liesOf ml_X8_143 oq_118 rfl (Nat.le_of_ble_eq_true rfl) (Nat.le_of_ble_eq_true rfl) dX8_firstOf_15 (fun r15 S15 hp15 => ?_)
        obtain ⟨⟨rfl, hc15⟩ | ⟨rfl, hc15⟩, he15⟩ := hp15
        · rw [he15]
          refine j_if_eq (tgt := 23) dX8_firstOf_18 (by decide) (by omega)  (fun h => absurd h (by decide)) (fun _ => ?_)
          refine j_iload_n dX8_firstOf_21 rfl ?_
          exact j_iret rfl dX8_firstOf_22 (fun h => by cases h) (hP _ _ ⟨Or.inl ⟨by omega, by omega, hc15, hv3⟩, rfl⟩)
        · rw [he15]
          refine j_if_eq (tgt := 23) dX8_firstOf_18 (by decide) (by omega)  (fun _ => ?_) (fun h => absurd h (by decide))
          refine j_iinc (L' := [(0, .ref 118), (1, vi k), (2, vi (p + 1))]) dX8_firstOf_23 (Nat.le_of_ble_eq_true rfl) rfl rfl ?_
          refine j_goto (tgt := 2) dX8_firstOf_26 (by decide) ?_
          exact ih2 (p + 1) (by omega) ⟨by omega, by omega, fun q a b => if e : q = p then by rw [e]; exact hc15 else hv3 q a (by omega)⟩
  exact lp2 _ 0 (Nat.lt_succ_self _) ⟨by omega, by omega, fun q a b => by omega⟩
set_option maxRecDepth 100000 in
set_option maxHeartbeats 4000000 in
theorem t_X8_nextOf (S : St) (k b : Int) (hM : MI S) (hk : InR k) (hb0 : -1 ≤ b) (hb1 : b < S 125 1) : EX mX8_nextOf [.ref 118, vi k, vi b] S (fun r S' => ((b < r ∧ r < S 125 1 ∧ (mWh S r = 8 ∧ mPl S r = k) ∧ ∀ q, b < q → q < r → ¬ (mWh S q = 8 ∧ mPl S q = k)) ∨ (r = -9 ∧ ∀ q, b < q → q < S 125 1 → ¬ (mWh S q = 8 ∧ mPl S q = k))) ∧ S' = S) := by
  suffices hh : ∀ P : Int → St → Prop, (∀ r S', (((b < r ∧ r < S 125 1 ∧ (mWh S r = 8 ∧ mPl S r = k) ∧ ∀ q, b < q → q < r → ¬ (mWh S q = 8 ∧ mPl S q = k)) ∨ (r = -9 ∧ ∀ q, b < q → q < S 125 1 → ¬ (mWh S q = 8 ∧ mPl S q = k))) ∧ S' = S) → P r S') → EX mX8_nextOf [.ref 118, vi k, vi b] S P from hh _ (fun _ _ h => h)
  intro P hP
  refine EX.of (L := [(0, .ref 118), (1, vi k), (2, vi b)]) rfl rfl (Nat.le_of_ble_eq_true rfl) rfl ?_
  obtain ⟨⟨hn0, hn1⟩, hwl, ⟨hp0, hp1⟩, ⟨hs0, hs1⟩, hyr, hpt, hhd, hth⟩ := id hM
  have hwt : ∀ k, 0 ≤ k → k < 6 → 1 ≤ S 120 k ∧ S 120 k ≤ 9 := fun k a b => ⟨(hwl k a b).1, (hwl k a b).2.1⟩
  refine j_iload_n dX8_nextOf_0 rfl ?_
  refine j_iconst dX8_nextOf_1 ?_
  refine j_iadd dX8_nextOf_2 ?_
  refine j_istore_n (L' := [(0, .ref 118), (1, vi k), (2, vi b), (3, vi (b + 1))]) dX8_nextOf_3 (Nat.le_of_ble_eq_true rfl) rfl ?_
  have lp4 : ∀ (n : Nat) (p : Int), (S 125 1 - p).toNat < n → (b < p ∧ p ≤ S 125 1 ∧ ∀ q, b < q → q < p → ¬ (mWh S q = 8 ∧ mPl S q = k)) → JJ mX8_nextOf (RX mX8_nextOf P) 4 [(0, .ref 118), (1, vi k), (2, vi b), (3, vi p)] [] S := by
    intro n
    induction n with
    | zero => intro p hm; exact absurd hm (Nat.not_lt_zero _)
    | succ n ih4 =>
      intro p hm4 hv4
      obtain ⟨hv1, hv2, hv3⟩ := hv4
      refine j_iload_n dX8_nextOf_4 rfl ?_
      refine j_aload_n dX8_nextOf_5 rfl ?_
      refine j_getR dX8_nextOf_6 fg_X8_28 fq_118_18 ?_
      refine j_iconst dX8_nextOf_9 ?_
      refine j_iald (x := S 125 1) dX8_nextOf_10 aq_125 (by omega) (by omega) rfl (fun hi10 => ?_)
      refine j_icmp_ge (tgt := 31) dX8_nextOf_11 (by decide) (by omega) (by omega) (fun h11 => ?_) (fun h11 => ?_)
      · refine j_bipush dX8_nextOf_31 (by decide) ?_
        exact j_iret rfl dX8_nextOf_33 (fun h => by cases h) (hP _ _ ⟨Or.inr ⟨rfl, fun q a b => hv3 q a (by omega)⟩, rfl⟩)
      · refine j_aload_n dX8_nextOf_14 rfl ?_
        refine j_iload_n dX8_nextOf_15 rfl ?_
        refine j_iload_n dX8_nextOf_16 rfl ?_
        refine j_callVi (As := [vi p, vi k]) (rest := []) (t_X8_liesOf _ p k (by omega) (by omega) (by omega)) rfl cm_X8_liesOf ci_X8_liesOf ml_X8_143 oq_118 rfl (Nat.le_of_ble_eq_true rfl) (Nat.le_of_ble_eq_true rfl) dX8_nextOf_17 (fun r17 S17 hp17 => ?_)
        obtain ⟨⟨rfl, hc17⟩ | ⟨rfl, hc17⟩, he17⟩ := hp17
        · rw [he17]
          refine j_if_eq (tgt := 25) dX8_nextOf_20 (by decide) (by omega)  (fun h => absurd h (by decide)) (fun _ => ?_)
          refine j_iload_n dX8_nextOf_23 rfl ?_
          exact j_iret rfl dX8_nextOf_24 (fun h => by cases h) (hP _ _ ⟨Or.inl ⟨by omega, by omega, hc17, hv3⟩, rfl⟩)
        · rw [he17]
          refine j_if_eq (tgt := 25) dX8_nextOf_20 (by decide) (by omega)  (fun _ => ?_) (fun h => absurd h (by decide))
          refine j_iinc (L' := [(0, .ref 118), (1, vi k), (2, vi b), (3, vi (p + 1))]) dX8_nextOf_25 (Nat.le_of_ble_eq_true rfl) rfl rfl ?_
          refine j_goto (tgt := 4) dX8_nextOf_28 (by decide) ?_
          exact ih4 (p + 1) (by omega) ⟨by omega, by omega, fun q a b => if e : q = p then by rw [e]; exact hc17 else hv3 q a (by omega)⟩
  exact lp4 _ (b + 1) (Nat.lt_succ_self _) ⟨by omega, by omega, fun q a b => by omega⟩
theorem tels_1 {D : Int → Prop} {s t : Int} (h : ∀ j, 0 ≤ j → j < t → j ≠ s → D j) (h2 : t = s ∨ D t) : ∀ j, 0 ≤ j → j < t + 1 → j ≠ s → D j := by
  intro j a b c
  by_cases e : j = t
  · rcases h2 with h2 | h2
    · omega
    · rw [e]; exact h2
  · exact h j a (by omega) c
set_option maxRecDepth 100000 in
set_option maxHeartbeats 4000000 in
theorem t_X8_tells (S : St) (s b : Int) (hM : MI S) (h0 : 0 ≤ s) (h1 : s < S 125 2) (hb0 : 0 ≤ b) (hb1 : b < 64) : EX mX8_tells [.ref 118, vi s, vi b] S (fun r S' => ((r = 1 ∧ (tels (S 118 13) (S 125 2) (S 124) (mHd S) s b)) ∨ (r = 0 ∧ ¬ (tels (S 118 13) (S 125 2) (S 124) (mHd S) s b))) ∧ S' = S) := by
  suffices hh : ∀ P : Int → St → Prop, (∀ r S', (((r = 1 ∧ (tels (S 118 13) (S 125 2) (S 124) (mHd S) s b)) ∨ (r = 0 ∧ ¬ (tels (S 118 13) (S 125 2) (S 124) (mHd S) s b))) ∧ S' = S) → P r S') → EX mX8_tells [.ref 118, vi s, vi b] S P from hh _ (fun _ _ h => h)
  intro P hP
  refine EX.of (L := [(0, .ref 118), (1, vi s), (2, vi b)]) rfl rfl (Nat.le_of_ble_eq_true rfl) rfl ?_
  obtain ⟨⟨hn0, hn1⟩, hwl, ⟨hp0, hp1⟩, ⟨hs0, hs1⟩, hyr, hpt, hhd, hth⟩ := id hM
  have hwt : ∀ k, 0 ≤ k → k < 6 → 1 ≤ S 120 k ∧ S 120 k ≤ 9 := fun k a b => ⟨(hwl k a b).1, (hwl k a b).2.1⟩
  refine j_iconst dX8_tells_0 ?_
  refine j_istore_n (L' := [(0, .ref 118), (1, vi s), (2, vi b), (3, vi 1)]) dX8_tells_1 (Nat.le_of_ble_eq_true rfl) rfl ?_
  refine j_iconst dX8_tells_2 ?_
  refine j_istore (L' := [(0, .ref 118), (1, vi s), (2, vi b), (3, vi 1), (4, vi 0)]) dX8_tells_3 (Nat.le_of_ble_eq_true rfl) rfl ?_
  have lp5 : ∀ (n : Nat) (a t : Int), (S 125 2 - t).toNat < n → (0 ≤ t ∧ t ≤ S 125 2 ∧ ((a = 1 ∧ ∀ j, 0 ≤ j → j < t → j ≠ s → difr (S 118 13) (S 124) (mHd S) s j b) ∨ (a = 0 ∧ Exs (fun j => 0 ≤ j ∧ j < S 125 2 ∧ j ≠ s ∧ ¬ difr (S 118 13) (S 124) (mHd S) s j b)))) → JJ mX8_tells (RX mX8_tells P) 5 [(0, .ref 118), (1, vi s), (2, vi b), (3, vi a), (4, vi t)] [] S := by
    intro n
    induction n with
    | zero => intro a t hm; exact absurd hm (Nat.not_lt_zero _)
    | succ n ih5 =>
      intro a t hm5 hv5
      obtain ⟨hv1, hv2, hv3⟩ := hv5
      refine j_iload dX8_tells_5 rfl ?_
      refine j_aload_n dX8_tells_7 rfl ?_
      refine j_getR dX8_tells_8 fg_X8_28 fq_118_18 ?_
      refine j_iconst dX8_tells_11 ?_
      refine j_iald (x := S 125 2) dX8_tells_12 aq_125 (by omega) (by omega) rfl (fun hi12 => ?_)
      refine j_icmp_ge (tgt := 108) dX8_tells_13 (by decide) (by omega) (by omega) (fun h13 => ?_) (fun h13 => ?_)
      · refine j_iload_n dX8_tells_108 rfl ?_
        exact j_iret rfl dX8_tells_109 (fun _ => by omega) (hP _ _ ⟨by rcases hv3 with ⟨z1, z2⟩ | ⟨z1, j, j0, j1, j2, j3⟩; exact Or.inl ⟨z1, fun j a c d => z2 j a (by omega) d⟩; exact Or.inr ⟨z1, fun z => j3 (z j j0 j1 j2)⟩, rfl⟩)
      · refine j_iload dX8_tells_16 rfl ?_
        refine j_iload_n dX8_tells_18 rfl ?_
        refine j_icmp_ne (tgt := 26) dX8_tells_19 (by decide) (by omega) (by omega) (fun h19 => ?_) (fun h19 => ?_)
        · refine j_iconst dX8_tells_26 ?_
          refine j_istore (L' := [(0, .ref 118), (1, vi s), (2, vi b), (3, vi a), (4, vi t), (5, vi 0)]) dX8_tells_27 (Nat.le_of_ble_eq_true rfl) rfl ?_
          refine j_iconst dX8_tells_29 ?_
          refine j_istore (L' := [(0, .ref 118), (1, vi s), (2, vi b), (3, vi a), (4, vi t), (5, vi 0), (6, vi 0)]) dX8_tells_30 (Nat.le_of_ble_eq_true rfl) rfl ?_
          have lp32 : ∀ (n : Nat) (d k : Int), (S 118 13 - k).toNat < n → (0 ≤ k ∧ k ≤ S 118 13 ∧ ((d = 1 ∧ (t = s ∨ difr (S 118 13) (S 124) (mHd S) s t b)) ∨ (d = 0 ∧ t ≠ s ∧ ∀ j, 0 ≤ j → j < k → ¬ (bitV b j = 1 ∧ S 124 (mHd S (s * 6 + j)) ≠ S 124 (mHd S (t * 6 + j)))))) → JJ mX8_tells (RX mX8_tells P) 32 [(0, .ref 118), (1, vi s), (2, vi b), (3, vi a), (4, vi t), (5, vi d), (6, vi k)] [] S := by
            intro n
            induction n with
            | zero => intro d k hm; exact absurd hm (Nat.not_lt_zero _)
            | succ n ih32 =>
              intro d k hm32 hv32
              obtain ⟨hu1, hu2, hu3⟩ := hv32
              refine j_iload dX8_tells_32 rfl ?_
              refine j_aload_n dX8_tells_34 rfl ?_
              refine j_getI (x := S 118 13) dX8_tells_35 fg_X8_59 fq_118_13 rfl (fun hi35 => ?_)
              refine j_icmp_ge (tgt := 87) dX8_tells_38 (by decide) (by omega) (by omega) (fun h38 => ?_) (fun h38 => ?_)
              · refine j_iload_n dX8_tells_87 rfl ?_
                refine j_if_eq (tgt := 100) dX8_tells_88 (by decide) (by omega)  (fun h88 => ?_) (fun h88 => ?_)
                · refine j_iconst dX8_tells_100 ?_
                  refine j_istore_n (L' := [(0, .ref 118), (1, vi s), (2, vi b), (3, vi 0), (4, vi t), (5, vi d), (6, vi k)]) dX8_tells_101 (Nat.le_of_ble_eq_true rfl) rfl ?_
                  refine j_iinc (L' := [(0, .ref 118), (1, vi s), (2, vi b), (3, vi 0), (4, vi (t + 1)), (5, vi d), (6, vi k)]) dX8_tells_102 (Nat.le_of_ble_eq_true rfl) rfl rfl ?_
                  refine j_goto (tgt := 5) dX8_tells_105 (by decide) ?_
                  refine j_sub (L' := [(0, .ref 118), (1, vi s), (2, vi b), (3, vi 0), (4, vi (t + 1))]) (by simp) ?_
                  exact ih5 0 (t + 1) (by omega) ⟨by omega, by omega, (by first | (rcases hv3 with z | z; have := z.1; omega; exact Or.inr ⟨rfl, z.2⟩) | (rcases hu3 with z | z; have := z.1; omega; exact Or.inr ⟨rfl, t, by omega, by omega, z.2.1, fun ⟨j, j0, j1, j2, j3⟩ => z.2.2 j j0 (by omega) ⟨j2, j3⟩⟩))⟩
                · refine j_iload dX8_tells_91 rfl ?_
                  refine j_if_eq (tgt := 100) dX8_tells_93 (by decide) (by omega)  (fun h93 => ?_) (fun h93 => ?_)
                  · refine j_iconst dX8_tells_100 ?_
                    refine j_istore_n (L' := [(0, .ref 118), (1, vi s), (2, vi b), (3, vi 0), (4, vi t), (5, vi d), (6, vi k)]) dX8_tells_101 (Nat.le_of_ble_eq_true rfl) rfl ?_
                    refine j_iinc (L' := [(0, .ref 118), (1, vi s), (2, vi b), (3, vi 0), (4, vi (t + 1)), (5, vi d), (6, vi k)]) dX8_tells_102 (Nat.le_of_ble_eq_true rfl) rfl rfl ?_
                    refine j_goto (tgt := 5) dX8_tells_105 (by decide) ?_
                    refine j_sub (L' := [(0, .ref 118), (1, vi s), (2, vi b), (3, vi 0), (4, vi (t + 1))]) (by simp) ?_
                    exact ih5 0 (t + 1) (by omega) ⟨by omega, by omega, (by first | (rcases hv3 with z | z; have := z.1; omega; exact Or.inr ⟨rfl, z.2⟩) | (rcases hu3 with z | z; have := z.1; omega; exact Or.inr ⟨rfl, t, by omega, by omega, z.2.1, fun ⟨j, j0, j1, j2, j3⟩ => z.2.2 j j0 (by omega) ⟨j2, j3⟩⟩))⟩
                  · refine j_iconst dX8_tells_96 ?_
                    refine j_goto (tgt := 101) dX8_tells_97 (by decide) ?_
                    refine j_istore_n (L' := [(0, .ref 118), (1, vi s), (2, vi b), (3, vi 1), (4, vi t), (5, vi d), (6, vi k)]) dX8_tells_101 (Nat.le_of_ble_eq_true rfl) rfl ?_
                    refine j_iinc (L' := [(0, .ref 118), (1, vi s), (2, vi b), (3, vi 1), (4, vi (t + 1)), (5, vi d), (6, vi k)]) dX8_tells_102 (Nat.le_of_ble_eq_true rfl) rfl rfl ?_
                    refine j_goto (tgt := 5) dX8_tells_105 (by decide) ?_
                    refine j_sub (L' := [(0, .ref 118), (1, vi s), (2, vi b), (3, vi 1), (4, vi (t + 1))]) (by simp) ?_
                    exact ih5 1 (t + 1) (by omega) ⟨by omega, by omega, Or.inl ⟨rfl, tels_1 (by rcases hv3 with z | z; exact z.2; have := z.1; omega) (by rcases hu3 with z | z; exact z.2; have := z.1; omega)⟩⟩
              · refine j_iload dX8_tells_41 rfl ?_
                refine j_if_ne (tgt := 74) dX8_tells_43 (by decide) (by omega)  (fun h43 => ?_) (fun h43 => ?_)
                · refine j_iconst dX8_tells_74 ?_
                  refine j_goto (tgt := 79) dX8_tells_75 (by decide) ?_
                  refine j_istore (L' := [(0, .ref 118), (1, vi s), (2, vi b), (3, vi a), (4, vi t), (5, vi 1), (6, vi k)]) dX8_tells_79 (Nat.le_of_ble_eq_true rfl) rfl ?_
                  refine j_iinc (L' := [(0, .ref 118), (1, vi s), (2, vi b), (3, vi a), (4, vi t), (5, vi 1), (6, vi (k + 1))]) dX8_tells_81 (Nat.le_of_ble_eq_true rfl) rfl rfl ?_
                  refine j_goto (tgt := 32) dX8_tells_84 (by decide) ?_
                  exact ih32 1 (k + 1) (by omega) ⟨by omega, by omega, (by first | (rcases hu3 with z | z; exact Or.inl ⟨rfl, z.2⟩; have := z.1; omega) | exact Or.inl ⟨rfl, Or.inr ⟨k, by omega, by omega, by omega, fun z => h71 z.symm⟩⟩)⟩
                · refine j_iload_n dX8_tells_46 rfl ?_
                  refine j_iload dX8_tells_47 rfl ?_
                  refine j_shr dX8_tells_49 (by omega) (by omega) (by omega) (by omega) ?_
                  refine j_iconst dX8_tells_50 ?_
                  refine j_iand dX8_tells_51 (Int.natCast_nonneg _) (by decide) ?_
                  refine j_top (fun q eq => ?_)
                  have hq : q = bitV b k := eq
                  have hqb := bitV_bd b k
                  refine j_iconst dX8_tells_52 ?_
                  refine j_icmp_ne (tgt := 78) dX8_tells_53 (by decide) (by omega) (by omega) (fun h53 => ?_) (fun h53 => ?_)
                  · refine j_iconst dX8_tells_78 ?_
                    refine j_istore (L' := [(0, .ref 118), (1, vi s), (2, vi b), (3, vi a), (4, vi t), (5, vi 0), (6, vi k)]) dX8_tells_79 (Nat.le_of_ble_eq_true rfl) rfl ?_
                    refine j_iinc (L' := [(0, .ref 118), (1, vi s), (2, vi b), (3, vi a), (4, vi t), (5, vi 0), (6, vi (k + 1))]) dX8_tells_81 (Nat.le_of_ble_eq_true rfl) rfl rfl ?_
                    refine j_goto (tgt := 32) dX8_tells_84 (by decide) ?_
                    exact ih32 0 (k + 1) (by omega) ⟨by omega, by omega, (by rcases hu3 with z | z; have := z.1; omega; exact Or.inr ⟨rfl, z.2.1, fun j a c => if e : j = k then by rw [e]; intro y; first | (have := y.1; omega) | exact y.2 h71.symm else z.2.2 j a (by omega)⟩)⟩
                  · refine j_aload_n dX8_tells_56 rfl ?_
                    refine j_iload dX8_tells_57 rfl ?_
                    refine j_iload dX8_tells_59 rfl ?_
                    refine j_callVi (As := [vi t, vi k]) (rest := []) (t_X8_makeIn _ t k hM (by omega) (by omega) (by omega) (by omega)) rfl cm_X8_makeIn ci_X8_makeIn ml_X8_226 oq_118 rfl (Nat.le_of_ble_eq_true rfl) (Nat.le_of_ble_eq_true rfl) dX8_tells_61 (fun r61 S61 hp61 => ?_)
                    obtain ⟨hr61, he61⟩ := hp61
                    rw [he61]
                    subst hr61
                    have hq61 := (hpt _ (hhd t k (by omega) (by omega) (by omega) (by omega)).1 (hhd t k (by omega) (by omega) (by omega) (by omega)).2).2.1
                    refine j_aload_n dX8_tells_64 rfl ?_
                    refine j_iload_n dX8_tells_65 rfl ?_
                    refine j_iload dX8_tells_66 rfl ?_
                    refine j_callVi (As := [vi s, vi k]) (rest := [vi (S 124 (mHd S (t * 6 + k)))]) (t_X8_makeIn _ s k hM (by omega) (by omega) (by omega) (by omega)) rfl cm_X8_makeIn ci_X8_makeIn ml_X8_226 oq_118 rfl (Nat.le_of_ble_eq_true rfl) (Nat.le_of_ble_eq_true rfl) dX8_tells_68 (fun r68 S68 hp68 => ?_)
                    obtain ⟨hr68, he68⟩ := hp68
                    rw [he68]
                    subst hr68
                    have hq68 := (hpt _ (hhd s k (by omega) (by omega) (by omega) (by omega)).1 (hhd s k (by omega) (by omega) (by omega) (by omega)).2).2.1
                    refine j_icmp_eq (tgt := 78) dX8_tells_71 (by decide) (by omega) (by omega) (fun h71 => ?_) (fun h71 => ?_)
                    · refine j_iconst dX8_tells_78 ?_
                      refine j_istore (L' := [(0, .ref 118), (1, vi s), (2, vi b), (3, vi a), (4, vi t), (5, vi 0), (6, vi k)]) dX8_tells_79 (Nat.le_of_ble_eq_true rfl) rfl ?_
                      refine j_iinc (L' := [(0, .ref 118), (1, vi s), (2, vi b), (3, vi a), (4, vi t), (5, vi 0), (6, vi (k + 1))]) dX8_tells_81 (Nat.le_of_ble_eq_true rfl) rfl rfl ?_
                      refine j_goto (tgt := 32) dX8_tells_84 (by decide) ?_
                      exact ih32 0 (k + 1) (by omega) ⟨by omega, by omega, (by rcases hu3 with z | z; have := z.1; omega; exact Or.inr ⟨rfl, z.2.1, fun j a c => if e : j = k then by rw [e]; intro y; first | (have := y.1; omega) | exact y.2 h71.symm else z.2.2 j a (by omega)⟩)⟩
                    · refine j_iconst dX8_tells_74 ?_
                      refine j_goto (tgt := 79) dX8_tells_75 (by decide) ?_
                      refine j_istore (L' := [(0, .ref 118), (1, vi s), (2, vi b), (3, vi a), (4, vi t), (5, vi 1), (6, vi k)]) dX8_tells_79 (Nat.le_of_ble_eq_true rfl) rfl ?_
                      refine j_iinc (L' := [(0, .ref 118), (1, vi s), (2, vi b), (3, vi a), (4, vi t), (5, vi 1), (6, vi (k + 1))]) dX8_tells_81 (Nat.le_of_ble_eq_true rfl) rfl rfl ?_
                      refine j_goto (tgt := 32) dX8_tells_84 (by decide) ?_
                      exact ih32 1 (k + 1) (by omega) ⟨by omega, by omega, (by first | (rcases hu3 with z | z; exact Or.inl ⟨rfl, z.2⟩; have := z.1; omega) | exact Or.inl ⟨rfl, Or.inr ⟨k, by omega, by omega, by omega, fun z => h71 z.symm⟩⟩)⟩
          exact lp32 _ 0 0 (Nat.lt_succ_self _) ⟨by omega, by omega, by first | exact Or.inl ⟨rfl, Or.inl h19⟩ | exact Or.inr ⟨rfl, h19, fun j a b => by omega⟩⟩
        · refine j_iconst dX8_tells_22 ?_
          refine j_goto (tgt := 27) dX8_tells_23 (by decide) ?_
          refine j_istore (L' := [(0, .ref 118), (1, vi s), (2, vi b), (3, vi a), (4, vi t), (5, vi 1)]) dX8_tells_27 (Nat.le_of_ble_eq_true rfl) rfl ?_
          refine j_iconst dX8_tells_29 ?_
          refine j_istore (L' := [(0, .ref 118), (1, vi s), (2, vi b), (3, vi a), (4, vi t), (5, vi 1), (6, vi 0)]) dX8_tells_30 (Nat.le_of_ble_eq_true rfl) rfl ?_
          have lp32 : ∀ (n : Nat) (d k : Int), (S 118 13 - k).toNat < n → (0 ≤ k ∧ k ≤ S 118 13 ∧ ((d = 1 ∧ (t = s ∨ difr (S 118 13) (S 124) (mHd S) s t b)) ∨ (d = 0 ∧ t ≠ s ∧ ∀ j, 0 ≤ j → j < k → ¬ (bitV b j = 1 ∧ S 124 (mHd S (s * 6 + j)) ≠ S 124 (mHd S (t * 6 + j)))))) → JJ mX8_tells (RX mX8_tells P) 32 [(0, .ref 118), (1, vi s), (2, vi b), (3, vi a), (4, vi t), (5, vi d), (6, vi k)] [] S := by
            intro n
            induction n with
            | zero => intro d k hm; exact absurd hm (Nat.not_lt_zero _)
            | succ n ih32 =>
              intro d k hm32 hv32
              obtain ⟨hu1, hu2, hu3⟩ := hv32
              refine j_iload dX8_tells_32 rfl ?_
              refine j_aload_n dX8_tells_34 rfl ?_
              refine j_getI (x := S 118 13) dX8_tells_35 fg_X8_59 fq_118_13 rfl (fun hi35 => ?_)
              refine j_icmp_ge (tgt := 87) dX8_tells_38 (by decide) (by omega) (by omega) (fun h38 => ?_) (fun h38 => ?_)
              · refine j_iload_n dX8_tells_87 rfl ?_
                refine j_if_eq (tgt := 100) dX8_tells_88 (by decide) (by omega)  (fun h88 => ?_) (fun h88 => ?_)
                · refine j_iconst dX8_tells_100 ?_
                  refine j_istore_n (L' := [(0, .ref 118), (1, vi s), (2, vi b), (3, vi 0), (4, vi t), (5, vi d), (6, vi k)]) dX8_tells_101 (Nat.le_of_ble_eq_true rfl) rfl ?_
                  refine j_iinc (L' := [(0, .ref 118), (1, vi s), (2, vi b), (3, vi 0), (4, vi (t + 1)), (5, vi d), (6, vi k)]) dX8_tells_102 (Nat.le_of_ble_eq_true rfl) rfl rfl ?_
                  refine j_goto (tgt := 5) dX8_tells_105 (by decide) ?_
                  refine j_sub (L' := [(0, .ref 118), (1, vi s), (2, vi b), (3, vi 0), (4, vi (t + 1))]) (by simp) ?_
                  exact ih5 0 (t + 1) (by omega) ⟨by omega, by omega, (by first | (rcases hv3 with z | z; have := z.1; omega; exact Or.inr ⟨rfl, z.2⟩) | (rcases hu3 with z | z; have := z.1; omega; exact Or.inr ⟨rfl, t, by omega, by omega, z.2.1, fun ⟨j, j0, j1, j2, j3⟩ => z.2.2 j j0 (by omega) ⟨j2, j3⟩⟩))⟩
                · refine j_iload dX8_tells_91 rfl ?_
                  refine j_if_eq (tgt := 100) dX8_tells_93 (by decide) (by omega)  (fun h93 => ?_) (fun h93 => ?_)
                  · refine j_iconst dX8_tells_100 ?_
                    refine j_istore_n (L' := [(0, .ref 118), (1, vi s), (2, vi b), (3, vi 0), (4, vi t), (5, vi d), (6, vi k)]) dX8_tells_101 (Nat.le_of_ble_eq_true rfl) rfl ?_
                    refine j_iinc (L' := [(0, .ref 118), (1, vi s), (2, vi b), (3, vi 0), (4, vi (t + 1)), (5, vi d), (6, vi k)]) dX8_tells_102 (Nat.le_of_ble_eq_true rfl) rfl rfl ?_
                    refine j_goto (tgt := 5) dX8_tells_105 (by decide) ?_
                    refine j_sub (L' := [(0, .ref 118), (1, vi s), (2, vi b), (3, vi 0), (4, vi (t + 1))]) (by simp) ?_
                    exact ih5 0 (t + 1) (by omega) ⟨by omega, by omega, (by first | (rcases hv3 with z | z; have := z.1; omega; exact Or.inr ⟨rfl, z.2⟩) | (rcases hu3 with z | z; have := z.1; omega; exact Or.inr ⟨rfl, t, by omega, by omega, z.2.1, fun ⟨j, j0, j1, j2, j3⟩ => z.2.2 j j0 (by omega) ⟨j2, j3⟩⟩))⟩
                  · refine j_iconst dX8_tells_96 ?_
                    refine j_goto (tgt := 101) dX8_tells_97 (by decide) ?_
                    refine j_istore_n (L' := [(0, .ref 118), (1, vi s), (2, vi b), (3, vi 1), (4, vi t), (5, vi d), (6, vi k)]) dX8_tells_101 (Nat.le_of_ble_eq_true rfl) rfl ?_
                    refine j_iinc (L' := [(0, .ref 118), (1, vi s), (2, vi b), (3, vi 1), (4, vi (t + 1)), (5, vi d), (6, vi k)]) dX8_tells_102 (Nat.le_of_ble_eq_true rfl) rfl rfl ?_
                    refine j_goto (tgt := 5) dX8_tells_105 (by decide) ?_
                    refine j_sub (L' := [(0, .ref 118), (1, vi s), (2, vi b), (3, vi 1), (4, vi (t + 1))]) (by simp) ?_
                    exact ih5 1 (t + 1) (by omega) ⟨by omega, by omega, Or.inl ⟨rfl, tels_1 (by rcases hv3 with z | z; exact z.2; have := z.1; omega) (by rcases hu3 with z | z; exact z.2; have := z.1; omega)⟩⟩
              · refine j_iload dX8_tells_41 rfl ?_
                refine j_if_ne (tgt := 74) dX8_tells_43 (by decide) (by omega)  (fun h43 => ?_) (fun h43 => ?_)
                · refine j_iconst dX8_tells_74 ?_
                  refine j_goto (tgt := 79) dX8_tells_75 (by decide) ?_
                  refine j_istore (L' := [(0, .ref 118), (1, vi s), (2, vi b), (3, vi a), (4, vi t), (5, vi 1), (6, vi k)]) dX8_tells_79 (Nat.le_of_ble_eq_true rfl) rfl ?_
                  refine j_iinc (L' := [(0, .ref 118), (1, vi s), (2, vi b), (3, vi a), (4, vi t), (5, vi 1), (6, vi (k + 1))]) dX8_tells_81 (Nat.le_of_ble_eq_true rfl) rfl rfl ?_
                  refine j_goto (tgt := 32) dX8_tells_84 (by decide) ?_
                  exact ih32 1 (k + 1) (by omega) ⟨by omega, by omega, (by first | (rcases hu3 with z | z; exact Or.inl ⟨rfl, z.2⟩; have := z.1; omega) | exact Or.inl ⟨rfl, Or.inr ⟨k, by omega, by omega, by omega, fun z => h71 z.symm⟩⟩)⟩
                · refine j_iload_n dX8_tells_46 rfl ?_
                  refine j_iload dX8_tells_47 rfl ?_
                  refine j_shr dX8_tells_49 (by omega) (by omega) (by omega) (by omega) ?_
                  refine j_iconst dX8_tells_50 ?_
                  refine j_iand dX8_tells_51 (Int.natCast_nonneg _) (by decide) ?_
                  refine j_top (fun q eq => ?_)
                  have hq : q = bitV b k := eq
                  have hqb := bitV_bd b k
                  refine j_iconst dX8_tells_52 ?_
                  refine j_icmp_ne (tgt := 78) dX8_tells_53 (by decide) (by omega) (by omega) (fun h53 => ?_) (fun h53 => ?_)
                  · refine j_iconst dX8_tells_78 ?_
                    refine j_istore (L' := [(0, .ref 118), (1, vi s), (2, vi b), (3, vi a), (4, vi t), (5, vi 0), (6, vi k)]) dX8_tells_79 (Nat.le_of_ble_eq_true rfl) rfl ?_
                    refine j_iinc (L' := [(0, .ref 118), (1, vi s), (2, vi b), (3, vi a), (4, vi t), (5, vi 0), (6, vi (k + 1))]) dX8_tells_81 (Nat.le_of_ble_eq_true rfl) rfl rfl ?_
                    refine j_goto (tgt := 32) dX8_tells_84 (by decide) ?_
                    exact ih32 0 (k + 1) (by omega) ⟨by omega, by omega, (by rcases hu3 with z | z; have := z.1; omega; exact Or.inr ⟨rfl, z.2.1, fun j a c => if e : j = k then by rw [e]; intro y; first | (have := y.1; omega) | exact y.2 h71.symm else z.2.2 j a (by omega)⟩)⟩
                  · refine j_aload_n dX8_tells_56 rfl ?_
                    refine j_iload dX8_tells_57 rfl ?_
                    refine j_iload dX8_tells_59 rfl ?_
                    refine j_callVi (As := [vi t, vi k]) (rest := []) (t_X8_makeIn _ t k hM (by omega) (by omega) (by omega) (by omega)) rfl cm_X8_makeIn ci_X8_makeIn ml_X8_226 oq_118 rfl (Nat.le_of_ble_eq_true rfl) (Nat.le_of_ble_eq_true rfl) dX8_tells_61 (fun r61 S61 hp61 => ?_)
                    obtain ⟨hr61, he61⟩ := hp61
                    rw [he61]
                    subst hr61
                    have hq61 := (hpt _ (hhd t k (by omega) (by omega) (by omega) (by omega)).1 (hhd t k (by omega) (by omega) (by omega) (by omega)).2).2.1
                    refine j_aload_n dX8_tells_64 rfl ?_
                    refine j_iload_n dX8_tells_65 rfl ?_
                    refine j_iload dX8_tells_66 rfl ?_
                    refine j_callVi (As := [vi s, vi k]) (rest := [vi (S 124 (mHd S (t * 6 + k)))]) (t_X8_makeIn _ s k hM (by omega) (by omega) (by omega) (by omega)) rfl cm_X8_makeIn ci_X8_makeIn ml_X8_226 oq_118 rfl (Nat.le_of_ble_eq_true rfl) (Nat.le_of_ble_eq_true rfl) dX8_tells_68 (fun r68 S68 hp68 => ?_)
                    obtain ⟨hr68, he68⟩ := hp68
                    rw [he68]
                    subst hr68
                    have hq68 := (hpt _ (hhd s k (by omega) (by omega) (by omega) (by omega)).1 (hhd s k (by omega) (by omega) (by omega) (by omega)).2).2.1
                    refine j_icmp_eq (tgt := 78) dX8_tells_71 (by decide) (by omega) (by omega) (fun h71 => ?_) (fun h71 => ?_)
                    · refine j_iconst dX8_tells_78 ?_
                      refine j_istore (L' := [(0, .ref 118), (1, vi s), (2, vi b), (3, vi a), (4, vi t), (5, vi 0), (6, vi k)]) dX8_tells_79 (Nat.le_of_ble_eq_true rfl) rfl ?_
                      refine j_iinc (L' := [(0, .ref 118), (1, vi s), (2, vi b), (3, vi a), (4, vi t), (5, vi 0), (6, vi (k + 1))]) dX8_tells_81 (Nat.le_of_ble_eq_true rfl) rfl rfl ?_
                      refine j_goto (tgt := 32) dX8_tells_84 (by decide) ?_
                      exact ih32 0 (k + 1) (by omega) ⟨by omega, by omega, (by rcases hu3 with z | z; have := z.1; omega; exact Or.inr ⟨rfl, z.2.1, fun j a c => if e : j = k then by rw [e]; intro y; first | (have := y.1; omega) | exact y.2 h71.symm else z.2.2 j a (by omega)⟩)⟩
                    · refine j_iconst dX8_tells_74 ?_
                      refine j_goto (tgt := 79) dX8_tells_75 (by decide) ?_
                      refine j_istore (L' := [(0, .ref 118), (1, vi s), (2, vi b), (3, vi a), (4, vi t), (5, vi 1), (6, vi k)]) dX8_tells_79 (Nat.le_of_ble_eq_true rfl) rfl ?_
                      refine j_iinc (L' := [(0, .ref 118), (1, vi s), (2, vi b), (3, vi a), (4, vi t), (5, vi 1), (6, vi (k + 1))]) dX8_tells_81 (Nat.le_of_ble_eq_true rfl) rfl rfl ?_
                      refine j_goto (tgt := 32) dX8_tells_84 (by decide) ?_
                      exact ih32 1 (k + 1) (by omega) ⟨by omega, by omega, (by first | (rcases hu3 with z | z; exact Or.inl ⟨rfl, z.2⟩; have := z.1; omega) | exact Or.inl ⟨rfl, Or.inr ⟨k, by omega, by omega, by omega, fun z => h71 z.symm⟩⟩)⟩
          exact lp32 _ 1 0 (Nat.lt_succ_self _) ⟨by omega, by omega, by first | exact Or.inl ⟨rfl, Or.inl h19⟩ | exact Or.inr ⟨rfl, h19, fun j a b => by omega⟩⟩
  exact lp5 _ 1 0 (Nat.lt_succ_self _) ⟨by omega, by omega, Or.inl ⟨rfl, fun j a b => by omega⟩⟩
set_option maxRecDepth 100000 in
set_option maxHeartbeats 4000000 in
theorem t_X8_leastSeen (S : St) (s : Int) (r_s : InR s) (hM : MI S) : EX mX8_leastSeen [.ref 118, vi s] S (fun r S' => r = fLeast (S 118 13) (S 125 2) (S 124) (mHd S) s ∧ S' = S) := by
  suffices hh : ∀ P : Int → St → Prop, (∀ r S', (r = fLeast (S 118 13) (S 125 2) (S 124) (mHd S) s ∧ S' = S) → P r S') → EX mX8_leastSeen [.ref 118, vi s] S P from hh _ (fun _ _ h => h)
  intro P hP
  refine EX.of (L := [(0, .ref 118), (1, vi s)]) rfl rfl (Nat.le_of_ble_eq_true rfl) rfl ?_
  obtain ⟨⟨hn0, hn1⟩, hwl, ⟨hp0, hp1⟩, ⟨hs0, hs1⟩, hyr, hpt, hhd, hth⟩ := id hM
  have hwt : ∀ k, 0 ≤ k → k < 6 → 1 ≤ S 120 k ∧ S 120 k ≤ 9 := fun k a b => ⟨(hwl k a b).1, (hwl k a b).2.1⟩
  refine j_aload_n dX8_leastSeen_0 rfl ?_
  refine j_iconst dX8_leastSeen_1 ?_
  refine j_putI (i := 0) dX8_leastSeen_2 fg_X8_63 ft_8_0 fq_118_0 rfl (by omega) ?_
  rw [up_thr hth]
  refine j_aload_n dX8_leastSeen_5 rfl ?_
  refine j_iload_n dX8_leastSeen_6 rfl ?_
  refine j_callVi (As := [vi s]) (rest := []) (t_X8_isShip _ s (by omega) (by omega)) rfl cm_X8_isShip ci_X8_isShip ml_X8_156 oq_118 rfl (Nat.le_of_ble_eq_true rfl) (Nat.le_of_ble_eq_true rfl) dX8_leastSeen_7 (fun r7 S7 hp7 => ?_)
  obtain ⟨⟨rfl, hc7⟩ | ⟨rfl, hc7⟩, he7⟩ := hp7
  · rw [he7]
    refine j_if_ne (tgt := 15) dX8_leastSeen_10 (by decide) (by omega)  (fun _ => ?_) (fun h => absurd h (by decide))
    refine j_bipush dX8_leastSeen_15 (by decide) ?_
    refine j_istore_n (L' := [(0, .ref 118), (1, vi s), (2, vi (-9))]) dX8_leastSeen_17 (Nat.le_of_ble_eq_true rfl) rfl ?_
    refine j_iconst dX8_leastSeen_18 ?_
    refine j_istore_n (L' := [(0, .ref 118), (1, vi s), (2, vi (-9)), (3, vi 0)]) dX8_leastSeen_19 (Nat.le_of_ble_eq_true rfl) rfl ?_
    have lp20 : ∀ (n : Nat) (q b : Int), (((2 ^ (S 118 13).toNat : Nat) : Int) - b).toNat < n → (0 ≤ b ∧ b ≤ ((2 ^ (S 118 13).toNat : Nat) : Int) ∧ q = lsF (tels (S 118 13) (S 125 2) (S 124) (mHd S) s) b.toNat) → JJ mX8_leastSeen (RX mX8_leastSeen P) 20 [(0, .ref 118), (1, vi s), (2, vi q), (3, vi b)] [] S := by
      intro n
      induction n with
      | zero => intro q b hm; exact absurd hm (Nat.not_lt_zero _)
      | succ n ih20 =>
        intro q b hm20 hv20
        obtain ⟨hv1, hv2, hv3⟩ := hv20
        have hqb := lsF_bd (tels (S 118 13) (S 125 2) (S 124) (mHd S) s) b.toNat
        rw [← hv3] at hqb
        have hp6 := pw_le (k := S 118 13) (m := 6) hn1
        have hp7 : ((2 ^ (6 : Int).toNat : Nat) : Int) = 64 := by decide
        have hp8 := pw_pos (S 118 13)
        refine j_iload_n dX8_leastSeen_20 rfl ?_
        refine j_iconst dX8_leastSeen_21 ?_
        refine j_aload_n dX8_leastSeen_22 rfl ?_
        refine j_getI (x := S 118 13) dX8_leastSeen_23 fg_X8_59 fq_118_13 rfl (fun hi23 => ?_)
        refine j_shl dX8_leastSeen_26 (by omega) (by omega) ?_
        refine j_icmp_ge (tgt := 68) dX8_leastSeen_27 (by decide) (by omega) (by omega) (fun h27 => ?_) (fun h27 => ?_)
        · refine j_iload_n dX8_leastSeen_68 rfl ?_
          exact j_iret rfl dX8_leastSeen_69 (fun h => by cases h) (hP _ _ ⟨by unfold fLeast; rw [if_pos (by omega), hv3]; congr 1; omega, rfl⟩)
        · refine j_iload_n dX8_leastSeen_30 rfl ?_
          refine j_bipush dX8_leastSeen_31 (by decide) ?_
          refine j_icmp_eq (tgt := 47) dX8_leastSeen_33 (by decide) (by omega) (by omega) (fun h33 => ?_) (fun h33 => ?_)
          · refine j_aload_n dX8_leastSeen_47 rfl ?_
            refine j_iload_n dX8_leastSeen_48 rfl ?_
            refine j_iload_n dX8_leastSeen_49 rfl ?_
            refine j_callVi (As := [vi s, vi b]) (rest := []) (t_X8_tells _ s b hM (by omega) (by omega) (by omega) (by omega)) rfl cm_X8_tells ci_X8_tells ml_X8_232 oq_118 rfl (Nat.le_of_ble_eq_true rfl) (Nat.le_of_ble_eq_true rfl) dX8_leastSeen_50 (fun r50 S50 hp50 => ?_)
            obtain ⟨⟨rfl, hc50⟩ | ⟨rfl, hc50⟩, he50⟩ := hp50
            · rw [he50]
              refine j_if_eq (tgt := 60) dX8_leastSeen_53 (by decide) (by omega)  (fun h => absurd h (by decide)) (fun _ => ?_)
              refine j_iload_n dX8_leastSeen_56 rfl ?_
              refine j_goto (tgt := 61) dX8_leastSeen_57 (by decide) ?_
              refine j_istore_n (L' := [(0, .ref 118), (1, vi s), (2, vi b), (3, vi b)]) dX8_leastSeen_61 (Nat.le_of_ble_eq_true rfl) rfl ?_
              refine j_iinc (L' := [(0, .ref 118), (1, vi s), (2, vi b), (3, vi (b + 1))]) dX8_leastSeen_62 (Nat.le_of_ble_eq_true rfl) rfl rfl ?_
              refine j_goto (tgt := 20) dX8_leastSeen_65 (by decide) ?_
              exact ih20 b (b + 1) (by omega) ⟨by omega, by omega, by rw [lsF_s (by omega), ← hv3, cb_pos ⟨by omega, hc50⟩]⟩
            · rw [he50]
              refine j_if_eq (tgt := 60) dX8_leastSeen_53 (by decide) (by omega)  (fun _ => ?_) (fun h => absurd h (by decide))
              refine j_iload_n dX8_leastSeen_60 rfl ?_
              refine j_istore_n (L' := [(0, .ref 118), (1, vi s), (2, vi q), (3, vi b)]) dX8_leastSeen_61 (Nat.le_of_ble_eq_true rfl) rfl ?_
              refine j_iinc (L' := [(0, .ref 118), (1, vi s), (2, vi q), (3, vi (b + 1))]) dX8_leastSeen_62 (Nat.le_of_ble_eq_true rfl) rfl rfl ?_
              refine j_goto (tgt := 20) dX8_leastSeen_65 (by decide) ?_
              exact ih20 q (b + 1) (by omega) ⟨by omega, by omega, by rw [lsF_s (by omega), ← hv3, cb_neg (fun z => by first | exact hc50 z.2 | (have := z.1; omega))]⟩
          · refine j_iload_n dX8_leastSeen_36 rfl ?_
            refine j_callSi (As := [vi b]) (rest := []) (t_X8_ones _ b (by omega) (by omega)) rfl cm_X8_ones cs_X8_ones ml_X8_229 rfl (Nat.le_of_ble_eq_true rfl) (Nat.le_of_ble_eq_true rfl) dX8_leastSeen_37 (fun r37 S37 hp37 => ?_)
            obtain ⟨hr37, he37⟩ := hp37
            rw [he37]
            subst hr37
            have hob37 := onesF_bd b
            refine j_iload_n dX8_leastSeen_40 rfl ?_
            refine j_callSi (As := [vi q]) (rest := [vi (onesF b)]) (t_X8_ones _ q (by omega) (by omega)) rfl cm_X8_ones cs_X8_ones ml_X8_229 rfl (Nat.le_of_ble_eq_true rfl) (Nat.le_of_ble_eq_true rfl) dX8_leastSeen_41 (fun r41 S41 hp41 => ?_)
            obtain ⟨hr41, he41⟩ := hp41
            rw [he41]
            subst hr41
            have hob41 := onesF_bd q
            refine j_icmp_ge (tgt := 60) dX8_leastSeen_44 (by decide) (by omega) (by omega) (fun h44 => ?_) (fun h44 => ?_)
            · refine j_iload_n dX8_leastSeen_60 rfl ?_
              refine j_istore_n (L' := [(0, .ref 118), (1, vi s), (2, vi q), (3, vi b)]) dX8_leastSeen_61 (Nat.le_of_ble_eq_true rfl) rfl ?_
              refine j_iinc (L' := [(0, .ref 118), (1, vi s), (2, vi q), (3, vi (b + 1))]) dX8_leastSeen_62 (Nat.le_of_ble_eq_true rfl) rfl rfl ?_
              refine j_goto (tgt := 20) dX8_leastSeen_65 (by decide) ?_
              exact ih20 q (b + 1) (by omega) ⟨by omega, by omega, by rw [lsF_s (by omega), ← hv3, cb_neg (fun z => by first | exact hc50 z.2 | (have := z.1; omega))]⟩
            · refine j_aload_n dX8_leastSeen_47 rfl ?_
              refine j_iload_n dX8_leastSeen_48 rfl ?_
              refine j_iload_n dX8_leastSeen_49 rfl ?_
              refine j_callVi (As := [vi s, vi b]) (rest := []) (t_X8_tells _ s b hM (by omega) (by omega) (by omega) (by omega)) rfl cm_X8_tells ci_X8_tells ml_X8_232 oq_118 rfl (Nat.le_of_ble_eq_true rfl) (Nat.le_of_ble_eq_true rfl) dX8_leastSeen_50 (fun r50 S50 hp50 => ?_)
              obtain ⟨⟨rfl, hc50⟩ | ⟨rfl, hc50⟩, he50⟩ := hp50
              · rw [he50]
                refine j_if_eq (tgt := 60) dX8_leastSeen_53 (by decide) (by omega)  (fun h => absurd h (by decide)) (fun _ => ?_)
                refine j_iload_n dX8_leastSeen_56 rfl ?_
                refine j_goto (tgt := 61) dX8_leastSeen_57 (by decide) ?_
                refine j_istore_n (L' := [(0, .ref 118), (1, vi s), (2, vi b), (3, vi b)]) dX8_leastSeen_61 (Nat.le_of_ble_eq_true rfl) rfl ?_
                refine j_iinc (L' := [(0, .ref 118), (1, vi s), (2, vi b), (3, vi (b + 1))]) dX8_leastSeen_62 (Nat.le_of_ble_eq_true rfl) rfl rfl ?_
                refine j_goto (tgt := 20) dX8_leastSeen_65 (by decide) ?_
                exact ih20 b (b + 1) (by omega) ⟨by omega, by omega, by rw [lsF_s (by omega), ← hv3, cb_pos ⟨by omega, hc50⟩]⟩
              · rw [he50]
                refine j_if_eq (tgt := 60) dX8_leastSeen_53 (by decide) (by omega)  (fun _ => ?_) (fun h => absurd h (by decide))
                refine j_iload_n dX8_leastSeen_60 rfl ?_
                refine j_istore_n (L' := [(0, .ref 118), (1, vi s), (2, vi q), (3, vi b)]) dX8_leastSeen_61 (Nat.le_of_ble_eq_true rfl) rfl ?_
                refine j_iinc (L' := [(0, .ref 118), (1, vi s), (2, vi q), (3, vi (b + 1))]) dX8_leastSeen_62 (Nat.le_of_ble_eq_true rfl) rfl rfl ?_
                refine j_goto (tgt := 20) dX8_leastSeen_65 (by decide) ?_
                exact ih20 q (b + 1) (by omega) ⟨by omega, by omega, by rw [lsF_s (by omega), ← hv3, cb_neg (fun z => by first | exact hc50 z.2 | (have := z.1; omega))]⟩
    exact lp20 _ (-9) 0 (Nat.lt_succ_self _) ⟨by omega, by have := pw_pos (S 118 13); omega, rfl⟩
  · rw [he7]
    refine j_if_ne (tgt := 15) dX8_leastSeen_10 (by decide) (by omega)  (fun h => absurd h (by decide)) (fun _ => ?_)
    refine j_iconst dX8_leastSeen_13 ?_
    exact j_iret rfl dX8_leastSeen_14 (fun h => by cases h) (hP _ _ ⟨by unfold fLeast; rw [if_neg (by omega)], rfl⟩)
set_option maxRecDepth 100000 in
set_option maxHeartbeats 4000000 in
theorem t_X8_share (S : St) (s m what : Int) (r_s : InR s) (r_m : InR m) (r_what : InR what) (hM : MI S) : EX mX8_share [.ref 118, vi s, vi m, vi what] S (fun r S' => r = fShare (S 118 13) (S 125 2) (S 124) (S 120) (mHd S) s m what ∧ Same [131, 132] S S') := by
  suffices hh : ∀ P : Int → St → Prop, (∀ r S', (r = fShare (S 118 13) (S 125 2) (S 124) (S 120) (mHd S) s m what ∧ Same [131, 132] S S') → P r S') → EX mX8_share [.ref 118, vi s, vi m, vi what] S P from hh _ (fun _ _ h => h)
  intro P hP
  refine EX.of (L := [(0, .ref 118), (1, vi s), (2, vi m), (3, vi what)]) rfl rfl (Nat.le_of_ble_eq_true rfl) rfl ?_
  obtain ⟨⟨hn0, hn1⟩, hwl, ⟨hp0, hp1⟩, ⟨hs0, hs1⟩, hyr, hpt, hhd, hth⟩ := id hM
  have hwt : ∀ k, 0 ≤ k → k < 6 → 1 ≤ S 120 k ∧ S 120 k ≤ 9 := fun k a b => ⟨(hwl k a b).1, (hwl k a b).2.1⟩
  refine j_aload_n dX8_share_0 rfl ?_
  refine j_iconst dX8_share_1 ?_
  refine j_putI (i := 0) dX8_share_2 fg_X8_63 ft_8_0 fq_118_0 rfl (by omega) ?_
  rw [up_thr hth]
  refine j_aload_n dX8_share_5 rfl ?_
  refine j_iload_n dX8_share_6 rfl ?_
  refine j_callVi (As := [vi s]) (rest := []) (t_X8_isShip _ s (by omega) (by omega)) rfl cm_X8_isShip ci_X8_isShip ml_X8_156 oq_118 rfl (Nat.le_of_ble_eq_true rfl) (Nat.le_of_ble_eq_true rfl) dX8_share_7 (fun r7 S7 hp7 => ?_)
  obtain ⟨⟨rfl, hc7⟩ | ⟨rfl, hc7⟩, he7⟩ := hp7
  · rw [he7]
    refine j_if_eq (tgt := 29) dX8_share_10 (by decide) (by omega)  (fun h => absurd h (by decide)) (fun _ => ?_)
    refine j_iload_n dX8_share_13 rfl ?_
    refine j_callSi (As := [vi m]) (rest := []) (t_X8_isMake _ m (by omega)) rfl cm_X8_isMake cs_X8_isMake ml_X8_120 rfl (Nat.le_of_ble_eq_true rfl) (Nat.le_of_ble_eq_true rfl) dX8_share_14 (fun r14 S14 hp14 => ?_)
    obtain ⟨⟨rfl, hc14⟩ | ⟨rfl, hc14⟩, he14⟩ := hp14
    · rw [he14]
      refine j_if_eq (tgt := 29) dX8_share_17 (by decide) (by omega)  (fun h => absurd h (by decide)) (fun _ => ?_)
      refine j_iload_n dX8_share_20 rfl ?_
      refine j_iconst dX8_share_21 ?_
      refine j_iconst dX8_share_22 ?_
      refine j_callSi (As := [vi what, vi 0, vi 1]) (rest := []) (t_X8_in _ what 0 1 (by omega) (by omega) (by omega)) rfl cm_X8_in cs_X8_in ml_X8_66 rfl (Nat.le_of_ble_eq_true rfl) (Nat.le_of_ble_eq_true rfl) dX8_share_23 (fun r23 S23 hp23 => ?_)
      obtain ⟨⟨rfl, hc23⟩ | ⟨rfl, hc23⟩, he23⟩ := hp23
      · rw [he23]
        refine j_if_ne (tgt := 31) dX8_share_26 (by decide) (by omega)  (fun _ => ?_) (fun h => absurd h (by decide))
        refine j_aload_n dX8_share_31 rfl ?_
        refine j_iload_n dX8_share_32 rfl ?_
        refine j_callVv (As := [vi s]) (rest := []) (t_X8_asIs _ s hM (by omega) (by omega)) rfl cm_X8_asIs ci_X8_asIs ml_X8_178 oq_118 rfl (Nat.le_of_ble_eq_true rfl) (Nat.le_of_ble_eq_true rfl) dX8_share_33 (fun r33 S33 hp33 => ?_)
        obtain ⟨hsm33, hl33⟩ := hp33
        have eS33_118 : S33 118 = S 118 := hsm33 118 (by decide)
        have eS33_119 : S33 119 = S 119 := hsm33 119 (by decide)
        have eS33_120 : S33 120 = S 120 := hsm33 120 (by decide)
        have eS33_121 : S33 121 = S 121 := hsm33 121 (by decide)
        have eS33_124 : S33 124 = S 124 := hsm33 124 (by decide)
        have eS33_125 : S33 125 = S 125 := hsm33 125 (by decide)
        have eS33_126 : S33 126 = S 126 := hsm33 126 (by decide)
        have eS33_127 : S33 127 = S 127 := hsm33 127 (by decide)
        have eS33_128 : S33 128 = S 128 := hsm33 128 (by decide)
        have eS33_129 : S33 129 = S 129 := hsm33 129 (by decide)
        have eS33_130 : S33 130 = S 130 := hsm33 130 (by decide)
        refine j_aload_n dX8_share_36 rfl ?_
        refine j_iload_n dX8_share_37 rfl ?_
        refine j_callVi (As := [vi m]) (rest := []) (t_X8_weightOf _ m (by omega) (by rw [eS33_118]; exact hn0) (by rw [eS33_118]; exact hn1) (by rw [eS33_120]; exact hwt)) rfl cm_X8_weightOf ci_X8_weightOf ml_X8_162 oq_118 rfl (Nat.le_of_ble_eq_true rfl) (Nat.le_of_ble_eq_true rfl) dX8_share_38 (fun r38 S38 hp38 => ?_)
        obtain ⟨hr38, he38⟩ := hp38
        rw [he38]
        have hw38 : r38 = (wgt (S 118 13) (fun k => S 124 (mHd S (s * 6 + k))) (S 120) m) := by rw [hr38, eS33_118, eS33_120]; exact wgt_congr (fun j a b => ⟨(hl33 j a b).1, rfl⟩)
        have hwb := wgt_nn (n := S 118 13) (mk := (fun k => S 124 (mHd S (s * 6 + k)))) (wt := S 120) (m := m) (fun i i0 i1 => by have := hwt i i0 (by omega); omega)
        rw [← hw38] at hwb
        refine j_istore (L' := [(0, .ref 118), (1, vi s), (2, vi m), (3, vi what), (4, vi r38)]) dX8_share_41 (Nat.le_of_ble_eq_true rfl) rfl ?_
        refine j_aload_n dX8_share_43 rfl ?_
        refine j_callVi (As := []) (rest := []) (t_X8_allWeights _ (by rw [eS33_118]; exact hn0) (by rw [eS33_118]; exact hn1) (by rw [eS33_120]; exact hwt)) rfl cm_X8_allWeights ci_X8_allWeights ml_X8_169 oq_118 rfl (Nat.le_of_ble_eq_true rfl) (Nat.le_of_ble_eq_true rfl) dX8_share_44 (fun r44 S44 hp44 => ?_)
        obtain ⟨hr44, he44⟩ := hp44
        rw [he44]
        rw [eS33_118, eS33_120] at hr44
        have hab := sm_bd (f := S 120) (a := 9) (n := (S 118 13).toNat) (fun i i0 i1 => by have := hwt i i0 (by omega); omega)
        have hap := sm_pos (f := S 120) (n := (S 118 13).toNat) (k := 0) (fun i i0 i1 => by have := hwt i i0 (by omega); omega) (by omega) (by omega) (by have := hwt 0 (by omega) (by omega); omega)
        rw [← hr44] at hab hap
        refine j_istore (L' := [(0, .ref 118), (1, vi s), (2, vi m), (3, vi what), (4, vi r38), (5, vi r44)]) dX8_share_47 (Nat.le_of_ble_eq_true rfl) rfl ?_
        refine j_iload dX8_share_49 rfl ?_
        refine j_i2l dX8_share_51 (by omega) ?_
        refine j_iload dX8_share_52 rfl ?_
        refine j_i2l dX8_share_54 (by omega) ?_
        refine j_callSl (As := [vl r38, vl r44]) (rest := []) (t_X8_gcd _ r38 r44 (by omega) (by omega) (by omega) (by omega)) rfl cm_X8_gcd cs_X8_gcd ml_X8_220 rfl (Nat.le_of_ble_eq_true rfl) (Nat.le_of_ble_eq_true rfl) dX8_share_55 (fun r55 S55 hp55 => ?_)
        obtain ⟨hr55, he55⟩ := hp55
        rw [he55]
        have g1 := gcdI_pos (a := r38) (b := r44) (by omega)
        have g2 := gcdI_le (a := r38) (b := r44) (by omega)
        rw [← hr55] at g1 g2
        have d1 := Int.ediv_le_self (a := r38) r55 (by omega)
        have d2 := Int.ediv_le_self (a := r44) r55 (by omega)
        have d3 := Int.ediv_nonneg (a := r38) (b := r55) (by omega) (by omega)
        have d4 := Int.ediv_nonneg (a := r44) (b := r55) (by omega) (by omega)
        refine j_l2i dX8_share_58 (by omega) ?_
        refine j_istore (L' := [(0, .ref 118), (1, vi s), (2, vi m), (3, vi what), (4, vi r38), (5, vi r44), (6, vi r55)]) dX8_share_59 (Nat.le_of_ble_eq_true rfl) rfl ?_
        refine j_iload_n dX8_share_61 rfl ?_
        refine j_if_ne (tgt := 73) dX8_share_62 (by decide) (by omega)  (fun h62 => ?_) (fun h62 => ?_)
        · refine j_iload dX8_share_73 rfl ?_
          refine j_iload dX8_share_75 rfl ?_
          refine j_idiv dX8_share_77 (by omega) (by omega) (by omega) (by omega) ?_
          exact j_iret rfl dX8_share_78 (fun h => by cases h) (hP _ _ ⟨by unfold fShare leastT; rw [if_pos (by omega), ← hr44, ← hw38, ← hr55, if_neg h62], hsm33⟩)
        · refine j_iload dX8_share_65 rfl ?_
          refine j_iload dX8_share_67 rfl ?_
          refine j_idiv dX8_share_69 (by omega) (by omega) (by omega) (by omega) ?_
          refine j_goto (tgt := 78) dX8_share_70 (by decide) ?_
          exact j_iret rfl dX8_share_78 (fun h => by cases h) (hP _ _ ⟨by unfold fShare leastT; rw [if_pos (by omega), ← hr44, ← hw38, ← hr55, if_pos h62], hsm33⟩)
      · rw [he23]
        refine j_if_ne (tgt := 31) dX8_share_26 (by decide) (by omega)  (fun h => absurd h (by decide)) (fun _ => ?_)
        refine j_iconst dX8_share_29 ?_
        exact j_iret rfl dX8_share_30 (fun h => by cases h) (hP _ _ ⟨by unfold fShare; rw [if_neg (by omega)], Same.rf⟩)
    · rw [he14]
      refine j_if_eq (tgt := 29) dX8_share_17 (by decide) (by omega)  (fun _ => ?_) (fun h => absurd h (by decide))
      refine j_iconst dX8_share_29 ?_
      exact j_iret rfl dX8_share_30 (fun h => by cases h) (hP _ _ ⟨by unfold fShare; rw [if_neg (by omega)], Same.rf⟩)
  · rw [he7]
    refine j_if_eq (tgt := 29) dX8_share_10 (by decide) (by omega)  (fun _ => ?_) (fun h => absurd h (by decide))
    refine j_iconst dX8_share_29 ?_
    exact j_iret rfl dX8_share_30 (fun h => by cases h) (hP _ _ ⟨by unfold fShare; rw [if_neg (by omega)], Same.rf⟩)
