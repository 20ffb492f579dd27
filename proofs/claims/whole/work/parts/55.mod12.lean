def BldM (S T : St) (N P k : Int) : Prop := (∀ j, 0 ≤ j → j < k → Fst (fun p => mWh S p = 8 ∧ mPl S p = j) P (-9) (T 125 (99 + 6 * N + j))) ∧ (∀ i, ¬ (99 + 6 * N ≤ i ∧ i < 99 + 6 * N + k) → ¬ (3 ≤ i ∧ i < 51) → T 125 i = S 125 i) ∧ (∀ p, 0 ≤ p → p < 48 → T 125 (3 + p) = if (0 ≤ S 125 (141 + p) ∧ S 125 (141 + p) < k) ∧ T 125 (99 + 6 * N + S 125 (141 + p)) = p then N else S 125 (3 + p))
theorem BldM.start {S T : St} {N P : Int} (h : T 125 = S 125) : BldM S T N P 0 := by
  refine ⟨fun j a b => by omega, fun i _ _ => by rw [h], fun p _ _ => ?_⟩
  rw [if_neg (by omega), h]
theorem BldM.lies {S T : St} {N P k p : Int} (h : BldM S T N P k) (hN : N ≤ 5) (hk : k < 6) (p0 : 0 ≤ p) (p1 : p < 48) : (mWh T p = 8 ∧ mPl T p = k) ↔ (mWh S p = 8 ∧ mPl S p = k) := by
  have e : mPl T p = S 125 (141 + p) := h.2.1 _ (by omega) (by omega)
  have f := h.2.2 p p0 p1
  rw [e]
  show (T 125 (3 + p) = 8 ∧ _) ↔ (S 125 (3 + p) = 8 ∧ S 125 (141 + p) = k)
  constructor
  · intro ⟨a, b⟩
    rw [if_neg (by omega)] at f
    exact ⟨f ▸ a, b⟩
  · intro ⟨a, b⟩
    rw [if_neg (by omega)] at f
    exact ⟨f.trans a, b⟩
theorem BldM.step {S T : St} {N P k q : Int} (hk : 0 ≤ k) (hk6 : k < 6) (hN0 : 0 ≤ N) (hN : N ≤ 5) (h : BldM S T N P k) (hq : Fst (fun p => mWh S p = 8 ∧ mPl S p = k) P (-9) q) (hq0 : 0 ≤ q) (hq1 : q < 48) : BldM S (up (up T 125 (99 + 6 * N + k) q) 125 (3 + q) N) N P (k + 1) := by
  have hqk : S 125 (141 + q) = k := by
    rcases hq with ⟨_, _, z, _⟩ | ⟨z, _⟩
    · exact z.2
    · omega
  refine ⟨fun j a b => ?_, fun i hi hj => ?_, fun p p0 p1 => ?_⟩
  · rw [up_i (by omega)]
    by_cases e : j = k
    · subst e
      rw [up_s]
      exact hq
    · rw [up_i (by omega)]
      exact h.1 j a (by omega)
  · rw [up_i (by omega), up_i (by omega)]
    exact h.2.1 i (by omega) hj
  · have f := h.2.2 p p0 p1
    by_cases e : p = q
    · subst e
      rw [up_s, hqk, up_i (by omega), up_s, if_pos (by omega)]
    · rw [up_i (by omega), up_i (by omega), f]
      by_cases e2 : S 125 (141 + p) = k
      · rw [e2, up_i (by omega), up_s, if_neg (by omega), if_neg (by omega)]
      · by_cases e3 : 0 ≤ S 125 (141 + p) ∧ S 125 (141 + p) < k
        · rw [up_i (by omega), up_i (by omega)]
          by_cases e4 : T 125 (99 + 6 * N + S 125 (141 + p)) = p
          · rw [if_pos ⟨e3, e4⟩, if_pos ⟨by omega, e4⟩]
          · rw [if_neg (fun z => e4 z.2), if_neg (fun z => e4 z.2)]
        · rw [if_neg (fun z => e3 z.1), if_neg (fun z => by have := z.1; omega)]
set_option maxRecDepth 100000 in
set_option maxHeartbeats 4000000 in
theorem t_X8_build (S : St)  (hM : MI S) (hu0 : 0 ≤ S 118 22) (hu1 : S 118 22 ≤ 10) : EX mX8_build [.ref 118] S (fun r S' => (Exs (fun k => 0 ≤ k ∧ k < S 118 13 ∧ ∀ p, 0 ≤ p → p < S 125 1 → ¬ (mWh S p = 8 ∧ mPl S p = k)) ∧ r = -2 ∧ S' = S) ∨ ((∀ k, 0 ≤ k → k < S 118 13 → Exs (fun p => 0 ≤ p ∧ p < S 125 1 ∧ mWh S p = 8 ∧ mPl S p = k)) ∧ 6 ≤ S 125 2 ∧ r = -3 ∧ S' = S) ∨ ((∀ k, 0 ≤ k → k < S 118 13 → Exs (fun p => 0 ≤ p ∧ p < S 125 1 ∧ mWh S p = 8 ∧ mPl S p = k)) ∧ S 125 2 < 6 ∧ r = S 125 2 ∧ ∃ S1 T, Nts S S1 ∧ Same [125] S1 T ∧ BldM S T (S 125 2) (S 125 1) (S 118 13) ∧ S' = up (up T 125 (135 + S 125 2) 9) 125 2 (S 125 2 + 1))) := by
  suffices hh : ∀ P : Int → St → Prop, (∀ r S', ((Exs (fun k => 0 ≤ k ∧ k < S 118 13 ∧ ∀ p, 0 ≤ p → p < S 125 1 → ¬ (mWh S p = 8 ∧ mPl S p = k)) ∧ r = -2 ∧ S' = S) ∨ ((∀ k, 0 ≤ k → k < S 118 13 → Exs (fun p => 0 ≤ p ∧ p < S 125 1 ∧ mWh S p = 8 ∧ mPl S p = k)) ∧ 6 ≤ S 125 2 ∧ r = -3 ∧ S' = S) ∨ ((∀ k, 0 ≤ k → k < S 118 13 → Exs (fun p => 0 ≤ p ∧ p < S 125 1 ∧ mWh S p = 8 ∧ mPl S p = k)) ∧ S 125 2 < 6 ∧ r = S 125 2 ∧ ∃ S1 T, Nts S S1 ∧ Same [125] S1 T ∧ BldM S T (S 125 2) (S 125 1) (S 118 13) ∧ S' = up (up T 125 (135 + S 125 2) 9) 125 2 (S 125 2 + 1))) → P r S') → EX mX8_build [.ref 118] S P from hh _ (fun _ _ h => h)
  intro P hP
  refine EX.of (L := [(0, .ref 118)]) rfl rfl (Nat.le_of_ble_eq_true rfl) rfl ?_
  obtain ⟨⟨hn0, hn1⟩, hwl, ⟨hp0, hp1⟩, ⟨hs0, hs1⟩, hyr, hpt, hhd, hth⟩ := id hM
  have hwt : ∀ k, 0 ≤ k → k < 6 → 1 ≤ S 120 k ∧ S 120 k ≤ 9 := fun k a b => ⟨(hwl k a b).1, (hwl k a b).2.1⟩
  refine j_aload_n dX8_build_0 rfl ?_
  refine j_iconst dX8_build_1 ?_
  refine j_putI (i := 0) dX8_build_2 fg_X8_63 ft_8_0 fq_118_0 rfl (by omega) ?_
  rw [up_thr hth]
  refine j_iconst dX8_build_5 ?_
  refine j_istore_n (L' := [(0, .ref 118), (1, vi 1)]) dX8_build_6 (Nat.le_of_ble_eq_true rfl) rfl ?_
  refine j_iconst dX8_build_7 ?_
  refine j_istore_n (L' := [(0, .ref 118), (1, vi 1), (2, vi 0)]) dX8_build_8 (Nat.le_of_ble_eq_true rfl) rfl ?_
  have lp9 : ∀ (n : Nat) (w k : Int), (S 118 13 - k).toNat < n → (0 ≤ k ∧ k ≤ S 118 13 ∧ ((w = 1 ∧ ∀ j, 0 ≤ j → j < k → Exs (fun p => 0 ≤ p ∧ p < S 125 1 ∧ mWh S p = 8 ∧ mPl S p = j)) ∨ (w = 0 ∧ Exs (fun k => 0 ≤ k ∧ k < S 118 13 ∧ ∀ p, 0 ≤ p → p < S 125 1 → ¬ (mWh S p = 8 ∧ mPl S p = k))))) → JJ mX8_build (RX mX8_build P) 9 [(0, .ref 118), (1, vi w), (2, vi k)] [] S := by
    intro n
    induction n with
    | zero => intro w k hm; exact absurd hm (Nat.not_lt_zero _)
    | succ n ih9 =>
      intro w k hm9 hv9
      obtain ⟨hv1, hv2, hv3⟩ := hv9
      refine j_iload_n dX8_build_9 rfl ?_
      refine j_aload_n dX8_build_10 rfl ?_
      refine j_getI (x := S 118 13) dX8_build_11 fg_X8_59 fq_118_13 rfl (fun hi11 => ?_)
      refine j_icmp_ge (tgt := 43) dX8_build_14 (by decide) (by omega) (by omega) (fun h14 => ?_) (fun h14 => ?_)
      · refine j_iload_n dX8_build_43 rfl ?_
        refine j_if_ne (tgt := 50) dX8_build_44 (by decide) (by omega)  (fun h44 => ?_) (fun h44 => ?_)
        · refine j_aload_n dX8_build_50 rfl ?_
          refine j_getR dX8_build_51 fg_X8_28 fq_118_18 ?_
          refine j_iconst dX8_build_54 ?_
          refine j_iald (x := S 125 2) dX8_build_55 aq_125 (by omega) (by omega) rfl (fun hi55 => ?_)
          refine j_bipush dX8_build_56 (by decide) ?_
          refine j_icmp_ne (tgt := 64) dX8_build_58 (by decide) (by omega) (by omega) (fun h58 => ?_) (fun h58 => ?_)
          · have hall : (∀ k, 0 ≤ k → k < S 118 13 → Exs (fun p => 0 ≤ p ∧ p < S 125 1 ∧ mWh S p = 8 ∧ mPl S p = k)) := by rcases hv3 with z | z; exact fun j a b => z.2 j a (by omega); have := z.1; omega
            refine j_aload_n dX8_build_64 rfl ?_
            refine j_callVv (As := []) (rest := []) (t_X8_notes _ hu0 hu1) rfl cm_X8_notes ci_X8_notes ml_X8_202 oq_118 rfl (Nat.le_of_ble_eq_true rfl) (Nat.le_of_ble_eq_true rfl) dX8_build_65 (fun r65 S65 hp65 => ?_)
            have hN65 : Nts S S65 := hp65
            have hsm65 := hN65.same
            have eS65_120 : S65 120 = S 120 := hsm65 120 (by decide)
            have eS65_121 : S65 121 = S 121 := hsm65 121 (by decide)
            have eS65_124 : S65 124 = S 124 := hsm65 124 (by decide)
            have eS65_125 : S65 125 = S 125 := hsm65 125 (by decide)
            refine j_aload_n dX8_build_68 rfl ?_
            refine j_getR dX8_build_69 fg_X8_28 fq_118_18 ?_
            refine j_iconst dX8_build_72 ?_
            refine j_iald (x := S 125 2) dX8_build_73 aq_125 (by omega) (by omega) (congrFun eS65_125 _) (fun hi73 => ?_)
            refine j_istore_n (L' := [(0, .ref 118), (1, vi w), (2, vi (S 125 2))]) dX8_build_74 (Nat.le_of_ble_eq_true rfl) rfl ?_
            refine j_iconst dX8_build_75 ?_
            refine j_istore_n (L' := [(0, .ref 118), (1, vi w), (2, vi (S 125 2)), (3, vi 0)]) dX8_build_76 (Nat.le_of_ble_eq_true rfl) rfl ?_
            have lp77 : ∀ (n : Nat) (i : Int) (T : St), (S 118 13 - i).toNat < n → (0 ≤ i ∧ i ≤ S 118 13 ∧ Same [125] S65 T ∧ BldM S T (S 125 2) (S 125 1) i) → JJ mX8_build (RX mX8_build P) 77 [(0, .ref 118), (2, vi (S 125 2)), (3, vi i)] [] T := by
              intro n
              induction n with
              | zero => intro i T hm; exact absurd hm (Nat.not_lt_zero _)
              | succ n ih77 =>
                intro i T hm77 hv77
                obtain ⟨hw1, hw2, hw3, hw4⟩ := hv77
                refine j_iload_n dX8_build_77 rfl ?_
                refine j_aload_n dX8_build_78 rfl ?_
                refine j_getI (x := S 118 13) dX8_build_79 fg_X8_59 fq_118_13 ((congrFun (hw3 118 (by decide)) 13).trans (hN65.obj (by decide))) (fun hi79 => ?_)
                refine j_icmp_ge (tgt := 124) dX8_build_82 (by decide) (by omega) (by omega) (fun h82 => ?_) (fun h82 => ?_)
                · refine j_aload_n dX8_build_124 rfl ?_
                  refine j_getR dX8_build_125 fg_X8_28 fq_118_18 ?_
                  refine j_sipush dX8_build_128 (by decide) ?_
                  refine j_iload_n dX8_build_131 rfl ?_
                  refine j_iadd dX8_build_132 ?_
                  refine j_bipush dX8_build_133 (by decide) ?_
                  refine j_iast dX8_build_135 aq_125 (by omega) (by omega) (by omega) ?_
                  refine j_aload_n dX8_build_136 rfl ?_
                  refine j_getR dX8_build_137 fg_X8_28 fq_118_18 ?_
                  refine j_iconst dX8_build_140 ?_
                  refine j_dup2 dX8_build_141 rfl rfl ?_
                  refine j_iald (x := S 125 2) dX8_build_142 aq_125 (by omega) (by omega) ((up_i (by omega)).trans (hw4.2.1 _ (by omega) (by omega))) (fun hi142 => ?_)
                  refine j_iconst dX8_build_143 ?_
                  refine j_iadd dX8_build_144 ?_
                  refine j_iast dX8_build_145 aq_125 (by omega) (by omega) (by omega) ?_
                  refine j_iload_n dX8_build_146 rfl ?_
                  exact j_iret rfl dX8_build_147 (fun h => by cases h) (hP _ _ (Or.inr (Or.inr ⟨hall, by omega, rfl, S65, T, hN65, hw3, by rw [show i = S 118 13 by omega] at hw4; exact hw4, rfl⟩)))
                · refine j_aload_n dX8_build_85 rfl ?_
                  refine j_iload_n dX8_build_86 rfl ?_
                  have e1 : T 125 1 = S 125 1 := hw4.2.1 _ (by omega) (by omega)
                  refine j_callVi (As := [vi i]) (rest := []) (t_X8_firstOf _ i (by omega) (by rw [e1]; omega) (by rw [e1]; omega)) rfl cm_X8_firstOf ci_X8_firstOf ml_X8_205 oq_118 rfl (Nat.le_of_ble_eq_true rfl) (Nat.le_of_ble_eq_true rfl) dX8_build_87 (fun r87 S87 hp87 => ?_)
                  obtain ⟨hr87, he87⟩ := hp87
                  rw [he87]
                  rw [e1] at hr87
                  have hf9 : Fst (fun p => mWh S p = 8 ∧ mPl S p = i) (S 125 1) (-9) r87 := by
                    rcases hr87 with ⟨z1, z2, z3, z4⟩ | ⟨z1, z2⟩
                    · exact Or.inl ⟨z1, z2, (hw4.lies (by omega) (by omega) z1 (by omega)).mp z3, fun q a b z => z4 q a b ((hw4.lies (by omega) (by omega) a (by omega)).mpr z)⟩
                    · exact Or.inr ⟨z1, fun q a b z => z2 q a b ((hw4.lies (by omega) (by omega) a (by omega)).mpr z)⟩
                  have hq9 : 0 ≤ r87 ∧ r87 < S 125 1 := by
                    rcases hf9 with ⟨z1, z2, z3, _⟩ | ⟨z1, z2⟩
                    · exact ⟨z1, z2⟩
                    · obtain ⟨q, q1, q2, q3⟩ := hall i (by omega) (by omega)
                      exact absurd q3 (z2 q q1 q2)
                  refine j_istore (L' := [(0, .ref 118), (2, vi (S 125 2)), (3, vi i), (4, vi r87)]) dX8_build_90 (Nat.le_of_ble_eq_true rfl) rfl ?_
                  refine j_aload_n dX8_build_92 rfl ?_
                  refine j_getR dX8_build_93 fg_X8_28 fq_118_18 ?_
                  refine j_bipush dX8_build_96 (by decide) ?_
                  refine j_bipush dX8_build_98 (by decide) ?_
                  refine j_iload_n dX8_build_100 rfl ?_
                  refine j_imul dX8_build_101 ?_
                  refine j_iadd dX8_build_102 ?_
                  refine j_iload_n dX8_build_103 rfl ?_
                  refine j_iadd dX8_build_104 ?_
                  refine j_iload dX8_build_105 rfl ?_
                  refine j_iast dX8_build_107 aq_125 (by omega) (by omega) (by omega) ?_
                  refine j_aload_n dX8_build_108 rfl ?_
                  refine j_getR dX8_build_109 fg_X8_28 fq_118_18 ?_
                  refine j_iconst dX8_build_112 ?_
                  refine j_iload dX8_build_113 rfl ?_
                  refine j_iadd dX8_build_115 ?_
                  refine j_iload_n dX8_build_116 rfl ?_
                  refine j_iast dX8_build_117 aq_125 (by omega) (by omega) (by omega) ?_
                  refine j_iinc (L' := [(0, .ref 118), (2, vi (S 125 2)), (3, vi (i + 1)), (4, vi r87)]) dX8_build_118 (Nat.le_of_ble_eq_true rfl) rfl rfl ?_
                  refine j_goto (tgt := 77) dX8_build_121 (by decide) ?_
                  refine j_sub (L' := [(0, .ref 118), (2, vi (S 125 2)), (3, vi (i + 1))]) (by simp) ?_
                  exact ih77 (i + 1) (up (up T 125 ((99 + (6 * (S 125 2))) + i) r87) 125 (3 + r87) (S 125 2)) (by omega) ⟨by omega, by omega, same_up (same_up hw3 (by decide)) (by decide), hw4.step hw1 (by omega) (by omega) (by omega) hf9 hq9.1 (by omega)⟩
            refine j_sub (L' := [(0, .ref 118), (2, vi (S 125 2)), (3, vi 0)]) (by simp) ?_
            exact lp77 _ 0 S65 (Nat.lt_succ_self _) ⟨by omega, by omega, Same.rf, BldM.start eS65_125⟩
          · have hall : (∀ k, 0 ≤ k → k < S 118 13 → Exs (fun p => 0 ≤ p ∧ p < S 125 1 ∧ mWh S p = 8 ∧ mPl S p = k)) := by rcases hv3 with z | z; exact fun j a b => z.2 j a (by omega); have := z.1; omega
            refine j_bipush dX8_build_61 (by decide) ?_
            exact j_iret rfl dX8_build_63 (fun h => by cases h) (hP _ _ (Or.inr (Or.inl ⟨hall, by omega, rfl, rfl⟩)))
        · refine j_bipush dX8_build_47 (by decide) ?_
          exact j_iret rfl dX8_build_49 (fun h => by cases h) (hP _ _ (Or.inl ⟨by rcases hv3 with z | z; have := z.1; omega; exact z.2, rfl, rfl⟩))
      · refine j_iload_n dX8_build_17 rfl ?_
        refine j_if_eq (tgt := 35) dX8_build_18 (by decide) (by omega)  (fun h18 => ?_) (fun h18 => ?_)
        · refine j_iconst dX8_build_35 ?_
          refine j_istore_n (L' := [(0, .ref 118), (1, vi 0), (2, vi k)]) dX8_build_36 (Nat.le_of_ble_eq_true rfl) rfl ?_
          refine j_iinc (L' := [(0, .ref 118), (1, vi 0), (2, vi (k + 1))]) dX8_build_37 (Nat.le_of_ble_eq_true rfl) rfl rfl ?_
          refine j_goto (tgt := 9) dX8_build_40 (by decide) ?_
          exact ih9 0 (k + 1) (by omega) ⟨by omega, by omega, (by rcases hv3 with z | z; (first | (have := z.1; omega) | (exact Or.inr ⟨rfl, k, by omega, by omega, by rcases hr23 with ⟨z1, _, _, _⟩ | ⟨_, z2⟩; omega; exact z2⟩)); exact Or.inr ⟨rfl, z.2⟩)⟩
        · refine j_aload_n dX8_build_21 rfl ?_
          refine j_iload_n dX8_build_22 rfl ?_
          refine j_callVi (As := [vi k]) (rest := []) (t_X8_firstOf _ k (by omega) (by omega) (by omega)) rfl cm_X8_firstOf ci_X8_firstOf ml_X8_205 oq_118 rfl (Nat.le_of_ble_eq_true rfl) (Nat.le_of_ble_eq_true rfl) dX8_build_23 (fun r23 S23 hp23 => ?_)
          obtain ⟨hr23, he23⟩ := hp23
          rw [he23]
          have hrb : -9 ≤ r23 ∧ r23 < 48 := by rcases hr23 with ⟨z1, z2, _, _⟩ | ⟨z1, _⟩ <;> omega
          refine j_bipush dX8_build_26 (by decide) ?_
          refine j_icmp_eq (tgt := 35) dX8_build_28 (by decide) (by omega) (by omega) (fun h28 => ?_) (fun h28 => ?_)
          · refine j_iconst dX8_build_35 ?_
            refine j_istore_n (L' := [(0, .ref 118), (1, vi 0), (2, vi k)]) dX8_build_36 (Nat.le_of_ble_eq_true rfl) rfl ?_
            refine j_iinc (L' := [(0, .ref 118), (1, vi 0), (2, vi (k + 1))]) dX8_build_37 (Nat.le_of_ble_eq_true rfl) rfl rfl ?_
            refine j_goto (tgt := 9) dX8_build_40 (by decide) ?_
            exact ih9 0 (k + 1) (by omega) ⟨by omega, by omega, (by rcases hv3 with z | z; (first | (have := z.1; omega) | (exact Or.inr ⟨rfl, k, by omega, by omega, by rcases hr23 with ⟨z1, _, _, _⟩ | ⟨_, z2⟩; omega; exact z2⟩)); exact Or.inr ⟨rfl, z.2⟩)⟩
          · refine j_iconst dX8_build_31 ?_
            refine j_goto (tgt := 36) dX8_build_32 (by decide) ?_
            refine j_istore_n (L' := [(0, .ref 118), (1, vi 1), (2, vi k)]) dX8_build_36 (Nat.le_of_ble_eq_true rfl) rfl ?_
            refine j_iinc (L' := [(0, .ref 118), (1, vi 1), (2, vi (k + 1))]) dX8_build_37 (Nat.le_of_ble_eq_true rfl) rfl rfl ?_
            refine j_goto (tgt := 9) dX8_build_40 (by decide) ?_
            exact ih9 1 (k + 1) (by omega) ⟨by omega, by omega, (by rcases hv3 with z | z; exact Or.inl ⟨rfl, fun j a b => if e : j = k then by rw [e]; rcases hr23 with ⟨z1, z2, z3, _⟩ | ⟨z1, _⟩; exact ⟨r23, z1, z2, z3⟩; omega else z.2 j a (by omega)⟩; have := z.1; omega)⟩
  exact lp9 _ 1 0 (Nat.lt_succ_self _) ⟨by omega, by omega, Or.inl ⟨rfl, fun j a b => by omega⟩⟩
