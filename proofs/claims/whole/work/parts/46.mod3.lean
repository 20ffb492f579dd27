theorem isBy_eq {n : Int} {mk ag wt : Int → Int} {law r : Int} (h0 : law ≠ 0) (h3 : law ≠ 3) (_h : 0 ≤ law ∧ law < 5) (h : Fst (fun q => (law = 1 ∧ sm wt n.toNat < 2 * wgt n mk wt q) ∨ (law = 2 ∧ isMo n mk wt q) ∨ (law ≠ 1 ∧ law ≠ 2 ∧ n ≤ 2 * cnm n mk q)) 4 (-9) r) : r = who n mk ag wt law := by
  rw [f4_eq h]
  unfold who
  rw [if_neg h0]
  by_cases h1 : law = 1
  · rw [if_pos h1]
    congr 1
    funext q
    apply propext
    constructor
    · rintro (⟨z1, z2⟩ | ⟨z1, z2⟩ | ⟨z1, z2, z3⟩)
      · exact z2
      · omega
      · omega
    · intro z; exact Or.inl ⟨h1, z⟩
  · rw [if_neg h1]
    by_cases h2 : law = 2
    · rw [if_pos h2]
      congr 1
      funext q
      apply propext
      constructor
      · rintro (⟨z1, z2⟩ | ⟨z1, z2⟩ | ⟨z1, z2, z3⟩)
        · omega
        · exact z2
        · omega
      · intro z; exact Or.inr (Or.inl ⟨h2, z⟩)
    · rw [if_neg h2, if_neg h3]
      congr 1
      funext q
      apply propext
      constructor
      · rintro (⟨z1, z2⟩ | ⟨z1, z2⟩ | ⟨z1, z2, z3⟩)
        · omega
        · omega
        · exact z3
      · intro z; exact Or.inr (Or.inr ⟨h1, h2, z⟩)
set_option maxRecDepth 100000 in
set_option maxHeartbeats 4000000 in
theorem t_X8_isBy (S : St) (law : Int) (hn0 : 2 ≤ S 118 13) (hn1 : S 118 13 ≤ 6) (hwt : ∀ k, 0 ≤ k → k < 6 → 1 ≤ S 120 k ∧ S 120 k ≤ 9) (hmk : ∀ k, 0 ≤ k → k < S 118 13 → isMk (S 131 k)) (hl0 : 0 ≤ law) (hl1 : law < 5) : EX mX8_isBy [.ref 118, vi law] S (fun r S' => r = who (S 118 13) (S 131) (S 132) (S 120) law ∧ S' = S) := by
  suffices hh : ∀ P : Int → St → Prop, (∀ r S', (r = who (S 118 13) (S 131) (S 132) (S 120) law ∧ S' = S) → P r S') → EX mX8_isBy [.ref 118, vi law] S P from hh _ (fun _ _ h => h)
  intro P hP
  refine EX.of (L := [(0, .ref 118), (1, vi law)]) rfl rfl (Nat.le_of_ble_eq_true rfl) rfl ?_
  refine j_iload_n dX8_isBy_0 rfl ?_
  refine j_if_eq (tgt := 9) dX8_isBy_1 (by decide) (by omega)  (fun h1 => ?_) (fun h1 => ?_)
  · refine j_iload_n dX8_isBy_9 rfl ?_
    refine j_if_ne (tgt := 22) dX8_isBy_10 (by decide) (by omega)  (fun h10 => ?_) (fun h10 => ?_)
    · refine j_aload_n dX8_isBy_22 rfl ?_
      refine j_callVi (As := []) (rest := []) (t_X8_oldest _ hn0 hn1) rfl cm_X8_oldest ci_X8_oldest ml_X8_165 oq_118 rfl (Nat.le_of_ble_eq_true rfl) (Nat.le_of_ble_eq_true rfl) dX8_isBy_23 (fun r23 S23 hp23 => ?_)
      obtain ⟨hr23, he23⟩ := hp23
      rw [he23]
      subst hr23
      have hob := oldI_bd (S 132) (S 118 13).toNat
      have hmo := hmk (oldI (S 132) (S 118 13).toNat) (by omega) (by omega)
      refine j_istore_n (L' := [(0, .ref 118), (1, vi law), (2, vi (S 131 (oldI (S 132) (S 118 13).toNat)))]) dX8_isBy_26 (Nat.le_of_ble_eq_true rfl) rfl ?_
      refine j_iload_n dX8_isBy_27 rfl ?_
      refine j_bipush dX8_isBy_28 (by decide) ?_
      refine j_icmp_ne (tgt := 38) dX8_isBy_30 (by decide) (by omega) (by omega) (fun h30 => ?_) (fun h30 => ?_)
      · refine j_iload_n dX8_isBy_38 rfl ?_
        exact j_iret rfl dX8_isBy_39 (fun h => by cases h) (hP _ _ ⟨by unfold who shO; (repeat' split) <;> first | omega | rfl, rfl⟩)
      · refine j_bipush dX8_isBy_33 (by decide) ?_
        refine j_goto (tgt := 39) dX8_isBy_35 (by decide) ?_
        exact j_iret rfl dX8_isBy_39 (fun h => by cases h) (hP _ _ ⟨by unfold who shO; (repeat' split) <;> first | omega | rfl, rfl⟩)
    · have hmo := hmk 0 (by omega) (by omega)
      refine j_aload_n dX8_isBy_13 rfl ?_
      refine j_getR dX8_isBy_14 fg_X8_47 fq_118_26 ?_
      refine j_iconst dX8_isBy_17 ?_
      refine j_iald (x := S 131 0) dX8_isBy_18 aq_131 (by omega) (by omega) rfl (fun hi18 => ?_)
      refine j_goto (tgt := 26) dX8_isBy_19 (by decide) ?_
      refine j_istore_n (L' := [(0, .ref 118), (1, vi law), (2, vi (S 131 0))]) dX8_isBy_26 (Nat.le_of_ble_eq_true rfl) rfl ?_
      refine j_iload_n dX8_isBy_27 rfl ?_
      refine j_bipush dX8_isBy_28 (by decide) ?_
      refine j_icmp_ne (tgt := 38) dX8_isBy_30 (by decide) (by omega) (by omega) (fun h30 => ?_) (fun h30 => ?_)
      · refine j_iload_n dX8_isBy_38 rfl ?_
        exact j_iret rfl dX8_isBy_39 (fun h => by cases h) (hP _ _ ⟨by unfold who shO; (repeat' split) <;> first | omega | rfl, rfl⟩)
      · refine j_bipush dX8_isBy_33 (by decide) ?_
        refine j_goto (tgt := 39) dX8_isBy_35 (by decide) ?_
        exact j_iret rfl dX8_isBy_39 (fun h => by cases h) (hP _ _ ⟨by unfold who shO; (repeat' split) <;> first | omega | rfl, rfl⟩)
  · refine j_iload_n dX8_isBy_4 rfl ?_
    refine j_iconst dX8_isBy_5 ?_
    refine j_icmp_ne (tgt := 40) dX8_isBy_6 (by decide) (by omega) (by omega) (fun h6 => ?_) (fun h6 => ?_)
    · refine j_iconst dX8_isBy_40 ?_
      refine j_istore_n (L' := [(0, .ref 118), (1, vi law), (2, vi 0)]) dX8_isBy_41 (Nat.le_of_ble_eq_true rfl) rfl ?_
      have lp42 : ∀ (n : Nat) (x : Int), (4 - x).toNat < n → (0 ≤ x ∧ x ≤ 4 ∧ ∀ q, 0 ≤ q → q < x → ¬ ((law = 1 ∧ sm (S 120) (S 118 13).toNat < 2 * wgt (S 118 13) (S 131) (S 120) q) ∨ (law = 2 ∧ isMo (S 118 13) (S 131) (S 120) q) ∨ (law ≠ 1 ∧ law ≠ 2 ∧ S 118 13 ≤ 2 * cnm (S 118 13) (S 131) q))) → JJ mX8_isBy (RX mX8_isBy P) 42 [(0, .ref 118), (1, vi law), (2, vi x)] [] S := by
        intro n
        induction n with
        | zero => intro x hm; exact absurd hm (Nat.not_lt_zero _)
        | succ n ih42 =>
          intro x hm42 hv42
          obtain ⟨hv1, hv2, hv3⟩ := hv42
          refine j_iload_n dX8_isBy_42 rfl ?_
          refine j_iconst dX8_isBy_43 ?_
          refine j_icmp_ge (tgt := 119) dX8_isBy_44 (by decide) (by omega) (by omega) (fun h44 => ?_) (fun h44 => ?_)
          · refine j_bipush dX8_isBy_119 (by decide) ?_
            exact j_iret rfl dX8_isBy_121 (fun h => by cases h) (hP _ _ ⟨isBy_eq (by omega) (by omega) (by omega) (Or.inr ⟨rfl, fun q a b => hv3 q a (by omega)⟩), rfl⟩)
          · refine j_iload_n dX8_isBy_47 rfl ?_
            refine j_iconst dX8_isBy_48 ?_
            refine j_icmp_ne (tgt := 74) dX8_isBy_49 (by decide) (by omega) (by omega) (fun h49 => ?_) (fun h49 => ?_)
            · refine j_iload_n dX8_isBy_74 rfl ?_
              refine j_iconst dX8_isBy_75 ?_
              refine j_icmp_ne (tgt := 87) dX8_isBy_76 (by decide) (by omega) (by omega) (fun h76 => ?_) (fun h76 => ?_)
              · refine j_iconst dX8_isBy_87 ?_
                refine j_aload_n dX8_isBy_88 rfl ?_
                refine j_iload_n dX8_isBy_89 rfl ?_
                refine j_callVi (As := [vi x]) (rest := [vi 2]) (t_X8_countOf _ x (by omega) hn0 hn1) rfl cm_X8_countOf ci_X8_countOf ml_X8_175 oq_118 rfl (Nat.le_of_ble_eq_true rfl) (Nat.le_of_ble_eq_true rfl) dX8_isBy_90 (fun r90 S90 hp90 => ?_)
                obtain ⟨hr90, he90⟩ := hp90
                rw [he90]
                subst hr90
                have hcb90 := sm_bd (f := fun q => if S 131 q = x then 1 else 0) (a := 1) (n := (S 118 13).toNat) (fun i i0 i1 => by split <;> omega)
                rw [show sm _ _ = cnm (S 118 13) (S 131) x from rfl] at hcb90
                refine j_imul dX8_isBy_93 ?_
                refine j_aload_n dX8_isBy_94 rfl ?_
                refine j_getI (x := S 118 13) dX8_isBy_95 fg_X8_59 fq_118_13 rfl (fun hi95 => ?_)
                refine j_icmp_lt (tgt := 105) dX8_isBy_98 (by decide) (by omega) (by omega) (fun h98 => ?_) (fun h98 => ?_)
                · refine j_iconst dX8_isBy_105 ?_
                  refine j_istore_n (L' := [(0, .ref 118), (1, vi law), (2, vi x), (3, vi 0)]) dX8_isBy_106 (Nat.le_of_ble_eq_true rfl) rfl ?_
                  refine j_iload_n dX8_isBy_107 rfl ?_
                  refine j_if_eq (tgt := 113) dX8_isBy_108 (by decide) (by omega)  (fun _ => ?_) (fun h => absurd h (by decide))
                  have hno : ¬ ((law = 1 ∧ sm (S 120) (S 118 13).toNat < 2 * wgt (S 118 13) (S 131) (S 120) x) ∨ (law = 2 ∧ isMo (S 118 13) (S 131) (S 120) x) ∨ (law ≠ 1 ∧ law ≠ 2 ∧ S 118 13 ≤ 2 * cnm (S 118 13) (S 131) x)) := by rintro (⟨z1, z2⟩ | ⟨z1, z2⟩ | ⟨z1, z2, z3⟩) <;> first | omega | exact hc81 z2
                  refine j_iinc (L' := [(0, .ref 118), (1, vi law), (2, vi (x + 1)), (3, vi 0)]) dX8_isBy_113 (Nat.le_of_ble_eq_true rfl) rfl rfl ?_
                  refine j_goto (tgt := 42) dX8_isBy_116 (by decide) ?_
                  refine j_sub (L' := [(0, .ref 118), (1, vi law), (2, vi (x + 1))]) (by simp) ?_
                  exact ih42 (x + 1) (by omega) ⟨by omega, by omega, fun q a b => if e : q = x then by rw [e]; exact hno else hv3 q a (by omega)⟩
                · refine j_iconst dX8_isBy_101 ?_
                  refine j_goto (tgt := 106) dX8_isBy_102 (by decide) ?_
                  refine j_istore_n (L' := [(0, .ref 118), (1, vi law), (2, vi x), (3, vi 1)]) dX8_isBy_106 (Nat.le_of_ble_eq_true rfl) rfl ?_
                  refine j_iload_n dX8_isBy_107 rfl ?_
                  refine j_if_eq (tgt := 113) dX8_isBy_108 (by decide) (by omega)  (fun h => absurd h (by decide)) (fun _ => ?_)
                  have hyes : ((law = 1 ∧ sm (S 120) (S 118 13).toNat < 2 * wgt (S 118 13) (S 131) (S 120) x) ∨ (law = 2 ∧ isMo (S 118 13) (S 131) (S 120) x) ∨ (law ≠ 1 ∧ law ≠ 2 ∧ S 118 13 ≤ 2 * cnm (S 118 13) (S 131) x)) := by first | exact Or.inl ⟨h49, by omega⟩ | exact Or.inr (Or.inl ⟨h76, hc81⟩) | exact Or.inr (Or.inr ⟨h49, h76, by omega⟩)
                  refine j_iload_n dX8_isBy_111 rfl ?_
                  exact j_iret rfl dX8_isBy_112 (fun h => by cases h) (hP _ _ ⟨isBy_eq (by omega) (by omega) (by omega) (Or.inl ⟨by omega, by omega, hyes, hv3⟩), rfl⟩)
              · refine j_aload_n dX8_isBy_79 rfl ?_
                refine j_iload_n dX8_isBy_80 rfl ?_
                refine j_callVi (As := [vi x]) (rest := []) (t_X8_isMore _ x (by omega) hn0 hn1 hwt) rfl cm_X8_isMore ci_X8_isMore ml_X8_172 oq_118 rfl (Nat.le_of_ble_eq_true rfl) (Nat.le_of_ble_eq_true rfl) dX8_isBy_81 (fun r81 S81 hp81 => ?_)
                obtain ⟨⟨rfl, hc81⟩ | ⟨rfl, hc81⟩, he81⟩ := hp81
                · rw [he81]
                  refine j_goto (tgt := 106) dX8_isBy_84 (by decide) ?_
                  refine j_istore_n (L' := [(0, .ref 118), (1, vi law), (2, vi x), (3, vi 1)]) dX8_isBy_106 (Nat.le_of_ble_eq_true rfl) rfl ?_
                  refine j_iload_n dX8_isBy_107 rfl ?_
                  refine j_if_eq (tgt := 113) dX8_isBy_108 (by decide) (by omega)  (fun h => absurd h (by decide)) (fun _ => ?_)
                  have hyes : ((law = 1 ∧ sm (S 120) (S 118 13).toNat < 2 * wgt (S 118 13) (S 131) (S 120) x) ∨ (law = 2 ∧ isMo (S 118 13) (S 131) (S 120) x) ∨ (law ≠ 1 ∧ law ≠ 2 ∧ S 118 13 ≤ 2 * cnm (S 118 13) (S 131) x)) := by first | exact Or.inl ⟨h49, by omega⟩ | exact Or.inr (Or.inl ⟨h76, hc81⟩) | exact Or.inr (Or.inr ⟨h49, h76, by omega⟩)
                  refine j_iload_n dX8_isBy_111 rfl ?_
                  exact j_iret rfl dX8_isBy_112 (fun h => by cases h) (hP _ _ ⟨isBy_eq (by omega) (by omega) (by omega) (Or.inl ⟨by omega, by omega, hyes, hv3⟩), rfl⟩)
                · rw [he81]
                  refine j_goto (tgt := 106) dX8_isBy_84 (by decide) ?_
                  refine j_istore_n (L' := [(0, .ref 118), (1, vi law), (2, vi x), (3, vi 0)]) dX8_isBy_106 (Nat.le_of_ble_eq_true rfl) rfl ?_
                  refine j_iload_n dX8_isBy_107 rfl ?_
                  refine j_if_eq (tgt := 113) dX8_isBy_108 (by decide) (by omega)  (fun _ => ?_) (fun h => absurd h (by decide))
                  have hno : ¬ ((law = 1 ∧ sm (S 120) (S 118 13).toNat < 2 * wgt (S 118 13) (S 131) (S 120) x) ∨ (law = 2 ∧ isMo (S 118 13) (S 131) (S 120) x) ∨ (law ≠ 1 ∧ law ≠ 2 ∧ S 118 13 ≤ 2 * cnm (S 118 13) (S 131) x)) := by rintro (⟨z1, z2⟩ | ⟨z1, z2⟩ | ⟨z1, z2, z3⟩) <;> first | omega | exact hc81 z2
                  refine j_iinc (L' := [(0, .ref 118), (1, vi law), (2, vi (x + 1)), (3, vi 0)]) dX8_isBy_113 (Nat.le_of_ble_eq_true rfl) rfl rfl ?_
                  refine j_goto (tgt := 42) dX8_isBy_116 (by decide) ?_
                  refine j_sub (L' := [(0, .ref 118), (1, vi law), (2, vi (x + 1))]) (by simp) ?_
                  exact ih42 (x + 1) (by omega) ⟨by omega, by omega, fun q a b => if e : q = x then by rw [e]; exact hno else hv3 q a (by omega)⟩
            · refine j_iconst dX8_isBy_52 ?_
              refine j_aload_n dX8_isBy_53 rfl ?_
              refine j_iload_n dX8_isBy_54 rfl ?_
              refine j_callVi (As := [vi x]) (rest := [vi 2]) (t_X8_weightOf _ x (by omega) hn0 hn1 hwt) rfl cm_X8_weightOf ci_X8_weightOf ml_X8_162 oq_118 rfl (Nat.le_of_ble_eq_true rfl) (Nat.le_of_ble_eq_true rfl) dX8_isBy_55 (fun r55 S55 hp55 => ?_)
              obtain ⟨hr55, he55⟩ := hp55
              rw [he55]
              subst hr55
              have hwb55 := wgt_nn (n := S 118 13) (mk := S 131) (wt := S 120) (m := x) (fun i i0 i1 => by have := hwt i i0 (by omega); omega)
              refine j_imul dX8_isBy_58 ?_
              refine j_aload_n dX8_isBy_59 rfl ?_
              refine j_callVi (As := []) (rest := [vi (2 * (wgt (S 118 13) (S 131) (S 120) x))]) (t_X8_allWeights _ hn0 hn1 hwt) rfl cm_X8_allWeights ci_X8_allWeights ml_X8_169 oq_118 rfl (Nat.le_of_ble_eq_true rfl) (Nat.le_of_ble_eq_true rfl) dX8_isBy_60 (fun r60 S60 hp60 => ?_)
              obtain ⟨hr60, he60⟩ := hp60
              rw [he60]
              subst hr60
              have hab60 := sm_bd (f := S 120) (a := 9) (n := (S 118 13).toNat) (fun i i0 i1 => by have := hwt i i0 (by omega); omega)
              refine j_icmp_le (tgt := 70) dX8_isBy_63 (by decide) (by omega) (by omega) (fun h63 => ?_) (fun h63 => ?_)
              · refine j_iconst dX8_isBy_70 ?_
                refine j_goto (tgt := 106) dX8_isBy_71 (by decide) ?_
                refine j_istore_n (L' := [(0, .ref 118), (1, vi law), (2, vi x), (3, vi 0)]) dX8_isBy_106 (Nat.le_of_ble_eq_true rfl) rfl ?_
                refine j_iload_n dX8_isBy_107 rfl ?_
                refine j_if_eq (tgt := 113) dX8_isBy_108 (by decide) (by omega)  (fun _ => ?_) (fun h => absurd h (by decide))
                have hno : ¬ ((law = 1 ∧ sm (S 120) (S 118 13).toNat < 2 * wgt (S 118 13) (S 131) (S 120) x) ∨ (law = 2 ∧ isMo (S 118 13) (S 131) (S 120) x) ∨ (law ≠ 1 ∧ law ≠ 2 ∧ S 118 13 ≤ 2 * cnm (S 118 13) (S 131) x)) := by rintro (⟨z1, z2⟩ | ⟨z1, z2⟩ | ⟨z1, z2, z3⟩) <;> first | omega | exact hc81 z2
                refine j_iinc (L' := [(0, .ref 118), (1, vi law), (2, vi (x + 1)), (3, vi 0)]) dX8_isBy_113 (Nat.le_of_ble_eq_true rfl) rfl rfl ?_
                refine j_goto (tgt := 42) dX8_isBy_116 (by decide) ?_
                refine j_sub (L' := [(0, .ref 118), (1, vi law), (2, vi (x + 1))]) (by simp) ?_
                exact ih42 (x + 1) (by omega) ⟨by omega, by omega, fun q a b => if e : q = x then by rw [e]; exact hno else hv3 q a (by omega)⟩
              · refine j_iconst dX8_isBy_66 ?_
                refine j_goto (tgt := 106) dX8_isBy_67 (by decide) ?_
                refine j_istore_n (L' := [(0, .ref 118), (1, vi law), (2, vi x), (3, vi 1)]) dX8_isBy_106 (Nat.le_of_ble_eq_true rfl) rfl ?_
                refine j_iload_n dX8_isBy_107 rfl ?_
                refine j_if_eq (tgt := 113) dX8_isBy_108 (by decide) (by omega)  (fun h => absurd h (by decide)) (fun _ => ?_)
                have hyes : ((law = 1 ∧ sm (S 120) (S 118 13).toNat < 2 * wgt (S 118 13) (S 131) (S 120) x) ∨ (law = 2 ∧ isMo (S 118 13) (S 131) (S 120) x) ∨ (law ≠ 1 ∧ law ≠ 2 ∧ S 118 13 ≤ 2 * cnm (S 118 13) (S 131) x)) := by first | exact Or.inl ⟨h49, by omega⟩ | exact Or.inr (Or.inl ⟨h76, hc81⟩) | exact Or.inr (Or.inr ⟨h49, h76, by omega⟩)
                refine j_iload_n dX8_isBy_111 rfl ?_
                exact j_iret rfl dX8_isBy_112 (fun h => by cases h) (hP _ _ ⟨isBy_eq (by omega) (by omega) (by omega) (Or.inl ⟨by omega, by omega, hyes, hv3⟩), rfl⟩)
      exact lp42 _ 0 (Nat.lt_succ_self _) ⟨by omega, by omega, fun q a b => by omega⟩
    · refine j_iload_n dX8_isBy_9 rfl ?_
      refine j_if_ne (tgt := 22) dX8_isBy_10 (by decide) (by omega)  (fun h10 => ?_) (fun h10 => ?_)
      · refine j_aload_n dX8_isBy_22 rfl ?_
        refine j_callVi (As := []) (rest := []) (t_X8_oldest _ hn0 hn1) rfl cm_X8_oldest ci_X8_oldest ml_X8_165 oq_118 rfl (Nat.le_of_ble_eq_true rfl) (Nat.le_of_ble_eq_true rfl) dX8_isBy_23 (fun r23 S23 hp23 => ?_)
        obtain ⟨hr23, he23⟩ := hp23
        rw [he23]
        subst hr23
        have hob := oldI_bd (S 132) (S 118 13).toNat
        have hmo := hmk (oldI (S 132) (S 118 13).toNat) (by omega) (by omega)
        refine j_istore_n (L' := [(0, .ref 118), (1, vi law), (2, vi (S 131 (oldI (S 132) (S 118 13).toNat)))]) dX8_isBy_26 (Nat.le_of_ble_eq_true rfl) rfl ?_
        refine j_iload_n dX8_isBy_27 rfl ?_
        refine j_bipush dX8_isBy_28 (by decide) ?_
        refine j_icmp_ne (tgt := 38) dX8_isBy_30 (by decide) (by omega) (by omega) (fun h30 => ?_) (fun h30 => ?_)
        · refine j_iload_n dX8_isBy_38 rfl ?_
          exact j_iret rfl dX8_isBy_39 (fun h => by cases h) (hP _ _ ⟨by unfold who shO; (repeat' split) <;> first | omega | rfl, rfl⟩)
        · refine j_bipush dX8_isBy_33 (by decide) ?_
          refine j_goto (tgt := 39) dX8_isBy_35 (by decide) ?_
          exact j_iret rfl dX8_isBy_39 (fun h => by cases h) (hP _ _ ⟨by unfold who shO; (repeat' split) <;> first | omega | rfl, rfl⟩)
      · have hmo := hmk 0 (by omega) (by omega)
        refine j_aload_n dX8_isBy_13 rfl ?_
        refine j_getR dX8_isBy_14 fg_X8_47 fq_118_26 ?_
        refine j_iconst dX8_isBy_17 ?_
        refine j_iald (x := S 131 0) dX8_isBy_18 aq_131 (by omega) (by omega) rfl (fun hi18 => ?_)
        refine j_goto (tgt := 26) dX8_isBy_19 (by decide) ?_
        refine j_istore_n (L' := [(0, .ref 118), (1, vi law), (2, vi (S 131 0))]) dX8_isBy_26 (Nat.le_of_ble_eq_true rfl) rfl ?_
        refine j_iload_n dX8_isBy_27 rfl ?_
        refine j_bipush dX8_isBy_28 (by decide) ?_
        refine j_icmp_ne (tgt := 38) dX8_isBy_30 (by decide) (by omega) (by omega) (fun h30 => ?_) (fun h30 => ?_)
        · refine j_iload_n dX8_isBy_38 rfl ?_
          exact j_iret rfl dX8_isBy_39 (fun h => by cases h) (hP _ _ ⟨by unfold who shO; (repeat' split) <;> first | omega | rfl, rfl⟩)
        · refine j_bipush dX8_isBy_33 (by decide) ?_
          refine j_goto (tgt := 39) dX8_isBy_35 (by decide) ?_
          exact j_iret rfl dX8_isBy_39 (fun h => by cases h) (hP _ _ ⟨by unfold who shO; (repeat' split) <;> first | omega | rfl, rfl⟩)
