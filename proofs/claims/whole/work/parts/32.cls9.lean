theorem EO.tr {S T : St} (hK : ChK S) (h : ChS S T) : (∀ k p c, EO T k p c ↔ EO S k p c) ∧ (∀ k p, qual T k p ↔ qual S k p) ∧ (∀ k, own T k = own S k) := by
  obtain ⟨hK', eM, eA, eG, eD⟩ := hK.tr h
  have e1 := h.1 1 (by decide); have e27 := h.1 27 (by decide); have e28 := h.1 28 (by decide); have e29 := h.1 29 (by decide)
  have e30 := h.1 30 (by decide); have e31 := h.1 31 (by decide); have e33 := h.1 33 (by decide)
  have a7 := h.2.1 7 (by decide) (by decide); have a9 := h.2.1 9 (by decide) (by decide)
  refine ⟨fun k p c => ?_, fun k p => ?_, fun k => ?_⟩
  · unfold EO cO age own; rw [eA, e1, e27, e28, e30, e31, e33, a7]
  · unfold qual own; rw [e27, e28, e29, e31, e33, a7, a9]
  · unfold own; rw [e33, a7]
set_option maxRecDepth 100000 in
set_option maxHeartbeats 4000000 in
theorem t_X0_seekOldest (S : St) (hK : ChK S) (hl3 : S 8 8 = 3) (hf0 : S 8 5 = 0) (hfe : S 8 6 = S 1 0 + 1) : EX mX0_seekOldest [.ref 8] S (fun r S' => BecR (S 1 0) (cO S) (cG S) (S' 8 5) (S' 8 6) (S' 10) ∧ ChS S S') := by
  suffices hh : ∀ P : Int → St → Prop, (∀ r S', (BecR (S 1 0) (cO S) (cG S) (S' 8 5) (S' 8 6) (S' 10) ∧ ChS S S') → P r S') → EX mX0_seekOldest [.ref 8] S P from hh _ (fun _ _ h => h)
  intro P hP
  refine EX.of (L := [(0, .ref 8)]) rfl rfl (Nat.le_of_ble_eq_true rfl) rfl ?_
  obtain ⟨hX, ⟨sh0, sh1⟩, ⟨hl0, hl1⟩, ⟨hg0, hg1⟩, hfd, hfw0, hfw1⟩ := id hK
  obtain ⟨⟨hn0, hn1⟩, hwl, ⟨hp0, hp1⟩, ⟨hs0, hs1⟩, hyr, hpt, hhd⟩ := id hX
  have hwt : ∀ k, 0 ≤ k → k < 6 → 1 ≤ S 2 k ∧ S 2 k ≤ 9 := fun k a b => ⟨(hwl k a b).1, (hwl k a b).2.1⟩
  have hS0 : ChS S S := ⟨Same.rf, fun _ _ _ => rfl, hfd, hfw0, hfw1⟩
  refine j_iconst dX0_seekOldest_0 ?_
  refine j_istore_n (L' := [(0, .ref 8), (1, vi 0)]) dX0_seekOldest_1 (Nat.le_of_ble_eq_true rfl) rfl ?_
  have lp2 : ∀ (n : Nat) (k : Int) (T : St), (S 1 0 - k).toNat < n → ((0 ≤ k ∧ k ≤ S 1 0) ∧ Opt (S 1 0) (DO S k 0) (T 8 5) (T 8 6) (T 10) ∧ ChS S T) → JJ mX0_seekOldest (RX mX0_seekOldest P) 2 [(0, .ref 8), (1, vi k)] [] T := by
    intro n
    induction n with
    | zero => intro k T hm; exact absurd hm (Nat.not_lt_zero _)
    | succ n ih2 =>
      intro k T hm2 hv2
      obtain ⟨hv1, hv2, hv3⟩ := hv2
      have hsmT := hv3.1
      have eT_1 : T 1 = S 1 := hsmT 1 (by decide)
      have eT_2 : T 2 = S 2 := hsmT 2 (by decide)
      have eT_3 : T 3 = S 3 := hsmT 3 (by decide)
      have eT_27 : T 27 = S 27 := hsmT 27 (by decide)
      have eT_28 : T 28 = S 28 := hsmT 28 (by decide)
      have eT_29 : T 29 = S 29 := hsmT 29 (by decide)
      have eT_30 : T 30 = S 30 := hsmT 30 (by decide)
      have eT_31 : T 31 = S 31 := hsmT 31 (by decide)
      have eT_33 : T 33 = S 33 := hsmT 33 (by decide)
      have hT7 : T 8 7 = S 8 7 := hv3.2.1 7 (by decide) (by decide)
      have hT9 : T 8 9 = S 8 9 := hv3.2.1 9 (by decide) (by decide)
      refine j_iload_n dX0_seekOldest_2 rfl ?_
      refine j_aload_n dX0_seekOldest_3 rfl ?_
      refine j_getR dX0_seekOldest_4 fg_X0_35 fq_8_0 ?_
      refine j_getI (x := S 1 0) dX0_seekOldest_7 fg_X0_47 fq_1_0 (congrFun eT_1 _) (fun hi7 => ?_)
      refine j_icmp_ge (tgt := 113) dX0_seekOldest_10 (by decide) (by omega) (by omega) (fun h10 => ?_) (fun h10 => ?_)
      · exact j_vret rfl dX0_seekOldest_113 (fun h => by cases h) (hP _ _ ⟨by rw [show k = S 1 0 by omega] at hv2; exact Opt.bec hv2 (DO.all hX sh0 sh1 hl3 hg0 hg1), hv3⟩)
      · refine j_aload_n dX0_seekOldest_13 rfl ?_
        refine j_getR dX0_seekOldest_14 fg_X0_39 fq_8_1 ?_
        refine j_aload_n dX0_seekOldest_17 rfl ?_
        refine j_getI (x := S 8 7) dX0_seekOldest_18 fg_X0_26 fq_8_7 hT7 (fun hi18 => ?_)
        refine j_iload_n dX0_seekOldest_21 rfl ?_
        refine j_callVi (As := [vi (S 8 7), vi k]) (rest := []) (t_X1_partAt _ (S 8 7) k (by omega) (by omega) (by omega) (by omega)) rfl cm_X1_partAt ci_X1_partAt ml_X0_72 oq_27 rfl (Nat.le_of_ble_eq_true rfl) (Nat.le_of_ble_eq_true rfl) dX0_seekOldest_22 (fun r22 S22 hp22 => ?_)
        obtain ⟨hr22, he22⟩ := hp22
        rw [eT_33] at hr22
        rw [he22]
        have hgk := hhd (S 8 7) k sh0 sh1 (by omega) (by omega)
        have hro : r22 = own S k := hr22
        refine j_istore_n (L' := [(0, .ref 8), (1, vi k), (2, vi r22)]) dX0_seekOldest_25 (Nat.le_of_ble_eq_true rfl) rfl ?_
        refine j_iconst dX0_seekOldest_26 ?_
        refine j_istore_n (L' := [(0, .ref 8), (1, vi k), (2, vi r22), (3, vi 0)]) dX0_seekOldest_27 (Nat.le_of_ble_eq_true rfl) rfl ?_
        have lp28 : ∀ (n : Nat) (p : Int) (U : St), (S 27 1 - p).toNat < n → ((0 ≤ p ∧ p ≤ S 27 1) ∧ Opt (S 1 0) (DO S k p) (U 8 5) (U 8 6) (U 10) ∧ ChS S U) → JJ mX0_seekOldest (RX mX0_seekOldest P) 28 [(0, .ref 8), (1, vi k), (2, vi r22), (3, vi p)] [] U := by
          intro n
          induction n with
          | zero => intro p U hm; exact absurd hm (Nat.not_lt_zero _)
          | succ n ih28 =>
            intro p U hm28 hv28
            obtain ⟨hu1, hu2, hu3⟩ := hv28
            have hsmU := hu3.1
            have eU_1 : U 1 = S 1 := hsmU 1 (by decide)
            have eU_2 : U 2 = S 2 := hsmU 2 (by decide)
            have eU_3 : U 3 = S 3 := hsmU 3 (by decide)
            have eU_27 : U 27 = S 27 := hsmU 27 (by decide)
            have eU_28 : U 28 = S 28 := hsmU 28 (by decide)
            have eU_29 : U 29 = S 29 := hsmU 29 (by decide)
            have eU_30 : U 30 = S 30 := hsmU 30 (by decide)
            have eU_31 : U 31 = S 31 := hsmU 31 (by decide)
            have eU_33 : U 33 = S 33 := hsmU 33 (by decide)
            have hU7 : U 8 7 = S 8 7 := hu3.2.1 7 (by decide) (by decide)
            have hU9 : U 8 9 = S 8 9 := hu3.2.1 9 (by decide) (by decide)
            refine j_iload_n dX0_seekOldest_28 rfl ?_
            refine j_aload_n dX0_seekOldest_29 rfl ?_
            refine j_getR dX0_seekOldest_30 fg_X0_39 fq_8_1 ?_
            refine j_getI (x := S 27 1) dX0_seekOldest_33 fg_X0_81 fq_27_1 (congrFun eU_27 _) (fun hi33 => ?_)
            refine j_icmp_ge (tgt := 107) dX0_seekOldest_36 (by decide) (by omega) (by omega) (fun h36 => ?_) (fun h36 => ?_)
            · refine j_iinc (L' := [(0, .ref 8), (1, vi (k + 1)), (2, vi r22), (3, vi p)]) dX0_seekOldest_107 (Nat.le_of_ble_eq_true rfl) rfl rfl ?_
              refine j_goto (tgt := 2) dX0_seekOldest_110 (by decide) ?_
              refine j_sub (L' := [(0, .ref 8), (1, vi (k + 1))]) (by simp) ?_
              exact ih2 (k + 1) U (by omega) ⟨by omega, by rw [show DO S (k + 1) 0 = DO S k (S 27 1) from funext fun c => propext (DO.next c)]; rw [show p = S 27 1 by omega] at hu2; exact hu2, hu3⟩
            · refine j_iload_n dX0_seekOldest_39 rfl ?_
              refine j_iload_n dX0_seekOldest_40 rfl ?_
              refine j_icmp_eq (tgt := 56) dX0_seekOldest_41 (by decide) (by omega) (by omega) (fun h41 => ?_) (fun h41 => ?_)
              · refine j_iconst dX0_seekOldest_56 ?_
                refine j_goto (tgt := 61) dX0_seekOldest_57 (by decide) ?_
                refine j_istore (L' := [(0, .ref 8), (1, vi k), (2, vi r22), (3, vi p), (4, vi 1)]) dX0_seekOldest_61 (Nat.le_of_ble_eq_true rfl) rfl ?_
                refine j_iload dX0_seekOldest_63 rfl ?_
                refine j_if_eq (tgt := 101) dX0_seekOldest_65 (by decide) (by omega)  (fun h => absurd h (by decide)) (fun _ => ?_)
                have hpp := hpt p (by omega) (by omega)
                refine j_aload_n dX0_seekOldest_68 rfl ?_
                refine j_getR dX0_seekOldest_69 fg_X0_39 fq_8_1 ?_
                refine j_getR dX0_seekOldest_72 fg_X0_78 fq_27_4 ?_
                refine j_iload_n dX0_seekOldest_75 rfl ?_
                refine j_iald (x := S 29 p) dX0_seekOldest_76 aq_29 (by omega) (by omega) (congrFun eU_29 _) (fun hi76 => ?_)
                refine j_aload_n dX0_seekOldest_77 rfl ?_
                refine j_getI (x := S 8 9) dX0_seekOldest_78 fg_X0_32 fq_8_9 hU9 (fun hi78 => ?_)
                refine j_icmp_ne (tgt := 101) dX0_seekOldest_81 (by decide) (by omega) (by omega) (fun h81 => ?_) (fun h81 => ?_)
                · refine j_iinc (L' := [(0, .ref 8), (1, vi k), (2, vi r22), (3, vi (p + 1)), (4, vi 1)]) dX0_seekOldest_101 (Nat.le_of_ble_eq_true rfl) rfl rfl ?_
                  refine j_goto (tgt := 28) dX0_seekOldest_104 (by decide) ?_
                  refine j_sub (L' := [(0, .ref 8), (1, vi k), (2, vi r22), (3, vi (p + 1))]) (by simp) ?_
                  exact ih28 (p + 1) U (by omega) ⟨by omega, by rw [show DO S k (p + 1) = DO S k p from funext fun c => propext (DO.skip (fun z => h81 z.2.2) c)]; exact hu2, hu3⟩
                · have hqu : qual S k p := ⟨⟨by omega, by omega⟩, by first | exact Or.inl (h41.trans hro) | exact Or.inr hc50, h81⟩
                  obtain ⟨t1, t2, t3⟩ := EO.tr hK hu3
                  refine j_aload_n dX0_seekOldest_84 rfl ?_
                  refine j_iload_n dX0_seekOldest_85 rfl ?_
                  refine j_iload_n dX0_seekOldest_86 rfl ?_
                  refine j_iload_n dX0_seekOldest_87 rfl ?_
                  refine j_iload_n dX0_seekOldest_88 rfl ?_
                  refine j_icmp_ne (tgt := 97) dX0_seekOldest_89 (by decide) (by omega) (by omega) (fun h89 => ?_) (fun h89 => ?_)
                  · refine j_iload_n dX0_seekOldest_97 rfl ?_
                    refine j_callVv (As := [vi k, vi p, vi p]) (rest := []) (t_X0_tryOldest _ (DO S k p) k p p (hK.tr hu3).1 (by omega) (by rw [eU_1]; omega) ((t2 k p).mpr hqu) (by rw [t3]; first | exact Or.inl ⟨rfl, h89.trans hro⟩ | exact Or.inr ⟨rfl, fun z => h89 (z.trans hro.symm)⟩) (by rw [eU_1]; exact hu2)) rfl cm_X0_tryOldest ci_X0_tryOldest ml_X0_97 oq_8 rfl (Nat.le_of_ble_eq_true rfl) (Nat.le_of_ble_eq_true rfl) dX0_seekOldest_98 (fun r98 S98 hp98 => ?_)
                    obtain ⟨ho98, hs98⟩ := hp98
                    rw [eU_1] at ho98
                    rw [show (fun c => DO S k p c ∨ EO U k p c) = fun c => DO S k p c ∨ EO S k p c from funext fun c => propext (or_congr Iff.rfl (t1 k p c))] at ho98
                    refine j_iinc (L' := [(0, .ref 8), (1, vi k), (2, vi r22), (3, vi (p + 1)), (4, vi 1)]) dX0_seekOldest_101 (Nat.le_of_ble_eq_true rfl) rfl rfl ?_
                    refine j_goto (tgt := 28) dX0_seekOldest_104 (by decide) ?_
                    refine j_sub (L' := [(0, .ref 8), (1, vi k), (2, vi r22), (3, vi (p + 1))]) (by simp) ?_
                    exact ih28 (p + 1) S98 (by omega) ⟨by omega, by rw [show DO S k (p + 1) = fun c => DO S k p c ∨ EO S k p c from funext fun c => propext (DO.add (by omega) (by omega) hqu c)]; exact ho98, hu3.tr hs98⟩
                  · refine j_bipush dX0_seekOldest_92 (by decide) ?_
                    refine j_goto (tgt := 98) dX0_seekOldest_94 (by decide) ?_
                    refine j_callVv (As := [vi k, vi p, vi (-5)]) (rest := []) (t_X0_tryOldest _ (DO S k p) k p (-5) (hK.tr hu3).1 (by omega) (by rw [eU_1]; omega) ((t2 k p).mpr hqu) (by rw [t3]; first | exact Or.inl ⟨rfl, h89.trans hro⟩ | exact Or.inr ⟨rfl, fun z => h89 (z.trans hro.symm)⟩) (by rw [eU_1]; exact hu2)) rfl cm_X0_tryOldest ci_X0_tryOldest ml_X0_97 oq_8 rfl (Nat.le_of_ble_eq_true rfl) (Nat.le_of_ble_eq_true rfl) dX0_seekOldest_98 (fun r98 S98 hp98 => ?_)
                    obtain ⟨ho98, hs98⟩ := hp98
                    rw [eU_1] at ho98
                    rw [show (fun c => DO S k p c ∨ EO U k p c) = fun c => DO S k p c ∨ EO S k p c from funext fun c => propext (or_congr Iff.rfl (t1 k p c))] at ho98
                    refine j_iinc (L' := [(0, .ref 8), (1, vi k), (2, vi r22), (3, vi (p + 1)), (4, vi 1)]) dX0_seekOldest_101 (Nat.le_of_ble_eq_true rfl) rfl rfl ?_
                    refine j_goto (tgt := 28) dX0_seekOldest_104 (by decide) ?_
                    refine j_sub (L' := [(0, .ref 8), (1, vi k), (2, vi r22), (3, vi (p + 1))]) (by simp) ?_
                    exact ih28 (p + 1) S98 (by omega) ⟨by omega, by rw [show DO S k (p + 1) = fun c => DO S k p c ∨ EO S k p c from funext fun c => propext (DO.add (by omega) (by omega) hqu c)]; exact ho98, hu3.tr hs98⟩
              · refine j_aload_n dX0_seekOldest_44 rfl ?_
                refine j_getR dX0_seekOldest_45 fg_X0_39 fq_8_1 ?_
                refine j_iload_n dX0_seekOldest_48 rfl ?_
                refine j_iload_n dX0_seekOldest_49 rfl ?_
                refine j_callVi (As := [vi p, vi k]) (rest := []) (t_X1_liesFor _ p k (by omega) (by omega) (by omega)) rfl cm_X1_liesFor ci_X1_liesFor ml_X0_84 oq_27 rfl (Nat.le_of_ble_eq_true rfl) (Nat.le_of_ble_eq_true rfl) dX0_seekOldest_50 (fun r50 S50 hp50 => ?_)
                obtain ⟨⟨rfl, hc50⟩ | ⟨rfl, hc50⟩, he50⟩ := hp50
                · rw [he50]
                  rw [eU_31] at hc50
                  rw [eU_28] at hc50
                  refine j_if_eq (tgt := 60) dX0_seekOldest_53 (by decide) (by omega)  (fun h => absurd h (by decide)) (fun _ => ?_)
                  refine j_iconst dX0_seekOldest_56 ?_
                  refine j_goto (tgt := 61) dX0_seekOldest_57 (by decide) ?_
                  refine j_istore (L' := [(0, .ref 8), (1, vi k), (2, vi r22), (3, vi p), (4, vi 1)]) dX0_seekOldest_61 (Nat.le_of_ble_eq_true rfl) rfl ?_
                  refine j_iload dX0_seekOldest_63 rfl ?_
                  refine j_if_eq (tgt := 101) dX0_seekOldest_65 (by decide) (by omega)  (fun h => absurd h (by decide)) (fun _ => ?_)
                  have hpp := hpt p (by omega) (by omega)
                  refine j_aload_n dX0_seekOldest_68 rfl ?_
                  refine j_getR dX0_seekOldest_69 fg_X0_39 fq_8_1 ?_
                  refine j_getR dX0_seekOldest_72 fg_X0_78 fq_27_4 ?_
                  refine j_iload_n dX0_seekOldest_75 rfl ?_
                  refine j_iald (x := S 29 p) dX0_seekOldest_76 aq_29 (by omega) (by omega) (congrFun eU_29 _) (fun hi76 => ?_)
                  refine j_aload_n dX0_seekOldest_77 rfl ?_
                  refine j_getI (x := S 8 9) dX0_seekOldest_78 fg_X0_32 fq_8_9 hU9 (fun hi78 => ?_)
                  refine j_icmp_ne (tgt := 101) dX0_seekOldest_81 (by decide) (by omega) (by omega) (fun h81 => ?_) (fun h81 => ?_)
                  · refine j_iinc (L' := [(0, .ref 8), (1, vi k), (2, vi r22), (3, vi (p + 1)), (4, vi 1)]) dX0_seekOldest_101 (Nat.le_of_ble_eq_true rfl) rfl rfl ?_
                    refine j_goto (tgt := 28) dX0_seekOldest_104 (by decide) ?_
                    refine j_sub (L' := [(0, .ref 8), (1, vi k), (2, vi r22), (3, vi (p + 1))]) (by simp) ?_
                    exact ih28 (p + 1) U (by omega) ⟨by omega, by rw [show DO S k (p + 1) = DO S k p from funext fun c => propext (DO.skip (fun z => h81 z.2.2) c)]; exact hu2, hu3⟩
                  · have hqu : qual S k p := ⟨⟨by omega, by omega⟩, by first | exact Or.inl (h41.trans hro) | exact Or.inr hc50, h81⟩
                    obtain ⟨t1, t2, t3⟩ := EO.tr hK hu3
                    refine j_aload_n dX0_seekOldest_84 rfl ?_
                    refine j_iload_n dX0_seekOldest_85 rfl ?_
                    refine j_iload_n dX0_seekOldest_86 rfl ?_
                    refine j_iload_n dX0_seekOldest_87 rfl ?_
                    refine j_iload_n dX0_seekOldest_88 rfl ?_
                    refine j_icmp_ne (tgt := 97) dX0_seekOldest_89 (by decide) (by omega) (by omega) (fun h89 => ?_) (fun h89 => ?_)
                    · refine j_iload_n dX0_seekOldest_97 rfl ?_
                      refine j_callVv (As := [vi k, vi p, vi p]) (rest := []) (t_X0_tryOldest _ (DO S k p) k p p (hK.tr hu3).1 (by omega) (by rw [eU_1]; omega) ((t2 k p).mpr hqu) (by rw [t3]; first | exact Or.inl ⟨rfl, h89.trans hro⟩ | exact Or.inr ⟨rfl, fun z => h89 (z.trans hro.symm)⟩) (by rw [eU_1]; exact hu2)) rfl cm_X0_tryOldest ci_X0_tryOldest ml_X0_97 oq_8 rfl (Nat.le_of_ble_eq_true rfl) (Nat.le_of_ble_eq_true rfl) dX0_seekOldest_98 (fun r98 S98 hp98 => ?_)
                      obtain ⟨ho98, hs98⟩ := hp98
                      rw [eU_1] at ho98
                      rw [show (fun c => DO S k p c ∨ EO U k p c) = fun c => DO S k p c ∨ EO S k p c from funext fun c => propext (or_congr Iff.rfl (t1 k p c))] at ho98
                      refine j_iinc (L' := [(0, .ref 8), (1, vi k), (2, vi r22), (3, vi (p + 1)), (4, vi 1)]) dX0_seekOldest_101 (Nat.le_of_ble_eq_true rfl) rfl rfl ?_
                      refine j_goto (tgt := 28) dX0_seekOldest_104 (by decide) ?_
                      refine j_sub (L' := [(0, .ref 8), (1, vi k), (2, vi r22), (3, vi (p + 1))]) (by simp) ?_
                      exact ih28 (p + 1) S98 (by omega) ⟨by omega, by rw [show DO S k (p + 1) = fun c => DO S k p c ∨ EO S k p c from funext fun c => propext (DO.add (by omega) (by omega) hqu c)]; exact ho98, hu3.tr hs98⟩
                    · refine j_bipush dX0_seekOldest_92 (by decide) ?_
                      refine j_goto (tgt := 98) dX0_seekOldest_94 (by decide) ?_
                      refine j_callVv (As := [vi k, vi p, vi (-5)]) (rest := []) (t_X0_tryOldest _ (DO S k p) k p (-5) (hK.tr hu3).1 (by omega) (by rw [eU_1]; omega) ((t2 k p).mpr hqu) (by rw [t3]; first | exact Or.inl ⟨rfl, h89.trans hro⟩ | exact Or.inr ⟨rfl, fun z => h89 (z.trans hro.symm)⟩) (by rw [eU_1]; exact hu2)) rfl cm_X0_tryOldest ci_X0_tryOldest ml_X0_97 oq_8 rfl (Nat.le_of_ble_eq_true rfl) (Nat.le_of_ble_eq_true rfl) dX0_seekOldest_98 (fun r98 S98 hp98 => ?_)
                      obtain ⟨ho98, hs98⟩ := hp98
                      rw [eU_1] at ho98
                      rw [show (fun c => DO S k p c ∨ EO U k p c) = fun c => DO S k p c ∨ EO S k p c from funext fun c => propext (or_congr Iff.rfl (t1 k p c))] at ho98
                      refine j_iinc (L' := [(0, .ref 8), (1, vi k), (2, vi r22), (3, vi (p + 1)), (4, vi 1)]) dX0_seekOldest_101 (Nat.le_of_ble_eq_true rfl) rfl rfl ?_
                      refine j_goto (tgt := 28) dX0_seekOldest_104 (by decide) ?_
                      refine j_sub (L' := [(0, .ref 8), (1, vi k), (2, vi r22), (3, vi (p + 1))]) (by simp) ?_
                      exact ih28 (p + 1) S98 (by omega) ⟨by omega, by rw [show DO S k (p + 1) = fun c => DO S k p c ∨ EO S k p c from funext fun c => propext (DO.add (by omega) (by omega) hqu c)]; exact ho98, hu3.tr hs98⟩
                · rw [he50]
                  rw [eU_31] at hc50
                  rw [eU_28] at hc50
                  refine j_if_eq (tgt := 60) dX0_seekOldest_53 (by decide) (by omega)  (fun _ => ?_) (fun h => absurd h (by decide))
                  refine j_iconst dX0_seekOldest_60 ?_
                  refine j_istore (L' := [(0, .ref 8), (1, vi k), (2, vi r22), (3, vi p), (4, vi 0)]) dX0_seekOldest_61 (Nat.le_of_ble_eq_true rfl) rfl ?_
                  refine j_iload dX0_seekOldest_63 rfl ?_
                  refine j_if_eq (tgt := 101) dX0_seekOldest_65 (by decide) (by omega)  (fun _ => ?_) (fun h => absurd h (by decide))
                  refine j_iinc (L' := [(0, .ref 8), (1, vi k), (2, vi r22), (3, vi (p + 1)), (4, vi 0)]) dX0_seekOldest_101 (Nat.le_of_ble_eq_true rfl) rfl rfl ?_
                  refine j_goto (tgt := 28) dX0_seekOldest_104 (by decide) ?_
                  refine j_sub (L' := [(0, .ref 8), (1, vi k), (2, vi r22), (3, vi (p + 1))]) (by simp) ?_
                  exact ih28 (p + 1) U (by omega) ⟨by omega, by rw [show DO S k (p + 1) = DO S k p from funext fun c => propext (DO.skip (fun z => (by rcases z.2.1 with w | w; exact h41 (w.trans hro.symm); exact hc50 w)) c)]; exact hu2, hu3⟩
        exact lp28 _ 0 T (Nat.lt_succ_self _) ⟨by omega, hv2, hv3⟩
  exact lp2 _ 0 S (Nat.lt_succ_self _) ⟨by omega, Or.inl ⟨hf0, hfe, DO.zero⟩, hS0⟩
set_option maxRecDepth 100000 in
set_option maxHeartbeats 4000000 in
theorem t_X0_seek (S : St) (s law goal : Int) (hX : XI S) (sh0 : 0 ≤ s) (sh1 : s < S 27 2) (hl0 : 0 ≤ law) (hl1 : law < 5) (hg0 : 0 ≤ goal) (hg1 : goal ≤ 3) : EX mX0_seek [.ref 8, vi s, vi law, vi goal] S (fun r S' => BecR (S 1 0) (okC (S 1 0) (S 27 1) (S 31) (S 28)) (GoC (S 1 0) (fun j => S 29 (S 33 (s * 6 + j))) (fun j => S 30 (S 33 (s * 6 + j))) (S 29) (S 30) (S 2) law goal) (S' 8 5) (S' 8 6) (S' 10) ∧ Same [5, 6, 7, 8, 9, 10] S S') := by
  suffices hh : ∀ P : Int → St → Prop, (∀ r S', (BecR (S 1 0) (okC (S 1 0) (S 27 1) (S 31) (S 28)) (GoC (S 1 0) (fun j => S 29 (S 33 (s * 6 + j))) (fun j => S 30 (S 33 (s * 6 + j))) (S 29) (S 30) (S 2) law goal) (S' 8 5) (S' 8 6) (S' 10) ∧ Same [5, 6, 7, 8, 9, 10] S S') → P r S') → EX mX0_seek [.ref 8, vi s, vi law, vi goal] S P from hh _ (fun _ _ h => h)
  intro P hP
  refine EX.of (L := [(0, .ref 8), (1, vi s), (2, vi law), (3, vi goal)]) rfl rfl (Nat.le_of_ble_eq_true rfl) rfl ?_
  obtain ⟨⟨hn0, hn1⟩, hwl, ⟨hp0, hp1⟩, ⟨hs0, hs1⟩, hyr, hpt, hhd⟩ := id hX
  have hwt : ∀ k, 0 ≤ k → k < 6 → 1 ≤ S 2 k ∧ S 2 k ≤ 9 := fun k a b => ⟨(hwl k a b).1, (hwl k a b).2.1⟩
  refine j_aload_n dX0_seek_0 rfl ?_
  refine j_iload_n dX0_seek_1 rfl ?_
  refine j_putI (i := 7) dX0_seek_2 fg_X0_26 ft_0_7 fq_8_7 rfl (by omega) ?_
  refine j_aload_n dX0_seek_5 rfl ?_
  refine j_iload_n dX0_seek_6 rfl ?_
  refine j_putI (i := 8) dX0_seek_7 fg_X0_29 ft_0_8 fq_8_8 rfl (by omega) ?_
  refine j_aload_n dX0_seek_10 rfl ?_
  refine j_iload_n dX0_seek_11 rfl ?_
  refine j_putI (i := 9) dX0_seek_12 fg_X0_32 ft_0_9 fq_8_9 rfl (by omega) ?_
  refine j_aload_n dX0_seek_15 rfl ?_
  refine j_iconst dX0_seek_16 ?_
  refine j_putZ (i := 5) dX0_seek_17 fg_X0_18 ft_0_5 fq_8_5 rfl (Or.inl rfl) ?_
  refine j_aload_n dX0_seek_20 rfl ?_
  refine j_aload_n dX0_seek_21 rfl ?_
  refine j_getR dX0_seek_22 fg_X0_35 fq_8_0 ?_
  refine j_getI (x := S 1 0) dX0_seek_25 fg_X0_47 fq_1_0 rfl (fun hi25 => ?_)
  refine j_iconst dX0_seek_28 ?_
  refine j_iadd dX0_seek_29 ?_
  refine j_putI (i := 6) dX0_seek_30 fg_X0_22 ft_0_6 fq_8_6 rfl (by omega) ?_
  refine j_st (fun U eU => ?_)
  have hsU : Same [8] S U := by rw [eU]; exact same_up (same_up (same_up (same_up (same_up Same.rf (by decide)) (by decide)) (by decide)) (by decide)) (by decide)
  have u7 : U 8 7 = s := by rw [eU]; simp [up]
  have u8 : U 8 8 = law := by rw [eU]; simp [up]
  have u9 : U 8 9 = goal := by rw [eU]; simp [up]
  have u5 : U 8 5 = 0 := by rw [eU]; simp [up]
  have u6 : U 8 6 = S 1 0 + 1 := by rw [eU]; simp [up]
  have eU_1 : U 1 = S 1 := hsU 1 (by decide)
  have eU_2 : U 2 = S 2 := hsU 2 (by decide)
  have eU_3 : U 3 = S 3 := hsU 3 (by decide)
  have eU_27 : U 27 = S 27 := hsU 27 (by decide)
  have eU_28 : U 28 = S 28 := hsU 28 (by decide)
  have eU_29 : U 29 = S 29 := hsU 29 (by decide)
  have eU_30 : U 30 = S 30 := hsU 30 (by decide)
  have eU_31 : U 31 = S 31 := hsU 31 (by decide)
  have eU_33 : U 33 = S 33 := hsU 33 (by decide)
  have hK : ChK U := ⟨hX.same hsU (by decide), by rw [u7, eU_27]; omega, by rw [u8]; omega, by rw [u9]; omega, Or.inl u5, by rw [u6]; omega, by rw [u6]; omega⟩
  have hgg : cG U = GoC (S 1 0) (fun j => S 29 (S 33 (s * 6 + j))) (fun j => S 30 (S 33 (s * 6 + j))) (S 29) (S 30) (S 2) law goal := by unfold cG cMK cAG; rw [eU_1, eU_2, eU_29, eU_30, eU_33, u7, u8, u9]
  have hoo : cO U = okC (S 1 0) (S 27 1) (S 31) (S 28) := by unfold cO; rw [eU_1, eU_27, eU_31, eU_28]
  refine j_aload_n dX0_seek_33 rfl ?_
  refine j_getI (x := law) dX0_seek_34 fg_X0_29 fq_8_8 u8 (fun hi34 => ?_)
  refine j_iconst dX0_seek_37 ?_
  refine j_icmp_ne (tgt := 48) dX0_seek_38 (by decide) (by omega) (by omega) (fun h38 => ?_) (fun h38 => ?_)
  · refine j_aload_n dX0_seek_48 rfl ?_
    refine j_getR dX0_seek_49 fg_X0_43 fq_8_2 ?_
    refine j_aload_n dX0_seek_52 rfl ?_
    refine j_getI (x := s) dX0_seek_53 fg_X0_26 fq_8_7 u7 (fun hi53 => ?_)
    refine j_callVv (As := [vi s]) (rest := []) (t_X2_load _ s (by rw [eU_1]; exact hn0) (by rw [eU_1]; exact hn1) (by omega) (by omega) (by rw [eU_1, eU_33]; intro k a b; have := hhd s k sh0 sh1 a b; omega)) rfl cm_X2_load ci_X2_load ml_X0_55 oq_4 rfl (Nat.le_of_ble_eq_true rfl) (Nat.le_of_ble_eq_true rfl) dX0_seek_56 (fun r56 S56 hp56 => ?_)
    obtain ⟨hsm56, hl56⟩ := hp56
    rw [eU_1, eU_29, eU_30, eU_33] at hl56
    have eS56_1 : S56 1 = S 1 := (hsm56 1 (by decide)).trans eU_1
    have eS56_2 : S56 2 = S 2 := (hsm56 2 (by decide)).trans eU_2
    have eS56_3 : S56 3 = S 3 := (hsm56 3 (by decide)).trans eU_3
    have eS56_27 : S56 27 = S 27 := (hsm56 27 (by decide)).trans eU_27
    have eS56_28 : S56 28 = S 28 := (hsm56 28 (by decide)).trans eU_28
    have eS56_29 : S56 29 = S 29 := (hsm56 29 (by decide)).trans eU_29
    have eS56_30 : S56 30 = S 30 := (hsm56 30 (by decide)).trans eU_30
    have eS56_31 : S56 31 = S 31 := (hsm56 31 (by decide)).trans eU_31
    have eS56_33 : S56 33 = S 33 := (hsm56 33 (by decide)).trans eU_33
    refine j_aload_n dX0_seek_59 rfl ?_
    refine j_iconst dX0_seek_60 ?_
    refine j_iconst dX0_seek_61 ?_
    have hS56 : ChS U S56 := ⟨hsm56.mono (by decide), fun i _ _ => by rw [hsm56 8 (by decide)], by rw [hsm56 8 (by decide)]; exact hK.2.2.2.2.1, by rw [hsm56 8 (by decide)]; exact hK.2.2.2.2.2⟩
    obtain ⟨hK5, eM, eA, eG, eD⟩ := hK.tr hS56
    have hpre : ChP S56 0 0 := by
      refine ⟨hK5, by rw [hsm56 8 (by decide), u8]; exact h38, ⟨by omega, by rw [eS56_1]; omega⟩, rfl, fun j a b => by omega, fun j a b => ?_⟩
      rw [eS56_1] at b
      rw [if_neg (by omega), if_neg (by omega), eM, eA]
      have := hl56 j a b
      unfold cMK cAG
      rw [eU_29, eU_30, eU_33, u7]
      exact this
    refine j_callVv (As := [vi 0, vi 0]) (rest := []) (t_X0_choose 10 S56 0 0 (by rw [eS56_1]; omega) hpre) rfl (cm_X0_choose _) (ci_X0_choose _) ml_X0_61 oq_8 rfl (by show 12 - (0 : Int).toNat + 1 ≤ 13; decide) (Nat.le_of_ble_eq_true rfl) dX0_seek_62 (fun r62 S62 hp62 => ?_)
    obtain ⟨hc62, _, _, hs62⟩ := hp62
    rw [eS56_1, eG, hgg, hsm56 8 (by decide), hsm56 10 (by decide), u5, u6] at hc62
    have hb62 := ChR.bec (by omega) hc62
    rw [show cD S56 (S56 9) 0 = okC (S 1 0) (S 27 1) (S 31) (S 28) from funext fun c => propext (by unfold cD Dk; rw [eS56_1, eS56_27, eS56_31, eS56_28]; exact ⟨fun z => z.1, fun z => ⟨z, fun j a b => by omega⟩⟩)] at hb62
    exact j_vret rfl dX0_seek_65 (fun h => by cases h) (hP _ _ ⟨hb62, (hsU.mono (by decide)).tr ((hsm56.mono (by decide)).tr hs62.1)⟩)
  · refine j_aload_n dX0_seek_41 rfl ?_
    refine j_callVv (As := []) (rest := []) (t_X0_seekOldest _ hK (by rw [u8]; exact h38) u5 (by rw [u6, eU_1])) rfl cm_X0_seekOldest ci_X0_seekOldest ml_X0_52 oq_8 rfl (Nat.le_of_ble_eq_true rfl) (Nat.le_of_ble_eq_true rfl) dX0_seek_42 (fun r42 S42 hp42 => ?_)
    obtain ⟨hb42, hs42⟩ := hp42
    rw [eU_1, hoo, hgg] at hb42
    refine j_goto (tgt := 65) dX0_seek_45 (by decide) ?_
    exact j_vret rfl dX0_seek_65 (fun h => by cases h) (hP _ _ ⟨hb42, (hsU.mono (by decide)).tr hs42.1⟩)
set_option maxRecDepth 100000 in
set_option maxHeartbeats 4000000 in
theorem t_X7_becomes (S : St) (s law mk k : Int) (r_s : InR s) (r_law : InR law) (r_mk : InR mk) (r_k : InR k) (hX : XI S) : EX mX7_becomes [.ref 0, vi s, vi law, vi mk, vi k] S (fun r S' => (¬ (((0 ≤ s ∧ s < S 27 2) ∧ (0 ≤ law ∧ law < 5) ∧ (0 ≤ mk ∧ mk ≤ 3)) ∧ (k = -1 ∨ (0 ≤ k ∧ k < S 1 0))) ∧ r = -1 ∧ S' = S) ∨ ((((0 ≤ s ∧ s < S 27 2) ∧ (0 ≤ law ∧ law < 5) ∧ (0 ≤ mk ∧ mk ≤ 3)) ∧ (k = -1 ∨ (0 ≤ k ∧ k < S 1 0))) ∧ BecA (S 1 0) (okC (S 1 0) (S 27 1) (S 31) (S 28)) (GoC (S 1 0) (fun j => S 29 (S 33 (s * 6 + j))) (fun j => S 30 (S 33 (s * 6 + j))) (S 29) (S 30) (S 2) law mk) k r ∧ Same [5, 6, 7, 8, 9, 10] S S')) := by
  suffices hh : ∀ P : Int → St → Prop, (∀ r S', ((¬ (((0 ≤ s ∧ s < S 27 2) ∧ (0 ≤ law ∧ law < 5) ∧ (0 ≤ mk ∧ mk ≤ 3)) ∧ (k = -1 ∨ (0 ≤ k ∧ k < S 1 0))) ∧ r = -1 ∧ S' = S) ∨ ((((0 ≤ s ∧ s < S 27 2) ∧ (0 ≤ law ∧ law < 5) ∧ (0 ≤ mk ∧ mk ≤ 3)) ∧ (k = -1 ∨ (0 ≤ k ∧ k < S 1 0))) ∧ BecA (S 1 0) (okC (S 1 0) (S 27 1) (S 31) (S 28)) (GoC (S 1 0) (fun j => S 29 (S 33 (s * 6 + j))) (fun j => S 30 (S 33 (s * 6 + j))) (S 29) (S 30) (S 2) law mk) k r ∧ Same [5, 6, 7, 8, 9, 10] S S')) → P r S') → EX mX7_becomes [.ref 0, vi s, vi law, vi mk, vi k] S P from hh _ (fun _ _ h => h)
  intro P hP
  refine EX.of (L := [(0, .ref 0), (1, vi s), (2, vi law), (3, vi mk), (4, vi k)]) rfl rfl (Nat.le_of_ble_eq_true rfl) rfl ?_
  obtain ⟨⟨hn0, hn1⟩, hwl, ⟨hp0, hp1⟩, ⟨hs0, hs1⟩, hyr, hpt, hhd⟩ := id hX
  have hwt : ∀ k, 0 ≤ k → k < 6 → 1 ≤ S 2 k ∧ S 2 k ≤ 9 := fun k a b => ⟨(hwl k a b).1, (hwl k a b).2.1⟩
  refine j_aload_n dX7_becomes_0 rfl ?_
  refine j_iload_n dX7_becomes_1 rfl ?_
  refine j_callVi (As := [vi s]) (rest := []) (t_X7_isShip _ s (by omega)) rfl cm_X7_isShip ci_X7_isShip ml_X7_135 oq_0 rfl (Nat.le_of_ble_eq_true rfl) (Nat.le_of_ble_eq_true rfl) dX7_becomes_2 (fun r2 S2 hp2 => ?_)
  obtain ⟨⟨rfl, hc2⟩ | ⟨rfl, hc2⟩, he2⟩ := hp2
  · rw [he2]
    refine j_if_eq (tgt := 24) dX7_becomes_5 (by decide) (by omega)  (fun h => absurd h (by decide)) (fun _ => ?_)
    refine j_iload_n dX7_becomes_8 rfl ?_
    refine j_callSi (As := [vi law]) (rest := []) (t_X7_isLaw _ law (by omega)) rfl cm_X7_isLaw cs_X7_isLaw ml_X7_148 rfl (Nat.le_of_ble_eq_true rfl) (Nat.le_of_ble_eq_true rfl) dX7_becomes_9 (fun r9 S9 hp9 => ?_)
    obtain ⟨⟨rfl, hc9⟩ | ⟨rfl, hc9⟩, he9⟩ := hp9
    · rw [he9]
      refine j_if_eq (tgt := 24) dX7_becomes_12 (by decide) (by omega)  (fun h => absurd h (by decide)) (fun _ => ?_)
      refine j_iload_n dX7_becomes_15 rfl ?_
      refine j_if_lt (tgt := 24) dX7_becomes_16 (by decide) (by omega)  (fun h16 => ?_) (fun h16 => ?_)
      · refine j_iconst dX7_becomes_24 ?_
        exact j_iret rfl dX7_becomes_25 (fun h => by cases h) (hP _ _ (Or.inl ⟨by omega, rfl, rfl⟩))
      · refine j_iload_n dX7_becomes_19 rfl ?_
        refine j_iconst dX7_becomes_20 ?_
        refine j_icmp_lt (tgt := 26) dX7_becomes_21 (by decide) (by omega) (by omega) (fun h21 => ?_) (fun h21 => ?_)
        · refine j_iload dX7_becomes_26 rfl ?_
          refine j_iconst dX7_becomes_28 ?_
          refine j_icmp_eq (tgt := 43) dX7_becomes_29 (by decide) (by omega) (by omega) (fun h29 => ?_) (fun h29 => ?_)
          · refine j_aload_n dX7_becomes_43 rfl ?_
            refine j_getR dX7_becomes_44 fg_X7_37 fq_0_3 ?_
            refine j_iload_n dX7_becomes_47 rfl ?_
            refine j_iload_n dX7_becomes_48 rfl ?_
            refine j_iload_n dX7_becomes_49 rfl ?_
            refine j_callVv (As := [vi s, vi law, vi mk]) (rest := []) (t_X0_seek _ s law mk hX (by omega) (by omega) (by omega) (by omega) (by omega) (by omega)) rfl cm_X0_seek ci_X0_seek ml_X7_202 oq_8 rfl (Nat.le_of_ble_eq_true rfl) (Nat.le_of_ble_eq_true rfl) dX7_becomes_50 (fun r50 S50 hp50 => ?_)
            obtain ⟨hb50, hs50⟩ := hp50
            have hf50 : S50 8 5 = 0 ∨ S50 8 5 = 1 := by rcases hb50 with ⟨z, _⟩ | ⟨z, _⟩ <;> omega
            have eS50_1 : S50 1 = S 1 := hs50 1 (by decide)
            have eS50_2 : S50 2 = S 2 := hs50 2 (by decide)
            have eS50_3 : S50 3 = S 3 := hs50 3 (by decide)
            have eS50_27 : S50 27 = S 27 := hs50 27 (by decide)
            have eS50_28 : S50 28 = S 28 := hs50 28 (by decide)
            have eS50_29 : S50 29 = S 29 := hs50 29 (by decide)
            have eS50_30 : S50 30 = S 30 := hs50 30 (by decide)
            have eS50_31 : S50 31 = S 31 := hs50 31 (by decide)
            have eS50_33 : S50 33 = S 33 := hs50 33 (by decide)
            refine j_aload_n dX7_becomes_53 rfl ?_
            refine j_getR dX7_becomes_54 fg_X7_37 fq_0_3 ?_
            refine j_getI (x := S50 8 5) dX7_becomes_57 fg_X7_206 fq_8_5 rfl (fun hi57 => ?_)
            refine j_if_ne (tgt := 66) dX7_becomes_60 (by decide) (by omega)  (fun h60 => ?_) (fun h60 => ?_)
            · refine j_iload dX7_becomes_66 rfl ?_
              refine j_iconst dX7_becomes_68 ?_
              refine j_icmp_ne (tgt := 82) dX7_becomes_69 (by decide) (by omega) (by omega) (fun h69 => ?_) (fun h69 => ?_)
              · refine j_aload_n dX7_becomes_82 rfl ?_
                refine j_getR dX7_becomes_83 fg_X7_37 fq_0_3 ?_
                refine j_getR dX7_becomes_86 fg_X7_213 fq_8_4 ?_
                refine j_iload dX7_becomes_89 rfl ?_
                refine j_iald (x := S50 10 k) dX7_becomes_91 aq_10 (by omega) (by omega) rfl (fun hi91 => ?_)
                exact j_iret rfl dX7_becomes_92 (fun h => by cases h) (hP _ _ (Or.inr ⟨by omega, ⟨_, _, _, hb50, by rw [if_neg h60, if_neg h69]⟩, hs50⟩))
              · refine j_aload_n dX7_becomes_72 rfl ?_
                refine j_getR dX7_becomes_73 fg_X7_37 fq_0_3 ?_
                refine j_getI (x := S50 8 6) dX7_becomes_76 fg_X7_210 fq_8_6 rfl (fun hi76 => ?_)
                refine j_goto (tgt := 92) dX7_becomes_79 (by decide) ?_
                exact j_iret rfl dX7_becomes_92 (fun h => by cases h) (hP _ _ (Or.inr ⟨by omega, ⟨_, _, _, hb50, by rw [if_neg h60, if_pos h69]⟩, hs50⟩))
            · refine j_bipush dX7_becomes_63 (by decide) ?_
              exact j_iret rfl dX7_becomes_65 (fun h => by cases h) (hP _ _ (Or.inr ⟨by omega, ⟨_, _, _, hb50, by rw [if_pos h60]⟩, hs50⟩))
          · refine j_aload_n dX7_becomes_32 rfl ?_
            refine j_iload dX7_becomes_33 rfl ?_
            refine j_callVi (As := [vi k]) (rest := []) (t_X7_isPlace _ k (by omega)) rfl cm_X7_isPlace ci_X7_isPlace ml_X7_107 oq_0 rfl (Nat.le_of_ble_eq_true rfl) (Nat.le_of_ble_eq_true rfl) dX7_becomes_35 (fun r35 S35 hp35 => ?_)
            obtain ⟨⟨rfl, hc35⟩ | ⟨rfl, hc35⟩, he35⟩ := hp35
            · rw [he35]
              refine j_if_ne (tgt := 43) dX7_becomes_38 (by decide) (by omega)  (fun _ => ?_) (fun h => absurd h (by decide))
              refine j_aload_n dX7_becomes_43 rfl ?_
              refine j_getR dX7_becomes_44 fg_X7_37 fq_0_3 ?_
              refine j_iload_n dX7_becomes_47 rfl ?_
              refine j_iload_n dX7_becomes_48 rfl ?_
              refine j_iload_n dX7_becomes_49 rfl ?_
              refine j_callVv (As := [vi s, vi law, vi mk]) (rest := []) (t_X0_seek _ s law mk hX (by omega) (by omega) (by omega) (by omega) (by omega) (by omega)) rfl cm_X0_seek ci_X0_seek ml_X7_202 oq_8 rfl (Nat.le_of_ble_eq_true rfl) (Nat.le_of_ble_eq_true rfl) dX7_becomes_50 (fun r50 S50 hp50 => ?_)
              obtain ⟨hb50, hs50⟩ := hp50
              have hf50 : S50 8 5 = 0 ∨ S50 8 5 = 1 := by rcases hb50 with ⟨z, _⟩ | ⟨z, _⟩ <;> omega
              have eS50_1 : S50 1 = S 1 := hs50 1 (by decide)
              have eS50_2 : S50 2 = S 2 := hs50 2 (by decide)
              have eS50_3 : S50 3 = S 3 := hs50 3 (by decide)
              have eS50_27 : S50 27 = S 27 := hs50 27 (by decide)
              have eS50_28 : S50 28 = S 28 := hs50 28 (by decide)
              have eS50_29 : S50 29 = S 29 := hs50 29 (by decide)
              have eS50_30 : S50 30 = S 30 := hs50 30 (by decide)
              have eS50_31 : S50 31 = S 31 := hs50 31 (by decide)
              have eS50_33 : S50 33 = S 33 := hs50 33 (by decide)
              refine j_aload_n dX7_becomes_53 rfl ?_
              refine j_getR dX7_becomes_54 fg_X7_37 fq_0_3 ?_
              refine j_getI (x := S50 8 5) dX7_becomes_57 fg_X7_206 fq_8_5 rfl (fun hi57 => ?_)
              refine j_if_ne (tgt := 66) dX7_becomes_60 (by decide) (by omega)  (fun h60 => ?_) (fun h60 => ?_)
              · refine j_iload dX7_becomes_66 rfl ?_
                refine j_iconst dX7_becomes_68 ?_
                refine j_icmp_ne (tgt := 82) dX7_becomes_69 (by decide) (by omega) (by omega) (fun h69 => ?_) (fun h69 => ?_)
                · refine j_aload_n dX7_becomes_82 rfl ?_
                  refine j_getR dX7_becomes_83 fg_X7_37 fq_0_3 ?_
                  refine j_getR dX7_becomes_86 fg_X7_213 fq_8_4 ?_
                  refine j_iload dX7_becomes_89 rfl ?_
                  refine j_iald (x := S50 10 k) dX7_becomes_91 aq_10 (by omega) (by omega) rfl (fun hi91 => ?_)
                  exact j_iret rfl dX7_becomes_92 (fun h => by cases h) (hP _ _ (Or.inr ⟨by omega, ⟨_, _, _, hb50, by rw [if_neg h60, if_neg h69]⟩, hs50⟩))
                · refine j_aload_n dX7_becomes_72 rfl ?_
                  refine j_getR dX7_becomes_73 fg_X7_37 fq_0_3 ?_
                  refine j_getI (x := S50 8 6) dX7_becomes_76 fg_X7_210 fq_8_6 rfl (fun hi76 => ?_)
                  refine j_goto (tgt := 92) dX7_becomes_79 (by decide) ?_
                  exact j_iret rfl dX7_becomes_92 (fun h => by cases h) (hP _ _ (Or.inr ⟨by omega, ⟨_, _, _, hb50, by rw [if_neg h60, if_pos h69]⟩, hs50⟩))
              · refine j_bipush dX7_becomes_63 (by decide) ?_
                exact j_iret rfl dX7_becomes_65 (fun h => by cases h) (hP _ _ (Or.inr ⟨by omega, ⟨_, _, _, hb50, by rw [if_pos h60]⟩, hs50⟩))
            · rw [he35]
              refine j_if_ne (tgt := 43) dX7_becomes_38 (by decide) (by omega)  (fun h => absurd h (by decide)) (fun _ => ?_)
              refine j_iconst dX7_becomes_41 ?_
              exact j_iret rfl dX7_becomes_42 (fun h => by cases h) (hP _ _ (Or.inl ⟨by omega, rfl, rfl⟩))
        · refine j_iconst dX7_becomes_24 ?_
          exact j_iret rfl dX7_becomes_25 (fun h => by cases h) (hP _ _ (Or.inl ⟨by omega, rfl, rfl⟩))
    · rw [he9]
      refine j_if_eq (tgt := 24) dX7_becomes_12 (by decide) (by omega)  (fun _ => ?_) (fun h => absurd h (by decide))
      refine j_iconst dX7_becomes_24 ?_
      exact j_iret rfl dX7_becomes_25 (fun h => by cases h) (hP _ _ (Or.inl ⟨by omega, rfl, rfl⟩))
  · rw [he2]
    refine j_if_eq (tgt := 24) dX7_becomes_5 (by decide) (by omega)  (fun _ => ?_) (fun h => absurd h (by decide))
    refine j_iconst dX7_becomes_24 ?_
    exact j_iret rfl dX7_becomes_25 (fun h => by cases h) (hP _ _ (Or.inl ⟨by omega, rfl, rfl⟩))
