set_option maxRecDepth 100000 in
set_option maxHeartbeats 4000000 in
theorem t_X6_tellPlan (S : St) : EX mX6_tellPlan [.ref 17, .ref 1] S (fun r S' => S' = cpy (cpy (up S 1 0 (S 18 0)) 19 2 6) 20 3 6) := by
  suffices hh : ∀ P : Int → St → Prop, (∀ r S', (S' = cpy (cpy (up S 1 0 (S 18 0)) 19 2 6) 20 3 6) → P r S') → EX mX6_tellPlan [.ref 17, .ref 1] S P from hh _ (fun _ _ h => h)
  intro P hP
  refine EX.of (L := [(0, .ref 17), (1, .ref 1)]) rfl rfl (Nat.le_of_ble_eq_true rfl) rfl ?_
  refine j_aload_n dX6_tellPlan_0 rfl ?_
  refine j_aload_n dX6_tellPlan_1 rfl ?_
  refine j_getR dX6_tellPlan_2 fg_X6_12 fq_17_1 ?_
  refine j_callVv (As := [.ref 18]) (rest := []) (t_X5_copyFrom _) rfl cm_X5_copyFrom ci_X5_copyFrom ml_X6_120 oq_1 rfl (Nat.le_of_ble_eq_true rfl) (Nat.le_of_ble_eq_true rfl) dX6_tellPlan_5 (fun r5 S5 hp5 => ?_)
  exact j_vret rfl dX6_tellPlan_8 (fun h => by cases h) (hP _ _ hp5)
theorem sp_tl {n : Int} {V : St} {m e a b c v : Int} (hb : 0 ≤ bp n m) (hn : 0 ≤ n) (he : 0 ≤ e) (h : TlX n V m 0) : TlX n (up (up (up (up (up V 28 (bp n m + e) a) 29 (bp n m + e) b) 30 (bp n m + e) c) 31 (bp n m + e) 8) 27 1 v) m 0 := by
  intro s j x y z w
  have hlt : bp n s + j ≠ bp n m + e := by
    have := bp_mono hn (show s + 1 ≤ m by omega)
    omega
  have := h s j x y z w
  unfold EnX at this ⊢
  simp only [up, hlt, if_false, if_true]
  simpa using this
set_option maxRecDepth 100000 in
set_option maxHeartbeats 4000000 in
theorem t_X6_tellFleet (S : St) (hn0 : 2 ≤ S 18 0) (hn1 : S 18 0 ≤ 6) (hm0 : 0 ≤ S 17 7) (hm1 : S 17 7 ≤ 4) (hq0 : 0 ≤ S 17 8) (hq1 : S 17 8 ≤ 6) (hy : ∀ e, 0 ≤ e → e < S 17 8 → 0 ≤ S 22 e ∧ S 22 e < 6) : EX mX6_tellFleet [.ref 17, .ref 27] S (fun r S' => Same [27, 28, 29, 30, 31, 32, 33] S S' ∧ S' 27 0 = 0 ∧ S' 27 1 = bp (S 18 0) (S 17 7) + S 17 8 ∧ S' 27 2 = S 17 7 ∧ (∀ s, 0 ≤ s → s < S 17 7 → S' 32 s = S 21 s) ∧ TlX (S 18 0) S' (S 17 7) 0 ∧ (∀ j, 0 ≤ j → j < S 17 8 → S' 28 (bp (S 18 0) (S 17 7) + j) = S 22 j ∧ S' 29 (bp (S 18 0) (S 17 7) + j) = S 23 j ∧ S' 30 (bp (S 18 0) (S 17 7) + j) = S 24 j ∧ S' 31 (bp (S 18 0) (S 17 7) + j) = 8)) := by
  suffices hh : ∀ P : Int → St → Prop, (∀ r S', (Same [27, 28, 29, 30, 31, 32, 33] S S' ∧ S' 27 0 = 0 ∧ S' 27 1 = bp (S 18 0) (S 17 7) + S 17 8 ∧ S' 27 2 = S 17 7 ∧ (∀ s, 0 ≤ s → s < S 17 7 → S' 32 s = S 21 s) ∧ TlX (S 18 0) S' (S 17 7) 0 ∧ (∀ j, 0 ≤ j → j < S 17 8 → S' 28 (bp (S 18 0) (S 17 7) + j) = S 22 j ∧ S' 29 (bp (S 18 0) (S 17 7) + j) = S 23 j ∧ S' 30 (bp (S 18 0) (S 17 7) + j) = S 24 j ∧ S' 31 (bp (S 18 0) (S 17 7) + j) = 8)) → P r S') → EX mX6_tellFleet [.ref 17, .ref 27] S P from hh _ (fun _ _ h => h)
  intro P hP
  refine EX.of (L := [(0, .ref 17), (1, .ref 27)]) rfl rfl (Nat.le_of_ble_eq_true rfl) rfl ?_
  refine j_aload_n dX6_tellFleet_0 rfl ?_
  refine j_callVv (As := []) (rest := []) (t_X1_startAnew _) rfl cm_X1_startAnew ci_X1_startAnew ml_X6_124 oq_27 rfl (Nat.le_of_ble_eq_true rfl) (Nat.le_of_ble_eq_true rfl) dX6_tellFleet_1 (fun r1 S1 hp1 => ?_)
  rw [hp1]
  refine j_iconst dX6_tellFleet_4 ?_
  refine j_istore_n (L' := [(0, .ref 17), (1, .ref 27), (2, vi 0)]) dX6_tellFleet_5 (Nat.le_of_ble_eq_true rfl) rfl ?_
  have lp6 : ∀ (n : Nat) (i : Int) (T : St), (S 17 7 - i).toNat < n → ((0 ≤ i ∧ i ≤ S 17 7) ∧ Same [27, 28, 29, 30, 31, 32, 33] S T ∧ T 27 0 = 0 ∧ T 27 1 = bp (S 18 0) i ∧ T 27 2 = i ∧ (∀ s, 0 ≤ s → s < i → T 32 s = S 21 s) ∧ TlX (S 18 0) T i 0) → JJ mX6_tellFleet (RX mX6_tellFleet P) 6 [(0, .ref 17), (1, .ref 27), (2, vi i)] [] T := by
    intro n
    induction n with
    | zero => intro i T hm; exact absurd hm (Nat.not_lt_zero _)
    | succ n ih6 =>
      intro i T hm6 hv6
      obtain ⟨hv1, hv2, hv3, hv4, hv5, hv6, hv7⟩ := hv6
      have eT_16 : T 16 = S 16 := hv2 16 (by decide)
      have eT_17 : T 17 = S 17 := hv2 17 (by decide)
      have eT_18 : T 18 = S 18 := hv2 18 (by decide)
      have eT_19 : T 19 = S 19 := hv2 19 (by decide)
      have eT_20 : T 20 = S 20 := hv2 20 (by decide)
      have eT_21 : T 21 = S 21 := hv2 21 (by decide)
      have eT_22 : T 22 = S 22 := hv2 22 (by decide)
      have eT_23 : T 23 = S 23 := hv2 23 (by decide)
      have eT_24 : T 24 = S 24 := hv2 24 (by decide)
      refine j_iload_n dX6_tellFleet_6 rfl ?_
      refine j_aload_n dX6_tellFleet_7 rfl ?_
      refine j_getI (x := S 17 7) dX6_tellFleet_8 fg_X6_35 fq_17_7 (congrFun eT_17 _) (fun hi8 => ?_)
      refine j_icmp_ge (tgt := 65) dX6_tellFleet_11 (by decide) (by omega) (by omega) (fun h11 => ?_) (fun h11 => ?_)
      · have him : i = S 17 7 := by omega
        refine j_iconst dX6_tellFleet_65 ?_
        refine j_istore_n (L' := [(0, .ref 17), (1, .ref 27), (2, vi 0)]) dX6_tellFleet_66 (Nat.le_of_ble_eq_true rfl) rfl ?_
        have lp67 : ∀ (n : Nat) (e : Int) (V : St), (S 17 8 - e).toNat < n → ((0 ≤ e ∧ e ≤ S 17 8) ∧ Same [27, 28, 29, 30, 31, 32, 33] S V ∧ V 27 0 = 0 ∧ V 27 1 = bp (S 18 0) (S 17 7) + e ∧ V 27 2 = S 17 7 ∧ (∀ s, 0 ≤ s → s < S 17 7 → V 32 s = S 21 s) ∧ TlX (S 18 0) V (S 17 7) 0 ∧ (∀ j, 0 ≤ j → j < e → V 28 (bp (S 18 0) (S 17 7) + j) = S 22 j ∧ V 29 (bp (S 18 0) (S 17 7) + j) = S 23 j ∧ V 30 (bp (S 18 0) (S 17 7) + j) = S 24 j ∧ V 31 (bp (S 18 0) (S 17 7) + j) = 8)) → JJ mX6_tellFleet (RX mX6_tellFleet P) 67 [(0, .ref 17), (1, .ref 27), (2, vi e)] [] V := by
          intro n
          induction n with
          | zero => intro e V hm; exact absurd hm (Nat.not_lt_zero _)
          | succ n ih67 =>
            intro e V hm67 hv67
            obtain ⟨hw1, hw2, hw3, hw4, hw5, hw6, hw7, hw8⟩ := hv67
            have eV_16 : V 16 = S 16 := hw2 16 (by decide)
            have eV_17 : V 17 = S 17 := hw2 17 (by decide)
            have eV_18 : V 18 = S 18 := hw2 18 (by decide)
            have eV_19 : V 19 = S 19 := hw2 19 (by decide)
            have eV_20 : V 20 = S 20 := hw2 20 (by decide)
            have eV_21 : V 21 = S 21 := hw2 21 (by decide)
            have eV_22 : V 22 = S 22 := hw2 22 (by decide)
            have eV_23 : V 23 = S 23 := hw2 23 (by decide)
            have eV_24 : V 24 = S 24 := hw2 24 (by decide)
            refine j_iload_n dX6_tellFleet_67 rfl ?_
            refine j_aload_n dX6_tellFleet_68 rfl ?_
            refine j_getI (x := S 17 8) dX6_tellFleet_69 fg_X6_38 fq_17_8 (congrFun eV_17 _) (fun hi69 => ?_)
            refine j_icmp_ge (tgt := 104) dX6_tellFleet_72 (by decide) (by omega) (by omega) (fun h72 => ?_) (fun h72 => ?_)
            · exact j_vret rfl dX6_tellFleet_104 (fun h => by cases h) (hP _ _ ⟨hw2, hw3, by rw [show S 17 8 = e by omega]; exact hw4, hw5, hw6, hw7, fun j a b => hw8 j a (by omega)⟩)
            · have hye := hy e (by omega) (by omega)
              have hb1 := bp_nn (n := S 18 0) (s := S 17 7) (by omega) (by omega)
              have hb2 := bp_24 (n := S 18 0) (s := S 17 7) (by omega) hn1 (by omega) (by omega)
              refine j_aload_n dX6_tellFleet_75 rfl ?_
              refine j_aload_n dX6_tellFleet_76 rfl ?_
              refine j_getR dX6_tellFleet_77 fg_X6_22 fq_17_3 ?_
              refine j_iload_n dX6_tellFleet_80 rfl ?_
              refine j_iald (x := S 22 e) dX6_tellFleet_81 aq_22 (by omega) (by omega) (congrFun eV_22 _) (fun hi81 => ?_)
              refine j_aload_n dX6_tellFleet_82 rfl ?_
              refine j_getR dX6_tellFleet_83 fg_X6_25 fq_17_4 ?_
              refine j_iload_n dX6_tellFleet_86 rfl ?_
              refine j_iald (x := S 23 e) dX6_tellFleet_87 aq_23 (by omega) (by omega) (congrFun eV_23 _) (fun hi87 => ?_)
              refine j_aload_n dX6_tellFleet_88 rfl ?_
              refine j_getR dX6_tellFleet_89 fg_X6_28 fq_17_5 ?_
              refine j_iload_n dX6_tellFleet_92 rfl ?_
              refine j_iald (x := S 24 e) dX6_tellFleet_93 aq_24 (by omega) (by omega) (congrFun eV_24 _) (fun hi93 => ?_)
              refine j_callVi (As := [vi (S 22 e), vi (S 23 e), vi (S 24 e)]) (rest := []) (t_X1_addPart _ (S 22 e) (S 23 e) (S 24 e) (by omega) (by omega) (by omega) (by omega) (by omega)) rfl cm_X1_addPart ci_X1_addPart ml_X6_131 oq_27 rfl (Nat.le_of_ble_eq_true rfl) (Nat.le_of_ble_eq_true rfl) dX6_tellFleet_94 (fun r94 S94 hp94 => ?_)
              obtain ⟨hr94, he94⟩ := hp94
              rw [hw4] at hr94 he94
              rw [he94, hr94]
              refine j_pop dX6_tellFleet_97 rfl ?_
              refine j_iinc (L' := [(0, .ref 17), (1, .ref 27), (2, vi (e + 1))]) dX6_tellFleet_98 (Nat.le_of_ble_eq_true rfl) rfl rfl ?_
              refine j_goto (tgt := 67) dX6_tellFleet_101 (by decide) ?_
              exact ih67 (e + 1) (up (up (up (up (up V 28 (bp (S 18 0) (S 17 7) + e) (S 22 e)) 29 (bp (S 18 0) (S 17 7) + e) (S 23 e)) 30 (bp (S 18 0) (S 17 7) + e) (S 24 e)) 31 (bp (S 18 0) (S 17 7) + e) 8) 27 1 (bp (S 18 0) (S 17 7) + e + 1)) (by omega) ⟨by omega, same_up (same_up (same_up (same_up (same_up hw2 (by decide)) (by decide)) (by decide)) (by decide)) (by decide), hw3, by rw [up_s]; omega, hw5, hw6, sp_tl hb1 (by omega) hw1.1 hw7, fun j a b => if q : j = e then by rw [q]; simp [up] else by have hne : bp (S 18 0) (S 17 7) + j ≠ bp (S 18 0) (S 17 7) + e := (by omega); simp only [up, hne, if_false, if_true]; simpa using hw8 j a (by omega)⟩
        exact lp67 _ 0 T (Nat.lt_succ_self _) ⟨by omega, hv2, hv3, by rw [hv4, him]; omega, by rw [hv5, him], by rw [him] at hv6; exact hv6, by rw [him] at hv7; exact hv7, fun j a b => by omega⟩
      · refine j_aload_n dX6_tellFleet_14 rfl ?_
        refine j_aload_n dX6_tellFleet_15 rfl ?_
        refine j_getR dX6_tellFleet_16 fg_X6_18 fq_17_2 ?_
        refine j_iload_n dX6_tellFleet_19 rfl ?_
        refine j_iald (x := S 21 i) dX6_tellFleet_20 aq_21 (by omega) (by omega) (congrFun eT_21 _) (fun hi20 => ?_)
        refine j_callVi (As := [vi (S 21 i)]) (rest := []) (t_X1_addShip _ (S 21 i) (by omega) (by omega) (by omega)) rfl cm_X1_addShip ci_X1_addShip ml_X6_127 oq_27 rfl (Nat.le_of_ble_eq_true rfl) (Nat.le_of_ble_eq_true rfl) dX6_tellFleet_21 (fun r21 S21 hp21 => ?_)
        obtain ⟨hr21, he21⟩ := hp21
        rw [hv5] at hr21 he21
        have hs21 : Same [27, 28, 29, 30, 31, 32, 33] S S21 := by rw [he21]; exact same_up (same_up hv2 (by decide)) (by decide)
        rw [hr21]
        have eS21_16 : S21 16 = S 16 := hs21 16 (by decide)
        have eS21_17 : S21 17 = S 17 := hs21 17 (by decide)
        have eS21_18 : S21 18 = S 18 := hs21 18 (by decide)
        have eS21_19 : S21 19 = S 19 := hs21 19 (by decide)
        have eS21_20 : S21 20 = S 20 := hs21 20 (by decide)
        have eS21_21 : S21 21 = S 21 := hs21 21 (by decide)
        have eS21_22 : S21 22 = S 22 := hs21 22 (by decide)
        have eS21_23 : S21 23 = S 23 := hs21 23 (by decide)
        have eS21_24 : S21 24 = S 24 := hs21 24 (by decide)
        refine j_istore_n (L' := [(0, .ref 17), (1, .ref 27), (2, vi i), (3, vi i)]) dX6_tellFleet_24 (Nat.le_of_ble_eq_true rfl) rfl ?_
        refine j_iconst dX6_tellFleet_25 ?_
        refine j_istore (L' := [(0, .ref 17), (1, .ref 27), (2, vi i), (3, vi i), (4, vi 0)]) dX6_tellFleet_26 (Nat.le_of_ble_eq_true rfl) rfl ?_
        have lp28 : ∀ (n : Nat) (k : Int) (U : St), (S 18 0 - k).toNat < n → ((0 ≤ k ∧ k ≤ S 18 0) ∧ Same [27, 28, 29, 30, 31, 32, 33] S U ∧ U 27 0 = 0 ∧ U 27 1 = bp (S 18 0) i + k ∧ U 27 2 = i + 1 ∧ (∀ s, 0 ≤ s → s < (i + 1) → U 32 s = S 21 s) ∧ TlX (S 18 0) U i k) → JJ mX6_tellFleet (RX mX6_tellFleet P) 28 [(0, .ref 17), (1, .ref 27), (2, vi i), (3, vi i), (4, vi k)] [] U := by
          intro n
          induction n with
          | zero => intro k U hm; exact absurd hm (Nat.not_lt_zero _)
          | succ n ih28 =>
            intro k U hm28 hv28
            obtain ⟨hu1, hu2, hu3, hu4, hu5, hu6, hu7⟩ := hv28
            have eU_16 : U 16 = S 16 := hu2 16 (by decide)
            have eU_17 : U 17 = S 17 := hu2 17 (by decide)
            have eU_18 : U 18 = S 18 := hu2 18 (by decide)
            have eU_19 : U 19 = S 19 := hu2 19 (by decide)
            have eU_20 : U 20 = S 20 := hu2 20 (by decide)
            have eU_21 : U 21 = S 21 := hu2 21 (by decide)
            have eU_22 : U 22 = S 22 := hu2 22 (by decide)
            have eU_23 : U 23 = S 23 := hu2 23 (by decide)
            have eU_24 : U 24 = S 24 := hu2 24 (by decide)
            refine j_iload dX6_tellFleet_28 rfl ?_
            refine j_aload_n dX6_tellFleet_30 rfl ?_
            refine j_getR dX6_tellFleet_31 fg_X6_12 fq_17_1 ?_
            refine j_getI (x := S 18 0) dX6_tellFleet_34 fg_X6_96 fq_18_0 (congrFun eU_18 _) (fun hi34 => ?_)
            refine j_icmp_ge (tgt := 59) dX6_tellFleet_37 (by decide) (by omega) (by omega) (fun h37 => ?_) (fun h37 => ?_)
            · have hke : k = S 18 0 := by omega
              refine j_iinc (L' := [(0, .ref 17), (1, .ref 27), (2, vi (i + 1)), (3, vi i), (4, vi k)]) dX6_tellFleet_59 (Nat.le_of_ble_eq_true rfl) rfl rfl ?_
              refine j_goto (tgt := 6) dX6_tellFleet_62 (by decide) ?_
              refine j_sub (L' := [(0, .ref 17), (1, .ref 27), (2, vi (i + 1))]) (by simp) ?_
              exact ih6 (i + 1) U (by omega) ⟨by omega, hu2, hu3, by rw [bp_s]; omega, hu5, hu6, by rw [hke] at hu7; exact hu7.next⟩
            · have hb1 := bp_nn (n := S 18 0) (s := i) (by omega) (by omega)
              have hb2 := bp_24 (n := S 18 0) (s := i) (by omega) hn1 (by omega) (by omega)
              have hb3 := bp_mono (n := S 18 0) (s := i) (i := 4) (by omega) (by omega)
              have hb4 := bp_24 (n := S 18 0) (s := 4) (by omega) hn1 (by omega) (by omega)
              refine j_aload_n dX6_tellFleet_40 rfl ?_
              refine j_iload_n dX6_tellFleet_41 rfl ?_
              refine j_aload_n dX6_tellFleet_42 rfl ?_
              refine j_iload dX6_tellFleet_43 rfl ?_
              refine j_iload_n dX6_tellFleet_45 rfl ?_
              refine j_iconst dX6_tellFleet_46 ?_
              refine j_callVi (As := [vi k, vi i, vi 0]) (rest := [vi i, .ref 27]) (t_X1_addPart _ k i 0 (by omega) (by omega) (by omega) (by omega) (by omega)) rfl cm_X1_addPart ci_X1_addPart ml_X6_131 oq_27 rfl (Nat.le_of_ble_eq_true rfl) (Nat.le_of_ble_eq_true rfl) dX6_tellFleet_47 (fun r47 S47 hp47 => ?_)
              obtain ⟨hr47, he47⟩ := hp47
              rw [hu4] at hr47 he47
              rw [he47, hr47]
              refine j_callVv (As := [vi i, vi (bp (S 18 0) i + k)]) (rest := []) (t_X1_putIn _ i (bp (S 18 0) i + k) (by omega) (by omega) (by omega) (by omega) (by rw [show (up (up (up (up (up U 28 (bp (S 18 0) i + k) k) 29 (bp (S 18 0) i + k) i) 30 (bp (S 18 0) i + k) 0) 31 (bp (S 18 0) i + k) 8) 27 1 (bp (S 18 0) i + k + 1)) 28 (bp (S 18 0) i + k) = k from by simp [up]]; omega) (by rw [show (up (up (up (up (up U 28 (bp (S 18 0) i + k) k) 29 (bp (S 18 0) i + k) i) 30 (bp (S 18 0) i + k) 0) 31 (bp (S 18 0) i + k) 8) 27 1 (bp (S 18 0) i + k + 1)) 28 (bp (S 18 0) i + k) = k from by simp [up]]; omega)) rfl cm_X1_putIn ci_X1_putIn ml_X6_135 oq_27 rfl (Nat.le_of_ble_eq_true rfl) (Nat.le_of_ble_eq_true rfl) dX6_tellFleet_50 (fun r50 S50 hp50 => ?_)
              rw [hp50]
              rw [show (up (up (up (up (up U 28 (bp (S 18 0) i + k) k) 29 (bp (S 18 0) i + k) i) 30 (bp (S 18 0) i + k) 0) 31 (bp (S 18 0) i + k) 8) 27 1 (bp (S 18 0) i + k + 1)) 28 (bp (S 18 0) i + k) = k from by simp [up]]
              refine j_iinc (L' := [(0, .ref 17), (1, .ref 27), (2, vi i), (3, vi i), (4, vi (k + 1))]) dX6_tellFleet_53 (Nat.le_of_ble_eq_true rfl) rfl rfl ?_
              refine j_goto (tgt := 28) dX6_tellFleet_56 (by decide) ?_
              exact ih28 (k + 1) (up (up (up (up (up (up (up U 28 (bp (S 18 0) i + k) k) 29 (bp (S 18 0) i + k) i) 30 (bp (S 18 0) i + k) 0) 31 (bp (S 18 0) i + k) 8) 27 1 (bp (S 18 0) i + k + 1)) 33 (i * 6 + k) (bp (S 18 0) i + k)) 31 (bp (S 18 0) i + k) i) (by omega) ⟨by omega, same_up (same_up (same_up (same_up (same_up (same_up (same_up hu2 (by decide)) (by decide)) (by decide)) (by decide)) (by decide)) (by decide)) (by decide), hu3, by rw [up_c (by decide), up_c (by decide), up_s]; omega, hu5, hu6, hu7.step (by omega) hn1 (by omega) (by omega) (by omega)⟩
        exact lp28 _ 0 S21 (Nat.lt_succ_self _) ⟨by omega, hs21, by rw [he21]; exact hv3, by rw [he21]; show T 27 1 = _; omega, by rw [he21, up_s], fun s a b => by rw [he21, up_c (by decide)]; exact if e : s = i then by rw [e, up_s] else by rw [up_i e]; exact hv6 s a (by omega), by rw [he21]; exact hv7.own⟩
  exact lp6 _ 0 (up (up (up S 27 0 0) 27 1 0) 27 2 0) (Nat.lt_succ_self _) ⟨by omega, same_up (same_up (same_up Same.rf (by decide)) (by decide)) (by decide), rfl, (bp_0 _).symm, rfl, fun s a b => by omega, fun s j a b c e => by omega⟩
