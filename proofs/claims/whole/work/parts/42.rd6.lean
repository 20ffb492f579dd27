/-- the class's rows as the draft d tells them -/
def TldX (d T : St) : Prop := T 1 0 = d 0 3 ∧ (∀ k, 0 ≤ k → k < 6 → T 2 k = d 1 k ∧ T 3 k = d 2 k) ∧ T 27 0 = 0 ∧ T 27 1 = bp (d 0 3) (d 0 4) + d 0 5 ∧ T 27 2 = d 0 4 ∧ (∀ s, 0 ≤ s → s < d 0 4 → T 32 s = d 3 s) ∧ TlX (d 0 3) T (d 0 4) 0 ∧ (∀ j, 0 ≤ j → j < d 0 5 → T 28 (bp (d 0 3) (d 0 4) + j) = d 4 j ∧ T 29 (bp (d 0 3) (d 0 4) + j) = d 5 j ∧ T 30 (bp (d 0 3) (d 0 4) + j) = d 6 j ∧ T 31 (bp (d 0 3) (d 0 4) + j) = 8) ∧ T 11 2 = 0 ∧ T 15 0 = 0 ∧ T 15 1 = 0 ∧ T 0 12 = 0 ∧ T 0 13 = 0
theorem port_same {S S8 S29 S40 T : St} (h8 : Same [17, 18, 19, 20, 21, 22, 23, 24] S S8) (h29 : Same [1, 2, 3] S8 S29) (h40 : Same [27, 28, 29, 30, 31, 32, 33] S29 S40) (hT : Same [15] (up S40 11 2 0) T) : Same [0, 1, 2, 3, 11, 15, 17, 18, 19, 20, 21, 22, 23, 24, 27, 28, 29, 30, 31, 32, 33] S (up (up T 0 13 0) 0 12 0) := by
  refine same_up (same_up ?_ (by decide)) (by decide)
  exact (same_up ((h8.mono (by decide)).tr ((h29.mono (by decide)).tr (h40.mono (by decide)))) (by decide)).tr (hT.mono (by decide))
theorem port_tld {d S8 S29 S40 T : St} (hT : Same [15] (up S40 11 2 0) T) (t0 : T 15 0 = 0) (t1 : T 15 1 = 0) (h40 : Same [27, 28, 29, 30, 31, 32, 33] S29 S40) (p1 : S29 1 0 = S8 18 0) (p2 : ∀ k, 0 ≤ k → k < 6 → S29 2 k = S8 19 k ∧ S29 3 k = S8 20 k) (e18 : S8 18 0 = d 0 3) (eW : ∀ i, 0 ≤ i → i < 6 → S8 19 i = d 1 i ∧ S8 20 i = d 2 i)
    (f1 : S40 27 0 = 0) (f2 : S40 27 1 = bp (d 0 3) (d 0 4) + d 0 5) (f3 : S40 27 2 = d 0 4) (f4 : ∀ s, 0 ≤ s → s < d 0 4 → S40 32 s = S8 21 s) (f5 : TlX (d 0 3) S40 (d 0 4) 0) (f6 : ∀ j, 0 ≤ j → j < d 0 5 → S40 28 (bp (d 0 3) (d 0 4) + j) = S8 22 j ∧ S40 29 (bp (d 0 3) (d 0 4) + j) = S8 23 j ∧ S40 30 (bp (d 0 3) (d 0 4) + j) = S8 24 j ∧ S40 31 (bp (d 0 3) (d 0 4) + j) = 8)
    (eO : ∀ i, 0 ≤ i → i < d 0 4 → S8 21 i = d 3 i) (eY : ∀ i, 0 ≤ i → i < d 0 5 → S8 22 i = d 4 i ∧ S8 23 i = d 5 i ∧ S8 24 i = d 6 i) : TldX d (up (up T 0 13 0) 0 12 0) := by
  have r : ∀ c, c ≠ 0 → c ≠ 15 → c ≠ 11 → (up (up T 0 13 0) 0 12 0) c = S40 c := fun c a b e => by
    rw [up_row a, up_row a, hT c (by simp; exact b), up_row e]
  have r15 : (up (up T 0 13 0) 0 12 0) 15 = T 15 := by rw [up_row (by decide), up_row (by decide)]
  unfold TldX
  rw [r 1 (by decide) (by decide) (by decide), r 2 (by decide) (by decide) (by decide), r 3 (by decide) (by decide) (by decide), r 27 (by decide) (by decide) (by decide), r 28 (by decide) (by decide) (by decide), r 29 (by decide) (by decide) (by decide), r 30 (by decide) (by decide) (by decide), r 31 (by decide) (by decide) (by decide), r 32 (by decide) (by decide) (by decide), r15, h40 1 (by decide), h40 2 (by decide), h40 3 (by decide)]
  refine ⟨p1.trans e18, fun k a b => ?_, f1, f2, f3, fun s a b => (f4 s a b).trans (eO s a b), fun s j a b c e => ?_, fun j a b => ?_, ?_, t0, t1, ?_, ?_⟩
  · rw [(p2 k a b).1, (p2 k a b).2]; exact eW k a b
  · have := f5 s j a b c e
    unfold EnX at this ⊢
    rw [r 28 (by decide) (by decide) (by decide), r 29 (by decide) (by decide) (by decide), r 30 (by decide) (by decide) (by decide), r 31 (by decide) (by decide) (by decide), r 33 (by decide) (by decide) (by decide)]
    exact this
  · have h1 := f6 j a b
    have h2 := eY j a b
    rw [h1.1, h1.2.1, h1.2.2.1, h1.2.2.2]
    exact ⟨h2.1, h2.2.1, h2.2.2, rfl⟩
  · rw [up_c (by decide), up_c (by decide), hT 11 (by decide), up_s]
  · rw [up_s]
  · rw [up_i (by decide), up_s]
set_option maxRecDepth 100000 in
set_option maxHeartbeats 4000000 in
theorem t_X7_port (S : St) (h0 : 0 ≤ S 0 12) (h1 : S 0 12 ≤ 200) (hl : ∀ i, 0 ≤ i → i < S 0 12 → 0 ≤ S 16 i ∧ S 16 i ≤ 255) (hdy : (prs (S 16) (S 0 12) (S 0 12).toNat d0S) 0 1 = -1 → ∀ e, 0 ≤ e → e < (prs (S 16) (S 0 12) (S 0 12).toNat d0S) 0 5 → 0 ≤ (prs (S 16) (S 0 12) (S 0 12).toNat d0S) 4 e ∧ (prs (S 16) (S 0 12) (S 0 12).toNat d0S) 4 e < 6) : EX mX7_port [.ref 0] S (fun r S' => ((prs (S 16) (S 0 12) (S 0 12).toNat d0S) 0 1 ≠ -1 ∧ r = -10 - (prs (S 16) (S 0 12) (S 0 12).toNat d0S) 0 1 ∧ Same [17, 18, 19, 20, 21, 22, 23, 24] S S') ∨ ((prs (S 16) (S 0 12) (S 0 12).toNat d0S) 0 1 = -1 ∧ r = (prs (S 16) (S 0 12) (S 0 12).toNat d0S) 0 2 ∧ TldX (prs (S 16) (S 0 12) (S 0 12).toNat d0S) S' ∧ Same [0, 1, 2, 3, 11, 15, 17, 18, 19, 20, 21, 22, 23, 24, 27, 28, 29, 30, 31, 32, 33] S S' ∧ (∀ i, i ≠ 12 → i ≠ 13 → S' 0 i = S 0 i) ∧ (∀ i, i ≠ 2 → S' 11 i = S 11 i) ∧ (∀ i, i ≠ 0 → S' 1 i = S 1 i))) := by
  suffices hh : ∀ P : Int → St → Prop, (∀ r S', (((prs (S 16) (S 0 12) (S 0 12).toNat d0S) 0 1 ≠ -1 ∧ r = -10 - (prs (S 16) (S 0 12) (S 0 12).toNat d0S) 0 1 ∧ Same [17, 18, 19, 20, 21, 22, 23, 24] S S') ∨ ((prs (S 16) (S 0 12) (S 0 12).toNat d0S) 0 1 = -1 ∧ r = (prs (S 16) (S 0 12) (S 0 12).toNat d0S) 0 2 ∧ TldX (prs (S 16) (S 0 12) (S 0 12).toNat d0S) S' ∧ Same [0, 1, 2, 3, 11, 15, 17, 18, 19, 20, 21, 22, 23, 24, 27, 28, 29, 30, 31, 32, 33] S S' ∧ (∀ i, i ≠ 12 → i ≠ 13 → S' 0 i = S 0 i) ∧ (∀ i, i ≠ 2 → S' 11 i = S 11 i) ∧ (∀ i, i ≠ 0 → S' 1 i = S 1 i))) → P r S') → EX mX7_port [.ref 0] S P from hh _ (fun _ _ h => h)
  intro P hP
  refine EX.of (L := [(0, .ref 0)]) rfl rfl (Nat.le_of_ble_eq_true rfl) rfl ?_
  refine j_aload_n dX7_port_0 rfl ?_
  refine j_getR dX7_port_1 fg_X7_72 fq_0_9 ?_
  refine j_aload_n dX7_port_4 rfl ?_
  refine j_getI (x := S 0 12) dX7_port_5 fg_X7_82 fq_0_12 rfl (fun hi5 => ?_)
  refine j_callVi (As := [vi (S 0 12)]) (rest := []) (t_X6_readAll _ (S 0 12) h0 h1 hl) rfl cm_X6_readAll ci_X6_readAll ml_X7_89 oq_17 rfl (Nat.le_of_ble_eq_true rfl) (Nat.le_of_ble_eq_true rfl) dX7_port_8 (fun r8 S8 hp8 => ?_)
  generalize hpr : prs (S 16) (S 0 12) (S 0 12).toNat d0S = d at hP hdy hp8
  obtain ⟨hr8, ⟨pp, hC8⟩, hs8⟩ := hp8
  have hfb := hC8.1.2.2.2.2
  have hfd := hC8.2.1
  rw [up_i (by decide)] at hfd
  have eS8_0 : S8 0 = S 0 := hs8 0 (by decide)
  have eS8_1 : S8 1 = S 1 := hs8 1 (by decide)
  have eS8_2 : S8 2 = S 2 := hs8 2 (by decide)
  have eS8_3 : S8 3 = S 3 := hs8 3 (by decide)
  have eS8_11 : S8 11 = S 11 := hs8 11 (by decide)
  have eS8_15 : S8 15 = S 15 := hs8 15 (by decide)
  have eS8_16 : S8 16 = S 16 := hs8 16 (by decide)
  have eS8_27 : S8 27 = S 27 := hs8 27 (by decide)
  have eS8_28 : S8 28 = S 28 := hs8 28 (by decide)
  have eS8_29 : S8 29 = S 29 := hs8 29 (by decide)
  have eS8_30 : S8 30 = S 30 := hs8 30 (by decide)
  have eS8_31 : S8 31 = S 31 := hs8 31 (by decide)
  have eS8_32 : S8 32 = S 32 := hs8 32 (by decide)
  have eS8_33 : S8 33 = S 33 := hs8 33 (by decide)
  refine j_istore_n (L' := [(0, .ref 0), (1, vi r8)]) dX7_port_11 (Nat.le_of_ble_eq_true rfl) rfl ?_
  refine j_iload_n dX7_port_12 rfl ?_
  refine j_if_lt (tgt := 21) dX7_port_13 (by decide) (by omega)  (fun h13 => ?_) (fun h13 => ?_)
  · have hde : d 0 1 = -1 := by omega
    have hce := hC8.2.2 ((up_i (by decide)).trans hde)
    obtain ⟨e11, e9, e18, e7, e8, eW, eO, eY⟩ := hce
    rw [up_i (by decide)] at e9 e18 e7 e8 eO eY
    rw [up_row (by decide), up_row (by decide)] at eW
    rw [up_row (by decide)] at eO
    rw [up_row (by decide), up_row (by decide), up_row (by decide)] at eY
    have hnn := hC8.1.2.1
    have hmm := hC8.1.2.2.1
    have hqq := hC8.1.2.2.2.1
    refine j_aload_n dX7_port_21 rfl ?_
    refine j_getR dX7_port_22 fg_X7_72 fq_0_9 ?_
    refine j_aload_n dX7_port_25 rfl ?_
    refine j_getR dX7_port_26 fg_X7_10 fq_0_0 ?_
    refine j_callVv (As := [.ref 1]) (rest := []) (t_X6_tellPlan _) rfl cm_X6_tellPlan ci_X6_tellPlan ml_X7_93 oq_17 rfl (Nat.le_of_ble_eq_true rfl) (Nat.le_of_ble_eq_true rfl) dX7_port_29 (fun r29 S29 hp29 => ?_)
    have hs29 : Same [1, 2, 3] S8 S29 := by
      rw [hp29]
      intro c hc
      have c1 : c ≠ 1 := fun z => hc (by rw [z]; decide)
      have c2 : c ≠ 2 := fun z => hc (by rw [z]; decide)
      have c3 : c ≠ 3 := fun z => hc (by rw [z]; decide)
      rw [cpy_c c3, cpy_c c2, up_row c1]
    have p1 : S29 1 0 = S8 18 0 := by rw [hp29, cpy_c (by decide), cpy_c (by decide), up_s]
    have p1o : ∀ i, i ≠ 0 → S29 1 i = S8 1 i := fun i h => by rw [hp29, cpy_c (by decide), cpy_c (by decide), up_i h]
    have p2 : ∀ k, 0 ≤ k → k < 6 → S29 2 k = S8 19 k ∧ S29 3 k = S8 20 k := fun k a b => by rw [hp29, cpy_c (by decide), cpy_in a b, up_c (by decide), cpy_in a b, cpy_c (by decide), up_c (by decide)]; exact ⟨rfl, rfl⟩
    have eS29_0 : S29 0 = S 0 := (hs29 0 (by decide)).trans eS8_0
    have eS29_11 : S29 11 = S 11 := (hs29 11 (by decide)).trans eS8_11
    have eS29_15 : S29 15 = S 15 := (hs29 15 (by decide)).trans eS8_15
    refine j_aload_n dX7_port_32 rfl ?_
    refine j_getR dX7_port_33 fg_X7_72 fq_0_9 ?_
    refine j_aload_n dX7_port_36 rfl ?_
    refine j_getR dX7_port_37 fg_X7_19 fq_0_1 ?_
    refine j_callVv (As := [.ref 27]) (rest := []) (t_X6_tellFleet _ (by rw [hs29 18 (by decide)]; exact hnn.1) (by rw [hs29 18 (by decide)]; exact hnn.2) (by rw [hs29 17 (by decide)]; exact hmm.1) (by rw [hs29 17 (by decide)]; exact hmm.2) (by rw [hs29 17 (by decide)]; exact hqq.1) (by rw [hs29 17 (by decide)]; exact hqq.2) (by rw [hs29 17 (by decide), hs29 22 (by decide)]; intro e a b; rw [(eY e a (by rw [← e8]; exact b)).1]; exact hdy hde e a (by rw [← e8]; exact b))) rfl cm_X6_tellFleet ci_X6_tellFleet ml_X7_97 oq_17 rfl (Nat.le_of_ble_eq_true rfl) (Nat.le_of_ble_eq_true rfl) dX7_port_40 (fun r40 S40 hp40 => ?_)
    obtain ⟨hs40, f1, f2, f3, f4, f5, f6⟩ := hp40
    rw [hs29 18 (by decide), hs29 17 (by decide), e18, e7, e8] at f2
    rw [hs29 17 (by decide), e7] at f3
    rw [hs29 17 (by decide), hs29 21 (by decide), e7] at f4
    rw [hs29 18 (by decide), hs29 17 (by decide), e18, e7] at f5
    rw [hs29 18 (by decide), hs29 17 (by decide), hs29 22 (by decide), hs29 23 (by decide), hs29 24 (by decide), e18, e7, e8] at f6
    have eS40_0 : S40 0 = S 0 := (hs40 0 (by decide)).trans eS29_0
    have eS40_11 : S40 11 = S 11 := (hs40 11 (by decide)).trans eS29_11
    have eS40_15 : S40 15 = S 15 := (hs40 15 (by decide)).trans eS29_15
    refine j_aload_n dX7_port_43 rfl ?_
    refine j_getR dX7_port_44 fg_X7_44 fq_0_4 ?_
    refine j_callVv (As := []) (rest := []) (t_X4_forgetAll _) rfl cm_X4_forgetAll ci_X4_forgetAll ml_X7_101 oq_11 rfl (Nat.le_of_ble_eq_true rfl) (Nat.le_of_ble_eq_true rfl) dX7_port_47 (fun r47 S47 hp47 => ?_)
    rw [hp47]
    refine j_iconst dX7_port_50 ?_
    refine j_istore_n (L' := [(0, .ref 0), (1, vi r8), (2, vi 0)]) dX7_port_51 (Nat.le_of_ble_eq_true rfl) rfl ?_
    have lp52 : ∀ (n : Nat) (i : Int) (T : St), (2 - i).toNat < n → ((0 ≤ i ∧ i ≤ 2) ∧ Same [15] (up S40 11 2 0) T ∧ ∀ j, 0 ≤ j → j < i → T 15 j = 0) → JJ mX7_port (RX mX7_port P) 52 [(0, .ref 0), (1, vi r8), (2, vi i)] [] T := by
      intro n
      induction n with
      | zero => intro i T hm; exact absurd hm (Nat.not_lt_zero _)
      | succ n ih52 =>
        intro i T hm52 hv52
        obtain ⟨hv1, hv2, hv3⟩ := hv52
        refine j_iload_n dX7_port_52 rfl ?_
        refine j_iconst dX7_port_53 ?_
        refine j_icmp_ge (tgt := 70) dX7_port_54 (by decide) (by omega) (by omega) (fun h54 => ?_) (fun h54 => ?_)
        · have t17 : T 17 9 = d 0 2 := by rw [hv2 17 (by decide), up_c (by decide), hs40 17 (by decide), hs29 17 (by decide)]; exact e9
          refine j_aload_n dX7_port_70 rfl ?_
          refine j_iconst dX7_port_71 ?_
          refine j_putI (i := 13) dX7_port_72 fg_X7_86 ft_7_13 fq_0_13 rfl (by omega) ?_
          refine j_aload_n dX7_port_75 rfl ?_
          refine j_iconst dX7_port_76 ?_
          refine j_putI (i := 12) dX7_port_77 fg_X7_82 ft_7_12 fq_0_12 rfl (by omega) ?_
          refine j_aload_n dX7_port_80 rfl ?_
          refine j_getR dX7_port_81 fg_X7_72 fq_0_9 ?_
          refine j_getI (x := d 0 2) dX7_port_84 fg_X7_104 fq_17_9 t17 (fun hi84 => ?_)
          exact j_iret rfl dX7_port_87 (fun h => by cases h) (hP _ _ (Or.inr ⟨hde, rfl, port_tld hv2 (hv3 0 (by omega) (by omega)) (hv3 1 (by omega) (by omega)) hs40 p1 p2 e18 eW f1 f2 f3 f4 f5 f6 eO eY, port_same hs8 hs29 hs40 hv2, fun i a b => by rw [up_i a, up_i b, hv2 0 (by decide), up_c (by decide), hs40 0 (by decide), hs29 0 (by decide), hs8 0 (by decide)], fun i a => by rw [up_c (by decide), up_c (by decide), hv2 11 (by decide), up_i a, hs40 11 (by decide), hs29 11 (by decide), hs8 11 (by decide)], fun i a => by rw [up_c (by decide), up_c (by decide), hv2 1 (by decide), up_c (by decide), hs40 1 (by decide), p1o i a, hs8 1 (by decide)]⟩))
        · refine j_aload_n dX7_port_57 rfl ?_
          refine j_getR dX7_port_58 fg_X7_59 fq_0_7 ?_
          refine j_iload_n dX7_port_61 rfl ?_
          refine j_iconst dX7_port_62 ?_
          refine j_zast dX7_port_63 aq_15 (by omega) (by omega) (Or.inl rfl) ?_
          refine j_iinc (L' := [(0, .ref 0), (1, vi r8), (2, vi (i + 1))]) dX7_port_64 (Nat.le_of_ble_eq_true rfl) rfl rfl ?_
          refine j_goto (tgt := 52) dX7_port_67 (by decide) ?_
          exact ih52 (i + 1) (up T 15 i 0) (by omega) ⟨by omega, same_up hv2 (by decide), fun j a b => if e : j = i then by rw [e, up_s] else by rw [up_i e]; exact hv3 j a (by omega)⟩
    exact lp52 _ 0 (up S40 11 2 0) (Nat.lt_succ_self _) ⟨by omega, Same.rf, fun j a b => by omega⟩
  · refine j_bipush dX7_port_16 (by decide) ?_
    refine j_iload_n dX7_port_18 rfl ?_
    refine j_isub dX7_port_19 ?_
    exact j_iret rfl dX7_port_20 (fun h => by cases h) (hP _ _ (Or.inl ⟨by omega, by omega, hs8⟩))
