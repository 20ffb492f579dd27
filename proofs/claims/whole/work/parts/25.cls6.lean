set_option maxRecDepth 100000 in
set_option maxHeartbeats 4000000 in
theorem t_X4_forgetAll (S : St) : EX mX4_forgetAll [.ref 11] S (fun r S' => S' = up S 11 2 0) := by
  suffices hh : ∀ P : Int → St → Prop, (∀ r S', (S' = up S 11 2 0) → P r S') → EX mX4_forgetAll [.ref 11] S P from hh _ (fun _ _ h => h)
  intro P hP
  refine EX.of (L := [(0, .ref 11)]) rfl rfl (Nat.le_of_ble_eq_true rfl) rfl ?_
  refine j_aload_n dX4_forgetAll_0 rfl ?_
  refine j_iconst dX4_forgetAll_1 ?_
  refine j_putI (i := 2) dX4_forgetAll_2 fg_X4_21 ft_4_2 fq_11_2 rfl (by omega) ?_
  exact j_vret rfl dX4_forgetAll_5 (fun h => by cases h) (hP _ _ rfl)
set_option maxRecDepth 100000 in
set_option maxHeartbeats 4000000 in
theorem t_X4_remember (S : St) (hPI : PI S) (hp0 : 0 ≤ S 27 1) (hp1 : S 27 1 ≤ 48) (hs0 : 0 ≤ S 27 2) (hs1 : S 27 2 ≤ 6) : EX mX4_remember [.ref 11, .ref 27] S (fun r S' => Rmb S S') := by
  suffices hh : ∀ P : Int → St → Prop, (∀ r S', (Rmb S S') → P r S') → EX mX4_remember [.ref 11, .ref 27] S P from hh _ (fun _ _ h => h)
  intro P hP
  refine EX.of (L := [(0, .ref 11), (1, .ref 27)]) rfl rfl (Nat.le_of_ble_eq_true rfl) rfl ?_
  obtain ⟨⟨hx0, hx1⟩, hk0, hk1⟩ := id hPI
  refine j_aload_n dX4_remember_0 rfl ?_
  refine j_getR dX4_remember_1 fg_X4_11 fq_11_0 ?_
  refine j_aload_n dX4_remember_4 rfl ?_
  refine j_getI (x := S 11 1) dX4_remember_5 fg_X4_17 fq_11_1 rfl (fun hi5 => ?_)
  refine j_aald (d := 48 + 7 * (S 11 1).toNat) dX4_remember_8 dq_12 (by decide) (by omega) (by omega) (by decide) (bef_get (by omega) (by omega)) ?_
  refine j_aload_n dX4_remember_9 rfl ?_
  refine j_callVv (As := [.ref 27]) (rest := []) (t_X1_copyFrom _ (48 + 7 * (S 11 1).toNat) 27 (isF_bef (by omega)) isF_27 (by omega) hp0 hp1 hs0 hs1) rfl cm_X1_copyFrom ci_X1_copyFrom ml_X4_25 (oqF (isF_bef (by omega))) rfl (Nat.le_of_ble_eq_true rfl) (Nat.le_of_ble_eq_true rfl) dX4_remember_10 (fun r10 S10 hp10 => ?_)
  have hsm10 : ∀ c, c < 48 → S10 c = S c := fun c h => hp10.2.2.2.2.2.2 c (Or.inl (by omega))
  have eS10_11 : S10 11 = S 11 := hsm10 11 (by decide)
  refine j_aload_n dX4_remember_13 rfl ?_
  refine j_aload_n dX4_remember_14 rfl ?_
  refine j_getI (x := S 11 1) dX4_remember_15 fg_X4_17 fq_11_1 (congrFun eS10_11 _) (fun hi15 => ?_)
  refine j_iconst dX4_remember_18 ?_
  refine j_iadd dX4_remember_19 ?_
  refine j_bipush dX4_remember_20 (by decide) ?_
  refine j_irem dX4_remember_22 (by omega) (by omega) (by omega) (by omega) ?_
  refine j_putI (i := 1) dX4_remember_23 fg_X4_17 ft_4_1 fq_11_1 rfl (by omega) ?_
  refine j_aload_n dX4_remember_26 rfl ?_
  refine j_bipush dX4_remember_27 (by decide) ?_
  refine j_aload_n dX4_remember_29 rfl ?_
  refine j_getI (x := S 11 2) dX4_remember_30 fg_X4_21 fq_11_2 (congrFun eS10_11 _) (fun hi30 => ?_)
  refine j_iconst dX4_remember_33 ?_
  refine j_iadd dX4_remember_34 ?_
  refine j_mmin dX4_remember_35 mw_X4_29 (by omega) (by omega) (Nat.le_of_ble_eq_true rfl) (Nat.le_of_ble_eq_true rfl) ?_
  refine j_putI (i := 2) dX4_remember_38 fg_X4_21 ft_4_2 fq_11_2 rfl (by split <;> omega) ?_
  exact j_vret rfl dX4_remember_41 (fun h => by cases h) (hP _ _ ⟨S10, hp10, rfl⟩)
set_option maxRecDepth 100000 in
set_option maxHeartbeats 4000000 in
theorem t_X4_restore (S : St) (d : Nat) (hd : d = 48 + 7 * (((S 11 1 + 10) - 1) % 10).toNat) (hPI : PI S) (hk : 0 < S 11 2) (h0 : 0 ≤ S d 1) (h1 : S d 1 ≤ 48) (h2 : 0 ≤ S d 2) (h3 : S d 2 ≤ 6) : EX mX4_restore [.ref 11, .ref 27] S (fun r S' => Cpd (up (up S 11 1 (((S 11 1 + 10) - 1) % 10)) 11 2 (S 11 2 - 1)) 27 d S') := by
  suffices hh : ∀ P : Int → St → Prop, (∀ r S', (Cpd (up (up S 11 1 (((S 11 1 + 10) - 1) % 10)) 11 2 (S 11 2 - 1)) 27 d S') → P r S') → EX mX4_restore [.ref 11, .ref 27] S P from hh _ (fun _ _ h => h)
  intro P hP
  refine EX.of (L := [(0, .ref 11), (1, .ref 27)]) rfl rfl (Nat.le_of_ble_eq_true rfl) rfl ?_
  obtain ⟨⟨hx0, hx1⟩, hk0, hk1⟩ := id hPI
  refine j_aload_n dX4_restore_0 rfl ?_
  refine j_aload_n dX4_restore_1 rfl ?_
  refine j_getI (x := S 11 1) dX4_restore_2 fg_X4_17 fq_11_1 rfl (fun hi2 => ?_)
  refine j_bipush dX4_restore_5 (by decide) ?_
  refine j_iadd dX4_restore_7 ?_
  refine j_iconst dX4_restore_8 ?_
  refine j_isub dX4_restore_9 ?_
  refine j_bipush dX4_restore_10 (by decide) ?_
  refine j_irem dX4_restore_12 (by omega) (by omega) (by omega) (by omega) ?_
  refine j_putI (i := 1) dX4_restore_13 fg_X4_17 ft_4_1 fq_11_1 rfl (by omega) ?_
  refine j_aload_n dX4_restore_16 rfl ?_
  refine j_dup dX4_restore_17 rfl ?_
  refine j_getI (x := S 11 2) dX4_restore_18 fg_X4_21 fq_11_2 rfl (fun hi18 => ?_)
  refine j_iconst dX4_restore_21 ?_
  refine j_isub dX4_restore_22 ?_
  refine j_putI (i := 2) dX4_restore_23 fg_X4_21 ft_4_2 fq_11_2 rfl (by omega) ?_
  refine j_aload_n dX4_restore_26 rfl ?_
  refine j_aload_n dX4_restore_27 rfl ?_
  refine j_getR dX4_restore_28 fg_X4_11 fq_11_0 ?_
  refine j_aload_n dX4_restore_31 rfl ?_
  refine j_getI (x := (((S 11 1) + 10) - 1) % 10) dX4_restore_32 fg_X4_17 fq_11_1 rfl (fun hi32 => ?_)
  refine j_aald (d := d) dX4_restore_35 dq_12 (by decide) (by omega) (by omega) (by decide) (by rw [hd]; exact bef_get (by omega) (by omega)) ?_
  refine j_callVv (As := [.ref d]) (rest := []) (t_X1_copyFrom _ 27 d isF_27 (by rw [hd]; exact isF_bef (by omega)) (by omega) (by rw [up_c (by omega), up_c (by omega)]; exact h0) (by rw [up_c (by omega), up_c (by omega)]; exact h1) (by rw [up_c (by omega), up_c (by omega)]; exact h2) (by rw [up_c (by omega), up_c (by omega)]; exact h3)) rfl cm_X1_copyFrom ci_X1_copyFrom ml_X4_25 oq_27 rfl (Nat.le_of_ble_eq_true rfl) (Nat.le_of_ble_eq_true rfl) dX4_restore_36 (fun r36 S36 hp36 => ?_)
  exact j_vret rfl dX4_restore_39 (fun h => by cases h) (hP _ _ hp36)
set_option maxRecDepth 100000 in
set_option maxHeartbeats 4000000 in
theorem t_X7_replace (S : St) (s p : Int) (r_s : InR s) (r_p : InR p) (hX : XI S) (hPI : PI S) : EX mX7_replace [.ref 0, vi s, vi p] S (fun r S' => (¬ ((0 ≤ s ∧ s < S 27 2) ∧ (0 ≤ p ∧ p < S 27 1)) ∧ r = -1 ∧ S' = S) ∨ (((0 ≤ s ∧ s < S 27 2) ∧ (0 ≤ p ∧ p < S 27 1)) ∧ S 31 p ≠ 8 ∧ r = -2 ∧ S' = S) ∨ (((0 ≤ s ∧ s < S 27 2) ∧ (0 ≤ p ∧ p < S 27 1)) ∧ S 31 p = 8 ∧ r = S 33 (s * 6 + S 28 p) ∧ ∃ S1, Rmb S S1 ∧ S' = up (up (up S1 31 (S 33 (s * 6 + S 28 p)) 8) 33 (s * 6 + S 28 p) p) 31 p s)) := by
  suffices hh : ∀ P : Int → St → Prop, (∀ r S', ((¬ ((0 ≤ s ∧ s < S 27 2) ∧ (0 ≤ p ∧ p < S 27 1)) ∧ r = -1 ∧ S' = S) ∨ (((0 ≤ s ∧ s < S 27 2) ∧ (0 ≤ p ∧ p < S 27 1)) ∧ S 31 p ≠ 8 ∧ r = -2 ∧ S' = S) ∨ (((0 ≤ s ∧ s < S 27 2) ∧ (0 ≤ p ∧ p < S 27 1)) ∧ S 31 p = 8 ∧ r = S 33 (s * 6 + S 28 p) ∧ ∃ S1, Rmb S S1 ∧ S' = up (up (up S1 31 (S 33 (s * 6 + S 28 p)) 8) 33 (s * 6 + S 28 p) p) 31 p s)) → P r S') → EX mX7_replace [.ref 0, vi s, vi p] S P from hh _ (fun _ _ h => h)
  intro P hP
  refine EX.of (L := [(0, .ref 0), (1, vi s), (2, vi p)]) rfl rfl (Nat.le_of_ble_eq_true rfl) rfl ?_
  obtain ⟨⟨hn0, hn1⟩, hwl, ⟨hp0, hp1⟩, ⟨hs0, hs1⟩, hyr, hpt, hhd⟩ := id hX
  have hwt : ∀ k, 0 ≤ k → k < 6 → 1 ≤ S 2 k ∧ S 2 k ≤ 9 := fun k a b => ⟨(hwl k a b).1, (hwl k a b).2.1⟩
  refine j_aload_n dX7_replace_0 rfl ?_
  refine j_iload_n dX7_replace_1 rfl ?_
  refine j_callVi (As := [vi s]) (rest := []) (t_X7_isShip _ s (by omega)) rfl cm_X7_isShip ci_X7_isShip ml_X7_135 oq_0 rfl (Nat.le_of_ble_eq_true rfl) (Nat.le_of_ble_eq_true rfl) dX7_replace_2 (fun r2 S2 hp2 => ?_)
  obtain ⟨⟨rfl, hc2⟩ | ⟨rfl, hc2⟩, he2⟩ := hp2
  · rw [he2]
    refine j_if_eq (tgt := 16) dX7_replace_5 (by decide) (by omega)  (fun h => absurd h (by decide)) (fun _ => ?_)
    refine j_aload_n dX7_replace_8 rfl ?_
    refine j_iload_n dX7_replace_9 rfl ?_
    refine j_callVi (As := [vi p]) (rest := []) (t_X7_isPart _ p (by omega)) rfl cm_X7_isPart ci_X7_isPart ml_X7_120 oq_0 rfl (Nat.le_of_ble_eq_true rfl) (Nat.le_of_ble_eq_true rfl) dX7_replace_10 (fun r10 S10 hp10 => ?_)
    obtain ⟨⟨rfl, hc10⟩ | ⟨rfl, hc10⟩, he10⟩ := hp10
    · rw [he10]
      refine j_if_ne (tgt := 18) dX7_replace_13 (by decide) (by omega)  (fun _ => ?_) (fun h => absurd h (by decide))
      refine j_aload_n dX7_replace_18 rfl ?_
      refine j_getR dX7_replace_19 fg_X7_19 fq_0_1 ?_
      refine j_getR dX7_replace_22 fg_X7_132 fq_27_6 ?_
      refine j_iload_n dX7_replace_25 rfl ?_
      refine j_iald (x := S 31 p) dX7_replace_26 aq_31 (by omega) (by omega) rfl (fun hi26 => ?_)
      refine j_bipush dX7_replace_27 (by decide) ?_
      refine j_icmp_eq (tgt := 35) dX7_replace_29 (by decide) (by omega) (by omega) (fun h29 => ?_) (fun h29 => ?_)
      · have hpp := hpt p (by omega) (by omega)
        have hg := hhd s (S 28 p) (by omega) (by omega) hpp.1.1 hpp.1.2
        refine j_aload_n dX7_replace_35 rfl ?_
        refine j_getR dX7_replace_36 fg_X7_44 fq_0_4 ?_
        refine j_aload_n dX7_replace_39 rfl ?_
        refine j_getR dX7_replace_40 fg_X7_19 fq_0_1 ?_
        refine j_callVv (As := [.ref 27]) (rest := []) (t_X4_remember _ hPI hp0 hp1 hs0 hs1) rfl cm_X4_remember ci_X4_remember ml_X7_170 oq_11 rfl (Nat.le_of_ble_eq_true rfl) (Nat.le_of_ble_eq_true rfl) dX7_replace_43 (fun r43 S43 hp43 => ?_)
        have hsm43 : ∀ c, c < 48 ∧ c ≠ 11 → S43 c = S c := fun c h => hp43.low h.1 h.2
        have eS43_1 : S43 1 = S 1 := hsm43 1 (by decide)
        have eS43_2 : S43 2 = S 2 := hsm43 2 (by decide)
        have eS43_3 : S43 3 = S 3 := hsm43 3 (by decide)
        have eS43_27 : S43 27 = S 27 := hsm43 27 (by decide)
        have eS43_28 : S43 28 = S 28 := hsm43 28 (by decide)
        have eS43_29 : S43 29 = S 29 := hsm43 29 (by decide)
        have eS43_30 : S43 30 = S 30 := hsm43 30 (by decide)
        have eS43_31 : S43 31 = S 31 := hsm43 31 (by decide)
        have eS43_32 : S43 32 = S 32 := hsm43 32 (by decide)
        have eS43_33 : S43 33 = S 33 := hsm43 33 (by decide)
        refine j_aload_n dX7_replace_46 rfl ?_
        refine j_getR dX7_replace_47 fg_X7_19 fq_0_1 ?_
        refine j_iload_n dX7_replace_50 rfl ?_
        refine j_aload_n dX7_replace_51 rfl ?_
        refine j_getR dX7_replace_52 fg_X7_19 fq_0_1 ?_
        refine j_getR dX7_replace_55 fg_X7_123 fq_27_3 ?_
        refine j_iload_n dX7_replace_58 rfl ?_
        refine j_iald (x := S 28 p) dX7_replace_59 aq_28 (by omega) (by omega) (congrFun eS43_28 _) (fun hi59 => ?_)
        refine j_callVi (As := [vi s, vi (S 28 p)]) (rest := []) (t_X1_partAt _ s (S 28 p) (by omega) (by omega) (by omega) (by omega)) rfl cm_X1_partAt ci_X1_partAt ml_X7_138 oq_27 rfl (Nat.le_of_ble_eq_true rfl) (Nat.le_of_ble_eq_true rfl) dX7_replace_60 (fun r60 S60 hp60 => ?_)
        obtain ⟨hr60, he60⟩ := hp60
        rw [he60]
        rw [show r60 = S 33 (s * 6 + (S 28 p)) from hr60.trans (congrFun eS43_33 _)]
        refine j_istore_n (L' := [(0, .ref 0), (1, vi s), (2, vi p), (3, vi (S 33 (s * 6 + (S 28 p))))]) dX7_replace_63 (Nat.le_of_ble_eq_true rfl) rfl ?_
        refine j_aload_n dX7_replace_64 rfl ?_
        refine j_getR dX7_replace_65 fg_X7_19 fq_0_1 ?_
        refine j_getR dX7_replace_68 fg_X7_132 fq_27_6 ?_
        refine j_iload_n dX7_replace_71 rfl ?_
        refine j_bipush dX7_replace_72 (by decide) ?_
        refine j_iast dX7_replace_74 aq_31 (by omega) (by omega) (by omega) ?_
        refine j_aload_n dX7_replace_75 rfl ?_
        refine j_getR dX7_replace_76 fg_X7_19 fq_0_1 ?_
        refine j_iload_n dX7_replace_79 rfl ?_
        refine j_iload_n dX7_replace_80 rfl ?_
        refine j_callVv (As := [vi s, vi p]) (rest := []) (t_X1_putIn _ s p (by omega) (by omega) (by omega) (by omega) (by show 0 ≤ _; rw [show (up S43 31 (S 33 (s * 6 + (S 28 p))) 8) 28 p = S 28 p from (congrFun eS43_28 _)]; omega) (by show _ < 6; rw [show (up S43 31 (S 33 (s * 6 + (S 28 p))) 8) 28 p = S 28 p from (congrFun eS43_28 _)]; omega)) rfl cm_X1_putIn ci_X1_putIn ml_X7_173 oq_27 rfl (Nat.le_of_ble_eq_true rfl) (Nat.le_of_ble_eq_true rfl) dX7_replace_81 (fun r81 S81 hp81 => ?_)
        rw [hp81]
        rw [show (up S43 31 (S 33 (s * 6 + (S 28 p))) 8) 28 p = S 28 p from (congrFun eS43_28 _)]
        refine j_iload_n dX7_replace_84 rfl ?_
        exact j_iret rfl dX7_replace_85 (fun h => by cases h) (hP _ _ (Or.inr (Or.inr ⟨by omega, by omega, rfl, S43, hp43, rfl⟩)))
      · refine j_bipush dX7_replace_32 (by decide) ?_
        exact j_iret rfl dX7_replace_34 (fun h => by cases h) (hP _ _ (Or.inr (Or.inl ⟨by omega, by omega, rfl, rfl⟩)))
    · rw [he10]
      refine j_if_ne (tgt := 18) dX7_replace_13 (by decide) (by omega)  (fun h => absurd h (by decide)) (fun _ => ?_)
      refine j_iconst dX7_replace_16 ?_
      exact j_iret rfl dX7_replace_17 (fun h => by cases h) (hP _ _ (Or.inl ⟨by omega, rfl, rfl⟩))
  · rw [he2]
    refine j_if_eq (tgt := 16) dX7_replace_5 (by decide) (by omega)  (fun _ => ?_) (fun h => absurd h (by decide))
    refine j_iconst dX7_replace_16 ?_
    exact j_iret rfl dX7_replace_17 (fun h => by cases h) (hP _ _ (Or.inl ⟨by omega, rfl, rfl⟩))
set_option maxRecDepth 100000 in
set_option maxHeartbeats 4000000 in
theorem t_X7_fresh (S : St) (k : Int) (r_k : InR k) (hX : XI S) (hPI : PI S) : EX mX7_fresh [.ref 0, vi k] S (fun r S' => (¬ (0 ≤ k ∧ k < S 1 0) ∧ r = -1 ∧ S' = S) ∨ ((0 ≤ k ∧ k < S 1 0) ∧ 48 ≤ S 27 1 ∧ r = -3 ∧ S' = S) ∨ ((0 ≤ k ∧ k < S 1 0) ∧ S 27 1 < 48 ∧ r = S 27 1 ∧ ∃ S1, Rmb S S1 ∧ S' = up (up (up (up (up S1 28 (S 27 1) k) 29 (S 27 1) 9) 30 (S 27 1) 0) 31 (S 27 1) 8) 27 1 (S 27 1 + 1))) := by
  suffices hh : ∀ P : Int → St → Prop, (∀ r S', ((¬ (0 ≤ k ∧ k < S 1 0) ∧ r = -1 ∧ S' = S) ∨ ((0 ≤ k ∧ k < S 1 0) ∧ 48 ≤ S 27 1 ∧ r = -3 ∧ S' = S) ∨ ((0 ≤ k ∧ k < S 1 0) ∧ S 27 1 < 48 ∧ r = S 27 1 ∧ ∃ S1, Rmb S S1 ∧ S' = up (up (up (up (up S1 28 (S 27 1) k) 29 (S 27 1) 9) 30 (S 27 1) 0) 31 (S 27 1) 8) 27 1 (S 27 1 + 1))) → P r S') → EX mX7_fresh [.ref 0, vi k] S P from hh _ (fun _ _ h => h)
  intro P hP
  refine EX.of (L := [(0, .ref 0), (1, vi k)]) rfl rfl (Nat.le_of_ble_eq_true rfl) rfl ?_
  obtain ⟨⟨hn0, hn1⟩, hwl, ⟨hp0, hp1⟩, ⟨hs0, hs1⟩, hyr, hpt, hhd⟩ := id hX
  have hwt : ∀ k, 0 ≤ k → k < 6 → 1 ≤ S 2 k ∧ S 2 k ≤ 9 := fun k a b => ⟨(hwl k a b).1, (hwl k a b).2.1⟩
  refine j_aload_n dX7_fresh_0 rfl ?_
  refine j_iload_n dX7_fresh_1 rfl ?_
  refine j_callVi (As := [vi k]) (rest := []) (t_X7_isPlace _ k (by omega)) rfl cm_X7_isPlace ci_X7_isPlace ml_X7_107 oq_0 rfl (Nat.le_of_ble_eq_true rfl) (Nat.le_of_ble_eq_true rfl) dX7_fresh_2 (fun r2 S2 hp2 => ?_)
  obtain ⟨⟨rfl, hc2⟩ | ⟨rfl, hc2⟩, he2⟩ := hp2
  · rw [he2]
    refine j_if_ne (tgt := 10) dX7_fresh_5 (by decide) (by omega)  (fun _ => ?_) (fun h => absurd h (by decide))
    refine j_aload_n dX7_fresh_10 rfl ?_
    refine j_getR dX7_fresh_11 fg_X7_19 fq_0_1 ?_
    refine j_getI (x := S 27 1) dX7_fresh_14 fg_X7_177 fq_27_1 rfl (fun hi14 => ?_)
    refine j_bipush dX7_fresh_17 (by decide) ?_
    refine j_icmp_lt (tgt := 25) dX7_fresh_19 (by decide) (by omega) (by omega) (fun h19 => ?_) (fun h19 => ?_)
    · refine j_aload_n dX7_fresh_25 rfl ?_
      refine j_getR dX7_fresh_26 fg_X7_44 fq_0_4 ?_
      refine j_aload_n dX7_fresh_29 rfl ?_
      refine j_getR dX7_fresh_30 fg_X7_19 fq_0_1 ?_
      refine j_callVv (As := [.ref 27]) (rest := []) (t_X4_remember _ hPI hp0 hp1 hs0 hs1) rfl cm_X4_remember ci_X4_remember ml_X7_170 oq_11 rfl (Nat.le_of_ble_eq_true rfl) (Nat.le_of_ble_eq_true rfl) dX7_fresh_33 (fun r33 S33 hp33 => ?_)
      have hsm33 : ∀ c, c < 48 ∧ c ≠ 11 → S33 c = S c := fun c h => hp33.low h.1 h.2
      have eS33_1 : S33 1 = S 1 := hsm33 1 (by decide)
      have eS33_2 : S33 2 = S 2 := hsm33 2 (by decide)
      have eS33_3 : S33 3 = S 3 := hsm33 3 (by decide)
      have eS33_27 : S33 27 = S 27 := hsm33 27 (by decide)
      have eS33_28 : S33 28 = S 28 := hsm33 28 (by decide)
      have eS33_29 : S33 29 = S 29 := hsm33 29 (by decide)
      have eS33_30 : S33 30 = S 30 := hsm33 30 (by decide)
      have eS33_31 : S33 31 = S 31 := hsm33 31 (by decide)
      have eS33_32 : S33 32 = S 32 := hsm33 32 (by decide)
      have eS33_33 : S33 33 = S 33 := hsm33 33 (by decide)
      refine j_aload_n dX7_fresh_36 rfl ?_
      refine j_getR dX7_fresh_37 fg_X7_19 fq_0_1 ?_
      refine j_iload_n dX7_fresh_40 rfl ?_
      refine j_bipush dX7_fresh_41 (by decide) ?_
      refine j_iconst dX7_fresh_43 ?_
      refine j_callVi (As := [vi k, vi 9, vi 0]) (rest := []) (t_X1_addPart _ k 9 0 (by rw [eS33_27]; omega) (by rw [eS33_27]; omega) (by omega) (by omega) (by omega)) rfl cm_X1_addPart ci_X1_addPart ml_X7_180 oq_27 rfl (Nat.le_of_ble_eq_true rfl) (Nat.le_of_ble_eq_true rfl) dX7_fresh_44 (fun r44 S44 hp44 => ?_)
      obtain ⟨hr44, he44⟩ := hp44
      rw [eS33_27] at hr44 he44
      exact j_iret rfl dX7_fresh_47 (fun h => by cases h) (hP _ _ (Or.inr (Or.inr ⟨by omega, by omega, hr44, S33, hp33, he44⟩)))
    · refine j_bipush dX7_fresh_22 (by decide) ?_
      exact j_iret rfl dX7_fresh_24 (fun h => by cases h) (hP _ _ (Or.inr (Or.inl ⟨by omega, by omega, rfl, rfl⟩)))
  · rw [he2]
    refine j_if_ne (tgt := 10) dX7_fresh_5 (by decide) (by omega)  (fun h => absurd h (by decide)) (fun _ => ?_)
    refine j_iconst dX7_fresh_8 ?_
    exact j_iret rfl dX7_fresh_9 (fun h => by cases h) (hP _ _ (Or.inl ⟨by omega, rfl, rfl⟩))
set_option maxRecDepth 100000 in
set_option maxHeartbeats 4000000 in
theorem t_X7_build (S : St)  (hX : XI S) (hPI : PI S) : EX mX7_build [.ref 0] S (fun r S' => (Exs (fun k => 0 ≤ k ∧ k < S 1 0 ∧ ∀ p, 0 ≤ p → p < S 27 1 → ¬ (S 31 p = 8 ∧ S 28 p = k)) ∧ r = -2 ∧ S' = S) ∨ ((∀ k, 0 ≤ k → k < S 1 0 → Exs (fun p => 0 ≤ p ∧ p < S 27 1 ∧ S 31 p = 8 ∧ S 28 p = k)) ∧ 6 ≤ S 27 2 ∧ r = -3 ∧ S' = S) ∨ ((∀ k, 0 ≤ k → k < S 1 0 → Exs (fun p => 0 ≤ p ∧ p < S 27 1 ∧ S 31 p = 8 ∧ S 28 p = k)) ∧ S 27 2 < 6 ∧ r = S 27 2 ∧ ∃ S1, Rmb S S1 ∧ Same [27, 31, 32, 33] S1 S' ∧ S' 27 0 = S 27 0 ∧ S' 27 1 = S 27 1 ∧ S' 27 2 = S 27 2 + 1 ∧ (∀ i, i ≠ S 27 2 → S' 32 i = S 32 i) ∧ S' 32 (S 27 2) = 9 ∧ BldR S S' (S 27 2) (S 27 1) (S 1 0))) := by
  suffices hh : ∀ P : Int → St → Prop, (∀ r S', ((Exs (fun k => 0 ≤ k ∧ k < S 1 0 ∧ ∀ p, 0 ≤ p → p < S 27 1 → ¬ (S 31 p = 8 ∧ S 28 p = k)) ∧ r = -2 ∧ S' = S) ∨ ((∀ k, 0 ≤ k → k < S 1 0 → Exs (fun p => 0 ≤ p ∧ p < S 27 1 ∧ S 31 p = 8 ∧ S 28 p = k)) ∧ 6 ≤ S 27 2 ∧ r = -3 ∧ S' = S) ∨ ((∀ k, 0 ≤ k → k < S 1 0 → Exs (fun p => 0 ≤ p ∧ p < S 27 1 ∧ S 31 p = 8 ∧ S 28 p = k)) ∧ S 27 2 < 6 ∧ r = S 27 2 ∧ ∃ S1, Rmb S S1 ∧ Same [27, 31, 32, 33] S1 S' ∧ S' 27 0 = S 27 0 ∧ S' 27 1 = S 27 1 ∧ S' 27 2 = S 27 2 + 1 ∧ (∀ i, i ≠ S 27 2 → S' 32 i = S 32 i) ∧ S' 32 (S 27 2) = 9 ∧ BldR S S' (S 27 2) (S 27 1) (S 1 0))) → P r S') → EX mX7_build [.ref 0] S P from hh _ (fun _ _ h => h)
  intro P hP
  refine EX.of (L := [(0, .ref 0)]) rfl rfl (Nat.le_of_ble_eq_true rfl) rfl ?_
  obtain ⟨⟨hn0, hn1⟩, hwl, ⟨hp0, hp1⟩, ⟨hs0, hs1⟩, hyr, hpt, hhd⟩ := id hX
  have hwt : ∀ k, 0 ≤ k → k < 6 → 1 ≤ S 2 k ∧ S 2 k ≤ 9 := fun k a b => ⟨(hwl k a b).1, (hwl k a b).2.1⟩
  refine j_iconst dX7_build_0 ?_
  refine j_istore_n (L' := [(0, .ref 0), (1, vi 0)]) dX7_build_1 (Nat.le_of_ble_eq_true rfl) rfl ?_
  have lp2 : ∀ (n : Nat) (k : Int), (S 1 0 - k).toNat < n → (0 ≤ k ∧ k ≤ S 1 0 ∧ ∀ j, 0 ≤ j → j < k → Exs (fun p => 0 ≤ p ∧ p < S 27 1 ∧ S 31 p = 8 ∧ S 28 p = j)) → JJ mX7_build (RX mX7_build P) 2 [(0, .ref 0), (1, vi k)] [] S := by
    intro n
    induction n with
    | zero => intro k hm; exact absurd hm (Nat.not_lt_zero _)
    | succ n ih2 =>
      intro k hm2 hv2
      obtain ⟨hv1, hv2, hv3⟩ := hv2
      refine j_iload_n dX7_build_2 rfl ?_
      refine j_aload_n dX7_build_3 rfl ?_
      refine j_getR dX7_build_4 fg_X7_10 fq_0_0 ?_
      refine j_getI (x := S 1 0) dX7_build_7 fg_X7_184 fq_1_0 rfl (fun hi7 => ?_)
      refine j_icmp_ge (tgt := 33) dX7_build_10 (by decide) (by omega) (by omega) (fun h10 => ?_) (fun h10 => ?_)
      · refine j_aload_n dX7_build_33 rfl ?_
        refine j_getR dX7_build_34 fg_X7_19 fq_0_1 ?_
        refine j_getI (x := S 27 2) dX7_build_37 fg_X7_190 fq_27_2 rfl (fun hi37 => ?_)
        refine j_bipush dX7_build_40 (by decide) ?_
        refine j_icmp_lt (tgt := 48) dX7_build_42 (by decide) (by omega) (by omega) (fun h42 => ?_) (fun h42 => ?_)
        · refine j_aload_n dX7_build_48 rfl ?_
          refine j_getR dX7_build_49 fg_X7_44 fq_0_4 ?_
          refine j_aload_n dX7_build_52 rfl ?_
          refine j_getR dX7_build_53 fg_X7_19 fq_0_1 ?_
          refine j_callVv (As := [.ref 27]) (rest := []) (t_X4_remember _ hPI hp0 hp1 hs0 hs1) rfl cm_X4_remember ci_X4_remember ml_X7_170 oq_11 rfl (Nat.le_of_ble_eq_true rfl) (Nat.le_of_ble_eq_true rfl) dX7_build_56 (fun r56 S56 hp56 => ?_)
          have hsm56 : ∀ c, c < 48 ∧ c ≠ 11 → S56 c = S c := fun c h => hp56.low h.1 h.2
          have eS56_1 : S56 1 = S 1 := hsm56 1 (by decide)
          have eS56_2 : S56 2 = S 2 := hsm56 2 (by decide)
          have eS56_3 : S56 3 = S 3 := hsm56 3 (by decide)
          have eS56_27 : S56 27 = S 27 := hsm56 27 (by decide)
          have eS56_28 : S56 28 = S 28 := hsm56 28 (by decide)
          have eS56_29 : S56 29 = S 29 := hsm56 29 (by decide)
          have eS56_30 : S56 30 = S 30 := hsm56 30 (by decide)
          have eS56_31 : S56 31 = S 31 := hsm56 31 (by decide)
          have eS56_32 : S56 32 = S 32 := hsm56 32 (by decide)
          have eS56_33 : S56 33 = S 33 := hsm56 33 (by decide)
          refine j_aload_n dX7_build_59 rfl ?_
          refine j_getR dX7_build_60 fg_X7_19 fq_0_1 ?_
          refine j_bipush dX7_build_63 (by decide) ?_
          refine j_callVi (As := [vi 9]) (rest := []) (t_X1_addShip _ 9 (by rw [eS56_27]; omega) (by rw [eS56_27]; omega) (by omega)) rfl cm_X1_addShip ci_X1_addShip ml_X7_193 oq_27 rfl (Nat.le_of_ble_eq_true rfl) (Nat.le_of_ble_eq_true rfl) dX7_build_65 (fun r65 S65 hp65 => ?_)
          obtain ⟨hr65, he65⟩ := hp65
          rw [eS56_27] at hr65 he65
          have hall : ∀ j, 0 ≤ j → j < S 1 0 → Exs (fun p => 0 ≤ p ∧ p < S 27 1 ∧ S 31 p = 8 ∧ S 28 p = j) := fun j a b => hv3 j a (by omega)
          have u27 : ∀ i, i ≠ 2 → S65 27 i = S 27 i := fun i h => by rw [he65, up_i h, up_c (by decide), eS56_27]
          have u272 : S65 27 2 = S 27 2 + 1 := by rw [he65, up_s]
          have hsm65 : Same [27, 32] S56 S65 := by rw [he65]; exact same_up (same_up Same.rf (by decide)) (by decide)
          have u32 : ∀ i, i ≠ S 27 2 → S65 32 i = S 32 i := fun i h => by rw [he65, up_c (by decide), up_i h, eS56_32]
          have u32n : S65 32 (S 27 2) = 9 := by rw [he65, up_c (by decide), up_s]
          have eS65_1 : S65 1 = S 1 := (hsm65 1 (by decide)).trans eS56_1
          have eS65_28 : S65 28 = S 28 := (hsm65 28 (by decide)).trans eS56_28
          have eS65_31 : S65 31 = S 31 := (hsm65 31 (by decide)).trans eS56_31
          have eS65_33 : S65 33 = S 33 := (hsm65 33 (by decide)).trans eS56_33
          refine j_istore_n (L' := [(0, .ref 0), (1, vi r65)]) dX7_build_68 (Nat.le_of_ble_eq_true rfl) rfl ?_
          refine j_iconst dX7_build_69 ?_
          refine j_istore_n (L' := [(0, .ref 0), (1, vi r65), (2, vi 0)]) dX7_build_70 (Nat.le_of_ble_eq_true rfl) rfl ?_
          have lp71 : ∀ (n : Nat) (k : Int) (T : St), (S 1 0 - k).toNat < n → (0 ≤ k ∧ k ≤ S 1 0 ∧ Same [31, 33] S65 T ∧ BldR S T (S 27 2) (S 27 1) k) → JJ mX7_build (RX mX7_build P) 71 [(0, .ref 0), (1, vi r65), (2, vi k)] [] T := by
            intro n
            induction n with
            | zero => intro k T hm; exact absurd hm (Nat.not_lt_zero _)
            | succ n ih71 =>
              intro k T hm71 hv71
              obtain ⟨hw1, hw2, hw3, hw4⟩ := hv71
              have eT_1 : T 1 = S 1 := (hw3 1 (by decide)).trans eS65_1
              have eT_28 : T 28 = S 28 := (hw3 28 (by decide)).trans eS65_28
              have eT_27 : T 27 1 = S 27 1 := (congrFun (hw3 27 (by decide)) 1).trans (u27 1 (by decide))
              refine j_iload_n dX7_build_71 rfl ?_
              refine j_aload_n dX7_build_72 rfl ?_
              refine j_getR dX7_build_73 fg_X7_10 fq_0_0 ?_
              refine j_getI (x := S 1 0) dX7_build_76 fg_X7_184 fq_1_0 (congrFun eT_1 _) (fun hi76 => ?_)
              refine j_icmp_ge (tgt := 104) dX7_build_79 (by decide) (by omega) (by omega) (fun h79 => ?_) (fun h79 => ?_)
              · refine j_iload_n dX7_build_104 rfl ?_
                exact j_iret rfl dX7_build_105 (fun h => by cases h) (hP _ _ (Or.inr (Or.inr ⟨hall, by omega, hr65, S56, hp56, (hsm65.mono (by decide)).tr (hw3.mono (by decide)), (congrFun (hw3 27 (by decide)) 0).trans (u27 0 (by decide)), eT_27, (congrFun (hw3 27 (by decide)) 2).trans u272, fun i h => (congrFun (hw3 32 (by decide)) i).trans (u32 i h), (congrFun (hw3 32 (by decide)) _).trans u32n, by rw [show S 1 0 = k by omega]; exact hw4⟩)))
              · refine j_aload_n dX7_build_82 rfl ?_
                refine j_getR dX7_build_83 fg_X7_19 fq_0_1 ?_
                refine j_iload_n dX7_build_86 rfl ?_
                refine j_aload_n dX7_build_87 rfl ?_
                refine j_getR dX7_build_88 fg_X7_19 fq_0_1 ?_
                refine j_iload_n dX7_build_91 rfl ?_
                refine j_callVi (As := [vi k]) (rest := [vi r65, .ref 27]) (t_X1_firstLying _ k (by rw [eT_27]; omega) (by rw [eT_27]; omega) (by omega)) rfl cm_X1_firstLying ci_X1_firstLying ml_X7_187 oq_27 rfl (Nat.le_of_ble_eq_true rfl) (Nat.le_of_ble_eq_true rfl) dX7_build_92 (fun r92 S92 hp92 => ?_)
                obtain ⟨hr92, he92⟩ := hp92
                rw [he92]
                rw [eT_27, eT_28] at hr92
                have hf9 : Fst (fun p => S 31 p = 8 ∧ S 28 p = k) (S 27 1) (-1) r92 := by
                  rcases hr92 with ⟨z1, z2, z3, z4⟩ | ⟨z1, z2⟩
                  · exact Or.inl ⟨z1, z2, hw4.lies.mp z3, fun q a b z => z4 q a b (hw4.lies.mpr z)⟩
                  · exact Or.inr ⟨z1, fun q a b z => z2 q a b (hw4.lies.mpr z)⟩
                have hq9 : (0 ≤ r92 ∧ r92 < S 27 1) ∧ S 28 r92 = k := by
                  rcases hf9 with ⟨z1, z2, z3, _⟩ | ⟨z1, z2⟩
                  · exact ⟨⟨z1, z2⟩, z3.2⟩
                  · obtain ⟨q, q1, q2, q3⟩ := hall k (by omega) (by omega)
                    exact absurd q3 (z2 q q1 q2)
                have hb9 := hw4.step hw1 hf9 hq9.1.1
                rw [← hr65] at hb9
                refine j_callVv (As := [vi r65, vi r92]) (rest := []) (t_X1_putIn _ r65 r92 (by omega) (by omega) (by omega) (by omega) (by rw [eT_28]; omega) (by rw [eT_28]; omega)) rfl cm_X1_putIn ci_X1_putIn ml_X7_173 oq_27 rfl (Nat.le_of_ble_eq_true rfl) (Nat.le_of_ble_eq_true rfl) dX7_build_95 (fun r95 S95 hp95 => ?_)
                rw [hp95]
                rw [show T 28 r92 = k from (congrFun eT_28 _).trans hq9.2]
                refine j_iinc (L' := [(0, .ref 0), (1, vi r65), (2, vi (k + 1))]) dX7_build_98 (Nat.le_of_ble_eq_true rfl) rfl rfl ?_
                refine j_goto (tgt := 71) dX7_build_101 (by decide) ?_
                exact ih71 (k + 1) (up (up T 33 (r65 * 6 + k) r92) 31 r92 r65) (by omega) ⟨by omega, by omega, same_up (same_up hw3 (by decide)) (by decide), by rw [← hr65]; exact hb9⟩
          exact lp71 _ 0 S65 (Nat.lt_succ_self _) ⟨by omega, by omega, Same.rf, BldR.start eS65_31 eS65_33⟩
        · refine j_bipush dX7_build_45 (by decide) ?_
          exact j_iret rfl dX7_build_47 (fun h => by cases h) (hP _ _ (Or.inr (Or.inl ⟨fun j a b => hv3 j a (by omega), by omega, rfl, rfl⟩)))
      · refine j_aload_n dX7_build_13 rfl ?_
        refine j_getR dX7_build_14 fg_X7_19 fq_0_1 ?_
        refine j_iload_n dX7_build_17 rfl ?_
        refine j_callVi (As := [vi k]) (rest := []) (t_X1_firstLying _ k (by omega) (by omega) (by omega)) rfl cm_X1_firstLying ci_X1_firstLying ml_X7_187 oq_27 rfl (Nat.le_of_ble_eq_true rfl) (Nat.le_of_ble_eq_true rfl) dX7_build_18 (fun r18 S18 hp18 => ?_)
        obtain ⟨hr18, he18⟩ := hp18
        rw [he18]
        have hrb : -1 ≤ r18 ∧ r18 < 48 := by rcases hr18 with ⟨z1, z2, _, _⟩ | ⟨z1, _⟩ <;> omega
        refine j_if_ge (tgt := 27) dX7_build_21 (by decide) (by omega)  (fun h21 => ?_) (fun h21 => ?_)
        · refine j_iinc (L' := [(0, .ref 0), (1, vi (k + 1))]) dX7_build_27 (Nat.le_of_ble_eq_true rfl) rfl rfl ?_
          refine j_goto (tgt := 2) dX7_build_30 (by decide) ?_
          exact ih2 (k + 1) (by omega) ⟨by omega, by omega, fun j a b => if e : j = k then by rw [e]; rcases hr18 with ⟨z1, z2, z3, _⟩ | ⟨z1, _⟩; exact ⟨r18, z1, z2, z3⟩; omega else hv3 j a (by omega)⟩
        · refine j_bipush dX7_build_24 (by decide) ?_
          exact j_iret rfl dX7_build_26 (fun h => by cases h) (hP _ _ (Or.inl ⟨⟨k, by omega, by omega, by rcases hr18 with ⟨z1, _, _, _⟩ | ⟨_, z2⟩; omega; exact z2⟩, rfl, rfl⟩))
  exact lp2 _ 0 (Nat.lt_succ_self _) ⟨by omega, by omega, fun j a b => by omega⟩
theorem yr_step {S T U : St} {P p l l' : Int} (hp : 0 ≤ p) (h : YrR S T P p l) (h1 : U 30 p = S 30 p + 1) (h2 : U 31 p = if S 31 p = 8 ∧ S 3 (S 28 p) ≤ S 30 p + 1 then 9 else S 31 p) (h3 : l' = l + if S 31 p = 8 ∧ S 3 (S 28 p) ≤ S 30 p + 1 then 1 else 0) (ho : ∀ q, q ≠ p → U 30 q = T 30 q ∧ U 31 q = T 31 q) : YrR S U P (p + 1) l' := by
  refine ⟨fun q a b => ?_, fun q a => ?_, ?_⟩
  · by_cases e : q = p
    · subst e; exact ⟨h1, h2⟩
    · rw [(ho q e).1, (ho q e).2]; exact h.1 q a (by omega)
  · rw [(ho q (by omega)).1, (ho q (by omega)).2]; exact h.2.1 q (by omega)
  · rw [sm_s hp, h3, h.2.2]
set_option maxRecDepth 100000 in
set_option maxHeartbeats 4000000 in
theorem t_X7_year (S : St)  (hX : XI S) (hPI : PI S) : EX mX7_year [.ref 0] S (fun r S' => (99 ≤ S 27 0 ∧ r = -2 ∧ S' = S) ∨ (S 27 0 < 99 ∧ ∃ S1, Rmb S S1 ∧ Same [27, 30, 31] S1 S' ∧ S' 27 0 = S 27 0 + 1 ∧ S' 27 1 = S 27 1 ∧ S' 27 2 = S 27 2 ∧ YrR S S' (S 27 1) (S 27 1) r)) := by
  suffices hh : ∀ P : Int → St → Prop, (∀ r S', ((99 ≤ S 27 0 ∧ r = -2 ∧ S' = S) ∨ (S 27 0 < 99 ∧ ∃ S1, Rmb S S1 ∧ Same [27, 30, 31] S1 S' ∧ S' 27 0 = S 27 0 + 1 ∧ S' 27 1 = S 27 1 ∧ S' 27 2 = S 27 2 ∧ YrR S S' (S 27 1) (S 27 1) r)) → P r S') → EX mX7_year [.ref 0] S P from hh _ (fun _ _ h => h)
  intro P hP
  refine EX.of (L := [(0, .ref 0)]) rfl rfl (Nat.le_of_ble_eq_true rfl) rfl ?_
  obtain ⟨⟨hn0, hn1⟩, hwl, ⟨hp0, hp1⟩, ⟨hs0, hs1⟩, hyr, hpt, hhd⟩ := id hX
  have hwt : ∀ k, 0 ≤ k → k < 6 → 1 ≤ S 2 k ∧ S 2 k ≤ 9 := fun k a b => ⟨(hwl k a b).1, (hwl k a b).2.1⟩
  refine j_aload_n dX7_year_0 rfl ?_
  refine j_getR dX7_year_1 fg_X7_19 fq_0_1 ?_
  refine j_getI (x := S 27 0) dX7_year_4 fg_X7_154 fq_27_0 rfl (fun hi4 => ?_)
  refine j_bipush dX7_year_7 (by decide) ?_
  refine j_icmp_lt (tgt := 15) dX7_year_9 (by decide) (by omega) (by omega) (fun h9 => ?_) (fun h9 => ?_)
  · refine j_aload_n dX7_year_15 rfl ?_
    refine j_getR dX7_year_16 fg_X7_44 fq_0_4 ?_
    refine j_aload_n dX7_year_19 rfl ?_
    refine j_getR dX7_year_20 fg_X7_19 fq_0_1 ?_
    refine j_callVv (As := [.ref 27]) (rest := []) (t_X4_remember _ hPI hp0 hp1 hs0 hs1) rfl cm_X4_remember ci_X4_remember ml_X7_170 oq_11 rfl (Nat.le_of_ble_eq_true rfl) (Nat.le_of_ble_eq_true rfl) dX7_year_23 (fun r23 S23 hp23 => ?_)
    have hsm23 : ∀ c, c < 48 ∧ c ≠ 11 → S23 c = S c := fun c h => hp23.low h.1 h.2
    have eS23_1 : S23 1 = S 1 := hsm23 1 (by decide)
    have eS23_2 : S23 2 = S 2 := hsm23 2 (by decide)
    have eS23_3 : S23 3 = S 3 := hsm23 3 (by decide)
    have eS23_27 : S23 27 = S 27 := hsm23 27 (by decide)
    have eS23_28 : S23 28 = S 28 := hsm23 28 (by decide)
    have eS23_29 : S23 29 = S 29 := hsm23 29 (by decide)
    have eS23_30 : S23 30 = S 30 := hsm23 30 (by decide)
    have eS23_31 : S23 31 = S 31 := hsm23 31 (by decide)
    have eS23_32 : S23 32 = S 32 := hsm23 32 (by decide)
    have eS23_33 : S23 33 = S 33 := hsm23 33 (by decide)
    refine j_aload_n dX7_year_26 rfl ?_
    refine j_getR dX7_year_27 fg_X7_19 fq_0_1 ?_
    refine j_dup dX7_year_30 rfl ?_
    refine j_getI (x := S 27 0) dX7_year_31 fg_X7_154 fq_27_0 (congrFun eS23_27 _) (fun hi31 => ?_)
    refine j_iconst dX7_year_34 ?_
    refine j_iadd dX7_year_35 ?_
    refine j_putI (i := 0) dX7_year_36 fg_X7_154 ft_1_0 fq_27_0 rfl (by omega) ?_
    refine j_st (fun U eU => ?_)
    have hsmU : Same [27] S23 U := by rw [eU]; exact same_up Same.rf (by decide)
    have u270 : U 27 0 = S 27 0 + 1 := by rw [eU, up_s]
    have u27 : ∀ i, i ≠ 0 → U 27 i = S 27 i := fun i h => by rw [eU, up_i h, eS23_27]
    have eU_1 : U 1 = S23 1 := hsmU 1 (by decide)
    have eU_3 : U 3 = S23 3 := hsmU 3 (by decide)
    have eU_28 : U 28 = S23 28 := hsmU 28 (by decide)
    have eU_30 : U 30 = S23 30 := hsmU 30 (by decide)
    have eU_31 : U 31 = S23 31 := hsmU 31 (by decide)
    have eU_1 := eU_1.trans eS23_1
    have eU_3 := eU_3.trans eS23_3
    have eU_28 := eU_28.trans eS23_28
    have eU_30 := eU_30.trans eS23_30
    have eU_31 := eU_31.trans eS23_31
    refine j_iconst dX7_year_39 ?_
    refine j_istore_n (L' := [(0, .ref 0), (1, vi 0)]) dX7_year_40 (Nat.le_of_ble_eq_true rfl) rfl ?_
    refine j_iconst dX7_year_41 ?_
    refine j_istore_n (L' := [(0, .ref 0), (1, vi 0), (2, vi 0)]) dX7_year_42 (Nat.le_of_ble_eq_true rfl) rfl ?_
    have lp43 : ∀ (n : Nat) (lo p : Int) (T : St), (S 27 1 - p).toNat < n → (0 ≤ p ∧ p ≤ S 27 1 ∧ Same [30, 31] U T ∧ YrR S T (S 27 1) p lo) → JJ mX7_year (RX mX7_year P) 43 [(0, .ref 0), (1, vi lo), (2, vi p)] [] T := by
      intro n
      induction n with
      | zero => intro lo p T hm; exact absurd hm (Nat.not_lt_zero _)
      | succ n ih43 =>
        intro lo p T hm43 hv43
        obtain ⟨hv1, hv2, hv3, hv4⟩ := hv43
        have eT_3 : T 3 = S 3 := (hv3 3 (by decide)).trans eU_3
        have eT_28 : T 28 = S 28 := (hv3 28 (by decide)).trans eU_28
        have eT_27 : T 27 1 = S 27 1 := (congrFun (hv3 27 (by decide)) 1).trans (u27 1 (by decide))
        have ep := hv4.2.1 p (Int.le_refl _)
        refine j_iload_n dX7_year_43 rfl ?_
        refine j_aload_n dX7_year_44 rfl ?_
        refine j_getR dX7_year_45 fg_X7_19 fq_0_1 ?_
        refine j_getI (x := S 27 1) dX7_year_48 fg_X7_177 fq_27_1 eT_27 (fun hi48 => ?_)
        refine j_icmp_ge (tgt := 130) dX7_year_51 (by decide) (by omega) (by omega) (fun h51 => ?_) (fun h51 => ?_)
        · refine j_iload_n dX7_year_130 rfl ?_
          exact j_iret rfl dX7_year_131 (fun h => by cases h) (hP _ _ (Or.inr ⟨by omega, S23, hp23, (hsmU.mono (by decide)).tr (hv3.mono (by decide)), (congrFun (hv3 27 (by decide)) 0).trans u270, eT_27, (congrFun (hv3 27 (by decide)) 2).trans (u27 2 (by decide)), by rw [show p = S 27 1 by omega] at hv4; exact hv4⟩))
        · have hpp := hpt p (by omega) (by omega)
          refine j_aload_n dX7_year_54 rfl ?_
          refine j_getR dX7_year_55 fg_X7_19 fq_0_1 ?_
          refine j_getR dX7_year_58 fg_X7_129 fq_27_5 ?_
          refine j_iload_n dX7_year_61 rfl ?_
          refine j_dup2 dX7_year_62 rfl rfl ?_
          refine j_iald (x := S 30 p) dX7_year_63 aq_30 (by omega) (by omega) ep.1 (fun hi63 => ?_)
          refine j_iconst dX7_year_64 ?_
          refine j_iadd dX7_year_65 ?_
          refine j_iast dX7_year_66 aq_30 (by omega) (by omega) (by omega) ?_
          refine j_aload_n dX7_year_67 rfl ?_
          refine j_getR dX7_year_68 fg_X7_19 fq_0_1 ?_
          refine j_getR dX7_year_71 fg_X7_132 fq_27_6 ?_
          refine j_iload_n dX7_year_74 rfl ?_
          refine j_iald (x := S 31 p) dX7_year_75 aq_31 (by omega) (by omega) ep.2 (fun hi75 => ?_)
          refine j_bipush dX7_year_76 (by decide) ?_
          refine j_icmp_ne (tgt := 124) dX7_year_78 (by decide) (by omega) (by omega) (fun h78 => ?_) (fun h78 => ?_)
          · refine j_iinc (L' := [(0, .ref 0), (1, vi lo), (2, vi (p + 1))]) dX7_year_124 (Nat.le_of_ble_eq_true rfl) rfl rfl ?_
            refine j_goto (tgt := 43) dX7_year_127 (by decide) ?_
            exact ih43 lo (p + 1) (up T 30 p ((S 30 p) + 1)) (by omega) ⟨by omega, by omega, same_up hv3 (by decide), yr_step hv1 hv4 (by simp [up]) (by rw [up_c (by decide), ep.2, if_neg (by omega)]) (by rw [if_neg (by omega), Int.add_zero]) (fun q e => by simp [up, e])⟩
          · refine j_aload_n dX7_year_81 rfl ?_
            refine j_getR dX7_year_82 fg_X7_19 fq_0_1 ?_
            refine j_getR dX7_year_85 fg_X7_129 fq_27_5 ?_
            refine j_iload_n dX7_year_88 rfl ?_
            refine j_iald (x := (S 30 p) + 1) dX7_year_89 aq_30 (by omega) (by omega) (by simp [up]) (fun hi89 => ?_)
            refine j_aload_n dX7_year_90 rfl ?_
            refine j_getR dX7_year_91 fg_X7_10 fq_0_0 ?_
            refine j_getR dX7_year_94 fg_X7_114 fq_1_2 ?_
            refine j_aload_n dX7_year_97 rfl ?_
            refine j_getR dX7_year_98 fg_X7_19 fq_0_1 ?_
            refine j_getR dX7_year_101 fg_X7_123 fq_27_3 ?_
            refine j_iload_n dX7_year_104 rfl ?_
            refine j_iald (x := S 28 p) dX7_year_105 aq_28 (by omega) (by omega) (congrFun eT_28 _) (fun hi105 => ?_)
            refine j_iald (x := S 3 (S 28 p)) dX7_year_106 aq_3 (by omega) (by omega) (congrFun eT_3 _) (fun hi106 => ?_)
            refine j_icmp_lt (tgt := 124) dX7_year_107 (by decide) (by omega) (by omega) (fun h107 => ?_) (fun h107 => ?_)
            · refine j_iinc (L' := [(0, .ref 0), (1, vi lo), (2, vi (p + 1))]) dX7_year_124 (Nat.le_of_ble_eq_true rfl) rfl rfl ?_
              refine j_goto (tgt := 43) dX7_year_127 (by decide) ?_
              exact ih43 lo (p + 1) (up T 30 p ((S 30 p) + 1)) (by omega) ⟨by omega, by omega, same_up hv3 (by decide), yr_step hv1 hv4 (by simp [up]) (by rw [up_c (by decide), ep.2, if_neg (by omega)]) (by rw [if_neg (by omega), Int.add_zero]) (fun q e => by simp [up, e])⟩
            · refine j_aload_n dX7_year_110 rfl ?_
              refine j_getR dX7_year_111 fg_X7_19 fq_0_1 ?_
              refine j_getR dX7_year_114 fg_X7_132 fq_27_6 ?_
              refine j_iload_n dX7_year_117 rfl ?_
              refine j_bipush dX7_year_118 (by decide) ?_
              refine j_iast dX7_year_120 aq_31 (by omega) (by omega) (by omega) ?_
              refine j_iinc (L' := [(0, .ref 0), (1, vi (lo + 1)), (2, vi p)]) dX7_year_121 (Nat.le_of_ble_eq_true rfl) rfl rfl ?_
              refine j_iinc (L' := [(0, .ref 0), (1, vi (lo + 1)), (2, vi (p + 1))]) dX7_year_124 (Nat.le_of_ble_eq_true rfl) rfl rfl ?_
              refine j_goto (tgt := 43) dX7_year_127 (by decide) ?_
              exact ih43 (lo + 1) (p + 1) (up (up T 30 p ((S 30 p) + 1)) 31 p 9) (by omega) ⟨by omega, by omega, same_up (same_up hv3 (by decide)) (by decide), yr_step hv1 hv4 (by simp [up]) (by rw [up_s, if_pos ⟨by omega, by omega⟩]) (by rw [if_pos ⟨by omega, by omega⟩]) (fun q e => by simp [up, e])⟩
    exact lp43 _ 0 0 U (Nat.lt_succ_self _) ⟨by omega, by omega, Same.rf, fun q a b => by omega, fun q a => ⟨congrFun eU_30 q, congrFun eU_31 q⟩, rfl⟩
  · refine j_bipush dX7_year_12 (by decide) ?_
    exact j_iret rfl dX7_year_14 (fun h => by cases h) (hP _ _ (Or.inl ⟨by omega, rfl, rfl⟩))
set_option maxRecDepth 100000 in
set_option maxHeartbeats 4000000 in
theorem t_X7_undo (S : St)  (hX : XI S) (hPI : PI S) (hq : 0 < S 11 2 → (0 ≤ S (48 + 7 * (((S 11 1 + 10) - 1) % 10).toNat) 1 ∧ S (48 + 7 * (((S 11 1 + 10) - 1) % 10).toNat) 1 ≤ 48) ∧ 0 ≤ S (48 + 7 * (((S 11 1 + 10) - 1) % 10).toNat) 2 ∧ S (48 + 7 * (((S 11 1 + 10) - 1) % 10).toNat) 2 ≤ 6) : EX mX7_undo [.ref 0] S (fun r S' => (S 11 2 = 0 ∧ r = -2 ∧ S' = S) ∨ (0 < S 11 2 ∧ r = S 11 2 - 1 ∧ Cpd (up (up S 11 1 (((S 11 1 + 10) - 1) % 10)) 11 2 (S 11 2 - 1)) 27 (48 + 7 * (((S 11 1 + 10) - 1) % 10).toNat) S')) := by
  suffices hh : ∀ P : Int → St → Prop, (∀ r S', ((S 11 2 = 0 ∧ r = -2 ∧ S' = S) ∨ (0 < S 11 2 ∧ r = S 11 2 - 1 ∧ Cpd (up (up S 11 1 (((S 11 1 + 10) - 1) % 10)) 11 2 (S 11 2 - 1)) 27 (48 + 7 * (((S 11 1 + 10) - 1) % 10).toNat) S')) → P r S') → EX mX7_undo [.ref 0] S P from hh _ (fun _ _ h => h)
  intro P hP
  refine EX.of (L := [(0, .ref 0)]) rfl rfl (Nat.le_of_ble_eq_true rfl) rfl ?_
  obtain ⟨⟨hn0, hn1⟩, hwl, ⟨hp0, hp1⟩, ⟨hs0, hs1⟩, hyr, hpt, hhd⟩ := id hX
  have hwt : ∀ k, 0 ≤ k → k < 6 → 1 ≤ S 2 k ∧ S 2 k ≤ 9 := fun k a b => ⟨(hwl k a b).1, (hwl k a b).2.1⟩
  obtain ⟨⟨hx0, hx1⟩, hk0, hk1⟩ := id hPI
  refine j_aload_n dX7_undo_0 rfl ?_
  refine j_getR dX7_undo_1 fg_X7_44 fq_0_4 ?_
  refine j_getI (x := S 11 2) dX7_undo_4 fg_X7_167 fq_11_2 rfl (fun hi4 => ?_)
  refine j_if_ne (tgt := 13) dX7_undo_7 (by decide) (by omega)  (fun h7 => ?_) (fun h7 => ?_)
  · refine j_aload_n dX7_undo_13 rfl ?_
    refine j_getR dX7_undo_14 fg_X7_44 fq_0_4 ?_
    refine j_aload_n dX7_undo_17 rfl ?_
    refine j_getR dX7_undo_18 fg_X7_19 fq_0_1 ?_
    refine j_callVv (As := [.ref 27]) (rest := []) (t_X4_restore _ _ rfl hPI (by omega) (hq (by omega)).1.1 (hq (by omega)).1.2 (hq (by omega)).2.1 (hq (by omega)).2.2) rfl cm_X4_restore ci_X4_restore ml_X7_196 oq_11 rfl (Nat.le_of_ble_eq_true rfl) (Nat.le_of_ble_eq_true rfl) dX7_undo_21 (fun r21 S21 hp21 => ?_)
    have e21 : S21 11 2 = S 11 2 - 1 := by rw [hp21.2.2.2.2.2.2 11 (Or.inl (by omega)), up_s]
    refine j_aload_n dX7_undo_24 rfl ?_
    refine j_getR dX7_undo_25 fg_X7_44 fq_0_4 ?_
    refine j_getI (x := S 11 2 - 1) dX7_undo_28 fg_X7_167 fq_11_2 e21 (fun hi28 => ?_)
    exact j_iret rfl dX7_undo_31 (fun h => by cases h) (hP _ _ (Or.inr ⟨by omega, rfl, hp21⟩))
  · refine j_bipush dX7_undo_10 (by decide) ?_
    exact j_iret rfl dX7_undo_12 (fun h => by cases h) (hP _ _ (Or.inl ⟨by omega, rfl, rfl⟩))
set_option maxRecDepth 100000 in
set_option maxHeartbeats 4000000 in
theorem t_X7_keep (S : St) (i : Int) (r_i : InR i) (hX : XI S) (hPI : PI S) : EX mX7_keep [.ref 0, vi i] S (fun r S' => (¬ (0 ≤ i ∧ i < 2) ∧ r = -1 ∧ S' = S) ∨ ((0 ≤ i ∧ i < 2) ∧ r = S 27 0 ∧ ∃ S1, Cpd S (34 + 7 * i.toNat) 27 S1 ∧ S' = up S1 15 i 1)) := by
  suffices hh : ∀ P : Int → St → Prop, (∀ r S', ((¬ (0 ≤ i ∧ i < 2) ∧ r = -1 ∧ S' = S) ∨ ((0 ≤ i ∧ i < 2) ∧ r = S 27 0 ∧ ∃ S1, Cpd S (34 + 7 * i.toNat) 27 S1 ∧ S' = up S1 15 i 1)) → P r S') → EX mX7_keep [.ref 0, vi i] S P from hh _ (fun _ _ h => h)
  intro P hP
  refine EX.of (L := [(0, .ref 0), (1, vi i)]) rfl rfl (Nat.le_of_ble_eq_true rfl) rfl ?_
  obtain ⟨⟨hn0, hn1⟩, hwl, ⟨hp0, hp1⟩, ⟨hs0, hs1⟩, hyr, hpt, hhd⟩ := id hX
  have hwt : ∀ k, 0 ≤ k → k < 6 → 1 ≤ S 2 k ∧ S 2 k ≤ 9 := fun k a b => ⟨(hwl k a b).1, (hwl k a b).2.1⟩
  refine j_iload_n dX7_keep_0 rfl ?_
  refine j_if_lt (tgt := 9) dX7_keep_1 (by decide) (by omega)  (fun h1 => ?_) (fun h1 => ?_)
  · refine j_iconst dX7_keep_9 ?_
    exact j_iret rfl dX7_keep_10 (fun h => by cases h) (hP _ _ (Or.inl ⟨by omega, rfl, rfl⟩))
  · refine j_iload_n dX7_keep_4 rfl ?_
    refine j_iconst dX7_keep_5 ?_
    refine j_icmp_lt (tgt := 11) dX7_keep_6 (by decide) (by omega) (by omega) (fun h6 => ?_) (fun h6 => ?_)
    · refine j_aload_n dX7_keep_11 rfl ?_
      refine j_getR dX7_keep_12 fg_X7_55 fq_0_6 ?_
      refine j_iload_n dX7_keep_15 rfl ?_
      refine j_aald (d := 34 + 7 * i.toNat) dX7_keep_16 dq_14 (by decide) (by omega) (by omega) (by decide) (img_get (by omega) (by omega)) ?_
      refine j_aload_n dX7_keep_17 rfl ?_
      refine j_getR dX7_keep_18 fg_X7_19 fq_0_1 ?_
      refine j_callVv (As := [.ref 27]) (rest := []) (t_X1_copyFrom _ (34 + 7 * i.toNat) 27 (isF_img (by omega)) isF_27 (by omega) hp0 hp1 hs0 hs1) rfl cm_X1_copyFrom ci_X1_copyFrom ml_X7_278 (oqF (isF_img (by omega))) rfl (Nat.le_of_ble_eq_true rfl) (Nat.le_of_ble_eq_true rfl) dX7_keep_21 (fun r21 S21 hp21 => ?_)
      have hsm21 : ∀ c, c < 34 → S21 c = S c := fun c h => hp21.2.2.2.2.2.2 c (Or.inl (by omega))
      have eS21_11 : S21 11 = S 11 := hsm21 11 (by decide)
      have eS21_15 : S21 15 = S 15 := hsm21 15 (by decide)
      have eS21_27 : S21 27 = S 27 := hsm21 27 (by decide)
      refine j_aload_n dX7_keep_24 rfl ?_
      refine j_getR dX7_keep_25 fg_X7_59 fq_0_7 ?_
      refine j_iload_n dX7_keep_28 rfl ?_
      refine j_iconst dX7_keep_29 ?_
      refine j_zast dX7_keep_30 aq_15 (by omega) (by omega) (by omega) ?_
      refine j_aload_n dX7_keep_31 rfl ?_
      refine j_getR dX7_keep_32 fg_X7_19 fq_0_1 ?_
      refine j_getI (x := S 27 0) dX7_keep_35 fg_X7_154 fq_27_0 (congrFun eS21_27 _) (fun hi35 => ?_)
      exact j_iret rfl dX7_keep_38 (fun h => by cases h) (hP _ _ (Or.inr ⟨by omega, rfl, S21, hp21, rfl⟩))
    · refine j_iconst dX7_keep_9 ?_
      exact j_iret rfl dX7_keep_10 (fun h => by cases h) (hP _ _ (Or.inl ⟨by omega, rfl, rfl⟩))
set_option maxRecDepth 100000 in
set_option maxHeartbeats 4000000 in
theorem t_X7_back (S : St) (i : Int) (r_i : InR i) (hX : XI S) (hPI : PI S) (hq : 0 ≤ i → i < 2 → S 15 i ≠ 0 → (0 ≤ S (34 + 7 * i.toNat) 1 ∧ S (34 + 7 * i.toNat) 1 ≤ 48) ∧ 0 ≤ S (34 + 7 * i.toNat) 2 ∧ S (34 + 7 * i.toNat) 2 ≤ 6) : EX mX7_back [.ref 0, vi i] S (fun r S' => (¬ (0 ≤ i ∧ i < 2) ∧ r = -1 ∧ S' = S) ∨ ((0 ≤ i ∧ i < 2) ∧ S 15 i = 0 ∧ r = -2 ∧ S' = S) ∨ ((0 ≤ i ∧ i < 2) ∧ S 15 i ≠ 0 ∧ r = S (34 + 7 * i.toNat) 0 ∧ ∃ S1, Cpd S 27 (34 + 7 * i.toNat) S1 ∧ S' = up S1 11 2 0)) := by
  suffices hh : ∀ P : Int → St → Prop, (∀ r S', ((¬ (0 ≤ i ∧ i < 2) ∧ r = -1 ∧ S' = S) ∨ ((0 ≤ i ∧ i < 2) ∧ S 15 i = 0 ∧ r = -2 ∧ S' = S) ∨ ((0 ≤ i ∧ i < 2) ∧ S 15 i ≠ 0 ∧ r = S (34 + 7 * i.toNat) 0 ∧ ∃ S1, Cpd S 27 (34 + 7 * i.toNat) S1 ∧ S' = up S1 11 2 0)) → P r S') → EX mX7_back [.ref 0, vi i] S P from hh _ (fun _ _ h => h)
  intro P hP
  refine EX.of (L := [(0, .ref 0), (1, vi i)]) rfl rfl (Nat.le_of_ble_eq_true rfl) rfl ?_
  obtain ⟨⟨hn0, hn1⟩, hwl, ⟨hp0, hp1⟩, ⟨hs0, hs1⟩, hyr, hpt, hhd⟩ := id hX
  have hwt : ∀ k, 0 ≤ k → k < 6 → 1 ≤ S 2 k ∧ S 2 k ≤ 9 := fun k a b => ⟨(hwl k a b).1, (hwl k a b).2.1⟩
  refine j_iload_n dX7_back_0 rfl ?_
  refine j_if_lt (tgt := 9) dX7_back_1 (by decide) (by omega)  (fun h1 => ?_) (fun h1 => ?_)
  · refine j_iconst dX7_back_9 ?_
    exact j_iret rfl dX7_back_10 (fun h => by cases h) (hP _ _ (Or.inl ⟨by omega, rfl, rfl⟩))
  · refine j_iload_n dX7_back_4 rfl ?_
    refine j_iconst dX7_back_5 ?_
    refine j_icmp_lt (tgt := 11) dX7_back_6 (by decide) (by omega) (by omega) (fun h6 => ?_) (fun h6 => ?_)
    · refine j_aload_n dX7_back_11 rfl ?_
      refine j_getR dX7_back_12 fg_X7_59 fq_0_7 ?_
      refine j_iload_n dX7_back_15 rfl ?_
      refine j_zald (x := S 15 i) dX7_back_16 aq_15 (by omega) (by omega) rfl (fun hi16 => ?_)
      refine j_if_ne (tgt := 23) dX7_back_17 (by decide) (by omega)  (fun h17 => ?_) (fun h17 => ?_)
      · refine j_aload_n dX7_back_23 rfl ?_
        refine j_getR dX7_back_24 fg_X7_19 fq_0_1 ?_
        refine j_aload_n dX7_back_27 rfl ?_
        refine j_getR dX7_back_28 fg_X7_55 fq_0_6 ?_
        refine j_iload_n dX7_back_31 rfl ?_
        refine j_aald (d := 34 + 7 * i.toNat) dX7_back_32 dq_14 (by decide) (by omega) (by omega) (by decide) (img_get (by omega) (by omega)) ?_
        have hq9 := hq (by omega) (by omega) (by omega)
        refine j_callVv (As := [.ref (34 + 7 * i.toNat)]) (rest := []) (t_X1_copyFrom _ 27 (34 + 7 * i.toNat) isF_27 (isF_img (by omega)) (by omega) hq9.1.1 hq9.1.2 hq9.2.1 hq9.2.2) rfl cm_X1_copyFrom ci_X1_copyFrom ml_X7_278 oq_27 rfl (Nat.le_of_ble_eq_true rfl) (Nat.le_of_ble_eq_true rfl) dX7_back_33 (fun r33 S33 hp33 => ?_)
        refine j_aload_n dX7_back_36 rfl ?_
        refine j_getR dX7_back_37 fg_X7_44 fq_0_4 ?_
        refine j_callVv (As := []) (rest := []) (t_X4_forgetAll _) rfl cm_X4_forgetAll ci_X4_forgetAll ml_X7_101 oq_11 rfl (Nat.le_of_ble_eq_true rfl) (Nat.le_of_ble_eq_true rfl) dX7_back_40 (fun r40 S40 hp40 => ?_)
        rw [hp40]
        refine j_aload_n dX7_back_43 rfl ?_
        refine j_getR dX7_back_44 fg_X7_19 fq_0_1 ?_
        refine j_getI (x := S (34 + 7 * i.toNat) 0) dX7_back_47 fg_X7_154 fq_27_0 hp33.1 (fun hi47 => ?_)
        exact j_iret rfl dX7_back_50 (fun h => by cases h) (hP _ _ (Or.inr (Or.inr ⟨by omega, by omega, rfl, S33, hp33, rfl⟩)))
      · refine j_bipush dX7_back_20 (by decide) ?_
        exact j_iret rfl dX7_back_22 (fun h => by cases h) (hP _ _ (Or.inr (Or.inl ⟨by omega, by omega, rfl, rfl⟩)))
    · refine j_iconst dX7_back_9 ?_
      exact j_iret rfl dX7_back_10 (fun h => by cases h) (hP _ _ (Or.inl ⟨by omega, rfl, rfl⟩))
