theorem renm_in {S T U : St} {k : Int} (h0 : 0 ≤ k) (h : (∀ j, 0 ≤ j → j < k → (S 121 j ≤ S 132 j + 1 → T 131 j = 9 ∧ T 132 j = 0) ∧ (S 132 j + 1 < S 121 j → T 131 j = S 131 j ∧ T 132 j = S 132 j + 1))) (hk : (S 121 k ≤ S 132 k + 1 ∧ U 131 k = 9 ∧ U 132 k = 0) ∨ (S 132 k + 1 < S 121 k ∧ U 131 k = S 131 k ∧ U 132 k = S 132 k + 1)) (ho : ∀ j, j ≠ k → U 131 j = T 131 j ∧ U 132 j = T 132 j) : (∀ j, 0 ≤ j → j < (k + 1) → (S 121 j ≤ S 132 j + 1 → U 131 j = 9 ∧ U 132 j = 0) ∧ (S 132 j + 1 < S 121 j → U 131 j = S 131 j ∧ U 132 j = S 132 j + 1)) := by
  intro j a b
  by_cases e : j = k
  · subst e
    rcases hk with ⟨h1, h2, h3⟩ | ⟨h1, h2, h3⟩
    · exact ⟨fun _ => ⟨h2, h3⟩, fun q => by omega⟩
    · exact ⟨fun q => by omega, fun _ => ⟨h2, h3⟩⟩
  · rw [(ho j e).1, (ho j e).2]
    exact h j a (by omega)
theorem renm_y {T U : St} {n : Int} {lf mk ag : Int → Int} (hl : T 121 = lf) (hT : ∀ j, 0 ≤ j → j < n → T 131 j = mk j ∧ T 132 j = ag j) (hR : ∀ j, 0 ≤ j → j < n → (T 121 j ≤ T 132 j + 1 → U 131 j = 9 ∧ U 132 j = 0) ∧ (T 132 j + 1 < T 121 j → U 131 j = T 131 j ∧ U 132 j = T 132 j + 1)) : ∀ j, 0 ≤ j → j < n → U 131 j = rMk lf mk ag j ∧ U 132 j = rAg lf ag j := by
  intro j a b
  obtain ⟨h1, h2⟩ := hT j a b
  obtain ⟨h3, h4⟩ := hR j a b
  rw [hl, h2] at h3
  rw [hl, h1, h2] at h4
  unfold rMk rAg
  by_cases h : lf j ≤ ag j + 1
  · rw [if_pos h, if_pos h]; exact h3 h
  · rw [if_neg h, if_neg h]; exact h4 (by omega)
set_option maxRecDepth 100000 in
set_option maxHeartbeats 4000000 in
theorem t_X8_ages (S : St) (hn0 : 2 ≤ S 118 13) (hn1 : S 118 13 ≤ 6) (hag : ∀ k, 0 ≤ k → k < S 118 13 → 0 ≤ S 132 k ∧ S 132 k ≤ 1000) : EX mX8_ages [.ref 118] S (fun r S' => r = sm (fun j => if S 121 j ≤ S 132 j + 1 then 1 else 0) (S 118 13).toNat ∧ Same [131, 132] S S' ∧ (∀ j, 0 ≤ j → j < S 118 13 → (S 121 j ≤ S 132 j + 1 → S' 131 j = 9 ∧ S' 132 j = 0) ∧ (S 132 j + 1 < S 121 j → S' 131 j = S 131 j ∧ S' 132 j = S 132 j + 1))) := by
  suffices hh : ∀ P : Int → St → Prop, (∀ r S', (r = sm (fun j => if S 121 j ≤ S 132 j + 1 then 1 else 0) (S 118 13).toNat ∧ Same [131, 132] S S' ∧ (∀ j, 0 ≤ j → j < S 118 13 → (S 121 j ≤ S 132 j + 1 → S' 131 j = 9 ∧ S' 132 j = 0) ∧ (S 132 j + 1 < S 121 j → S' 131 j = S 131 j ∧ S' 132 j = S 132 j + 1))) → P r S') → EX mX8_ages [.ref 118] S P from hh _ (fun _ _ h => h)
  intro P hP
  refine EX.of (L := [(0, .ref 118)]) rfl rfl (Nat.le_of_ble_eq_true rfl) rfl ?_
  refine j_iconst dX8_ages_0 ?_
  refine j_istore_n (L' := [(0, .ref 118), (1, vi 0)]) dX8_ages_1 (Nat.le_of_ble_eq_true rfl) rfl ?_
  refine j_iconst dX8_ages_2 ?_
  refine j_istore_n (L' := [(0, .ref 118), (1, vi 0), (2, vi 0)]) dX8_ages_3 (Nat.le_of_ble_eq_true rfl) rfl ?_
  have lp4 : ∀ (n : Nat) (r0 k : Int) (T : St), (S 118 13 - k).toNat < n → (0 ≤ k ∧ k ≤ S 118 13 ∧ r0 = sm (fun j => if S 121 j ≤ S 132 j + 1 then 1 else 0) k.toNat ∧ Same [131, 132] S T ∧ (∀ j, 0 ≤ j → j < k → (S 121 j ≤ S 132 j + 1 → T 131 j = 9 ∧ T 132 j = 0) ∧ (S 132 j + 1 < S 121 j → T 131 j = S 131 j ∧ T 132 j = S 132 j + 1)) ∧ ∀ j, k ≤ j → T 131 j = S 131 j ∧ T 132 j = S 132 j) → JJ mX8_ages (RX mX8_ages P) 4 [(0, .ref 118), (1, vi r0), (2, vi k)] [] T := by
    intro n
    induction n with
    | zero => intro r0 k T hm; exact absurd hm (Nat.not_lt_zero _)
    | succ n ih4 =>
      intro r0 k T hm4 hv4
      obtain ⟨hv1, hv2, hv3, hv4, hv5, hv6⟩ := hv4
      have eT_118 : T 118 = S 118 := hv4 118 (by decide)
      have eT_121 : T 121 = S 121 := hv4 121 (by decide)
      refine j_iload_n dX8_ages_4 rfl ?_
      refine j_aload_n dX8_ages_5 rfl ?_
      refine j_getI (x := S 118 13) dX8_ages_6 fg_X8_59 fq_118_13 (congrFun eT_118 _) (fun hi6 => ?_)
      refine j_icmp_ge (tgt := 61) dX8_ages_9 (by decide) (by omega) (by omega) (fun h9 => ?_) (fun h9 => ?_)
      · refine j_iload_n dX8_ages_61 rfl ?_
        exact j_iret rfl dX8_ages_62 (fun h => by cases h) (hP _ _ ⟨by rw [hv3]; congr 2; omega, hv4, fun j a b => hv5 j a (by omega)⟩)
      · have ek := hv6 k (by omega)
        have hak := hag k (by omega) (by omega)
        refine j_aload_n dX8_ages_12 rfl ?_
        refine j_getR dX8_ages_13 fg_X8_50 fq_118_27 ?_
        refine j_iload_n dX8_ages_16 rfl ?_
        refine j_dup2 dX8_ages_17 rfl rfl ?_
        refine j_iald (x := S 132 k) dX8_ages_18 aq_132 (by omega) (by omega) ek.2 (fun hi18 => ?_)
        refine j_iconst dX8_ages_19 ?_
        refine j_iadd dX8_ages_20 ?_
        refine j_iast dX8_ages_21 aq_132 (by omega) (by omega) (by omega) ?_
        refine j_aload_n dX8_ages_22 rfl ?_
        refine j_getR dX8_ages_23 fg_X8_50 fq_118_27 ?_
        refine j_iload_n dX8_ages_26 rfl ?_
        refine j_iald (x := (S 132 k) + 1) dX8_ages_27 aq_132 (by omega) (by omega) (by simp [up]) (fun hi27 => ?_)
        refine j_aload_n dX8_ages_28 rfl ?_
        refine j_getR dX8_ages_29 fg_X8_16 fq_118_10 ?_
        refine j_iload_n dX8_ages_32 rfl ?_
        refine j_iald (x := S 121 k) dX8_ages_33 aq_121 (by omega) (by omega) (congrFun eT_121 _) (fun hi33 => ?_)
        refine j_icmp_lt (tgt := 55) dX8_ages_34 (by decide) (by omega) (by omega) (fun h34 => ?_) (fun h34 => ?_)
        · refine j_iinc (L' := [(0, .ref 118), (1, vi r0), (2, vi (k + 1))]) dX8_ages_55 (Nat.le_of_ble_eq_true rfl) rfl rfl ?_
          refine j_goto (tgt := 4) dX8_ages_58 (by decide) ?_
          exact ih4 r0 (k + 1) (up T 132 k ((S 132 k) + 1)) (by omega) ⟨by omega, by omega, (by rw [sm_s (by omega), if_neg (by omega)]; omega), (same_up hv4 (by decide)), renm_in hv1 hv5 (Or.inr ⟨h34, by simp [up, ek.1], by simp [up]⟩) (fun j e => by simp [up, e]), fun j a => by have e : j ≠ k := (by omega); have := hv6 j (by omega); simp [up, e, this]⟩
        · refine j_aload_n dX8_ages_37 rfl ?_
          refine j_getR dX8_ages_38 fg_X8_50 fq_118_27 ?_
          refine j_iload_n dX8_ages_41 rfl ?_
          refine j_iconst dX8_ages_42 ?_
          refine j_iast dX8_ages_43 aq_132 (by omega) (by omega) (by omega) ?_
          refine j_aload_n dX8_ages_44 rfl ?_
          refine j_getR dX8_ages_45 fg_X8_47 fq_118_26 ?_
          refine j_iload_n dX8_ages_48 rfl ?_
          refine j_bipush dX8_ages_49 (by decide) ?_
          refine j_iast dX8_ages_51 aq_131 (by omega) (by omega) (by omega) ?_
          refine j_iinc (L' := [(0, .ref 118), (1, vi (r0 + 1)), (2, vi k)]) dX8_ages_52 (Nat.le_of_ble_eq_true rfl) rfl rfl ?_
          refine j_iinc (L' := [(0, .ref 118), (1, vi (r0 + 1)), (2, vi (k + 1))]) dX8_ages_55 (Nat.le_of_ble_eq_true rfl) rfl rfl ?_
          refine j_goto (tgt := 4) dX8_ages_58 (by decide) ?_
          exact ih4 (r0 + 1) (k + 1) (up (up (up T 132 k ((S 132 k) + 1)) 132 k 0) 131 k 9) (by omega) ⟨by omega, by omega, (by rw [sm_s (by omega), if_pos (by omega)]; omega), (same_up (same_up (same_up hv4 (by decide)) (by decide)) (by decide)), renm_in hv1 hv5 (Or.inl ⟨h34, by simp [up], by simp [up]⟩) (fun j e => by simp [up, e]), fun j a => by have e : j ≠ k := (by omega); have := hv6 j (by omega); simp [up, e, this]⟩
  exact lp4 _ 0 0 S (Nat.lt_succ_self _) ⟨by omega, by omega, rfl, Same.rf, fun j a b => by omega, fun j a => ⟨rfl, rfl⟩⟩
set_option maxRecDepth 100000 in
set_option maxHeartbeats 4000000 in
theorem t_X8_repairs (S : St) (s y what : Int) (r_s : InR s) (r_y : InR y) (r_what : InR what) (hM : MI S) : EX mX8_repairs [.ref 118, vi s, vi y, vi what] S (fun r S' => r = fRep (S 118 13) (S 125 2) (S 121) (mAg S) (mHd S) s y what ∧ Same [131, 132] S S') := by
  suffices hh : ∀ P : Int → St → Prop, (∀ r S', (r = fRep (S 118 13) (S 125 2) (S 121) (mAg S) (mHd S) s y what ∧ Same [131, 132] S S') → P r S') → EX mX8_repairs [.ref 118, vi s, vi y, vi what] S P from hh _ (fun _ _ h => h)
  intro P hP
  refine EX.of (L := [(0, .ref 118), (1, vi s), (2, vi y), (3, vi what)]) rfl rfl (Nat.le_of_ble_eq_true rfl) rfl ?_
  obtain ⟨⟨hn0, hn1⟩, hwl, ⟨hp0, hp1⟩, ⟨hs0, hs1⟩, hyr, hpt, hhd, hth⟩ := id hM
  have hwt : ∀ k, 0 ≤ k → k < 6 → 1 ≤ S 120 k ∧ S 120 k ≤ 9 := fun k a b => ⟨(hwl k a b).1, (hwl k a b).2.1⟩
  refine j_aload_n dX8_repairs_0 rfl ?_
  refine j_iconst dX8_repairs_1 ?_
  refine j_putI (i := 0) dX8_repairs_2 fg_X8_63 ft_8_0 fq_118_0 rfl (by omega) ?_
  rw [up_thr hth]
  refine j_aload_n dX8_repairs_5 rfl ?_
  refine j_iload_n dX8_repairs_6 rfl ?_
  refine j_callVi (As := [vi s]) (rest := []) (t_X8_isShip _ s (by omega) (by omega)) rfl cm_X8_isShip ci_X8_isShip ml_X8_156 oq_118 rfl (Nat.le_of_ble_eq_true rfl) (Nat.le_of_ble_eq_true rfl) dX8_repairs_7 (fun r7 S7 hp7 => ?_)
  obtain ⟨⟨rfl, hc7⟩ | ⟨rfl, hc7⟩, he7⟩ := hp7
  · rw [he7]
    refine j_if_eq (tgt := 32) dX8_repairs_10 (by decide) (by omega)  (fun h => absurd h (by decide)) (fun _ => ?_)
    refine j_iload_n dX8_repairs_13 rfl ?_
    refine j_iconst dX8_repairs_14 ?_
    refine j_bipush dX8_repairs_15 (by decide) ?_
    refine j_callSi (As := [vi y, vi 0, vi 40]) (rest := []) (t_X8_in _ y 0 40 (by omega) (by omega) (by omega)) rfl cm_X8_in cs_X8_in ml_X8_66 rfl (Nat.le_of_ble_eq_true rfl) (Nat.le_of_ble_eq_true rfl) dX8_repairs_17 (fun r17 S17 hp17 => ?_)
    obtain ⟨⟨rfl, hc17⟩ | ⟨rfl, hc17⟩, he17⟩ := hp17
    · rw [he17]
      refine j_if_eq (tgt := 32) dX8_repairs_20 (by decide) (by omega)  (fun h => absurd h (by decide)) (fun _ => ?_)
      refine j_iload_n dX8_repairs_23 rfl ?_
      refine j_iconst dX8_repairs_24 ?_
      refine j_iconst dX8_repairs_25 ?_
      refine j_callSi (As := [vi what, vi 0, vi 1]) (rest := []) (t_X8_in _ what 0 1 (by omega) (by omega) (by omega)) rfl cm_X8_in cs_X8_in ml_X8_66 rfl (Nat.le_of_ble_eq_true rfl) (Nat.le_of_ble_eq_true rfl) dX8_repairs_26 (fun r26 S26 hp26 => ?_)
      obtain ⟨⟨rfl, hc26⟩ | ⟨rfl, hc26⟩, he26⟩ := hp26
      · rw [he26]
        refine j_if_ne (tgt := 34) dX8_repairs_29 (by decide) (by omega)  (fun _ => ?_) (fun h => absurd h (by decide))
        refine j_aload_n dX8_repairs_34 rfl ?_
        refine j_iload_n dX8_repairs_35 rfl ?_
        refine j_callVv (As := [vi s]) (rest := []) (t_X8_asIs _ s hM (by omega) (by omega)) rfl cm_X8_asIs ci_X8_asIs ml_X8_178 oq_118 rfl (Nat.le_of_ble_eq_true rfl) (Nat.le_of_ble_eq_true rfl) dX8_repairs_36 (fun r36 S36 hp36 => ?_)
        obtain ⟨hsm36, hl36⟩ := hp36
        have eS36_118 : S36 118 = S 118 := hsm36 118 (by decide)
        have eS36_119 : S36 119 = S 119 := hsm36 119 (by decide)
        have eS36_120 : S36 120 = S 120 := hsm36 120 (by decide)
        have eS36_121 : S36 121 = S 121 := hsm36 121 (by decide)
        have eS36_124 : S36 124 = S 124 := hsm36 124 (by decide)
        have eS36_125 : S36 125 = S 125 := hsm36 125 (by decide)
        have eS36_126 : S36 126 = S 126 := hsm36 126 (by decide)
        have eS36_127 : S36 127 = S 127 := hsm36 127 (by decide)
        have eS36_128 : S36 128 = S 128 := hsm36 128 (by decide)
        have eS36_129 : S36 129 = S 129 := hsm36 129 (by decide)
        have eS36_130 : S36 130 = S 130 := hsm36 130 (by decide)
        refine j_iconst dX8_repairs_39 ?_
        refine j_istore (L' := [(0, .ref 118), (1, vi s), (2, vi y), (3, vi what), (4, vi 0)]) dX8_repairs_40 (Nat.le_of_ble_eq_true rfl) rfl ?_
        refine j_iconst dX8_repairs_42 ?_
        refine j_istore (L' := [(0, .ref 118), (1, vi s), (2, vi y), (3, vi what), (4, vi 0), (5, vi 0)]) dX8_repairs_43 (Nat.le_of_ble_eq_true rfl) rfl ?_
        refine j_bipush dX8_repairs_45 (by decide) ?_
        refine j_istore (L' := [(0, .ref 118), (1, vi s), (2, vi y), (3, vi what), (4, vi 0), (5, vi 0), (6, vi (-9))]) dX8_repairs_47 (Nat.le_of_ble_eq_true rfl) rfl ?_
        refine j_iconst dX8_repairs_49 ?_
        refine j_istore (L' := [(0, .ref 118), (1, vi s), (2, vi y), (3, vi what), (4, vi 0), (5, vi 0), (6, vi (-9)), (7, vi 1)]) dX8_repairs_50 (Nat.le_of_ble_eq_true rfl) rfl ?_
        have lp52 : ∀ (n : Nat) (al mo my z : Int) (T : St), (y + 1 - z).toNat < n → (1 ≤ z ∧ z ≤ y + 1 ∧ (∀ j, 0 ≤ j → j < S 118 13 → T 131 j = yMk (S 121) (fun k => S 124 (mHd S (s * 6 + k))) (fun k => mAg S (mHd S (s * 6 + k))) (z - 1).toNat j ∧ T 132 j = yAg (S 121) (fun k => mAg S (mHd S (s * 6 + k))) (z - 1).toNat j) ∧ al = sm (cntS (S 118 13) (S 121) (mAg S) (mHd S) s) (z - 1).toNat ∧ mo = mxF (cntS (S 118 13) (S 121) (mAg S) (mHd S) s) (z - 1).toNat ∧ my = myF (cntS (S 118 13) (S 121) (mAg S) (mHd S) s) (z - 1).toNat ∧ Same [131, 132] S T ∧ (0 ≤ al ∧ al ≤ 6 * (z - 1)) ∧ (0 ≤ mo ∧ mo ≤ 6) ∧ (my = -9 ∨ 0 ≤ my)) → JJ mX8_repairs (RX mX8_repairs P) 52 [(0, .ref 118), (1, vi s), (2, vi y), (3, vi what), (4, vi al), (5, vi mo), (6, vi my), (7, vi z)] [] T := by
          intro n
          induction n with
          | zero => intro al mo my z T hm; exact absurd hm (Nat.not_lt_zero _)
          | succ n ih52 =>
            intro al mo my z T hm52 hv52
            obtain ⟨hv1, hv2, hv3, hv4, hv5, hv6, hv7, hv8, hv9, hv10⟩ := hv52
            have eT_118 : T 118 = S 118 := hv7 118 (by decide)
            have eT_119 : T 119 = S 119 := hv7 119 (by decide)
            have eT_120 : T 120 = S 120 := hv7 120 (by decide)
            have eT_121 : T 121 = S 121 := hv7 121 (by decide)
            have eT_124 : T 124 = S 124 := hv7 124 (by decide)
            have eT_125 : T 125 = S 125 := hv7 125 (by decide)
            have eT_126 : T 126 = S 126 := hv7 126 (by decide)
            have eT_127 : T 127 = S 127 := hv7 127 (by decide)
            have eT_128 : T 128 = S 128 := hv7 128 (by decide)
            have eT_129 : T 129 = S 129 := hv7 129 (by decide)
            have eT_130 : T 130 = S 130 := hv7 130 (by decide)
            refine j_iload dX8_repairs_52 rfl ?_
            refine j_iload_n dX8_repairs_54 rfl ?_
            refine j_icmp_gt (tgt := 109) dX8_repairs_55 (by decide) (by omega) (by omega) (fun h55 => ?_) (fun h55 => ?_)
            · refine j_iload_n dX8_repairs_109 rfl ?_
              refine j_if_ne (tgt := 118) dX8_repairs_110 (by decide) (by omega)  (fun h110 => ?_) (fun h110 => ?_)
              · refine j_iload dX8_repairs_118 rfl ?_
                exact j_iret rfl dX8_repairs_120 (fun h => by cases h) (hP _ _ ⟨by unfold fRep; rw [if_pos (by omega), if_neg (by omega), hv6]; congr 2; omega, hv7⟩)
              · refine j_iload dX8_repairs_113 rfl ?_
                refine j_goto (tgt := 120) dX8_repairs_115 (by decide) ?_
                exact j_iret rfl dX8_repairs_120 (fun h => by cases h) (hP _ _ ⟨by unfold fRep; rw [if_pos (by omega), if_pos (by omega), hv4]; congr 2; omega, hv7⟩)
            · refine j_aload_n dX8_repairs_58 rfl ?_
              refine j_callVi (As := []) (rest := []) (t_X8_ages _ (by rw [eT_118]; exact hn0) (by rw [eT_118]; exact hn1) (by rw [eT_118]; exact (fun k a b => by rw [(hv3 k a (by omega)).2]; have g := hhd s k (by omega) (by omega) a (by omega); have := yAg_bd (lf := S 121) (ag := (fun k => mAg S (mHd S (s * 6 + k)))) (k := k) ((hpt _ g.1 g.2).2.2.1) (z - 1).toNat; omega))) rfl cm_X8_ages ci_X8_ages ml_X8_217 oq_118 rfl (Nat.le_of_ble_eq_true rfl) (Nat.le_of_ble_eq_true rfl) dX8_repairs_59 (fun r59 S59 hp59 => ?_)
              obtain ⟨hr59, hsm59, hrn59⟩ := hp59
              rw [eT_118, eT_121] at hr59
              rw [eT_118] at hrn59
              have eS59_118 : S59 118 = S 118 := (hsm59 118 (by decide)).trans eT_118
              have eS59_119 : S59 119 = S 119 := (hsm59 119 (by decide)).trans eT_119
              have eS59_120 : S59 120 = S 120 := (hsm59 120 (by decide)).trans eT_120
              have eS59_121 : S59 121 = S 121 := (hsm59 121 (by decide)).trans eT_121
              have eS59_124 : S59 124 = S 124 := (hsm59 124 (by decide)).trans eT_124
              have eS59_125 : S59 125 = S 125 := (hsm59 125 (by decide)).trans eT_125
              have eS59_126 : S59 126 = S 126 := (hsm59 126 (by decide)).trans eT_126
              have eS59_127 : S59 127 = S 127 := (hsm59 127 (by decide)).trans eT_127
              have eS59_128 : S59 128 = S 128 := (hsm59 128 (by decide)).trans eT_128
              have eS59_129 : S59 129 = S 129 := (hsm59 129 (by decide)).trans eT_129
              have eS59_130 : S59 130 = S 130 := (hsm59 130 (by decide)).trans eT_130
              have e1 : z + 1 - 1 = (z - 1) + 1 := by omega
              have hc : r59 = cntS (S 118 13) (S 121) (mAg S) (mHd S) s (z - 1) := by rw [hr59]; unfold cntS cntR; apply sm_congr; intro i i0 i1; rw [(hv3 i i0 (by omega)).2]
              have hcb := sm_bd (f := fun j => if S 121 j ≤ T 132 j + 1 then 1 else 0) (a := 1) (n := (S 118 13).toNat) (fun i i0 i1 => by split <;> omega)
              rw [← hr59] at hcb
              have hren := renm_y (n := S 118 13) eT_121 hv3 hrn59
              refine j_istore (L' := [(0, .ref 118), (1, vi s), (2, vi y), (3, vi what), (4, vi al), (5, vi mo), (6, vi my), (7, vi z), (8, vi r59)]) dX8_repairs_62 (Nat.le_of_ble_eq_true rfl) rfl ?_
              refine j_iload dX8_repairs_64 rfl ?_
              refine j_iload dX8_repairs_66 rfl ?_
              refine j_iadd dX8_repairs_68 ?_
              refine j_istore (L' := [(0, .ref 118), (1, vi s), (2, vi y), (3, vi what), (4, vi (al + r59)), (5, vi mo), (6, vi my), (7, vi z), (8, vi r59)]) dX8_repairs_69 (Nat.le_of_ble_eq_true rfl) rfl ?_
              refine j_iload dX8_repairs_71 rfl ?_
              refine j_iload dX8_repairs_73 rfl ?_
              refine j_icmp_le (tgt := 83) dX8_repairs_75 (by decide) (by omega) (by omega) (fun h75 => ?_) (fun h75 => ?_)
              · refine j_iload dX8_repairs_83 rfl ?_
                refine j_istore (L' := [(0, .ref 118), (1, vi s), (2, vi y), (3, vi what), (4, vi (al + r59)), (5, vi mo), (6, vi my), (7, vi z), (8, vi r59)]) dX8_repairs_85 (Nat.le_of_ble_eq_true rfl) rfl ?_
                refine j_iload dX8_repairs_87 rfl ?_
                refine j_iload dX8_repairs_89 rfl ?_
                refine j_icmp_le (tgt := 99) dX8_repairs_91 (by decide) (by omega) (by omega) (fun h91 => ?_) (fun h91 => ?_)
                · refine j_iload dX8_repairs_99 rfl ?_
                  refine j_istore (L' := [(0, .ref 118), (1, vi s), (2, vi y), (3, vi what), (4, vi (al + r59)), (5, vi mo), (6, vi my), (7, vi z), (8, vi r59)]) dX8_repairs_101 (Nat.le_of_ble_eq_true rfl) rfl ?_
                  refine j_iinc (L' := [(0, .ref 118), (1, vi s), (2, vi y), (3, vi what), (4, vi (al + r59)), (5, vi mo), (6, vi my), (7, vi (z + 1)), (8, vi r59)]) dX8_repairs_103 (Nat.le_of_ble_eq_true rfl) rfl rfl ?_
                  refine j_goto (tgt := 52) dX8_repairs_106 (by decide) ?_
                  refine j_sub (L' := [(0, .ref 118), (1, vi s), (2, vi y), (3, vi what), (4, vi (al + r59)), (5, vi mo), (6, vi my), (7, vi (z + 1))]) (by simp) ?_
                  exact ih52 (al + r59) mo my (z + 1) S59 (by omega) ⟨by omega, by omega, fun j a b => by have q := hren j a b; rw [show z + 1 - 1 = z by omega, yMk_s hv1, yAg_s hv1]; exact q, by rw [e1, sm_s (by omega), ← hv4, hc], by rw [e1, mxF_s (by omega), ← hv5, ← hc]; split <;> omega, by rw [e1, myF_s (by omega), ← hv5, ← hv6, ← hc]; split <;> omega, hv7.tr hsm59, by omega, by omega, by omega⟩
                · refine j_iload dX8_repairs_94 rfl ?_
                  refine j_goto (tgt := 101) dX8_repairs_96 (by decide) ?_
                  refine j_istore (L' := [(0, .ref 118), (1, vi s), (2, vi y), (3, vi what), (4, vi (al + r59)), (5, vi r59), (6, vi my), (7, vi z), (8, vi r59)]) dX8_repairs_101 (Nat.le_of_ble_eq_true rfl) rfl ?_
                  refine j_iinc (L' := [(0, .ref 118), (1, vi s), (2, vi y), (3, vi what), (4, vi (al + r59)), (5, vi r59), (6, vi my), (7, vi (z + 1)), (8, vi r59)]) dX8_repairs_103 (Nat.le_of_ble_eq_true rfl) rfl rfl ?_
                  refine j_goto (tgt := 52) dX8_repairs_106 (by decide) ?_
                  refine j_sub (L' := [(0, .ref 118), (1, vi s), (2, vi y), (3, vi what), (4, vi (al + r59)), (5, vi r59), (6, vi my), (7, vi (z + 1))]) (by simp) ?_
                  exact ih52 (al + r59) r59 my (z + 1) S59 (by omega) ⟨by omega, by omega, fun j a b => by have q := hren j a b; rw [show z + 1 - 1 = z by omega, yMk_s hv1, yAg_s hv1]; exact q, by rw [e1, sm_s (by omega), ← hv4, hc], by rw [e1, mxF_s (by omega), ← hv5, ← hc]; split <;> omega, by rw [e1, myF_s (by omega), ← hv5, ← hv6, ← hc]; split <;> omega, hv7.tr hsm59, by omega, by omega, by omega⟩
              · refine j_iload dX8_repairs_78 rfl ?_
                refine j_goto (tgt := 85) dX8_repairs_80 (by decide) ?_
                refine j_istore (L' := [(0, .ref 118), (1, vi s), (2, vi y), (3, vi what), (4, vi (al + r59)), (5, vi mo), (6, vi z), (7, vi z), (8, vi r59)]) dX8_repairs_85 (Nat.le_of_ble_eq_true rfl) rfl ?_
                refine j_iload dX8_repairs_87 rfl ?_
                refine j_iload dX8_repairs_89 rfl ?_
                refine j_icmp_le (tgt := 99) dX8_repairs_91 (by decide) (by omega) (by omega) (fun h91 => ?_) (fun h91 => ?_)
                · refine j_iload dX8_repairs_99 rfl ?_
                  refine j_istore (L' := [(0, .ref 118), (1, vi s), (2, vi y), (3, vi what), (4, vi (al + r59)), (5, vi mo), (6, vi z), (7, vi z), (8, vi r59)]) dX8_repairs_101 (Nat.le_of_ble_eq_true rfl) rfl ?_
                  refine j_iinc (L' := [(0, .ref 118), (1, vi s), (2, vi y), (3, vi what), (4, vi (al + r59)), (5, vi mo), (6, vi z), (7, vi (z + 1)), (8, vi r59)]) dX8_repairs_103 (Nat.le_of_ble_eq_true rfl) rfl rfl ?_
                  refine j_goto (tgt := 52) dX8_repairs_106 (by decide) ?_
                  refine j_sub (L' := [(0, .ref 118), (1, vi s), (2, vi y), (3, vi what), (4, vi (al + r59)), (5, vi mo), (6, vi z), (7, vi (z + 1))]) (by simp) ?_
                  exact ih52 (al + r59) mo z (z + 1) S59 (by omega) ⟨by omega, by omega, fun j a b => by have q := hren j a b; rw [show z + 1 - 1 = z by omega, yMk_s hv1, yAg_s hv1]; exact q, by rw [e1, sm_s (by omega), ← hv4, hc], by rw [e1, mxF_s (by omega), ← hv5, ← hc]; split <;> omega, by rw [e1, myF_s (by omega), ← hv5, ← hv6, ← hc]; split <;> omega, hv7.tr hsm59, by omega, by omega, by omega⟩
                · refine j_iload dX8_repairs_94 rfl ?_
                  refine j_goto (tgt := 101) dX8_repairs_96 (by decide) ?_
                  refine j_istore (L' := [(0, .ref 118), (1, vi s), (2, vi y), (3, vi what), (4, vi (al + r59)), (5, vi r59), (6, vi z), (7, vi z), (8, vi r59)]) dX8_repairs_101 (Nat.le_of_ble_eq_true rfl) rfl ?_
                  refine j_iinc (L' := [(0, .ref 118), (1, vi s), (2, vi y), (3, vi what), (4, vi (al + r59)), (5, vi r59), (6, vi z), (7, vi (z + 1)), (8, vi r59)]) dX8_repairs_103 (Nat.le_of_ble_eq_true rfl) rfl rfl ?_
                  refine j_goto (tgt := 52) dX8_repairs_106 (by decide) ?_
                  refine j_sub (L' := [(0, .ref 118), (1, vi s), (2, vi y), (3, vi what), (4, vi (al + r59)), (5, vi r59), (6, vi z), (7, vi (z + 1))]) (by simp) ?_
                  exact ih52 (al + r59) r59 z (z + 1) S59 (by omega) ⟨by omega, by omega, fun j a b => by have q := hren j a b; rw [show z + 1 - 1 = z by omega, yMk_s hv1, yAg_s hv1]; exact q, by rw [e1, sm_s (by omega), ← hv4, hc], by rw [e1, mxF_s (by omega), ← hv5, ← hc]; split <;> omega, by rw [e1, myF_s (by omega), ← hv5, ← hv6, ← hc]; split <;> omega, hv7.tr hsm59, by omega, by omega, by omega⟩
        exact lp52 _ 0 0 (-9) 1 S36 (Nat.lt_succ_self _) ⟨by omega, by omega, fun j a b => hl36 j a b, rfl, rfl, rfl, hsm36, by omega, by omega, by omega⟩
      · rw [he26]
        refine j_if_ne (tgt := 34) dX8_repairs_29 (by decide) (by omega)  (fun h => absurd h (by decide)) (fun _ => ?_)
        refine j_iconst dX8_repairs_32 ?_
        exact j_iret rfl dX8_repairs_33 (fun h => by cases h) (hP _ _ ⟨by unfold fRep; rw [if_neg (by omega)], Same.rf⟩)
    · rw [he17]
      refine j_if_eq (tgt := 32) dX8_repairs_20 (by decide) (by omega)  (fun _ => ?_) (fun h => absurd h (by decide))
      refine j_iconst dX8_repairs_32 ?_
      exact j_iret rfl dX8_repairs_33 (fun h => by cases h) (hP _ _ ⟨by unfold fRep; rw [if_neg (by omega)], Same.rf⟩)
  · rw [he7]
    refine j_if_eq (tgt := 32) dX8_repairs_10 (by decide) (by omega)  (fun _ => ?_) (fun h => absurd h (by decide))
    refine j_iconst dX8_repairs_32 ?_
    exact j_iret rfl dX8_repairs_33 (fun h => by cases h) (hP _ _ ⟨by unfold fRep; rw [if_neg (by omega)], Same.rf⟩)
set_option maxRecDepth 100000 in
set_option maxHeartbeats 4000000 in
theorem t_X8_makeIn (S : St) (s k : Int) (hM : MI S) (h0 : 0 ≤ s) (h1 : s < S 125 2) (h2 : 0 ≤ k) (h3 : k < S 118 13) : EX mX8_makeIn [.ref 118, vi s, vi k] S (fun r S' => r = S 124 (mHd S (s * 6 + k)) ∧ S' = S) := by
  suffices hh : ∀ P : Int → St → Prop, (∀ r S', (r = S 124 (mHd S (s * 6 + k)) ∧ S' = S) → P r S') → EX mX8_makeIn [.ref 118, vi s, vi k] S P from hh _ (fun _ _ h => h)
  intro P hP
  refine EX.of (L := [(0, .ref 118), (1, vi s), (2, vi k)]) rfl rfl (Nat.le_of_ble_eq_true rfl) rfl ?_
  obtain ⟨⟨hn0, hn1⟩, hwl, ⟨hp0, hp1⟩, ⟨hs0, hs1⟩, hyr, hpt, hhd, hth⟩ := id hM
  have hwt : ∀ k, 0 ≤ k → k < 6 → 1 ≤ S 120 k ∧ S 120 k ≤ 9 := fun k a b => ⟨(hwl k a b).1, (hwl k a b).2.1⟩
  have hg := hhd s k h0 h1 h2 h3
  refine j_aload_n dX8_makeIn_0 rfl ?_
  refine j_getR dX8_makeIn_1 fg_X8_25 fq_118_17 ?_
  refine j_aload_n dX8_makeIn_4 rfl ?_
  refine j_getR dX8_makeIn_5 fg_X8_28 fq_118_18 ?_
  refine j_bipush dX8_makeIn_8 (by decide) ?_
  refine j_bipush dX8_makeIn_10 (by decide) ?_
  refine j_iload_n dX8_makeIn_12 rfl ?_
  refine j_imul dX8_makeIn_13 ?_
  refine j_iadd dX8_makeIn_14 ?_
  refine j_iload_n dX8_makeIn_15 rfl ?_
  refine j_iadd dX8_makeIn_16 ?_
  refine j_iald (x := mHd S (s * 6 + k)) dX8_makeIn_17 aq_125 (by omega) (by omega) (congrArg (S 125) (by omega)) (fun hi17 => ?_)
  refine j_iald (x := S 124 (mHd S (s * 6 + k))) dX8_makeIn_18 aq_124 (by omega) (by omega) rfl (fun hi18 => ?_)
  exact j_iret rfl dX8_makeIn_19 (fun h => by cases h) (hP _ _ ⟨rfl, rfl⟩)
set_option maxRecDepth 100000 in
set_option maxHeartbeats 4000000 in
theorem t_X8_mayBe (S : St)  (hM : MI S) (hsn0 : 0 ≤ S 118 25) (hsn1 : S 118 25 ≤ 6) (hsp : ∀ i, 0 ≤ i → i < S 118 25 → 0 ≤ S 129 i ∧ S 129 i < S 118 13) : EX mX8_mayBe [.ref 118] S (fun r S' => r = mayB (S 125 2) (S 118 25) (S 124) (mHd S) (S 129) (S 130) ∧ S' = S) := by
  suffices hh : ∀ P : Int → St → Prop, (∀ r S', (r = mayB (S 125 2) (S 118 25) (S 124) (mHd S) (S 129) (S 130) ∧ S' = S) → P r S') → EX mX8_mayBe [.ref 118] S P from hh _ (fun _ _ h => h)
  intro P hP
  refine EX.of (L := [(0, .ref 118)]) rfl rfl (Nat.le_of_ble_eq_true rfl) rfl ?_
  obtain ⟨⟨hn0, hn1⟩, hwl, ⟨hp0, hp1⟩, ⟨hs0, hs1⟩, hyr, hpt, hhd, hth⟩ := id hM
  have hwt : ∀ k, 0 ≤ k → k < 6 → 1 ≤ S 120 k ∧ S 120 k ≤ 9 := fun k a b => ⟨(hwl k a b).1, (hwl k a b).2.1⟩
  refine j_aload_n dX8_mayBe_0 rfl ?_
  refine j_iconst dX8_mayBe_1 ?_
  refine j_putI (i := 0) dX8_mayBe_2 fg_X8_63 ft_8_0 fq_118_0 rfl (by omega) ?_
  rw [up_thr hth]
  refine j_iconst dX8_mayBe_5 ?_
  refine j_istore_n (L' := [(0, .ref 118), (1, vi 0)]) dX8_mayBe_6 (Nat.le_of_ble_eq_true rfl) rfl ?_
  refine j_iconst dX8_mayBe_7 ?_
  refine j_istore_n (L' := [(0, .ref 118), (1, vi 0), (2, vi 0)]) dX8_mayBe_8 (Nat.le_of_ble_eq_true rfl) rfl ?_
  have lp9 : ∀ (n : Nat) (b s : Int), (S 125 2 - s).toNat < n → (0 ≤ s ∧ s ≤ S 125 2 ∧ b = sm (fun s => cb (asSn (S 118 25) (S 124) (mHd S) (S 129) (S 130) s) ((2 ^ s.toNat : Nat) : Int) 0) s.toNat) → JJ mX8_mayBe (RX mX8_mayBe P) 9 [(0, .ref 118), (1, vi b), (2, vi s)] [] S := by
    intro n
    induction n with
    | zero => intro b s hm; exact absurd hm (Nat.not_lt_zero _)
    | succ n ih9 =>
      intro b s hm9 hv9
      obtain ⟨hv1, hv2, hv3⟩ := hv9
      have hb := bs_lt (f := fun s => cb (asSn (S 118 25) (S 124) (mHd S) (S 129) (S 130) s) ((2 ^ s.toNat : Nat) : Int) 0) (n := s.toNat) (fun i i0 i1 => by rcases cb_or (asSn (S 118 25) (S 124) (mHd S) (S 129) (S 130) i) ((2 ^ i.toNat : Nat) : Int) 0 with ⟨_, h⟩ | ⟨_, h⟩; exact Or.inr h; exact Or.inl h)
      rw [← hv3] at hb
      refine j_iload_n dX8_mayBe_9 rfl ?_
      refine j_aload_n dX8_mayBe_10 rfl ?_
      refine j_getR dX8_mayBe_11 fg_X8_28 fq_118_18 ?_
      refine j_iconst dX8_mayBe_14 ?_
      refine j_iald (x := S 125 2) dX8_mayBe_15 aq_125 (by omega) (by omega) rfl (fun hi15 => ?_)
      refine j_icmp_ge (tgt := 91) dX8_mayBe_16 (by decide) (by omega) (by omega) (fun h16 => ?_) (fun h16 => ?_)
      · refine j_iload_n dX8_mayBe_91 rfl ?_
        exact j_iret rfl dX8_mayBe_92 (fun h => by cases h) (hP _ _ ⟨by rw [hv3]; unfold mayB; congr 2; omega, rfl⟩)
      · refine j_iconst dX8_mayBe_19 ?_
        refine j_istore_n (L' := [(0, .ref 118), (1, vi b), (2, vi s), (3, vi 1)]) dX8_mayBe_20 (Nat.le_of_ble_eq_true rfl) rfl ?_
        refine j_iconst dX8_mayBe_21 ?_
        refine j_istore (L' := [(0, .ref 118), (1, vi b), (2, vi s), (3, vi 1), (4, vi 0)]) dX8_mayBe_22 (Nat.le_of_ble_eq_true rfl) rfl ?_
        have lp24 : ∀ (n : Nat) (is i : Int), (S 118 25 - i).toNat < n → (0 ≤ i ∧ i ≤ S 118 25 ∧ ((is = 1 ∧ ∀ j, 0 ≤ j → j < i → S 124 (mHd S (s * 6 + S 129 j)) = S 130 j) ∨ (is = 0 ∧ Exs (fun j => 0 ≤ j ∧ j < S 118 25 ∧ ¬ S 124 (mHd S (s * 6 + S 129 j)) = S 130 j)))) → JJ mX8_mayBe (RX mX8_mayBe P) 24 [(0, .ref 118), (1, vi b), (2, vi s), (3, vi is), (4, vi i)] [] S := by
          intro n
          induction n with
          | zero => intro is i hm; exact absurd hm (Nat.not_lt_zero _)
          | succ n ih24 =>
            intro is i hm24 hv24
            obtain ⟨hu1, hu2, hu3⟩ := hv24
            refine j_iload dX8_mayBe_24 rfl ?_
            refine j_aload_n dX8_mayBe_26 rfl ?_
            refine j_getI (x := S 118 25) dX8_mayBe_27 fg_X8_140 fq_118_25 rfl (fun hi27 => ?_)
            refine j_icmp_ge (tgt := 71) dX8_mayBe_30 (by decide) (by omega) (by omega) (fun h30 => ?_) (fun h30 => ?_)
            · refine j_iload_n dX8_mayBe_71 rfl ?_
              refine j_iload_n dX8_mayBe_72 rfl ?_
              refine j_if_eq (tgt := 82) dX8_mayBe_73 (by decide) (by omega)  (fun h73 => ?_) (fun h73 => ?_)
              · have has : ¬ asSn (S 118 25) (S 124) (mHd S) (S 129) (S 130) s := by rcases hu3 with ⟨z1, z2⟩ | ⟨z1, j, j0, j1, j2⟩ <;> first | exact fun z => j2 (z j j0 j1) | omega
                refine j_iconst dX8_mayBe_82 ?_
                refine j_ior dX8_mayBe_83 (by omega) (by omega) ?_
                rw [or_z (by omega)]
                refine j_istore_n (L' := [(0, .ref 118), (1, vi b), (2, vi s), (3, vi is), (4, vi i)]) dX8_mayBe_84 (Nat.le_of_ble_eq_true rfl) rfl ?_
                refine j_iinc (L' := [(0, .ref 118), (1, vi b), (2, vi (s + 1)), (3, vi is), (4, vi i)]) dX8_mayBe_85 (Nat.le_of_ble_eq_true rfl) rfl rfl ?_
                refine j_goto (tgt := 9) dX8_mayBe_88 (by decide) ?_
                refine j_sub (L' := [(0, .ref 118), (1, vi b), (2, vi (s + 1))]) (by simp) ?_
                exact ih9 b (s + 1) (by omega) ⟨by omega, by omega, by rw [sm_s (by omega), cb_neg has]; omega⟩
              · have has : asSn (S 118 25) (S 124) (mHd S) (S 129) (S 130) s := by rcases hu3 with ⟨z1, z2⟩ | ⟨z1, z2⟩ <;> first | exact fun j a b => z2 j a (by omega) | omega
                refine j_iconst dX8_mayBe_76 ?_
                refine j_iload_n dX8_mayBe_77 rfl ?_
                refine j_shl dX8_mayBe_78 (by omega) (by omega) ?_
                refine j_goto (tgt := 83) dX8_mayBe_79 (by decide) ?_
                refine j_ior dX8_mayBe_83 (by omega) (by omega) ?_
                rw [or_bit (by omega) (by omega)]
                refine j_istore_n (L' := [(0, .ref 118), (1, vi (b + ((2 ^ s.toNat : Nat) : Int))), (2, vi s), (3, vi is), (4, vi i)]) dX8_mayBe_84 (Nat.le_of_ble_eq_true rfl) rfl ?_
                refine j_iinc (L' := [(0, .ref 118), (1, vi (b + ((2 ^ s.toNat : Nat) : Int))), (2, vi (s + 1)), (3, vi is), (4, vi i)]) dX8_mayBe_85 (Nat.le_of_ble_eq_true rfl) rfl rfl ?_
                refine j_goto (tgt := 9) dX8_mayBe_88 (by decide) ?_
                refine j_sub (L' := [(0, .ref 118), (1, vi (b + ((2 ^ s.toNat : Nat) : Int))), (2, vi (s + 1))]) (by simp) ?_
                exact ih9 (b + ((2 ^ s.toNat : Nat) : Int)) (s + 1) (by omega) ⟨by omega, by omega, by rw [sm_s (by omega), cb_pos has]; omega⟩
            · refine j_iload_n dX8_mayBe_33 rfl ?_
              refine j_if_eq (tgt := 63) dX8_mayBe_34 (by decide) (by omega)  (fun h34 => ?_) (fun h34 => ?_)
              · refine j_iconst dX8_mayBe_63 ?_
                refine j_istore_n (L' := [(0, .ref 118), (1, vi b), (2, vi s), (3, vi 0), (4, vi i)]) dX8_mayBe_64 (Nat.le_of_ble_eq_true rfl) rfl ?_
                refine j_iinc (L' := [(0, .ref 118), (1, vi b), (2, vi s), (3, vi 0), (4, vi (i + 1))]) dX8_mayBe_65 (Nat.le_of_ble_eq_true rfl) rfl rfl ?_
                refine j_goto (tgt := 24) dX8_mayBe_68 (by decide) ?_
                exact ih24 0 (i + 1) (by omega) ⟨by omega, by omega, (by rcases hu3 with ⟨z1, z2⟩ | ⟨z1, z2⟩ <;> first | exact Or.inr ⟨rfl, z2⟩ | omega | exact Or.inr ⟨rfl, i, by omega, by omega, h56⟩)⟩
              · have hg1 := hsp i (by omega) (by omega)
                refine j_aload_n dX8_mayBe_37 rfl ?_
                refine j_iload_n dX8_mayBe_38 rfl ?_
                refine j_aload_n dX8_mayBe_39 rfl ?_
                refine j_getR dX8_mayBe_40 fg_X8_41 fq_118_23 ?_
                refine j_iload dX8_mayBe_43 rfl ?_
                refine j_iald (x := S 129 i) dX8_mayBe_45 aq_129 (by omega) (by omega) rfl (fun hi45 => ?_)
                refine j_callVi (As := [vi s, vi (S 129 i)]) (rest := []) (t_X8_makeIn _ s (S 129 i) hM (by omega) (by omega) (by omega) (by omega)) rfl cm_X8_makeIn ci_X8_makeIn ml_X8_226 oq_118 rfl (Nat.le_of_ble_eq_true rfl) (Nat.le_of_ble_eq_true rfl) dX8_mayBe_46 (fun r46 S46 hp46 => ?_)
                obtain ⟨hr46, he46⟩ := hp46
                rw [he46]
                subst hr46
                have hq46 := (hpt _ (hhd s (S 129 i) (by omega) (by omega) (by omega) (by omega)).1 (hhd s (S 129 i) (by omega) (by omega) (by omega) (by omega)).2).2.1
                refine j_aload_n dX8_mayBe_49 rfl ?_
                refine j_getR dX8_mayBe_50 fg_X8_44 fq_118_24 ?_
                refine j_iload dX8_mayBe_53 rfl ?_
                refine j_iald (x := S 130 i) dX8_mayBe_55 aq_130 (by omega) (by omega) rfl (fun hi55 => ?_)
                refine j_icmp_ne (tgt := 63) dX8_mayBe_56 (by decide) (by omega) (by omega) (fun h56 => ?_) (fun h56 => ?_)
                · refine j_iconst dX8_mayBe_63 ?_
                  refine j_istore_n (L' := [(0, .ref 118), (1, vi b), (2, vi s), (3, vi 0), (4, vi i)]) dX8_mayBe_64 (Nat.le_of_ble_eq_true rfl) rfl ?_
                  refine j_iinc (L' := [(0, .ref 118), (1, vi b), (2, vi s), (3, vi 0), (4, vi (i + 1))]) dX8_mayBe_65 (Nat.le_of_ble_eq_true rfl) rfl rfl ?_
                  refine j_goto (tgt := 24) dX8_mayBe_68 (by decide) ?_
                  exact ih24 0 (i + 1) (by omega) ⟨by omega, by omega, (by rcases hu3 with ⟨z1, z2⟩ | ⟨z1, z2⟩ <;> first | exact Or.inr ⟨rfl, z2⟩ | omega | exact Or.inr ⟨rfl, i, by omega, by omega, h56⟩)⟩
                · refine j_iconst dX8_mayBe_59 ?_
                  refine j_goto (tgt := 64) dX8_mayBe_60 (by decide) ?_
                  refine j_istore_n (L' := [(0, .ref 118), (1, vi b), (2, vi s), (3, vi 1), (4, vi i)]) dX8_mayBe_64 (Nat.le_of_ble_eq_true rfl) rfl ?_
                  refine j_iinc (L' := [(0, .ref 118), (1, vi b), (2, vi s), (3, vi 1), (4, vi (i + 1))]) dX8_mayBe_65 (Nat.le_of_ble_eq_true rfl) rfl rfl ?_
                  refine j_goto (tgt := 24) dX8_mayBe_68 (by decide) ?_
                  exact ih24 1 (i + 1) (by omega) ⟨by omega, by omega, (by rcases hu3 with ⟨z1, z2⟩ | ⟨z1, z2⟩ <;> first | exact Or.inl ⟨rfl, fun j a b => if e : j = i then by rw [e]; exact h56 else z2 j a (by omega)⟩ | omega)⟩
        exact lp24 _ 1 0 (Nat.lt_succ_self _) ⟨by omega, by omega, Or.inl ⟨rfl, fun j a b => by omega⟩⟩
  exact lp9 _ 0 0 (Nat.lt_succ_self _) ⟨by omega, by omega, rfl⟩
