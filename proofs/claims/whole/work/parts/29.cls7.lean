set_option maxRecDepth 100000 in
set_option maxHeartbeats 4000000 in
theorem t_X0_accept (S : St) (q : Int) (hn0 : 0 ≤ S 1 0) (hn1 : S 1 0 ≤ 6) (hq : InR q) : EX mX0_accept [.ref 8, vi q] S (fun r S' => S' = cpy (up (up S 8 5 1) 8 6 q) 9 10 (S 1 0)) := by
  suffices hh : ∀ P : Int → St → Prop, (∀ r S', (S' = cpy (up (up S 8 5 1) 8 6 q) 9 10 (S 1 0)) → P r S') → EX mX0_accept [.ref 8, vi q] S P from hh _ (fun _ _ h => h)
  intro P hP
  refine EX.of (L := [(0, .ref 8), (1, vi q)]) rfl rfl (Nat.le_of_ble_eq_true rfl) rfl ?_
  refine j_aload_n dX0_accept_0 rfl ?_
  refine j_iconst dX0_accept_1 ?_
  refine j_putZ (i := 5) dX0_accept_2 fg_X0_18 ft_0_5 fq_8_5 rfl (Or.inr rfl) ?_
  refine j_aload_n dX0_accept_5 rfl ?_
  refine j_iload_n dX0_accept_6 rfl ?_
  refine j_putI (i := 6) dX0_accept_7 fg_X0_22 ft_0_6 fq_8_6 rfl (by omega) ?_
  refine j_aload_n dX0_accept_10 rfl ?_
  refine j_getR dX0_accept_11 fg_X0_9 fq_8_3 ?_
  refine j_iconst dX0_accept_14 ?_
  refine j_aload_n dX0_accept_15 rfl ?_
  refine j_getR dX0_accept_16 fg_X0_15 fq_8_4 ?_
  refine j_iconst dX0_accept_19 ?_
  refine j_aload_n dX0_accept_20 rfl ?_
  refine j_getR dX0_accept_21 fg_X0_35 fq_8_0 ?_
  refine j_getI (x := S 1 0) dX0_accept_24 fg_X0_47 fq_1_0 rfl (fun hi24 => ?_)
  refine j_copy dX0_accept_27 cw_X0_91 aq_9 aq_10 (by omega) (by omega) (by omega) (Nat.le_of_ble_eq_true rfl) (Nat.le_of_ble_eq_true rfl) ?_
  exact j_vret rfl dX0_accept_30 (fun h => by cases h) (hP _ _ rfl)
set_option maxRecDepth 100000 in
set_option maxHeartbeats 4000000 in
theorem t_X0_choose : ∀ (fu : Nat) (S : St) (k rep : Int), (S 1 0 - k).toNat < fu → ChP S k rep → EX (mX0_choose (12 - k.toNat)) [.ref 8, vi k, vi rep] S (fun r S' => ChQ S k S') := by
  intro fu
  induction fu with
  | zero => intro S k rep h; exact absurd h (Nat.not_lt_zero _)
  | succ fu ih =>
    intro S k rep hfu hpre
    suffices hh : ∀ P : Int → St → Prop, (∀ r S', (ChQ S k S') → P r S') → EX (mX0_choose (12 - k.toNat)) [.ref 8, vi k, vi rep] S P from hh _ (fun _ _ h => h)
    intro P hP
    refine EX.of (L := [(0, .ref 8), (1, vi k), (2, vi rep)]) rfl rfl (Nat.le_of_ble_eq_true rfl) rfl ?_
    obtain ⟨hK, hl3, ⟨hk0, hkn⟩, hrep, hok, hhul⟩ := id hpre
    obtain ⟨hX, ⟨sh0, sh1⟩, ⟨hl0, hl1⟩, ⟨hg0, hg1⟩, hfd, hfw0, hfw1⟩ := id hK
    obtain ⟨⟨hn0, hn1⟩, hwl, ⟨hp0, hp1⟩, ⟨hs0, hs1⟩, hyr, hpt, hhd⟩ := id hX
    have hwt : ∀ k, 0 ≤ k → k < 6 → 1 ≤ S 2 k ∧ S 2 k ≤ 9 := fun k a b => ⟨(hwl k a b).1, (hwl k a b).2.1⟩
    have hrb := cnC_bd k hk0 (S 9)
    rw [← hrep] at hrb
    have hmk5 : ∀ j, 0 ≤ j → j < S 1 0 → isMk (S 5 j) := by
      intro j a b
      rw [(hhul j a b).1]
      have g0 : isMk (cMK S j) := by
        have g := hhd (S 8 7) j sh0 sh1 a b
        exact (hpt _ g.1 g.2).2.1
      by_cases e : j < k
      · rw [if_pos e]
        unfold rowF
        by_cases e2 : S 9 j = -5
        · rw [if_pos e2]; exact g0
        · rw [if_neg e2]
          rcases hok j a e with z | z
          · exact absurd z e2
          · exact (hpt _ z.1.1 z.1.2).2.1
      · rw [if_neg e]; exact g0
    refine j_iload_n dX0_choose_0 rfl ?_
    refine j_aload_n dX0_choose_1 rfl ?_
    refine j_getI (x := S 8 6) dX0_choose_2 fg_X0_22 fq_8_6 rfl (fun hi2 => ?_)
    refine j_icmp_lt (tgt := 9) dX0_choose_5 (by decide) (by omega) (by omega) (fun h5 => ?_) (fun h5 => ?_)
    · refine j_iload_n dX0_choose_9 rfl ?_
      refine j_aload_n dX0_choose_10 rfl ?_
      refine j_getR dX0_choose_11 fg_X0_35 fq_8_0 ?_
      refine j_getI (x := S 1 0) dX0_choose_14 fg_X0_47 fq_1_0 rfl (fun hi14 => ?_)
      refine j_icmp_lt (tgt := 44) dX0_choose_17 (by decide) (by omega) (by omega) (fun h17 => ?_) (fun h17 => ?_)
      · have hgk := hhd (S 8 7) k sh0 sh1 hk0 (by omega)
        have hmo := (hpt _ hgk.1 hgk.2).2.1
        refine j_aload_n dX0_choose_44 rfl ?_
        refine j_getR dX0_choose_45 fg_X0_39 fq_8_1 ?_
        refine j_aload_n dX0_choose_48 rfl ?_
        refine j_getI (x := S 8 7) dX0_choose_49 fg_X0_26 fq_8_7 rfl (fun hi49 => ?_)
        refine j_iload_n dX0_choose_52 rfl ?_
        refine j_callVi (As := [vi (S 8 7), vi k]) (rest := []) (t_X1_partAt _ (S 8 7) k (by omega) (by omega) (by omega) (by omega)) rfl cm_X1_partAt ci_X1_partAt ml_X0_72 oq_27 rfl (by show 1 + 1 ≤ 12 - k.toNat; omega) (Nat.le_of_ble_eq_true rfl) dX0_choose_53 (fun r53 S53 hp53 => ?_)
        obtain ⟨hr53, he53⟩ := hp53
        rw [he53]
        rw [show r53 = S 33 ((S 8 7) * 6 + k) from hr53.trans rfl]
        refine j_istore_n (L' := [(0, .ref 8), (1, vi k), (2, vi rep), (3, vi (S 33 ((S 8 7) * 6 + k)))]) dX0_choose_56 (Nat.le_of_ble_eq_true rfl) rfl ?_
        refine j_aload_n dX0_choose_57 rfl ?_
        refine j_getR dX0_choose_58 fg_X0_9 fq_8_3 ?_
        refine j_iload_n dX0_choose_61 rfl ?_
        refine j_bipush dX0_choose_62 (by decide) ?_
        refine j_iast dX0_choose_64 aq_9 (by omega) (by omega) (by omega) ?_
        refine j_aload_n dX0_choose_65 rfl ?_
        refine j_iload_n dX0_choose_66 rfl ?_
        refine j_iconst dX0_choose_67 ?_
        refine j_iadd dX0_choose_68 ?_
        refine j_iload_n dX0_choose_69 rfl ?_
        have hpre70 : ChP (up S 9 k (-5)) (k + 1) rep := by
          have := chp_next (q := -5) hpre (by omega) (ChS.up ⟨Same.rf, fun _ _ _ => rfl, hfd, hfw0, hfw1⟩ (by decide)) (up_s _ _ _ _) (fun j a b => up_i (by omega)) (Or.inl rfl) (fun j a b e => ⟨rfl, rfl⟩) ⟨by have := (hhul k hk0 (by omega)).1; rw [if_neg (by omega)] at this; exact this, by have := (hhul k hk0 (by omega)).2; rw [if_neg (by omega)] at this; exact this⟩
          rw [if_pos rfl, Int.add_zero] at this
          exact this
        refine j_callVv (As := [vi (k + 1), vi rep]) (rest := []) (ih (up S 9 k (-5)) (k + 1) rep (by show (S 1 0 - (k + 1)).toNat < fu; omega) hpre70) rfl (cm_X0_choose _) (ci_X0_choose _) ml_X0_61 oq_8 rfl (by show (12 - (k + 1).toNat) + 1 ≤ 12 - k.toNat; omega) (Nat.le_of_ble_eq_true rfl) dX0_choose_70 (fun r70 S70 hp70 => ?_)
        have hlp := lp_start hpre (by omega) hp70
        have hsm70 := hlp.2.2.2.1.1
        have eS70_1 : S70 1 = S 1 := hsm70 1 (by decide)
        have eS70_2 : S70 2 = S 2 := hsm70 2 (by decide)
        have eS70_3 : S70 3 = S 3 := hsm70 3 (by decide)
        have eS70_27 : S70 27 = S 27 := hsm70 27 (by decide)
        have eS70_28 : S70 28 = S 28 := hsm70 28 (by decide)
        have eS70_29 : S70 29 = S 29 := hsm70 29 (by decide)
        have eS70_30 : S70 30 = S 30 := hsm70 30 (by decide)
        have eS70_31 : S70 31 = S 31 := hsm70 31 (by decide)
        have eS70_33 : S70 33 = S 33 := hsm70 33 (by decide)
        refine j_iconst dX0_choose_73 ?_
        refine j_aload_n dX0_choose_74 rfl ?_
        refine j_getR dX0_choose_75 fg_X0_39 fq_8_1 ?_
        refine j_getR dX0_choose_78 fg_X0_78 fq_27_4 ?_
        refine j_iload_n dX0_choose_81 rfl ?_
        refine j_iald (x := S 29 (S 33 ((S 8 7) * 6 + k))) dX0_choose_82 aq_29 (by omega) (by omega) (congrFun eS70_29 _) (fun hi82 => ?_)
        refine j_shl dX0_choose_83 (by omega) (by omega) ?_
        refine j_istore (L' := [(0, .ref 8), (1, vi k), (2, vi rep), (3, vi (S 33 ((S 8 7) * 6 + k))), (4, vi ((2 ^ (S 29 (S 33 ((S 8 7) * 6 + k))).toNat : Nat) : Int))]) dX0_choose_84 (Nat.le_of_ble_eq_true rfl) rfl ?_
        refine j_iconst dX0_choose_86 ?_
        refine j_istore (L' := [(0, .ref 8), (1, vi k), (2, vi rep), (3, vi (S 33 ((S 8 7) * 6 + k))), (4, vi ((2 ^ (S 29 (S 33 ((S 8 7) * 6 + k))).toNat : Nat) : Int)), (5, vi 0)]) dX0_choose_87 (Nat.le_of_ble_eq_true rfl) rfl ?_
        have lp89 : ∀ (n : Nat) (tr p : Int) (T : St), (S 27 1 - p).toNat < n → (0 ≤ p ∧ p ≤ S 27 1 ∧ LpI S T k tr p) → JJ (mX0_choose (12 - k.toNat)) (RX (mX0_choose (12 - k.toNat)) P) 89 [(0, .ref 8), (1, vi k), (2, vi rep), (3, vi (S 33 ((S 8 7) * 6 + k))), (4, vi tr), (5, vi p)] [] T := by
          intro n
          induction n with
          | zero => intro tr p T hm; exact absurd hm (Nat.not_lt_zero _)
          | succ n ih89 =>
            intro tr p T hm89 hv89
            obtain ⟨hv1, hv2, hv3⟩ := hv89
            have hsmT := hv3.2.2.2.1.1
            have eT_1 : T 1 = S 1 := hsmT 1 (by decide)
            have eT_2 : T 2 = S 2 := hsmT 2 (by decide)
            have eT_3 : T 3 = S 3 := hsmT 3 (by decide)
            have eT_27 : T 27 = S 27 := hsmT 27 (by decide)
            have eT_28 : T 28 = S 28 := hsmT 28 (by decide)
            have eT_29 : T 29 = S 29 := hsmT 29 (by decide)
            have eT_30 : T 30 = S 30 := hsmT 30 (by decide)
            have eT_31 : T 31 = S 31 := hsmT 31 (by decide)
            have eT_33 : T 33 = S 33 := hsmT 33 (by decide)
            have htb := hv3.2.2.2.2.1
            refine j_iload dX0_choose_89 rfl ?_
            refine j_aload_n dX0_choose_91 rfl ?_
            refine j_getR dX0_choose_92 fg_X0_39 fq_8_1 ?_
            refine j_getI (x := S 27 1) dX0_choose_95 fg_X0_81 fq_27_1 (congrFun eT_27 _) (fun hi95 => ?_)
            refine j_icmp_ge (tgt := 177) dX0_choose_98 (by decide) (by omega) (by omega) (fun h98 => ?_) (fun h98 => ?_)
            · rw [show p = S 27 1 by omega] at hv3
              have hgk := hhd (S 8 7) k sh0 sh1 hk0 (by omega)
              refine j_aload_n dX0_choose_177 rfl ?_
              refine j_getR dX0_choose_178 fg_X0_43 fq_8_2 ?_
              refine j_iload_n dX0_choose_181 rfl ?_
              refine j_iload_n dX0_choose_182 rfl ?_
              refine j_callVv (As := [vi k, vi (S 33 ((S 8 7) * 6 + k))]) (rest := []) (t_X2_putPart _ k (S 33 ((S 8 7) * 6 + k)) (by omega) (by omega) (by omega) (by omega)) rfl cm_X2_putPart ci_X2_putPart ml_X0_88 oq_4 rfl (by show 2 + 1 ≤ 12 - k.toNat; omega) (Nat.le_of_ble_eq_true rfl) dX0_choose_183 (fun r183 S183 hp183 => ?_)
              rw [hp183]
              rw [show T 29 (S 33 ((S 8 7) * 6 + k)) = S 29 (S 33 ((S 8 7) * 6 + k)) from (congrFun eT_29 _)]
              rw [show T 30 (S 33 ((S 8 7) * 6 + k)) = S 30 (S 33 ((S 8 7) * 6 + k)) from (congrFun eT_30 _)]
              exact j_vret rfl dX0_choose_186 (fun h => by cases h) (hP _ _ (lp_end hpre (by omega) hv3))
            · have hpp := hpt p hv1 (by omega)
              refine j_iconst dX0_choose_101 ?_
              refine j_aload_n dX0_choose_102 rfl ?_
              refine j_getR dX0_choose_103 fg_X0_39 fq_8_1 ?_
              refine j_getR dX0_choose_106 fg_X0_78 fq_27_4 ?_
              refine j_iload dX0_choose_109 rfl ?_
              refine j_iald (x := S 29 p) dX0_choose_111 aq_29 (by omega) (by omega) (congrFun eT_29 _) (fun hi111 => ?_)
              refine j_shl dX0_choose_112 (by omega) (by omega) ?_
              refine j_istore (L' := [(0, .ref 8), (1, vi k), (2, vi rep), (3, vi (S 33 ((S 8 7) * 6 + k))), (4, vi tr), (5, vi p), (6, vi ((2 ^ (S 29 p).toNat : Nat) : Int))]) dX0_choose_113 (Nat.le_of_ble_eq_true rfl) rfl ?_
              refine j_aload_n dX0_choose_115 rfl ?_
              refine j_getR dX0_choose_116 fg_X0_39 fq_8_1 ?_
              refine j_iload dX0_choose_119 rfl ?_
              refine j_iload_n dX0_choose_121 rfl ?_
              refine j_callVi (As := [vi p, vi k]) (rest := []) (t_X1_liesFor _ p k (by omega) (by omega) (by omega)) rfl cm_X1_liesFor ci_X1_liesFor ml_X0_84 oq_27 rfl (by show 1 + 1 ≤ 12 - k.toNat; omega) (Nat.le_of_ble_eq_true rfl) dX0_choose_122 (fun r122 S122 hp122 => ?_)
              obtain ⟨⟨rfl, hc122⟩ | ⟨rfl, hc122⟩, he122⟩ := hp122
              · rw [he122]
                rw [eT_31] at hc122
                rw [eT_28] at hc122
                refine j_if_eq (tgt := 171) dX0_choose_125 (by decide) (by omega)  (fun h => absurd h (by decide)) (fun _ => ?_)
                refine j_iload dX0_choose_128 rfl ?_
                refine j_iload dX0_choose_130 rfl ?_
                refine j_iand dX0_choose_132 (by omega) (Int.natCast_nonneg _) ?_
                refine j_top (fun an ean => ?_)
                have hab : 0 ≤ an ∧ an < 1024 := by rw [ean]; have := Nat.and_le_left (n := tr.toNat) (m := ((2 ^ (S 29 p).toNat : Nat) : Int).toNat); omega
                have htt : ¬ an = 0 → tr.toNat.testBit (S 29 p).toNat = true := fun z => by cases hz : tr.toNat.testBit (S 29 p).toNat with | true => rfl | false => exact absurd (ean.trans (and_bit.mpr hz)) z
                refine j_if_ne (tgt := 171) dX0_choose_133 (by decide) (by omega)  (fun h133 => ?_) (fun h133 => ?_)
                · refine j_iinc (L' := [(0, .ref 8), (1, vi k), (2, vi rep), (3, vi (S 33 ((S 8 7) * 6 + k))), (4, vi tr), (5, vi (p + 1)), (6, vi ((2 ^ (S 29 p).toNat : Nat) : Int))]) dX0_choose_171 (Nat.le_of_ble_eq_true rfl) rfl rfl ?_
                  refine j_goto (tgt := 89) dX0_choose_174 (by decide) ?_
                  refine j_sub (L' := [(0, .ref 8), (1, vi k), (2, vi rep), (3, vi (S 33 ((S 8 7) * 6 + k))), (4, vi tr), (5, vi (p + 1))]) (by simp) ?_
                  exact ih89 tr (p + 1) T (by omega) ⟨by omega, by omega, lp_skip hpre (by omega) hv1 (by omega) hv3 (Or.inr (htt h133))⟩
                · refine j_iload dX0_choose_136 rfl ?_
                  refine j_iload dX0_choose_138 rfl ?_
                  refine j_ior dX0_choose_140 (by omega) (Int.natCast_nonneg _) ?_
                  refine j_istore (L' := [(0, .ref 8), (1, vi k), (2, vi rep), (3, vi (S 33 ((S 8 7) * 6 + k))), (4, vi ((tr.toNat ||| ((2 ^ (S 29 p).toNat : Nat) : Int).toNat : Nat) : Int)), (5, vi p), (6, vi ((2 ^ (S 29 p).toNat : Nat) : Int))]) dX0_choose_141 (Nat.le_of_ble_eq_true rfl) rfl ?_
                  refine j_aload_n dX0_choose_143 rfl ?_
                  refine j_getR dX0_choose_144 fg_X0_9 fq_8_3 ?_
                  refine j_iload_n dX0_choose_147 rfl ?_
                  refine j_iload dX0_choose_148 rfl ?_
                  refine j_iast dX0_choose_150 aq_9 (by omega) (by omega) (by omega) ?_
                  refine j_aload_n dX0_choose_151 rfl ?_
                  refine j_getR dX0_choose_152 fg_X0_43 fq_8_2 ?_
                  refine j_iload_n dX0_choose_155 rfl ?_
                  refine j_iload dX0_choose_156 rfl ?_
                  refine j_callVv (As := [vi k, vi p]) (rest := []) (t_X2_putPart _ k p (by omega) (by omega) (by omega) (by omega)) rfl cm_X2_putPart ci_X2_putPart ml_X0_88 oq_4 rfl (by show 2 + 1 ≤ 12 - k.toNat; omega) (Nat.le_of_ble_eq_true rfl) dX0_choose_158 (fun r158 S158 hp158 => ?_)
                  rw [hp158]
                  rw [show (up T 9 k p) 29 p = S 29 p from (congrFun eT_29 _)]
                  rw [show (up T 9 k p) 30 p = S 30 p from (congrFun eT_30 _)]
                  refine j_aload_n dX0_choose_161 rfl ?_
                  refine j_iload_n dX0_choose_162 rfl ?_
                  refine j_iconst dX0_choose_163 ?_
                  refine j_iadd dX0_choose_164 ?_
                  refine j_iload_n dX0_choose_165 rfl ?_
                  refine j_iconst dX0_choose_166 ?_
                  refine j_iadd dX0_choose_167 ?_
                  refine j_callVv (As := [vi (k + 1), vi (rep + 1)]) (rest := []) (ih (up (up (up T 9 k p) 5 k (S 29 p)) 6 k (S 30 p)) (k + 1) (rep + 1) (by show (T 1 0 - (k + 1)).toNat < fu; rw [eT_1]; omega) (lp_pre hpre (by omega) hv1 (by omega) hv3 hc122)) rfl (cm_X0_choose _) (ci_X0_choose _) ml_X0_61 oq_8 rfl (by show (12 - (k + 1).toNat) + 1 ≤ 12 - k.toNat; omega) (Nat.le_of_ble_eq_true rfl) dX0_choose_168 (fun r168 S168 hp168 => ?_)
                  have hlp2 := lp_take hpre (by omega) hv1 (by omega) hv3 hc122 hp168
                  refine j_iinc (L' := [(0, .ref 8), (1, vi k), (2, vi rep), (3, vi (S 33 ((S 8 7) * 6 + k))), (4, vi ((tr.toNat ||| ((2 ^ (S 29 p).toNat : Nat) : Int).toNat : Nat) : Int)), (5, vi (p + 1)), (6, vi ((2 ^ (S 29 p).toNat : Nat) : Int))]) dX0_choose_171 (Nat.le_of_ble_eq_true rfl) rfl rfl ?_
                  refine j_goto (tgt := 89) dX0_choose_174 (by decide) ?_
                  refine j_sub (L' := [(0, .ref 8), (1, vi k), (2, vi rep), (3, vi (S 33 ((S 8 7) * 6 + k))), (4, vi ((tr.toNat ||| ((2 ^ (S 29 p).toNat : Nat) : Int).toNat : Nat) : Int)), (5, vi (p + 1))]) (by simp) ?_
                  exact ih89 ((tr.toNat ||| ((2 ^ (S 29 p).toNat : Nat) : Int).toNat : Nat) : Int) (p + 1) S168 (by omega) ⟨by omega, by omega, hlp2⟩
              · rw [he122]
                rw [eT_31] at hc122
                rw [eT_28] at hc122
                refine j_if_eq (tgt := 171) dX0_choose_125 (by decide) (by omega)  (fun _ => ?_) (fun h => absurd h (by decide))
                refine j_iinc (L' := [(0, .ref 8), (1, vi k), (2, vi rep), (3, vi (S 33 ((S 8 7) * 6 + k))), (4, vi tr), (5, vi (p + 1)), (6, vi ((2 ^ (S 29 p).toNat : Nat) : Int))]) dX0_choose_171 (Nat.le_of_ble_eq_true rfl) rfl rfl ?_
                refine j_goto (tgt := 89) dX0_choose_174 (by decide) ?_
                refine j_sub (L' := [(0, .ref 8), (1, vi k), (2, vi rep), (3, vi (S 33 ((S 8 7) * 6 + k))), (4, vi tr), (5, vi (p + 1))]) (by simp) ?_
                exact ih89 tr (p + 1) T (by omega) ⟨by omega, by omega, lp_skip hpre (by omega) hv1 (by omega) hv3 (Or.inl hc122)⟩
        exact lp89 _ ((2 ^ (S 29 (S 33 ((S 8 7) * 6 + k))).toNat : Nat) : Int) 0 S70 (Nat.lt_succ_self _) ⟨by omega, by omega, hlp⟩
      · refine j_aload_n dX0_choose_20 rfl ?_
        refine j_getR dX0_choose_21 fg_X0_43 fq_8_2 ?_
        refine j_aload_n dX0_choose_24 rfl ?_
        refine j_getI (x := S 8 8) dX0_choose_25 fg_X0_29 fq_8_8 rfl (fun hi25 => ?_)
        refine j_callVi (As := [vi (S 8 8)]) (rest := []) (t_X2_whose _ (S 8 8) hn0 hn1 hwt hmk5 hl0 hl1) rfl cm_X2_whose ci_X2_whose ml_X0_65 oq_4 rfl (by show 3 + 1 ≤ 12 - k.toNat; omega) (Nat.le_of_ble_eq_true rfl) dX0_choose_28 (fun r28 S28 hp28 => ?_)
        obtain ⟨hr28, hsm28⟩ := hp28
        have hwb28 := who_bd (n := S 1 0) (mk := S 5) (ag := S 6) (wt := S 2) (law := S 8 8) (by omega) hmk5
        rw [← hr28] at hwb28
        have eS28_1 : S28 1 = S 1 := hsm28 1 (by decide)
        have eS28_2 : S28 2 = S 2 := hsm28 2 (by decide)
        have eS28_3 : S28 3 = S 3 := hsm28 3 (by decide)
        have eS28_8 : S28 8 = S 8 := hsm28 8 (by decide)
        have eS28_27 : S28 27 = S 27 := hsm28 27 (by decide)
        have eS28_28 : S28 28 = S 28 := hsm28 28 (by decide)
        have eS28_29 : S28 29 = S 29 := hsm28 29 (by decide)
        have eS28_30 : S28 30 = S 30 := hsm28 30 (by decide)
        have eS28_31 : S28 31 = S 31 := hsm28 31 (by decide)
        have eS28_33 : S28 33 = S 33 := hsm28 33 (by decide)
        refine j_aload_n dX0_choose_31 rfl ?_
        refine j_getI (x := S 8 9) dX0_choose_32 fg_X0_32 fq_8_9 (congrFun eS28_8 _) (fun hi32 => ?_)
        refine j_icmp_ne (tgt := 43) dX0_choose_35 (by decide) (by omega) (by omega) (fun h35 => ?_) (fun h35 => ?_)
        · exact j_vret rfl dX0_choose_43 (fun h => by cases h) (hP _ _ (by rw [show k = S 1 0 by omega] at hpre ⊢; exact ch_no hpre hsm28 (by rw [← hr28]; exact h35)))
        · refine j_aload_n dX0_choose_38 rfl ?_
          refine j_iload_n dX0_choose_39 rfl ?_
          refine j_callVv (As := [vi rep]) (rest := []) (t_X0_accept _ rep (by rw [eS28_1]; omega) (by rw [eS28_1]; omega) (by omega)) rfl cm_X0_accept ci_X0_accept ml_X0_69 oq_8 rfl (by show 1 + 1 ≤ 12 - k.toNat; omega) (Nat.le_of_ble_eq_true rfl) dX0_choose_40 (fun r40 S40 hp40 => ?_)
          rw [eS28_1] at hp40
          exact j_vret rfl dX0_choose_43 (fun h => by cases h) (hP _ _ (by rw [show k = S 1 0 by omega] at hpre ⊢; rw [hp40]; exact ch_yes hpre hsm28 (by omega) (by rw [← hr28]; exact h35)))
    · exact j_vret rfl dX0_choose_8 (fun h => by cases h) (hP _ _ (ch_cut hpre (by omega)))
