set_option maxRecDepth 100000 in
set_option maxHeartbeats 4000000 in
theorem t_X7_thief (S : St) (s law what : Int) (r_s : InR s) (r_law : InR law) (r_what : InR what) (hX : XI S) : EX mX7_thief [.ref 0, vi s, vi law, vi what] S (fun r S' => r = fThief (S 1 0) (S 27 2) (S 27 1) (S 29) (S 30) (S 31) (S 28) (S 2) (S 33) s law what ∧ Same [5, 6, 7] S S') := by
  suffices hh : ∀ P : Int → St → Prop, (∀ r S', (r = fThief (S 1 0) (S 27 2) (S 27 1) (S 29) (S 30) (S 31) (S 28) (S 2) (S 33) s law what ∧ Same [5, 6, 7] S S') → P r S') → EX mX7_thief [.ref 0, vi s, vi law, vi what] S P from hh _ (fun _ _ h => h)
  intro P hP
  refine EX.of (L := [(0, .ref 0), (1, vi s), (2, vi law), (3, vi what)]) rfl rfl (Nat.le_of_ble_eq_true rfl) rfl ?_
  obtain ⟨⟨hn0, hn1⟩, hwl, ⟨hp0, hp1⟩, ⟨hs0, hs1⟩, hyr, hpt, hhd⟩ := id hX
  have hwt : ∀ k, 0 ≤ k → k < 6 → 1 ≤ S 2 k ∧ S 2 k ≤ 9 := fun k a b => ⟨(hwl k a b).1, (hwl k a b).2.1⟩
  refine j_aload_n dX7_thief_0 rfl ?_
  refine j_iload_n dX7_thief_1 rfl ?_
  refine j_callVi (As := [vi s]) (rest := []) (t_X7_isShip _ s (by omega)) rfl cm_X7_isShip ci_X7_isShip ml_X7_135 oq_0 rfl (Nat.le_of_ble_eq_true rfl) (Nat.le_of_ble_eq_true rfl) dX7_thief_2 (fun r2 S2 hp2 => ?_)
  obtain ⟨⟨rfl, hc2⟩ | ⟨rfl, hc2⟩, he2⟩ := hp2
  · rw [he2]
    refine j_if_eq (tgt := 22) dX7_thief_5 (by decide) (by omega)  (fun h => absurd h (by decide)) (fun _ => ?_)
    refine j_iload_n dX7_thief_8 rfl ?_
    refine j_callSi (As := [vi law]) (rest := []) (t_X7_isLaw _ law (by omega)) rfl cm_X7_isLaw cs_X7_isLaw ml_X7_148 rfl (Nat.le_of_ble_eq_true rfl) (Nat.le_of_ble_eq_true rfl) dX7_thief_9 (fun r9 S9 hp9 => ?_)
    obtain ⟨⟨rfl, hc9⟩ | ⟨rfl, hc9⟩, he9⟩ := hp9
    · rw [he9]
      refine j_if_eq (tgt := 22) dX7_thief_12 (by decide) (by omega)  (fun h => absurd h (by decide)) (fun _ => ?_)
      refine j_iload_n dX7_thief_15 rfl ?_
      refine j_callSi (As := [vi what]) (rest := []) (t_X7_isFractionSide _ what (by omega)) rfl cm_X7_isFractionSide cs_X7_isFractionSide ml_X7_225 rfl (Nat.le_of_ble_eq_true rfl) (Nat.le_of_ble_eq_true rfl) dX7_thief_16 (fun r16 S16 hp16 => ?_)
      obtain ⟨⟨rfl, hc16⟩ | ⟨rfl, hc16⟩, he16⟩ := hp16
      · rw [he16]
        refine j_if_ne (tgt := 26) dX7_thief_19 (by decide) (by omega)  (fun _ => ?_) (fun h => absurd h (by decide))
        refine j_aload_n dX7_thief_26 rfl ?_
        refine j_iload_n dX7_thief_27 rfl ?_
        refine j_iload_n dX7_thief_28 rfl ?_
        refine j_callVi (As := [vi s, vi law]) (rest := []) (t_X7_whoseNow _ s law hX (by omega) (by omega) (by omega) (by omega)) rfl cm_X7_whoseNow ci_X7_whoseNow ml_X7_151 oq_0 rfl (Nat.le_of_ble_eq_true rfl) (Nat.le_of_ble_eq_true rfl) dX7_thief_29 (fun r29 S29 hp29 => ?_)
        obtain ⟨hr29, hsm29, hl29⟩ := hp29
        have eS29_1 : S29 1 = S 1 := hsm29 1 (by decide)
        have eS29_2 : S29 2 = S 2 := hsm29 2 (by decide)
        have eS29_3 : S29 3 = S 3 := hsm29 3 (by decide)
        have eS29_27 : S29 27 = S 27 := hsm29 27 (by decide)
        have eS29_28 : S29 28 = S 28 := hsm29 28 (by decide)
        have eS29_29 : S29 29 = S 29 := hsm29 29 (by decide)
        have eS29_30 : S29 30 = S 30 := hsm29 30 (by decide)
        have eS29_31 : S29 31 = S 31 := hsm29 31 (by decide)
        have eS29_32 : S29 32 = S 32 := hsm29 32 (by decide)
        have eS29_33 : S29 33 = S 33 := hsm29 33 (by decide)
        have hmkS : ∀ k, 0 ≤ k → k < S 1 0 → isMk (S 29 (S 33 (s * 6 + k))) := fun k a b => by have g := hhd s k (by omega) (by omega) a b; exact (hpt _ g.1 g.2).2.1
        have hwb0 := who_bd (n := S 1 0) (mk := (fun k => S 29 (S 33 (s * 6 + k)))) (ag := (fun k => S 30 (S 33 (s * 6 + k)))) (wt := S 2) (law := law) (by omega) hmkS
        rw [show who _ _ _ _ _ = r29 from hr29.symm] at hwb0
        refine j_istore (L' := [(0, .ref 0), (1, vi s), (2, vi law), (3, vi what), (4, vi r29)]) dX7_thief_32 (Nat.le_of_ble_eq_true rfl) rfl ?_
        refine j_lconst (x := 0) dX7_thief_34 rfl ?_
        refine j_lstore (L' := [(0, .ref 0), (1, vi s), (2, vi law), (3, vi what), (4, vi r29), (5, vl 0)]) dX7_thief_35 (Nat.le_of_ble_eq_true rfl) rfl ?_
        refine j_lconst (x := 1) dX7_thief_37 rfl ?_
        refine j_lstore (L' := [(0, .ref 0), (1, vi s), (2, vi law), (3, vi what), (4, vi r29), (5, vl 0), (7, vl 1)]) dX7_thief_38 (Nat.le_of_ble_eq_true rfl) rfl ?_
        refine j_iconst dX7_thief_40 ?_
        refine j_istore (L' := [(0, .ref 0), (1, vi s), (2, vi law), (3, vi what), (4, vi r29), (5, vl 0), (7, vl 1), (9, vi 0)]) dX7_thief_41 (Nat.le_of_ble_eq_true rfl) rfl ?_
        have lp43 : ∀ (n : Nat) (u l k : Int) (T : St), (S 1 0 - k).toNat < n → (0 ≤ k ∧ k ≤ S 1 0 ∧ Same [5, 6, 7] S T ∧ (∀ j, 0 ≤ j → j < S 1 0 → T 5 j = S 29 (S 33 (s * 6 + j)) ∧ T 6 j = S 30 (S 33 (s * 6 + j))) ∧ u = thU (liF (S 27 1) (S 31) (S 28)) (fun k => stF (S 1 0) (S 27 1) (S 29) (S 30) (S 31) (S 28) (S 2) (fun k => S 29 (S 33 (s * 6 + k))) (fun k => S 30 (S 33 (s * 6 + k))) k law) k.toNat ∧ l = thL (liF (S 27 1) (S 31) (S 28)) k.toNat) → JJ mX7_thief (RX mX7_thief P) 43 [(0, .ref 0), (1, vi s), (2, vi law), (3, vi what), (4, vi r29), (5, vl u), (7, vl l), (9, vi k)] [] T := by
          intro n
          induction n with
          | zero => intro u l k T hm; exact absurd hm (Nat.not_lt_zero _)
          | succ n ih43 =>
            intro u l k T hm43 hv43
            obtain ⟨hv1, hv2, hv3, hv4, hv5, hv6⟩ := hv43
            have eT_1 : T 1 = S 1 := hv3 1 (by decide)
            have eT_2 : T 2 = S 2 := hv3 2 (by decide)
            have eT_3 : T 3 = S 3 := hv3 3 (by decide)
            have eT_27 : T 27 = S 27 := hv3 27 (by decide)
            have eT_28 : T 28 = S 28 := hv3 28 (by decide)
            have eT_29 : T 29 = S 29 := hv3 29 (by decide)
            have eT_30 : T 30 = S 30 := hv3 30 (by decide)
            have eT_31 : T 31 = S 31 := hv3 31 (by decide)
            have eT_33 : T 33 = S 33 := hv3 33 (by decide)
            refine j_iload dX7_thief_43 rfl ?_
            refine j_aload_n dX7_thief_45 rfl ?_
            refine j_getR dX7_thief_46 fg_X7_10 fq_0_0 ?_
            refine j_getI (x := S 1 0) dX7_thief_49 fg_X7_184 fq_1_0 (congrFun eT_1 _) (fun hi49 => ?_)
            refine j_icmp_ge (tgt := 107) dX7_thief_52 (by decide) (by omega) (by omega) (fun h52 => ?_) (fun h52 => ?_)
            · refine j_lload dX7_thief_107 rfl ?_
              refine j_lload dX7_thief_109 rfl ?_
              refine j_aload_n dX7_thief_111 rfl ?_
              refine j_getR dX7_thief_112 fg_X7_10 fq_0_0 ?_
              refine j_getI (x := S 1 0) dX7_thief_115 fg_X7_184 fq_1_0 (congrFun eT_1 _) (fun hi115 => ?_)
              refine j_i2l dX7_thief_118 (by omega) ?_
              refine j_lmul dX7_thief_119 ?_
              refine j_iload_n dX7_thief_120 rfl ?_
              have hk6 : k = S 1 0 := by omega
              have htb := th_fin (li := liF (S 27 1) (S 31) (S 28)) (st := fun k => stF (S 1 0) (S 27 1) (S 29) (S 30) (S 31) (S 28) (S 2) (fun k => S 29 (S 33 (s * 6 + k))) (fun k => S 30 (S 33 (s * 6 + k))) k law) (n := S 1 0) (by omega) hn1 (fun k a b => ⟨liF_bd hp1, stF_bd hp1⟩)
              rw [show k.toNat = (S 1 0).toNat by rw [hk6]] at hv5 hv6
              rw [← hv5, ← hv6] at htb
              have hln : 1 * 2 ≤ l * S 1 0 := Int.mul_le_mul htb.1.1 hn0 (by decide) (by omega)
              have hln2 : l * S 1 0 ≤ 12230590464 * 6 := Int.mul_le_mul htb.1.2 hn1 (by omega) (by decide)
              have hmul : u.toNat * (l * S 1 0).toNat < 2 ^ 98 := Nat.lt_of_le_of_lt (Nat.mul_le_mul (show _ ≤ 73383542784 by omega) (show _ ≤ 73383542784 by omega)) (by decide)
              refine j_callSl (As := [vl u, vl (l * (S 1 0)), vi what]) (rest := []) (t_X7_inLeastTerms _ u (l * S 1 0) what (by omega) (by omega) (by omega) (by omega) hmul (by omega)) rfl cm_X7_inLeastTerms cs_X7_inLeastTerms ml_X7_241 rfl (Nat.le_of_ble_eq_true rfl) (Nat.le_of_ble_eq_true rfl) dX7_thief_121 (fun r121 S121 hp121 => ?_)
              obtain ⟨hr121, he121⟩ := hp121
              rw [he121]
              exact j_lret rfl dX7_thief_124 (fun h => by cases h) (hP _ _ ⟨by unfold fThief thieF; rw [if_pos (by omega), ← hv5, ← hv6]; exact hr121, hv3⟩)
            · refine j_iconst dX7_thief_55 ?_
              refine j_aload_n dX7_thief_56 rfl ?_
              refine j_getR dX7_thief_57 fg_X7_19 fq_0_1 ?_
              refine j_iload dX7_thief_60 rfl ?_
              refine j_callVi (As := [vi k]) (rest := [vi 1]) (t_X1_lyingOf _ k (by rw [eT_27]; omega) (by rw [eT_27]; omega) (by omega)) rfl cm_X1_lyingOf ci_X1_lyingOf ml_X7_117 oq_27 rfl (Nat.le_of_ble_eq_true rfl) (Nat.le_of_ble_eq_true rfl) dX7_thief_62 (fun r62 S62 hp62 => ?_)
              obtain ⟨hr62, he62⟩ := hp62
              rw [he62]
              rw [eT_27, eT_28, eT_31] at hr62
              have hlb := lyO_bd (wh := S 31) (pl := S 28) (k := k) hp1
              rw [show lyO _ _ _ _ = r62 from hr62.symm] at hlb
              refine j_mmax dX7_thief_65 mw_X7_253 (by omega) (by omega) (Nat.le_of_ble_eq_true rfl) (Nat.le_of_ble_eq_true rfl) ?_
              refine j_top (fun li eli => ?_)
              have hli : li = liF (S 27 1) (S 31) (S 28) k := by rw [eli]; unfold liF; rw [show lyO _ _ _ _ = r62 from hr62.symm]; split <;> split <;> omega
              have hlb2 := liF_bd (wh := S 31) (pl := S 28) (k := k) hp1
              refine j_istore (L' := [(0, .ref 0), (1, vi s), (2, vi law), (3, vi what), (4, vi r29), (5, vl u), (7, vl l), (9, vi k), (10, vi li)]) dX7_thief_68 (Nat.le_of_ble_eq_true rfl) rfl ?_
              refine j_lload dX7_thief_70 rfl ?_
              refine j_iload dX7_thief_72 rfl ?_
              refine j_i2l dX7_thief_74 (by omega) ?_
              refine j_lmul dX7_thief_75 ?_
              refine j_aload_n dX7_thief_76 rfl ?_
              refine j_iload_n dX7_thief_77 rfl ?_
              refine j_iload dX7_thief_78 rfl ?_
              refine j_iload_n dX7_thief_80 rfl ?_
              refine j_iload dX7_thief_81 rfl ?_
              refine j_callVi (As := [vi s, vi k, vi law, vi r29]) (rest := [vl (u * li)]) (t_X7_staying _ s k law r29 (hX.same hv3 (by decide)) (by omega) (by rw [eT_27]; omega) (by omega) (by rw [eT_1]; omega) (by omega) (by omega) (by rw [eT_1, eT_2, eT_29, eT_30, eT_33]; exact hr29) (by rw [eT_1, eT_29, eT_30, eT_33]; exact hv4)) rfl cm_X7_staying ci_X7_staying ml_X7_258 oq_0 rfl (Nat.le_of_ble_eq_true rfl) (Nat.le_of_ble_eq_true rfl) dX7_thief_83 (fun r83 S83 hp83 => ?_)
              obtain ⟨hr83, hsm83, hl83⟩ := hp83
              rw [eT_1, eT_2, eT_27, eT_28, eT_29, eT_30, eT_31, eT_33] at hr83
              rw [eT_1, eT_29, eT_30, eT_33] at hl83
              have hsb := stF_bd (n := S 1 0) (mk := S 29) (ag := S 30) (wh := S 31) (pl := S 28) (wt := S 2) (hmk := (fun k => S 29 (S 33 (s * 6 + k)))) (hag := (fun k => S 30 (S 33 (s * 6 + k)))) (k := k) (law := law) hp1
              rw [← hr83] at hsb
              have eS83_1 : S83 1 = S 1 := (hsm83 1 (by decide)).trans eT_1
              have eS83_2 : S83 2 = S 2 := (hsm83 2 (by decide)).trans eT_2
              have eS83_3 : S83 3 = S 3 := (hsm83 3 (by decide)).trans eT_3
              have eS83_27 : S83 27 = S 27 := (hsm83 27 (by decide)).trans eT_27
              have eS83_28 : S83 28 = S 28 := (hsm83 28 (by decide)).trans eT_28
              have eS83_29 : S83 29 = S 29 := (hsm83 29 (by decide)).trans eT_29
              have eS83_30 : S83 30 = S 30 := (hsm83 30 (by decide)).trans eT_30
              have eS83_31 : S83 31 = S 31 := (hsm83 31 (by decide)).trans eT_31
              have eS83_33 : S83 33 = S 33 := (hsm83 33 (by decide)).trans eT_33
              refine j_i2l dX7_thief_86 (by omega) ?_
              refine j_lload dX7_thief_87 rfl ?_
              refine j_lmul dX7_thief_89 ?_
              refine j_ladd dX7_thief_90 ?_
              refine j_lstore (L' := [(0, .ref 0), (1, vi s), (2, vi law), (3, vi what), (4, vi r29), (5, vl ((u * li) + (r83 * l))), (7, vl l), (9, vi k), (10, vi li)]) dX7_thief_91 (Nat.le_of_ble_eq_true rfl) rfl ?_
              refine j_lload dX7_thief_93 rfl ?_
              refine j_iload dX7_thief_95 rfl ?_
              refine j_i2l dX7_thief_97 (by omega) ?_
              refine j_lmul dX7_thief_98 ?_
              refine j_lstore (L' := [(0, .ref 0), (1, vi s), (2, vi law), (3, vi what), (4, vi r29), (5, vl ((u * li) + (r83 * l))), (7, vl (l * li)), (9, vi k), (10, vi li)]) dX7_thief_99 (Nat.le_of_ble_eq_true rfl) rfl ?_
              refine j_iinc (L' := [(0, .ref 0), (1, vi s), (2, vi law), (3, vi what), (4, vi r29), (5, vl ((u * li) + (r83 * l))), (7, vl (l * li)), (9, vi (k + 1)), (10, vi li)]) dX7_thief_101 (Nat.le_of_ble_eq_true rfl) rfl rfl ?_
              refine j_goto (tgt := 43) dX7_thief_104 (by decide) ?_
              refine j_sub (L' := [(0, .ref 0), (1, vi s), (2, vi law), (3, vi what), (4, vi r29), (5, vl ((u * li) + (r83 * l))), (7, vl (l * li)), (9, vi (k + 1))]) (by simp) ?_
              exact ih43 ((u * li) + (r83 * l)) (l * li) (k + 1) S83 (by omega) ⟨by omega, by omega, hv3.tr hsm83, hl83, by rw [thU_s (by omega), ← hv5, ← hv6, ← hli, ← hr83], by rw [thL_s (by omega), ← hv6, ← hli]⟩
        exact lp43 _ 0 1 0 S29 (Nat.lt_succ_self _) ⟨by omega, by omega, hsm29, hl29, rfl, rfl⟩
      · rw [he16]
        refine j_if_ne (tgt := 26) dX7_thief_19 (by decide) (by omega)  (fun h => absurd h (by decide)) (fun _ => ?_)
        refine j_ldc2 (x := (-1)) dX7_thief_22 cn_X7_251 ?_
        exact j_lret rfl dX7_thief_25 (fun h => by cases h) (hP _ _ ⟨by unfold fThief; rw [if_neg (by omega)], Same.rf⟩)
    · rw [he9]
      refine j_if_eq (tgt := 22) dX7_thief_12 (by decide) (by omega)  (fun _ => ?_) (fun h => absurd h (by decide))
      refine j_ldc2 (x := (-1)) dX7_thief_22 cn_X7_251 ?_
      exact j_lret rfl dX7_thief_25 (fun h => by cases h) (hP _ _ ⟨by unfold fThief; rw [if_neg (by omega)], Same.rf⟩)
  · rw [he2]
    refine j_if_eq (tgt := 22) dX7_thief_5 (by decide) (by omega)  (fun _ => ?_) (fun h => absurd h (by decide))
    refine j_ldc2 (x := (-1)) dX7_thief_22 cn_X7_251 ?_
    exact j_lret rfl dX7_thief_25 (fun h => by cases h) (hP _ _ ⟨by unfold fThief; rw [if_neg (by omega)], Same.rf⟩)
set_option maxRecDepth 100000 in
set_option maxHeartbeats 4000000 in
theorem t_X3_asPart (S : St) (p : Int) (h0 : 0 ≤ p) (h1 : p < S 27 1) (hX : XI S) : EX mX3_asPart [.ref 13, vi p] S (fun r S' => r = S 30 p ∧ S' = up S 13 2 (S 13 2 + 1)) := by
  suffices hh : ∀ P : Int → St → Prop, (∀ r S', (r = S 30 p ∧ S' = up S 13 2 (S 13 2 + 1)) → P r S') → EX mX3_asPart [.ref 13, vi p] S P from hh _ (fun _ _ h => h)
  intro P hP
  refine EX.of (L := [(0, .ref 13), (1, vi p)]) rfl rfl (Nat.le_of_ble_eq_true rfl) rfl ?_
  obtain ⟨⟨hn0, hn1⟩, hwl, ⟨hp0, hp1⟩, ⟨hs0, hs1⟩, hyr, hpt, hhd⟩ := id hX
  have hwt : ∀ k, 0 ≤ k → k < 6 → 1 ≤ S 2 k ∧ S 2 k ≤ 9 := fun k a b => ⟨(hwl k a b).1, (hwl k a b).2.1⟩
  have hpp := hpt p h0 h1
  have hw := hwl (S 28 p) (by omega) (by omega)
  refine j_aload_n dX3_asPart_0 rfl ?_
  refine j_dup dX3_asPart_1 rfl ?_
  refine j_getL (x := S 13 2) dX3_asPart_2 fg_X3_9 fq_13_2 rfl ?_
  refine j_lconst (x := 1) dX3_asPart_5 rfl ?_
  refine j_ladd dX3_asPart_6 ?_
  refine j_putL (i := 2) dX3_asPart_7 fg_X3_9 ft_3_2 fq_13_2 rfl (by unfold lngAt; omega) ?_
  refine j_aload_n dX3_asPart_10 rfl ?_
  refine j_getR dX3_asPart_11 fg_X3_19 fq_13_1 ?_
  refine j_getR dX3_asPart_14 fg_X3_43 fq_27_5 ?_
  refine j_iload_n dX3_asPart_17 rfl ?_
  refine j_iald (x := S 30 p) dX3_asPart_18 aq_30 (by omega) (by omega) rfl (fun hi18 => ?_)
  exact j_iret rfl dX3_asPart_19 (fun h => by cases h) (hP _ _ ⟨rfl, rfl⟩)
set_option maxRecDepth 100000 in
set_option maxHeartbeats 4000000 in
theorem t_X3_asKeel (S : St) (p : Int) (h0 : 0 ≤ p) (h1 : p < S 27 1) (hX : XI S) : EX mX3_asKeel [.ref 13, vi p] S (fun r S' => r = S 30 p + S 2 (S 28 p) ∧ S' = up S 13 2 (S 13 2 + 11)) := by
  suffices hh : ∀ P : Int → St → Prop, (∀ r S', (r = S 30 p + S 2 (S 28 p) ∧ S' = up S 13 2 (S 13 2 + 11)) → P r S') → EX mX3_asKeel [.ref 13, vi p] S P from hh _ (fun _ _ h => h)
  intro P hP
  refine EX.of (L := [(0, .ref 13), (1, vi p)]) rfl rfl (Nat.le_of_ble_eq_true rfl) rfl ?_
  obtain ⟨⟨hn0, hn1⟩, hwl, ⟨hp0, hp1⟩, ⟨hs0, hs1⟩, hyr, hpt, hhd⟩ := id hX
  have hwt : ∀ k, 0 ≤ k → k < 6 → 1 ≤ S 2 k ∧ S 2 k ≤ 9 := fun k a b => ⟨(hwl k a b).1, (hwl k a b).2.1⟩
  have hpp := hpt p h0 h1
  have hw := hwl (S 28 p) (by omega) (by omega)
  refine j_aload_n dX3_asKeel_0 rfl ?_
  refine j_dup dX3_asKeel_1 rfl ?_
  refine j_getL (x := S 13 2) dX3_asKeel_2 fg_X3_9 fq_13_2 rfl ?_
  refine j_ldc2 (x := 10) dX3_asKeel_5 cn_X3_49 ?_
  refine j_ladd dX3_asKeel_8 ?_
  refine j_putL (i := 2) dX3_asKeel_9 fg_X3_9 ft_3_2 fq_13_2 rfl (by unfold lngAt; omega) ?_
  refine j_aload_n dX3_asKeel_12 rfl ?_
  refine j_iload_n dX3_asKeel_13 rfl ?_
  refine j_callVi (As := [vi p]) (rest := []) (t_X3_asPart _ p h0 h1 (hX.same (l := [13]) (same_up Same.rf (by decide)) (by decide))) rfl cm_X3_asPart ci_X3_asPart ml_X3_23 oq_13 rfl (Nat.le_of_ble_eq_true rfl) (Nat.le_of_ble_eq_true rfl) dX3_asKeel_14 (fun r14 S14 hp14 => ?_)
  obtain ⟨hr14, he14⟩ := hp14
  rw [he14, hr14]
  rw [tr_add, show S 13 2 + 10 + 1 = S 13 2 + 11 by omega]
  refine j_aload_n dX3_asKeel_17 rfl ?_
  refine j_getR dX3_asKeel_18 fg_X3_15 fq_13_0 ?_
  refine j_getR dX3_asKeel_21 fg_X3_51 fq_1_1 ?_
  refine j_aload_n dX3_asKeel_24 rfl ?_
  refine j_getR dX3_asKeel_25 fg_X3_19 fq_13_1 ?_
  refine j_getR dX3_asKeel_28 fg_X3_56 fq_27_3 ?_
  refine j_iload_n dX3_asKeel_31 rfl ?_
  refine j_iald (x := S 28 p) dX3_asKeel_32 aq_28 (by omega) (by omega) rfl (fun hi32 => ?_)
  refine j_iald (x := S 2 (S 28 p)) dX3_asKeel_33 aq_2 (by omega) (by omega) rfl (fun hi33 => ?_)
  refine j_iadd dX3_asKeel_34 ?_
  exact j_iret rfl dX3_asKeel_35 (fun h => by cases h) (hP _ _ ⟨rfl, rfl⟩)
set_option maxRecDepth 100000 in
set_option maxHeartbeats 4000000 in
theorem t_X3_asBorrowed (S : St) (p : Int) (h0 : 0 ≤ p) (h1 : p < S 27 1) (hX : XI S) : EX mX3_asBorrowed [.ref 13, vi p] S (fun r S' => r = S 30 p - S 3 (S 28 p) ∧ S' = up S 13 2 (S 13 2 + 101)) := by
  suffices hh : ∀ P : Int → St → Prop, (∀ r S', (r = S 30 p - S 3 (S 28 p) ∧ S' = up S 13 2 (S 13 2 + 101)) → P r S') → EX mX3_asBorrowed [.ref 13, vi p] S P from hh _ (fun _ _ h => h)
  intro P hP
  refine EX.of (L := [(0, .ref 13), (1, vi p)]) rfl rfl (Nat.le_of_ble_eq_true rfl) rfl ?_
  obtain ⟨⟨hn0, hn1⟩, hwl, ⟨hp0, hp1⟩, ⟨hs0, hs1⟩, hyr, hpt, hhd⟩ := id hX
  have hwt : ∀ k, 0 ≤ k → k < 6 → 1 ≤ S 2 k ∧ S 2 k ≤ 9 := fun k a b => ⟨(hwl k a b).1, (hwl k a b).2.1⟩
  have hpp := hpt p h0 h1
  have hw := hwl (S 28 p) (by omega) (by omega)
  refine j_aload_n dX3_asBorrowed_0 rfl ?_
  refine j_dup dX3_asBorrowed_1 rfl ?_
  refine j_getL (x := S 13 2) dX3_asBorrowed_2 fg_X3_9 fq_13_2 rfl ?_
  refine j_ldc2 (x := 100) dX3_asBorrowed_5 cn_X3_59 ?_
  refine j_ladd dX3_asBorrowed_8 ?_
  refine j_putL (i := 2) dX3_asBorrowed_9 fg_X3_9 ft_3_2 fq_13_2 rfl (by unfold lngAt; omega) ?_
  refine j_aload_n dX3_asBorrowed_12 rfl ?_
  refine j_iload_n dX3_asBorrowed_13 rfl ?_
  refine j_callVi (As := [vi p]) (rest := []) (t_X3_asPart _ p h0 h1 (hX.same (l := [13]) (same_up Same.rf (by decide)) (by decide))) rfl cm_X3_asPart ci_X3_asPart ml_X3_23 oq_13 rfl (Nat.le_of_ble_eq_true rfl) (Nat.le_of_ble_eq_true rfl) dX3_asBorrowed_14 (fun r14 S14 hp14 => ?_)
  obtain ⟨hr14, he14⟩ := hp14
  rw [he14, hr14]
  rw [tr_add, show S 13 2 + 100 + 1 = S 13 2 + 101 by omega]
  refine j_aload_n dX3_asBorrowed_17 rfl ?_
  refine j_getR dX3_asBorrowed_18 fg_X3_15 fq_13_0 ?_
  refine j_getR dX3_asBorrowed_21 fg_X3_61 fq_1_2 ?_
  refine j_aload_n dX3_asBorrowed_24 rfl ?_
  refine j_getR dX3_asBorrowed_25 fg_X3_19 fq_13_1 ?_
  refine j_getR dX3_asBorrowed_28 fg_X3_56 fq_27_3 ?_
  refine j_iload_n dX3_asBorrowed_31 rfl ?_
  refine j_iald (x := S 28 p) dX3_asBorrowed_32 aq_28 (by omega) (by omega) rfl (fun hi32 => ?_)
  refine j_iald (x := S 3 (S 28 p)) dX3_asBorrowed_33 aq_3 (by omega) (by omega) rfl (fun hi33 => ?_)
  refine j_isub dX3_asBorrowed_34 ?_
  exact j_iret rfl dX3_asBorrowed_35 (fun h => by cases h) (hP _ _ ⟨rfl, rfl⟩)
set_option maxRecDepth 100000 in
set_option maxHeartbeats 4000000 in
theorem t_X3_asMast (S : St) (p : Int) (h0 : 0 ≤ p) (h1 : p < S 27 1) (hX : XI S) : EX mX3_asMast [.ref 13, vi p] S (fun r S' => r = 2 * (S 30 p + S 2 (S 28 p)) ∧ S' = up S 13 2 (S 13 2 + 1011)) := by
  suffices hh : ∀ P : Int → St → Prop, (∀ r S', (r = 2 * (S 30 p + S 2 (S 28 p)) ∧ S' = up S 13 2 (S 13 2 + 1011)) → P r S') → EX mX3_asMast [.ref 13, vi p] S P from hh _ (fun _ _ h => h)
  intro P hP
  refine EX.of (L := [(0, .ref 13), (1, vi p)]) rfl rfl (Nat.le_of_ble_eq_true rfl) rfl ?_
  obtain ⟨⟨hn0, hn1⟩, hwl, ⟨hp0, hp1⟩, ⟨hs0, hs1⟩, hyr, hpt, hhd⟩ := id hX
  have hwt : ∀ k, 0 ≤ k → k < 6 → 1 ≤ S 2 k ∧ S 2 k ≤ 9 := fun k a b => ⟨(hwl k a b).1, (hwl k a b).2.1⟩
  have hpp := hpt p h0 h1
  have hw := hwl (S 28 p) (by omega) (by omega)
  refine j_aload_n dX3_asMast_0 rfl ?_
  refine j_dup dX3_asMast_1 rfl ?_
  refine j_getL (x := S 13 2) dX3_asMast_2 fg_X3_9 fq_13_2 rfl ?_
  refine j_ldc2 (x := 1000) dX3_asMast_5 cn_X3_64 ?_
  refine j_ladd dX3_asMast_8 ?_
  refine j_putL (i := 2) dX3_asMast_9 fg_X3_9 ft_3_2 fq_13_2 rfl (by unfold lngAt; omega) ?_
  refine j_iconst dX3_asMast_12 ?_
  refine j_aload_n dX3_asMast_13 rfl ?_
  refine j_iload_n dX3_asMast_14 rfl ?_
  refine j_callVi (As := [vi p]) (rest := [vi 2]) (t_X3_asKeel _ p h0 h1 (hX.same (l := [13]) (same_up Same.rf (by decide)) (by decide))) rfl cm_X3_asKeel ci_X3_asKeel ml_X3_27 oq_13 rfl (Nat.le_of_ble_eq_true rfl) (Nat.le_of_ble_eq_true rfl) dX3_asMast_15 (fun r15 S15 hp15 => ?_)
  obtain ⟨hr15, he15⟩ := hp15
  rw [he15, hr15]
  rw [tr_add, show S 13 2 + 1000 + 11 = S 13 2 + 1011 by omega]
  refine j_imul dX3_asMast_18 ?_
  exact j_iret rfl dX3_asMast_19 (fun h => by cases h) (hP _ _ ⟨rfl, rfl⟩)
set_option maxRecDepth 100000 in
set_option maxHeartbeats 4000000 in
theorem t_X3_asShared (S : St) (p : Int) (h0 : 0 ≤ p) (h1 : p < S 27 1) (hX : XI S) : EX mX3_asShared [.ref 13, vi p] S (fun r S' => r = S 30 p - S 3 (S 28 p) + S 29 p ∧ S' = up S 13 2 (S 13 2 + 10101)) := by
  suffices hh : ∀ P : Int → St → Prop, (∀ r S', (r = S 30 p - S 3 (S 28 p) + S 29 p ∧ S' = up S 13 2 (S 13 2 + 10101)) → P r S') → EX mX3_asShared [.ref 13, vi p] S P from hh _ (fun _ _ h => h)
  intro P hP
  refine EX.of (L := [(0, .ref 13), (1, vi p)]) rfl rfl (Nat.le_of_ble_eq_true rfl) rfl ?_
  obtain ⟨⟨hn0, hn1⟩, hwl, ⟨hp0, hp1⟩, ⟨hs0, hs1⟩, hyr, hpt, hhd⟩ := id hX
  have hwt : ∀ k, 0 ≤ k → k < 6 → 1 ≤ S 2 k ∧ S 2 k ≤ 9 := fun k a b => ⟨(hwl k a b).1, (hwl k a b).2.1⟩
  have hpp := hpt p h0 h1
  have hw := hwl (S 28 p) (by omega) (by omega)
  refine j_aload_n dX3_asShared_0 rfl ?_
  refine j_dup dX3_asShared_1 rfl ?_
  refine j_getL (x := S 13 2) dX3_asShared_2 fg_X3_9 fq_13_2 rfl ?_
  refine j_ldc2 (x := 10000) dX3_asShared_5 cn_X3_66 ?_
  refine j_ladd dX3_asShared_8 ?_
  refine j_putL (i := 2) dX3_asShared_9 fg_X3_9 ft_3_2 fq_13_2 rfl (by unfold lngAt; omega) ?_
  refine j_aload_n dX3_asShared_12 rfl ?_
  refine j_iload_n dX3_asShared_13 rfl ?_
  refine j_callVi (As := [vi p]) (rest := []) (t_X3_asBorrowed _ p h0 h1 (hX.same (l := [13]) (same_up Same.rf (by decide)) (by decide))) rfl cm_X3_asBorrowed ci_X3_asBorrowed ml_X3_30 oq_13 rfl (Nat.le_of_ble_eq_true rfl) (Nat.le_of_ble_eq_true rfl) dX3_asShared_14 (fun r14 S14 hp14 => ?_)
  obtain ⟨hr14, he14⟩ := hp14
  rw [he14, hr14]
  rw [tr_add, show S 13 2 + 10000 + 101 = S 13 2 + 10101 by omega]
  refine j_aload_n dX3_asShared_17 rfl ?_
  refine j_getR dX3_asShared_18 fg_X3_19 fq_13_1 ?_
  refine j_getR dX3_asShared_21 fg_X3_68 fq_27_4 ?_
  refine j_iload_n dX3_asShared_24 rfl ?_
  refine j_iald (x := S 29 p) dX3_asShared_25 aq_29 (by omega) (by omega) rfl (fun hi25 => ?_)
  refine j_iadd dX3_asShared_26 ?_
  exact j_iret rfl dX3_asShared_27 (fun h => by cases h) (hP _ _ ⟨rfl, rfl⟩)
set_option maxRecDepth 100000 in
set_option maxHeartbeats 4000000 in
theorem t_X3_asForged (S : St) (p : Int) (h0 : 0 ≤ p) (h1 : p < S 27 1) (hX : XI S) : EX mX3_asForged [.ref 13, vi p] S (fun r S' => r = S 30 p + lyA (S 27 1) (S 31) ∧ S' = up S 13 2 (S 13 2 + 100001)) := by
  suffices hh : ∀ P : Int → St → Prop, (∀ r S', (r = S 30 p + lyA (S 27 1) (S 31) ∧ S' = up S 13 2 (S 13 2 + 100001)) → P r S') → EX mX3_asForged [.ref 13, vi p] S P from hh _ (fun _ _ h => h)
  intro P hP
  refine EX.of (L := [(0, .ref 13), (1, vi p)]) rfl rfl (Nat.le_of_ble_eq_true rfl) rfl ?_
  obtain ⟨⟨hn0, hn1⟩, hwl, ⟨hp0, hp1⟩, ⟨hs0, hs1⟩, hyr, hpt, hhd⟩ := id hX
  have hwt : ∀ k, 0 ≤ k → k < 6 → 1 ≤ S 2 k ∧ S 2 k ≤ 9 := fun k a b => ⟨(hwl k a b).1, (hwl k a b).2.1⟩
  have hpp := hpt p h0 h1
  have hw := hwl (S 28 p) (by omega) (by omega)
  refine j_aload_n dX3_asForged_0 rfl ?_
  refine j_dup dX3_asForged_1 rfl ?_
  refine j_getL (x := S 13 2) dX3_asForged_2 fg_X3_9 fq_13_2 rfl ?_
  refine j_ldc2 (x := 100000) dX3_asForged_5 cn_X3_71 ?_
  refine j_ladd dX3_asForged_8 ?_
  refine j_putL (i := 2) dX3_asForged_9 fg_X3_9 ft_3_2 fq_13_2 rfl (by unfold lngAt; omega) ?_
  refine j_aload_n dX3_asForged_12 rfl ?_
  refine j_iload_n dX3_asForged_13 rfl ?_
  refine j_callVi (As := [vi p]) (rest := []) (t_X3_asPart _ p h0 h1 (hX.same (l := [13]) (same_up Same.rf (by decide)) (by decide))) rfl cm_X3_asPart ci_X3_asPart ml_X3_23 oq_13 rfl (Nat.le_of_ble_eq_true rfl) (Nat.le_of_ble_eq_true rfl) dX3_asForged_14 (fun r14 S14 hp14 => ?_)
  obtain ⟨hr14, he14⟩ := hp14
  rw [he14, hr14]
  rw [tr_add, show S 13 2 + 100000 + 1 = S 13 2 + 100001 by omega]
  refine j_aload_n dX3_asForged_17 rfl ?_
  refine j_getR dX3_asForged_18 fg_X3_19 fq_13_1 ?_
  refine j_callVi (As := []) (rest := [vi (S 30 p)]) (t_X1_lying _ (by show 0 ≤ S 27 1; omega) (by show S 27 1 ≤ 48; omega)) rfl cm_X1_lying ci_X1_lying ml_X3_73 oq_27 rfl (Nat.le_of_ble_eq_true rfl) (Nat.le_of_ble_eq_true rfl) dX3_asForged_21 (fun r21 S21 hp21 => ?_)
  obtain ⟨hr21, he21⟩ := hp21
  rw [he21]
  refine j_iadd dX3_asForged_24 ?_
  exact j_iret rfl dX3_asForged_25 (fun h => by cases h) (hP _ _ ⟨by rw [hr21]; rfl, rfl⟩)
set_option maxRecDepth 100000 in
set_option maxHeartbeats 4000000 in
theorem t_X3_rateAs (S : St) (kind p : Int) (hk : InR kind) (h0 : 0 ≤ p) (h1 : p < S 27 1) (hX : XI S) : EX mX3_rateAs [.ref 13, vi kind, vi p] S (fun r S' => ((0 ≤ kind ∧ kind ≤ 5) ∧ r = rateF kind (S 30 p) (S 2 (S 28 p)) (S 3 (S 28 p)) (S 29 p) (lyA (S 27 1) (S 31)) ∧ S' = up S 13 2 (S 13 2 + trF kind)) ∨ (¬ (0 ≤ kind ∧ kind ≤ 5) ∧ r = -1000000 ∧ S' = S)) := by
  suffices hh : ∀ P : Int → St → Prop, (∀ r S', (((0 ≤ kind ∧ kind ≤ 5) ∧ r = rateF kind (S 30 p) (S 2 (S 28 p)) (S 3 (S 28 p)) (S 29 p) (lyA (S 27 1) (S 31)) ∧ S' = up S 13 2 (S 13 2 + trF kind)) ∨ (¬ (0 ≤ kind ∧ kind ≤ 5) ∧ r = -1000000 ∧ S' = S)) → P r S') → EX mX3_rateAs [.ref 13, vi kind, vi p] S P from hh _ (fun _ _ h => h)
  intro P hP
  refine EX.of (L := [(0, .ref 13), (1, vi kind), (2, vi p)]) rfl rfl (Nat.le_of_ble_eq_true rfl) rfl ?_
  obtain ⟨⟨hn0, hn1⟩, hwl, ⟨hp0, hp1⟩, ⟨hs0, hs1⟩, hyr, hpt, hhd⟩ := id hX
  have hwt : ∀ k, 0 ≤ k → k < 6 → 1 ≤ S 2 k ∧ S 2 k ≤ 9 := fun k a b => ⟨(hwl k a b).1, (hwl k a b).2.1⟩
  have hpp := hpt p h0 h1
  have hw := hwl (S 28 p) (by omega) (by omega)
  refine j_iload_n dX3_rateAs_0 rfl ?_
  rcases (by omega : (kind < 0 ∨ 5 < kind) ∨ kind = 0 ∨ kind = 1 ∨ kind = 2 ∨ kind = 3 ∨ kind = 4 ∨ kind = 5) with hs1 | hs1 | hs1 | hs1 | hs1 | hs1 | hs1
  · refine j_tblOut (tgt := 76) dX3_rateAs_1 (by omega) (by omega) (by decide) ?_
    refine j_ldc (x := (-1000000)) dX3_rateAs_76 cn_X3_42 ?_
    exact j_iret rfl dX3_rateAs_78 (fun h => by cases h) (hP _ _ (Or.inr ⟨by omega, rfl, rfl⟩))
  · refine j_tblIn (off := 39) (tgt := 40) dX3_rateAs_1 (by omega) (by omega) (by omega) (by rw [hs1]; decide) (by decide) ?_
    refine j_aload_n dX3_rateAs_40 rfl ?_
    refine j_iload_n dX3_rateAs_41 rfl ?_
    refine j_callVi (As := [vi p]) (rest := []) (t_X3_asPart _ p h0 h1 hX) rfl cm_X3_asPart ci_X3_asPart ml_X3_23 oq_13 rfl (Nat.le_of_ble_eq_true rfl) (Nat.le_of_ble_eq_true rfl) dX3_rateAs_42 (fun r42 S42 hp42 => ?_)
    obtain ⟨hr42, he42⟩ := hp42
    exact j_iret rfl dX3_rateAs_45 (fun h => by cases h) (hP _ _ (Or.inl ⟨by omega, by rw [hr42, hs1]; rfl, by rw [he42, hs1]; rfl⟩))
  · refine j_tblIn (off := 45) (tgt := 46) dX3_rateAs_1 (by omega) (by omega) (by omega) (by rw [hs1]; decide) (by decide) ?_
    refine j_aload_n dX3_rateAs_46 rfl ?_
    refine j_iload_n dX3_rateAs_47 rfl ?_
    refine j_callVi (As := [vi p]) (rest := []) (t_X3_asKeel _ p h0 h1 hX) rfl cm_X3_asKeel ci_X3_asKeel ml_X3_27 oq_13 rfl (Nat.le_of_ble_eq_true rfl) (Nat.le_of_ble_eq_true rfl) dX3_rateAs_48 (fun r48 S48 hp48 => ?_)
    obtain ⟨hr48, he48⟩ := hp48
    exact j_iret rfl dX3_rateAs_51 (fun h => by cases h) (hP _ _ (Or.inl ⟨by omega, by rw [hr48, hs1]; rfl, by rw [he48, hs1]; rfl⟩))
  · refine j_tblIn (off := 51) (tgt := 52) dX3_rateAs_1 (by omega) (by omega) (by omega) (by rw [hs1]; decide) (by decide) ?_
    refine j_aload_n dX3_rateAs_52 rfl ?_
    refine j_iload_n dX3_rateAs_53 rfl ?_
    refine j_callVi (As := [vi p]) (rest := []) (t_X3_asBorrowed _ p h0 h1 hX) rfl cm_X3_asBorrowed ci_X3_asBorrowed ml_X3_30 oq_13 rfl (Nat.le_of_ble_eq_true rfl) (Nat.le_of_ble_eq_true rfl) dX3_rateAs_54 (fun r54 S54 hp54 => ?_)
    obtain ⟨hr54, he54⟩ := hp54
    exact j_iret rfl dX3_rateAs_57 (fun h => by cases h) (hP _ _ (Or.inl ⟨by omega, by rw [hr54, hs1]; rfl, by rw [he54, hs1]; rfl⟩))
  · refine j_tblIn (off := 57) (tgt := 58) dX3_rateAs_1 (by omega) (by omega) (by omega) (by rw [hs1]; decide) (by decide) ?_
    refine j_aload_n dX3_rateAs_58 rfl ?_
    refine j_iload_n dX3_rateAs_59 rfl ?_
    refine j_callVi (As := [vi p]) (rest := []) (t_X3_asMast _ p h0 h1 hX) rfl cm_X3_asMast ci_X3_asMast ml_X3_33 oq_13 rfl (Nat.le_of_ble_eq_true rfl) (Nat.le_of_ble_eq_true rfl) dX3_rateAs_60 (fun r60 S60 hp60 => ?_)
    obtain ⟨hr60, he60⟩ := hp60
    exact j_iret rfl dX3_rateAs_63 (fun h => by cases h) (hP _ _ (Or.inl ⟨by omega, by rw [hr60, hs1]; rfl, by rw [he60, hs1]; rfl⟩))
  · refine j_tblIn (off := 63) (tgt := 64) dX3_rateAs_1 (by omega) (by omega) (by omega) (by rw [hs1]; decide) (by decide) ?_
    refine j_aload_n dX3_rateAs_64 rfl ?_
    refine j_iload_n dX3_rateAs_65 rfl ?_
    refine j_callVi (As := [vi p]) (rest := []) (t_X3_asShared _ p h0 h1 hX) rfl cm_X3_asShared ci_X3_asShared ml_X3_36 oq_13 rfl (Nat.le_of_ble_eq_true rfl) (Nat.le_of_ble_eq_true rfl) dX3_rateAs_66 (fun r66 S66 hp66 => ?_)
    obtain ⟨hr66, he66⟩ := hp66
    exact j_iret rfl dX3_rateAs_69 (fun h => by cases h) (hP _ _ (Or.inl ⟨by omega, by rw [hr66, hs1]; rfl, by rw [he66, hs1]; rfl⟩))
  · refine j_tblIn (off := 69) (tgt := 70) dX3_rateAs_1 (by omega) (by omega) (by omega) (by rw [hs1]; decide) (by decide) ?_
    refine j_aload_n dX3_rateAs_70 rfl ?_
    refine j_iload_n dX3_rateAs_71 rfl ?_
    refine j_callVi (As := [vi p]) (rest := []) (t_X3_asForged _ p h0 h1 hX) rfl cm_X3_asForged ci_X3_asForged ml_X3_39 oq_13 rfl (Nat.le_of_ble_eq_true rfl) (Nat.le_of_ble_eq_true rfl) dX3_rateAs_72 (fun r72 S72 hp72 => ?_)
    obtain ⟨hr72, he72⟩ := hp72
    exact j_iret rfl dX3_rateAs_75 (fun h => by cases h) (hP _ _ (Or.inl ⟨by omega, by rw [hr72, hs1]; rfl, by rw [he72, hs1]; rfl⟩))
set_option maxRecDepth 100000 in
set_option maxHeartbeats 4000000 in
theorem t_X7_rate (S : St) (kind p : Int) (r_kind : InR kind) (r_p : InR p) (hX : XI S) : EX mX7_rate [.ref 0, vi kind, vi p] S (fun r S' => (((0 ≤ kind ∧ kind ≤ 5) ∧ (0 ≤ p ∧ p < S 27 1) ∧ S 31 p ≠ 9) ∧ r = rateF kind (S 30 p) (S 2 (S 28 p)) (S 3 (S 28 p)) (S 29 p) (lyA (S 27 1) (S 31)) ∧ S' = up S 13 2 (S 13 2 + trF kind)) ∨ (¬ ((0 ≤ kind ∧ kind ≤ 5) ∧ (0 ≤ p ∧ p < S 27 1) ∧ S 31 p ≠ 9) ∧ r = -1000000 ∧ S' = S)) := by
  suffices hh : ∀ P : Int → St → Prop, (∀ r S', ((((0 ≤ kind ∧ kind ≤ 5) ∧ (0 ≤ p ∧ p < S 27 1) ∧ S 31 p ≠ 9) ∧ r = rateF kind (S 30 p) (S 2 (S 28 p)) (S 3 (S 28 p)) (S 29 p) (lyA (S 27 1) (S 31)) ∧ S' = up S 13 2 (S 13 2 + trF kind)) ∨ (¬ ((0 ≤ kind ∧ kind ≤ 5) ∧ (0 ≤ p ∧ p < S 27 1) ∧ S 31 p ≠ 9) ∧ r = -1000000 ∧ S' = S)) → P r S') → EX mX7_rate [.ref 0, vi kind, vi p] S P from hh _ (fun _ _ h => h)
  intro P hP
  refine EX.of (L := [(0, .ref 0), (1, vi kind), (2, vi p)]) rfl rfl (Nat.le_of_ble_eq_true rfl) rfl ?_
  obtain ⟨⟨hn0, hn1⟩, hwl, ⟨hp0, hp1⟩, ⟨hs0, hs1⟩, hyr, hpt, hhd⟩ := id hX
  have hwt : ∀ k, 0 ≤ k → k < 6 → 1 ≤ S 2 k ∧ S 2 k ≤ 9 := fun k a b => ⟨(hwl k a b).1, (hwl k a b).2.1⟩
  refine j_aload_n dX7_rate_0 rfl ?_
  refine j_iload_n dX7_rate_1 rfl ?_
  refine j_callVi (As := [vi p]) (rest := []) (t_X7_isPart _ p (by omega)) rfl cm_X7_isPart ci_X7_isPart ml_X7_120 oq_0 rfl (Nat.le_of_ble_eq_true rfl) (Nat.le_of_ble_eq_true rfl) dX7_rate_2 (fun r2 S2 hp2 => ?_)
  obtain ⟨⟨rfl, hc2⟩ | ⟨rfl, hc2⟩, he2⟩ := hp2
  · rw [he2]
    refine j_if_eq (tgt := 22) dX7_rate_5 (by decide) (by omega)  (fun h => absurd h (by decide)) (fun _ => ?_)
    refine j_aload_n dX7_rate_8 rfl ?_
    refine j_getR dX7_rate_9 fg_X7_19 fq_0_1 ?_
    refine j_getR dX7_rate_12 fg_X7_132 fq_27_6 ?_
    refine j_iload_n dX7_rate_15 rfl ?_
    refine j_iald (x := S 31 p) dX7_rate_16 aq_31 (by omega) (by omega) rfl (fun hi16 => ?_)
    refine j_bipush dX7_rate_17 (by decide) ?_
    refine j_icmp_ne (tgt := 26) dX7_rate_19 (by decide) (by omega) (by omega) (fun h19 => ?_) (fun h19 => ?_)
    · refine j_aload_n dX7_rate_26 rfl ?_
      refine j_getR dX7_rate_27 fg_X7_51 fq_0_5 ?_
      refine j_iload_n dX7_rate_30 rfl ?_
      refine j_iload_n dX7_rate_31 rfl ?_
      refine j_callVi (As := [vi kind, vi p]) (rest := []) (t_X3_rateAs _ kind p r_kind (by omega) (by omega) hX) rfl cm_X3_rateAs ci_X3_rateAs ml_X7_275 oq_13 rfl (Nat.le_of_ble_eq_true rfl) (Nat.le_of_ble_eq_true rfl) dX7_rate_32 (fun r32 S32 hp32 => ?_)
      exact j_iret rfl dX7_rate_35 (fun h => by cases h) (hP _ _ (by rcases hp32 with ⟨a, b, c⟩ | ⟨a, b, c⟩; exact Or.inl ⟨⟨a, by omega, by omega⟩, b, c⟩; exact Or.inr ⟨fun z => a z.1, b, c⟩))
    · refine j_ldcw (x := (-1000000)) dX7_rate_22 cn_X7_274 ?_
      exact j_iret rfl dX7_rate_25 (fun h => by cases h) (hP _ _ (Or.inr ⟨by omega, rfl, rfl⟩))
  · rw [he2]
    refine j_if_eq (tgt := 22) dX7_rate_5 (by decide) (by omega)  (fun _ => ?_) (fun h => absurd h (by decide))
    refine j_ldcw (x := (-1000000)) dX7_rate_22 cn_X7_274 ?_
    exact j_iret rfl dX7_rate_25 (fun h => by cases h) (hP _ _ (Or.inr ⟨by omega, rfl, rfl⟩))
