/-! the model's reader: one token ahead -/
def mTok (k : Int) : Int := if k = -1 then 0 else if k = -2 then 2 else if k = -3 then 4 else if k = 59 then 3 else if k = 110 ∨ k = 119 ∨ k = 108 ∨ k = 115 ∨ k = 121 then 1 else 4
def MTk (S : St) (p : Int) : Prop := S 118 4 = kTe (S 119) (S 118 3) p ∧ S 118 6 = kTs (S 119) (S 118 3) p ∧ S 118 5 = mTok (kTk (S 119) (S 118 3) p) ∧ (kTk (S 119) (S 118 3) p = -2 → S 118 7 = kTv (S 119) (S 118 3) p) ∧ (0 ≤ kTk (S 119) (S 118 3) p → S 118 7 = kTk (S 119) (S 118 3) p)
def MTx (S : St) : Prop := (0 ≤ S 118 3 ∧ S 118 3 ≤ 200) ∧ ∀ i, 0 ≤ i → i < S 118 3 → 0 ≤ S 119 i ∧ S 119 i ≤ 255
def Adv (S S' : St) : Prop := Same [118] S S' ∧ (∀ i, i ≠ 4 → i ≠ 5 → i ≠ 6 → i ≠ 7 → S' 118 i = S 118 i) ∧ MTk S' (S 118 4)
theorem la_of {S T : St} {i r : Int} (h3 : T 118 3 = S 118 3) (h9 : T 119 = S 119) (hl : ∀ i, 0 ≤ i → i < S 118 3 → 0 ≤ S 119 i ∧ S 119 i ≤ 255) (h0 : 0 ≤ i) (hr : r = if i < T 118 3 then T 119 i else -1) : (i < S 118 3 ∧ r = S 119 i ∧ 0 ≤ r ∧ r ≤ 255) ∨ (S 118 3 ≤ i ∧ r = -1) := by
  rw [h3, h9] at hr
  by_cases e : i < S 118 3
  · rw [if_pos e] at hr
    have := hl i h0 e
    exact Or.inl ⟨e, hr, by omega, by omega⟩
  · rw [if_neg e] at hr
    exact Or.inr ⟨by omega, hr⟩
theorem adv_mk {S S' : St} (hs : Same [118] S S') (ho : ∀ i, i ≠ 4 → i ≠ 5 → i ≠ 6 → i ≠ 7 → S' 118 i = S 118 i) (h4 : S' 118 4 = kTe (S 119) (S 118 3) (S 118 4)) (h6 : S' 118 6 = kTs (S 119) (S 118 3) (S 118 4)) (h5 : S' 118 5 = mTok (kTk (S 119) (S 118 3) (S 118 4))) (h7 : kTk (S 119) (S 118 3) (S 118 4) = -2 → S' 118 7 = kTv (S 119) (S 118 3) (S 118 4)) (h8 : 0 ≤ kTk (S 119) (S 118 3) (S 118 4) → S' 118 7 = kTk (S 119) (S 118 3) (S 118 4)) : Adv S S' := by
  refine ⟨hs, ho, ?_⟩
  unfold MTk
  rw [hs 119 (by decide), ho 3 (by decide) (by decide) (by decide) (by decide)]
  exact ⟨h4, h6, h5, h7, h8⟩
def DgV (x : Int → Int) (t q m V : Int) : Prop := ∃ v, ((m = v ∧ 0 ≤ v ∧ v ≤ 99) ∨ (99 < m ∧ v = 100)) ∧ tnV x t q v = V
theorem DgV.big {x : Int → Int} {t q m V : Int} (h : DgV x t q m V) (hq : q < t) (hx : 48 ≤ x q ∧ x q ≤ 57) (hm : 99 < m) : DgV x t (q + 1) m V := by
  obtain ⟨v, h1, h2⟩ := h
  refine ⟨100, Or.inr ⟨hm, rfl⟩, ?_⟩
  rw [← h2, tnV_go (v := v) hq hx, if_neg (by omega)]
theorem DgV.small {x : Int → Int} {t q m m' V : Int} (h : DgV x t q m V) (hq : q < t) (hx : 48 ≤ x q ∧ x q ≤ 57) (hm : m ≤ 99) (he : m' = 10 * m + x q - 48) : DgV x t (q + 1) m' V := by
  obtain ⟨v, h1, h2⟩ := h
  rw [tnV_go (v := v) hq hx] at h2
  by_cases e : v * 10 + x q - 48 < 100
  · rw [if_pos e] at h2
    exact ⟨_, Or.inl ⟨by omega, by omega, by omega⟩, h2⟩
  · rw [if_neg e] at h2
    exact ⟨100, Or.inr ⟨by omega, rfl⟩, h2⟩
theorem DgV.done {x : Int → Int} {t q m V : Int} (h : DgV x t q m V) (hq : ¬ (q < t ∧ 48 ≤ x q ∧ x q ≤ 57)) : (m = V ∧ 0 ≤ V ∧ V ≤ 99) ∨ (99 < m ∧ V = 100) := by
  obtain ⟨v, h1, h2⟩ := h
  rw [tnV_at hq] at h2
  omega
set_option maxRecDepth 100000 in
set_option maxHeartbeats 4000000 in
theorem t_X8_advances (S : St) (hx : MTx S) (h0 : 0 ≤ S 118 4) (h1 : S 118 4 ≤ S 118 3) : EX mX8_advances [.ref 118] S (fun r S' => Adv S S') := by
  suffices hh : ∀ P : Int → St → Prop, (∀ r S', (Adv S S') → P r S') → EX mX8_advances [.ref 118] S P from hh _ (fun _ _ h => h)
  intro P hP
  refine EX.of (L := [(0, .ref 118)]) rfl rfl (Nat.le_of_ble_eq_true rfl) rfl ?_
  obtain ⟨⟨ht0, ht1⟩, hl⟩ := hx
  have lp0 : ∀ (n : Nat)  (T : St), (S 118 3 - T 118 4).toNat < n → (Same [118] S T ∧ (∀ i, i ≠ 4 → T 118 i = S 118 i) ∧ (S 118 4 ≤ T 118 4 ∧ T 118 4 ≤ S 118 3) ∧ tsB (S 119) (S 118 3) (T 118 4) = tsB (S 119) (S 118 3) (S 118 4)) → JJ mX8_advances (RX mX8_advances P) 0 [(0, .ref 118)] [] T := by
    intro n
    induction n with
    | zero => intro T hm; exact absurd hm (Nat.not_lt_zero _)
    | succ n ih0 =>
      intro T hm0 hv0
      obtain ⟨hv1, hv2, hv3, hv4⟩ := hv0
      refine j_aload_n dX8_advances_0 rfl ?_
      refine j_aload_n dX8_advances_1 rfl ?_
      refine j_getI (x := T 118 4) dX8_advances_2 fg_X8_73 fq_118_4 rfl (fun hi2 => ?_)
      refine j_callVi (As := [vi (T 118 4)]) (rest := []) (t_X8_letterAt _ (T 118 4) (by omega) (by omega) (by rw [(show T 118 3 = S 118 3 from hv2 3 (by decide))]; omega)) rfl cm_X8_letterAt ci_X8_letterAt ml_X8_76 oq_118 rfl (Nat.le_of_ble_eq_true rfl) (Nat.le_of_ble_eq_true rfl) dX8_advances_5 (fun r5 S5 hp5 => ?_)
      obtain ⟨hr5, he5⟩ := hp5
      rw [he5]
      have hL5 := la_of (show T 118 3 = S 118 3 from hv2 3 (by decide)) (show T 119 = S 119 from hv1 119 (by decide)) hl (show 0 ≤ T 118 4 by omega) hr5
      refine j_bipush dX8_advances_8 (by decide) ?_
      refine j_icmp_ne (tgt := 26) dX8_advances_10 (by decide) (by omega) (by omega) (fun h10 => ?_) (fun h10 => ?_)
      · have hts : tsB (S 119) (S 118 3) (S 118 4) = T 118 4 := by rw [← hv4]; exact tsB_at (by omega)
        refine j_aload_n dX8_advances_26 rfl ?_
        refine j_aload_n dX8_advances_27 rfl ?_
        refine j_getI (x := T 118 4) dX8_advances_28 fg_X8_73 fq_118_4 rfl (fun hi28 => ?_)
        refine j_putI (i := 6) dX8_advances_31 fg_X8_80 ft_8_6 fq_118_6 rfl (by omega) ?_
        refine j_aload_n dX8_advances_34 rfl ?_
        refine j_aload_n dX8_advances_35 rfl ?_
        refine j_getI (x := T 118 4) dX8_advances_36 fg_X8_73 fq_118_4 rfl (fun hi36 => ?_)
        refine j_callVi (As := [vi (T 118 4)]) (rest := []) (t_X8_letterAt _ (T 118 4) (by omega) (by omega) (by rw [(show (up T 118 6 (T 118 4)) 118 3 = S 118 3 from hv2 3 (by decide))]; omega)) rfl cm_X8_letterAt ci_X8_letterAt ml_X8_76 oq_118 rfl (Nat.le_of_ble_eq_true rfl) (Nat.le_of_ble_eq_true rfl) dX8_advances_39 (fun r39 S39 hp39 => ?_)
        obtain ⟨hr39, he39⟩ := hp39
        rw [he39]
        have hL39 := la_of (show (up T 118 6 (T 118 4)) 118 3 = S 118 3 from hv2 3 (by decide)) (show (up T 118 6 (T 118 4)) 119 = S 119 from hv1 119 (by decide)) hl (show 0 ≤ T 118 4 by omega) hr39
        refine j_istore_n (L' := [(0, .ref 118), (1, vi r39)]) dX8_advances_42 (Nat.le_of_ble_eq_true rfl) rfl ?_
        refine j_iload_n dX8_advances_43 rfl ?_
        refine j_if_ge (tgt := 55) dX8_advances_44 (by decide) (by omega)  (fun h44 => ?_) (fun h44 => ?_)
        · refine j_iload_n dX8_advances_55 rfl ?_
          refine j_bipush dX8_advances_56 (by decide) ?_
          refine j_bipush dX8_advances_58 (by decide) ?_
          refine j_callSi (As := [vi r39, vi 48, vi 57]) (rest := []) (t_X8_in _ r39 48 57 (by omega) (by omega) (by omega)) rfl cm_X8_in cs_X8_in ml_X8_66 rfl (Nat.le_of_ble_eq_true rfl) (Nat.le_of_ble_eq_true rfl) dX8_advances_60 (fun r60 S60 hp60 => ?_)
          obtain ⟨⟨rfl, hc60⟩ | ⟨rfl, hc60⟩, he60⟩ := hp60
          · rw [he60]
            refine j_if_eq (tgt := 181) dX8_advances_63 (by decide) (by omega)  (fun h => absurd h (by decide)) (fun _ => ?_)
            refine j_aload_n dX8_advances_66 rfl ?_
            refine j_iconst dX8_advances_67 ?_
            refine j_putI (i := 7) dX8_advances_68 fg_X8_86 ft_8_7 fq_118_7 rfl (by omega) ?_
            have lp71 : ∀ (n : Nat)  (U : St), (S 118 3 - U 118 4).toNat < n → (Same [118] S U ∧ (∀ i, i ≠ 4 → i ≠ 5 → i ≠ 6 → i ≠ 7 → U 118 i = S 118 i) ∧ U 118 6 = T 118 4 ∧ (T 118 4 ≤ U 118 4 ∧ U 118 4 ≤ S 118 3) ∧ teD (S 119) (S 118 3) (U 118 4) = teD (S 119) (S 118 3) (T 118 4) ∧ (0 ≤ U 118 7 ∧ U 118 7 ≤ 999) ∧ DgV (S 119) (S 118 3) (U 118 4) (U 118 7) (tnV (S 119) (S 118 3) (T 118 4) 0)) → JJ mX8_advances (RX mX8_advances P) 71 [(0, .ref 118), (1, vi r39)] [] U := by
              intro n
              induction n with
              | zero => intro U hm; exact absurd hm (Nat.not_lt_zero _)
              | succ n ih71 =>
                intro U hm71 hv71
                obtain ⟨hu1, hu2, hu3, hu4, hu5, hu6, hu7⟩ := hv71
                refine j_aload_n dX8_advances_71 rfl ?_
                refine j_aload_n dX8_advances_72 rfl ?_
                refine j_getI (x := U 118 4) dX8_advances_73 fg_X8_73 fq_118_4 rfl (fun hi73 => ?_)
                refine j_callVi (As := [vi (U 118 4)]) (rest := []) (t_X8_letterAt _ (U 118 4) (by omega) (by omega) (by rw [(show U 118 3 = S 118 3 from hu2 3 (by decide) (by decide) (by decide) (by decide))]; omega)) rfl cm_X8_letterAt ci_X8_letterAt ml_X8_76 oq_118 rfl (Nat.le_of_ble_eq_true rfl) (Nat.le_of_ble_eq_true rfl) dX8_advances_76 (fun r76 S76 hp76 => ?_)
                obtain ⟨hr76, he76⟩ := hp76
                rw [he76]
                have hL76 := la_of (show U 118 3 = S 118 3 from hu2 3 (by decide) (by decide) (by decide) (by decide)) (show U 119 = S 119 from hu1 119 (by decide)) hl (show 0 ≤ U 118 4 by omega) hr76
                refine j_bipush dX8_advances_79 (by decide) ?_
                refine j_bipush dX8_advances_81 (by decide) ?_
                refine j_callSi (As := [vi r76, vi 48, vi 57]) (rest := []) (t_X8_in _ r76 48 57 (by omega) (by omega) (by omega)) rfl cm_X8_in cs_X8_in ml_X8_66 rfl (Nat.le_of_ble_eq_true rfl) (Nat.le_of_ble_eq_true rfl) dX8_advances_83 (fun r83 S83 hp83 => ?_)
                obtain ⟨⟨rfl, hc83⟩ | ⟨rfl, hc83⟩, he83⟩ := hp83
                · rw [he83]
                  refine j_if_eq (tgt := 141) dX8_advances_86 (by decide) (by omega)  (fun h => absurd h (by decide)) (fun _ => ?_)
                  refine j_aload_n dX8_advances_89 rfl ?_
                  refine j_aload_n dX8_advances_90 rfl ?_
                  refine j_getI (x := U 118 7) dX8_advances_91 fg_X8_86 fq_118_7 rfl (fun hi91 => ?_)
                  refine j_bipush dX8_advances_94 (by decide) ?_
                  refine j_icmp_le (tgt := 106) dX8_advances_96 (by decide) (by omega) (by omega) (fun h96 => ?_) (fun h96 => ?_)
                  · refine j_bipush dX8_advances_106 (by decide) ?_
                    refine j_aload_n dX8_advances_108 rfl ?_
                    refine j_getI (x := U 118 7) dX8_advances_109 fg_X8_86 fq_118_7 rfl (fun hi109 => ?_)
                    refine j_imul dX8_advances_112 ?_
                    refine j_aload_n dX8_advances_113 rfl ?_
                    refine j_aload_n dX8_advances_114 rfl ?_
                    refine j_getI (x := U 118 4) dX8_advances_115 fg_X8_73 fq_118_4 rfl (fun hi115 => ?_)
                    refine j_callVi (As := [vi (U 118 4)]) (rest := [vi (10 * (U 118 7)), .ref 118]) (t_X8_letterAt _ (U 118 4) (by omega) (by omega) (by rw [(show U 118 3 = S 118 3 from hu2 3 (by decide) (by decide) (by decide) (by decide))]; omega)) rfl cm_X8_letterAt ci_X8_letterAt ml_X8_76 oq_118 rfl (Nat.le_of_ble_eq_true rfl) (Nat.le_of_ble_eq_true rfl) dX8_advances_118 (fun r118 S118 hp118 => ?_)
                    obtain ⟨hr118, he118⟩ := hp118
                    rw [he118]
                    have hL118 := la_of (show U 118 3 = S 118 3 from hu2 3 (by decide) (by decide) (by decide) (by decide)) (show U 119 = S 119 from hu1 119 (by decide)) hl (show 0 ≤ U 118 4 by omega) hr118
                    refine j_iadd dX8_advances_121 ?_
                    refine j_bipush dX8_advances_122 (by decide) ?_
                    refine j_isub dX8_advances_124 ?_
                    refine j_putI (i := 7) dX8_advances_125 fg_X8_86 ft_8_7 fq_118_7 rfl (by omega) ?_
                    refine j_aload_n dX8_advances_128 rfl ?_
                    refine j_dup dX8_advances_129 rfl ?_
                    refine j_getI (x := U 118 4) dX8_advances_130 fg_X8_73 fq_118_4 rfl (fun hi130 => ?_)
                    refine j_iconst dX8_advances_133 ?_
                    refine j_iadd dX8_advances_134 ?_
                    refine j_putI (i := 4) dX8_advances_135 fg_X8_73 ft_8_4 fq_118_4 rfl (by omega) ?_
                    refine j_goto (tgt := 71) dX8_advances_138 (by decide) ?_
                    exact ih71  (up (up U 118 7 (((10 * (U 118 7)) + r118) - 48)) 118 4 ((U 118 4) + 1)) (by rw [up_s]; omega) ⟨same_up (same_up hu1 (by decide)) (by decide), fun i a b c e => by rw [up_i a, up_i e]; exact hu2 i a b c e, by rw [up_i (by decide), up_i (by decide)]; exact hu3, by rw [up_s]; omega, by rw [up_s]; exact (teD_go (by omega) (by omega)).symm.trans hu5, by rw [up_i (by decide), up_s]; omega, by rw [up_s, up_i (by decide), up_s]; exact hu7.small (by omega) (by omega) (by omega) (by omega)⟩
                  · refine j_aload_n dX8_advances_99 rfl ?_
                    refine j_getI (x := U 118 7) dX8_advances_100 fg_X8_86 fq_118_7 rfl (fun hi100 => ?_)
                    refine j_goto (tgt := 125) dX8_advances_103 (by decide) ?_
                    refine j_putI (i := 7) dX8_advances_125 fg_X8_86 ft_8_7 fq_118_7 rfl (by omega) ?_
                    refine j_aload_n dX8_advances_128 rfl ?_
                    refine j_dup dX8_advances_129 rfl ?_
                    refine j_getI (x := U 118 4) dX8_advances_130 fg_X8_73 fq_118_4 rfl (fun hi130 => ?_)
                    refine j_iconst dX8_advances_133 ?_
                    refine j_iadd dX8_advances_134 ?_
                    refine j_putI (i := 4) dX8_advances_135 fg_X8_73 ft_8_4 fq_118_4 rfl (by omega) ?_
                    refine j_goto (tgt := 71) dX8_advances_138 (by decide) ?_
                    exact ih71  (up (up U 118 7 (U 118 7)) 118 4 ((U 118 4) + 1)) (by rw [up_s]; omega) ⟨same_up (same_up hu1 (by decide)) (by decide), fun i a b c e => by rw [up_i a, up_i e]; exact hu2 i a b c e, by rw [up_i (by decide), up_i (by decide)]; exact hu3, by rw [up_s]; omega, by rw [up_s]; exact (teD_go (by omega) (by omega)).symm.trans hu5, by rw [up_i (by decide), up_s]; omega, by rw [up_s, up_i (by decide), up_s]; exact hu7.big (by omega) (by omega) (by omega)⟩
                · rw [he83]
                  refine j_if_eq (tgt := 141) dX8_advances_86 (by decide) (by omega)  (fun _ => ?_) (fun h => absurd h (by decide))
                  have hq : teD (S 119) (S 118 3) (T 118 4) = U 118 4 := by rw [← hu5]; exact teD_at (by omega)
                  have hval := hu7.done (by omega)
                  have hn := kT_num (x := S 119) (t := S 118 3) (p := S 118 4) (by rw [hts]; omega) (by rw [hts]; omega)
                  rw [hts, hq] at hn
                  have hkv : kTv (S 119) (S 118 3) (S 118 4) = tnV (S 119) (S 118 3) (T 118 4) 0 := by unfold kTv; rw [hts]
                  refine j_aload_n dX8_advances_141 rfl ?_
                  refine j_aload_n dX8_advances_142 rfl ?_
                  refine j_getI (x := U 118 7) dX8_advances_143 fg_X8_86 fq_118_7 rfl (fun hi143 => ?_)
                  refine j_bipush dX8_advances_146 (by decide) ?_
                  refine j_icmp_gt (tgt := 170) dX8_advances_148 (by decide) (by omega) (by omega) (fun h148 => ?_) (fun h148 => ?_)
                  · refine j_iconst dX8_advances_170 ?_
                    refine j_goto (tgt := 175) dX8_advances_171 (by decide) ?_
                    refine j_putI (i := 5) dX8_advances_175 fg_X8_83 ft_8_5 fq_118_5 rfl (by omega) ?_
                    refine j_goto (tgt := 222) dX8_advances_178 (by decide) ?_
                    have hk : kTk (S 119) (S 118 3) (S 118 4) = -3 := by rw [hn.2, if_pos (by omega)]
                    exact j_vret rfl dX8_advances_222 (fun h => by cases h) (hP _ _ (adv_mk (same_up hu1 (by decide)) (fun i a b c e => by rw [up_i b]; exact hu2 i a b c e) (by rw [up_i (by decide)]; exact hn.1.symm) (by rw [up_i (by decide), hu3]; exact hts.symm) (by rw [up_s, hk]; rfl) (by rw [hk]; intro z; omega) (by rw [hk]; intro z; omega)))
                  · refine j_iload_n dX8_advances_151 rfl ?_
                    refine j_bipush dX8_advances_152 (by decide) ?_
                    refine j_icmp_ne (tgt := 174) dX8_advances_154 (by decide) (by omega) (by omega) (fun h154 => ?_) (fun h154 => ?_)
                    · refine j_iconst dX8_advances_174 ?_
                      refine j_putI (i := 5) dX8_advances_175 fg_X8_83 ft_8_5 fq_118_5 rfl (by omega) ?_
                      refine j_goto (tgt := 222) dX8_advances_178 (by decide) ?_
                      have hk : kTk (S 119) (S 118 3) (S 118 4) = -2 := by rw [hn.2, if_neg (by omega)]
                      exact j_vret rfl dX8_advances_222 (fun h => by cases h) (hP _ _ (adv_mk (same_up hu1 (by decide)) (fun i a b c e => by rw [up_i b]; exact hu2 i a b c e) (by rw [up_i (by decide)]; exact hn.1.symm) (by rw [up_i (by decide), hu3]; exact hts.symm) (by rw [up_s, hk]; rfl) (by rw [up_i (by decide), hkv]; intro _; omega) (by rw [hk]; intro z; omega)))
                    · refine j_aload_n dX8_advances_157 rfl ?_
                      refine j_getI (x := U 118 4) dX8_advances_158 fg_X8_73 fq_118_4 rfl (fun hi158 => ?_)
                      refine j_aload_n dX8_advances_161 rfl ?_
                      refine j_getI (x := U 118 6) dX8_advances_162 fg_X8_80 fq_118_6 rfl (fun hi162 => ?_)
                      refine j_isub dX8_advances_165 ?_
                      refine j_iconst dX8_advances_166 ?_
                      refine j_icmp_le (tgt := 174) dX8_advances_167 (by decide) (by omega) (by omega) (fun h167 => ?_) (fun h167 => ?_)
                      · refine j_iconst dX8_advances_174 ?_
                        refine j_putI (i := 5) dX8_advances_175 fg_X8_83 ft_8_5 fq_118_5 rfl (by omega) ?_
                        refine j_goto (tgt := 222) dX8_advances_178 (by decide) ?_
                        have hk : kTk (S 119) (S 118 3) (S 118 4) = -2 := by rw [hn.2, if_neg (by omega)]
                        exact j_vret rfl dX8_advances_222 (fun h => by cases h) (hP _ _ (adv_mk (same_up hu1 (by decide)) (fun i a b c e => by rw [up_i b]; exact hu2 i a b c e) (by rw [up_i (by decide)]; exact hn.1.symm) (by rw [up_i (by decide), hu3]; exact hts.symm) (by rw [up_s, hk]; rfl) (by rw [up_i (by decide), hkv]; intro _; omega) (by rw [hk]; intro z; omega)))
                      · refine j_iconst dX8_advances_170 ?_
                        refine j_goto (tgt := 175) dX8_advances_171 (by decide) ?_
                        refine j_putI (i := 5) dX8_advances_175 fg_X8_83 ft_8_5 fq_118_5 rfl (by omega) ?_
                        refine j_goto (tgt := 222) dX8_advances_178 (by decide) ?_
                        have hk : kTk (S 119) (S 118 3) (S 118 4) = -3 := by rw [hn.2, if_pos (by omega)]
                        exact j_vret rfl dX8_advances_222 (fun h => by cases h) (hP _ _ (adv_mk (same_up hu1 (by decide)) (fun i a b c e => by rw [up_i b]; exact hu2 i a b c e) (by rw [up_i (by decide)]; exact hn.1.symm) (by rw [up_i (by decide), hu3]; exact hts.symm) (by rw [up_s, hk]; rfl) (by rw [hk]; intro z; omega) (by rw [hk]; intro z; omega)))
            exact lp71 _  (up (up T 118 6 (T 118 4)) 118 7 0) (Nat.lt_succ_self _) ⟨same_up (same_up hv1 (by decide)) (by decide), fun i a b c e => by rw [up_i e, up_i c]; exact hv2 i a, by rw [up_i (by decide), up_s], by show T 118 4 ≤ T 118 4 ∧ T 118 4 ≤ S 118 3; omega, rfl, by rw [up_s]; omega, by rw [up_s]; exact ⟨0, Or.inl ⟨rfl, by omega, by omega⟩, rfl⟩⟩
          · rw [he60]
            refine j_if_eq (tgt := 181) dX8_advances_63 (by decide) (by omega)  (fun _ => ?_) (fun h => absurd h (by decide))
            refine j_aload_n dX8_advances_181 rfl ?_
            refine j_dup dX8_advances_182 rfl ?_
            refine j_getI (x := T 118 4) dX8_advances_183 fg_X8_73 fq_118_4 rfl (fun hi183 => ?_)
            refine j_iconst dX8_advances_186 ?_
            refine j_iadd dX8_advances_187 ?_
            refine j_putI (i := 4) dX8_advances_188 fg_X8_73 ft_8_4 fq_118_4 rfl (by omega) ?_
            refine j_aload_n dX8_advances_191 rfl ?_
            refine j_iload_n dX8_advances_192 rfl ?_
            refine j_putI (i := 7) dX8_advances_193 fg_X8_86 ft_8_7 fq_118_7 rfl (by omega) ?_
            refine j_aload_n dX8_advances_196 rfl ?_
            refine j_iload_n dX8_advances_197 rfl ?_
            refine j_bipush dX8_advances_198 (by decide) ?_
            refine j_icmp_ne (tgt := 207) dX8_advances_200 (by decide) (by omega) (by omega) (fun h200 => ?_) (fun h200 => ?_)
            · refine j_iload_n dX8_advances_207 rfl ?_
              refine j_callSi (As := [vi r39]) (rest := [.ref 118]) (t_X8_isWord _ r39 (by omega)) rfl cm_X8_isWord cs_X8_isWord ml_X8_89 rfl (Nat.le_of_ble_eq_true rfl) (Nat.le_of_ble_eq_true rfl) dX8_advances_208 (fun r208 S208 hp208 => ?_)
              obtain ⟨⟨rfl, hc208⟩ | ⟨rfl, hc208⟩, he208⟩ := hp208
              · rw [he208]
                refine j_if_eq (tgt := 218) dX8_advances_211 (by decide) (by omega)  (fun h => absurd h (by decide)) (fun _ => ?_)
                refine j_iconst dX8_advances_214 ?_
                refine j_goto (tgt := 219) dX8_advances_215 (by decide) ?_
                refine j_putI (i := 5) dX8_advances_219 fg_X8_83 ft_8_5 fq_118_5 rfl (by omega) ?_
                have hk := kT_let (x := S 119) (t := S 118 3) (p := S 118 4) (by rw [hts]; omega) (by rw [hts]; omega)
                rw [hts] at hk
                exact j_vret rfl dX8_advances_222 (fun h => by cases h) (hP _ _ (adv_mk (same_up (same_up (same_up (same_up hv1 (by decide)) (by decide)) (by decide)) (by decide)) (fun i a b c e => by rw [up_i b, up_i e, up_i a, up_i c]; exact hv2 i a) (by rw [up_i (by decide), up_i (by decide), up_s]; exact hk.1.symm) (by rw [up_i (by decide), up_i (by decide), up_i (by decide), up_s]; exact hts.symm) (by rw [up_s, hk.2]; unfold mTok; (repeat' split) <;> omega) (by rw [hk.2]; intro z; omega) (by rw [up_i (by decide), up_s, hk.2]; intro _; omega)))
              · rw [he208]
                refine j_if_eq (tgt := 218) dX8_advances_211 (by decide) (by omega)  (fun _ => ?_) (fun h => absurd h (by decide))
                refine j_iconst dX8_advances_218 ?_
                refine j_putI (i := 5) dX8_advances_219 fg_X8_83 ft_8_5 fq_118_5 rfl (by omega) ?_
                have hk := kT_let (x := S 119) (t := S 118 3) (p := S 118 4) (by rw [hts]; omega) (by rw [hts]; omega)
                rw [hts] at hk
                exact j_vret rfl dX8_advances_222 (fun h => by cases h) (hP _ _ (adv_mk (same_up (same_up (same_up (same_up hv1 (by decide)) (by decide)) (by decide)) (by decide)) (fun i a b c e => by rw [up_i b, up_i e, up_i a, up_i c]; exact hv2 i a) (by rw [up_i (by decide), up_i (by decide), up_s]; exact hk.1.symm) (by rw [up_i (by decide), up_i (by decide), up_i (by decide), up_s]; exact hts.symm) (by rw [up_s, hk.2]; unfold mTok; (repeat' split) <;> omega) (by rw [hk.2]; intro z; omega) (by rw [up_i (by decide), up_s, hk.2]; intro _; omega)))
            · refine j_iconst dX8_advances_203 ?_
              refine j_goto (tgt := 219) dX8_advances_204 (by decide) ?_
              refine j_putI (i := 5) dX8_advances_219 fg_X8_83 ft_8_5 fq_118_5 rfl (by omega) ?_
              have hk := kT_let (x := S 119) (t := S 118 3) (p := S 118 4) (by rw [hts]; omega) (by rw [hts]; omega)
              rw [hts] at hk
              exact j_vret rfl dX8_advances_222 (fun h => by cases h) (hP _ _ (adv_mk (same_up (same_up (same_up (same_up hv1 (by decide)) (by decide)) (by decide)) (by decide)) (fun i a b c e => by rw [up_i b, up_i e, up_i a, up_i c]; exact hv2 i a) (by rw [up_i (by decide), up_i (by decide), up_s]; exact hk.1.symm) (by rw [up_i (by decide), up_i (by decide), up_i (by decide), up_s]; exact hts.symm) (by rw [up_s, hk.2]; unfold mTok; (repeat' split) <;> omega) (by rw [hk.2]; intro z; omega) (by rw [up_i (by decide), up_s, hk.2]; intro _; omega)))
        · refine j_aload_n dX8_advances_47 rfl ?_
          refine j_iconst dX8_advances_48 ?_
          refine j_putI (i := 5) dX8_advances_49 fg_X8_83 ft_8_5 fq_118_5 rfl (by omega) ?_
          refine j_goto (tgt := 222) dX8_advances_52 (by decide) ?_
          have hk := kT_end (x := S 119) (t := S 118 3) (p := S 118 4) (by rw [hts]; omega)
          rw [hts] at hk
          exact j_vret rfl dX8_advances_222 (fun h => by cases h) (hP _ _ (adv_mk (same_up (same_up hv1 (by decide)) (by decide)) (fun i a b c e => by rw [up_i b, up_i c]; exact hv2 i a) (by rw [up_i (by decide), up_i (by decide)]; exact hk.1.symm) (by rw [up_i (by decide), up_s]; exact hts.symm) (by rw [up_s, hk.2]; rfl) (by rw [hk.2]; intro z; omega) (by rw [hk.2]; intro z; omega)))
      · refine j_aload_n dX8_advances_13 rfl ?_
        refine j_dup dX8_advances_14 rfl ?_
        refine j_getI (x := T 118 4) dX8_advances_15 fg_X8_73 fq_118_4 rfl (fun hi15 => ?_)
        refine j_iconst dX8_advances_18 ?_
        refine j_iadd dX8_advances_19 ?_
        refine j_putI (i := 4) dX8_advances_20 fg_X8_73 ft_8_4 fq_118_4 rfl (by omega) ?_
        refine j_goto (tgt := 0) dX8_advances_23 (by decide) ?_
        exact ih0  (up T 118 4 ((T 118 4) + 1)) (by rw [up_s]; omega) ⟨same_up hv1 (by decide), fun i a => by rw [up_i a]; exact hv2 i a, by rw [up_s]; omega, by rw [up_s]; exact (tsB_go (by omega) (by omega)).symm.trans hv4⟩
  exact lp0 _  S (Nat.lt_succ_self _) ⟨Same.rf, fun i _ => rfl, by omega, rfl⟩
def TkP (S : St) (b r : Int) (S' : St) : Prop := (0 ≤ S 118 8 ∧ r = 0 ∧ S' = S) ∨ (S 118 8 < 0 ∧ b = 0 ∧ r = 0 ∧ S' = up S 118 8 (S 118 6)) ∨ (S 118 8 < 0 ∧ b = 1 ∧ r = S 118 7 ∧ Adv S S')
set_option maxRecDepth 100000 in
set_option maxHeartbeats 4000000 in
theorem t_X8_takes (S : St) (b : Int) (hb : b = 0 ∨ b = 1) (hx : MTx S) (hn : S 118 8 < 0 → 0 ≤ S 118 4 ∧ S 118 4 ≤ S 118 3) : EX mX8_takes [.ref 118, vi b] S (fun r S' => TkP S b r S') := by
  suffices hh : ∀ P : Int → St → Prop, (∀ r S', (TkP S b r S') → P r S') → EX mX8_takes [.ref 118, vi b] S P from hh _ (fun _ _ h => h)
  intro P hP
  refine EX.of (L := [(0, .ref 118), (1, vi b)]) rfl rfl (Nat.le_of_ble_eq_true rfl) rfl ?_
  refine j_aload_n dX8_takes_0 rfl ?_
  refine j_callVi (As := []) (rest := []) (t_X8_isWell _) rfl cm_X8_isWell ci_X8_isWell ml_X8_96 oq_118 rfl (Nat.le_of_ble_eq_true rfl) (Nat.le_of_ble_eq_true rfl) dX8_takes_1 (fun r1 S1 hp1 => ?_)
  obtain ⟨⟨rfl, hc1⟩ | ⟨rfl, hc1⟩, he1⟩ := hp1
  · rw [he1]
    refine j_if_ne (tgt := 9) dX8_takes_4 (by decide) (by omega)  (fun _ => ?_) (fun h => absurd h (by decide))
    refine j_iload_n dX8_takes_9 rfl ?_
    refine j_if_ne (tgt := 23) dX8_takes_10 (by decide) (by omega)  (fun h10 => ?_) (fun h10 => ?_)
    · refine j_aload_n dX8_takes_23 rfl ?_
      refine j_getI (x := S 118 7) dX8_takes_24 fg_X8_86 fq_118_7 rfl (fun hi24 => ?_)
      refine j_istore_n (L' := [(0, .ref 118), (1, vi b), (2, vi (S 118 7))]) dX8_takes_27 (Nat.le_of_ble_eq_true rfl) rfl ?_
      refine j_aload_n dX8_takes_28 rfl ?_
      refine j_callVv (As := []) (rest := []) (t_X8_advances _ hx (hn hc1).1 (hn hc1).2) rfl cm_X8_advances ci_X8_advances ml_X8_100 oq_118 rfl (Nat.le_of_ble_eq_true rfl) (Nat.le_of_ble_eq_true rfl) dX8_takes_29 (fun r29 S29 hp29 => ?_)
      refine j_iload_n dX8_takes_32 rfl ?_
      exact j_iret rfl dX8_takes_33 (fun h => by cases h) (hP _ _ (Or.inr (Or.inr ⟨hc1, by omega, rfl, hp29⟩)))
    · refine j_aload_n dX8_takes_13 rfl ?_
      refine j_aload_n dX8_takes_14 rfl ?_
      refine j_getI (x := S 118 6) dX8_takes_15 fg_X8_80 fq_118_6 rfl (fun hi15 => ?_)
      refine j_putI (i := 8) dX8_takes_18 fg_X8_93 ft_8_8 fq_118_8 rfl (by omega) ?_
      refine j_iconst dX8_takes_21 ?_
      exact j_iret rfl dX8_takes_22 (fun h => by cases h) (hP _ _ (Or.inr (Or.inl ⟨hc1, by omega, rfl, rfl⟩)))
  · rw [he1]
    refine j_if_ne (tgt := 9) dX8_takes_4 (by decide) (by omega)  (fun h => absurd h (by decide)) (fun _ => ?_)
    refine j_iconst dX8_takes_7 ?_
    exact j_iret rfl dX8_takes_8 (fun h => by cases h) (hP _ _ (Or.inl ⟨by omega, rfl, rfl⟩))
/-! the model's reader against a draft -/
def MRe (S d : St) : Prop := (0 ≤ d 0 0 ∧ d 0 0 ≤ S 118 3) ∧ MTk S (d 0 0) ∧ S 118 14 = d 0 3 ∧ S 118 15 = d 0 4 ∧ S 118 16 = d 0 5 ∧ (2 ≤ d 0 3 ∧ d 0 3 ≤ 6) ∧ (0 ≤ d 0 4 ∧ d 0 4 ≤ 4) ∧ (0 ≤ d 0 5 ∧ d 0 5 ≤ 6) ∧ (∀ i, 0 ≤ i → i < 6 → S 120 (6 + i) = d 1 i ∧ S 121 (6 + i) = d 2 i) ∧ (∀ i, 0 ≤ i → i < d 0 4 → S 122 (4 + i) = d 3 i) ∧ ∀ i, 0 ≤ i → i < d 0 5 → S 123 (18 + 3 * i) = d 4 i ∧ S 123 (18 + 3 * i + 1) = d 5 i ∧ S 123 (18 + 3 * i + 2) = d 6 i
def MR (S d : St) : Prop := MTx S ∧ S 118 8 = d 0 1 ∧ (-1 ≤ d 0 1 ∧ d 0 1 ≤ 200) ∧ (d 0 1 = -1 → MRe S d)
def NF (S S' : St) : Prop := Same [118] S S' ∧ ∀ i, i ≠ 4 → i ≠ 5 → i ≠ 6 → i ≠ 7 → i ≠ 8 → S' 118 i = S 118 i
theorem NF.x {S S' : St} (h : NF S S') : S' 119 = S 119 := h.1 119 (by decide)
theorem NF.t {S S' : St} (h : NF S S') : S' 118 3 = S 118 3 := h.2 3 (by decide) (by decide) (by decide) (by decide) (by decide)
theorem NF.rf {S : St} : NF S S := ⟨Same.rf, fun _ _ _ _ _ _ => rfl⟩
theorem MTx.of {S S' : St} (h : MTx S) (hx : S' 119 = S 119) (ht : S' 118 3 = S 118 3) : MTx S' := by
  unfold MTx
  rw [hx, ht]
  exact h
theorem MR.mv {S S' d d' : St} (h : MR S d) (hf : NF S S') (h8 : S' 118 8 = d' 0 1) (hb : -1 ≤ d' 0 1 ∧ d' 0 1 ≤ 200) (he : d' 0 1 = -1 → d 0 1 = -1 ∧ (0 ≤ d' 0 0 ∧ d' 0 0 ≤ S 118 3) ∧ MTk S' (d' 0 0)) (hk : (∀ i, i ≠ 0 → i ≠ 1 → d' 0 i = d 0 i) ∧ ∀ c, c ≠ 0 → d' c = d c) : MR S' d' := by
  obtain ⟨a1, a2, a3, a4⟩ := h
  refine ⟨a1.of hf.x hf.t, h8, hb, fun z => ?_⟩
  obtain ⟨z1, z2, z3⟩ := he z
  obtain ⟨b1, b2, b3, b4, b5, b6, b7, b8, b9, b10, b11⟩ := a4 z1
  have k3 := hk.1 3 (by decide) (by decide)
  have k4 := hk.1 4 (by decide) (by decide)
  have k5 := hk.1 5 (by decide) (by decide)
  unfold MRe
  rw [hf.t, hf.2 14 (by decide) (by decide) (by decide) (by decide) (by decide), hf.2 15 (by decide) (by decide) (by decide) (by decide) (by decide), hf.2 16 (by decide) (by decide) (by decide) (by decide) (by decide), hf.1 120 (by decide), hf.1 121 (by decide), hf.1 122 (by decide), hf.1 123 (by decide), k3, k4, k5, hk.2 1 (by decide), hk.2 2 (by decide), hk.2 3 (by decide), hk.2 4 (by decide), hk.2 5 (by decide), hk.2 6 (by decide)]
  exact ⟨z2, z3, b3, b4, b5, b6, b7, b8, b9, b10, b11⟩
theorem MR.nx {S d : St} (h : MR S d) : S 118 8 < 0 → 0 ≤ S 118 4 ∧ S 118 4 ≤ S 118 3 := by
  intro z
  obtain ⟨a1, a2, a3, a4⟩ := h
  obtain ⟨b1, b2, _⟩ := a4 (by omega)
  have := kTe_bd (x := S 119) (t := S 118 3) (p := d 0 0) b1.2
  rw [b2.1]
  omega
theorem tk_R {S S' d : St} {b r : Int} (hR : MR S d) (h : TkP S b r S') : NF S S' ∧ ((d 0 1 ≠ -1 ∧ r = 0 ∧ MR S' d) ∨ (d 0 1 = -1 ∧ b = 0 ∧ r = 0 ∧ MR S' (up d 0 1 (kTs (S 119) (S 118 3) (d 0 0)))) ∨ (d 0 1 = -1 ∧ b = 1 ∧ r = S 118 7 ∧ MR S' (up d 0 0 (kTe (S 119) (S 118 3) (d 0 0))))) := by
  have hR0 := hR
  obtain ⟨a1, a2, a3, a4⟩ := hR
  rcases h with ⟨h1, h2, h3⟩ | ⟨h1, h2, h3, h4⟩ | ⟨h1, h2, h3, h4⟩
  · rw [h3]
    exact ⟨NF.rf, Or.inl ⟨by omega, h2, hR0⟩⟩
  · have hw : d 0 1 = -1 := by omega
    obtain ⟨b1, b2, _⟩ := a4 hw
    have hs := kTs_bd (x := S 119) (t := S 118 3) (p := d 0 0) b1.2
    have ht := a1.1
    have hf : NF S S' := by
      rw [h4]
      exact ⟨same_up Same.rf (by decide), fun i _ _ _ _ e => up_i e⟩
    refine ⟨hf, Or.inr (Or.inl ⟨hw, h2, h3, hR0.mv hf ?_ ?_ (fun z => ?_) ⟨fun i x y => up_i y, fun c hc => up_row hc⟩⟩)⟩
    · rw [h4, up_s, up_s]; exact b2.2.1
    · rw [up_s]; omega
    · rw [up_s] at z; omega
  · have hw : d 0 1 = -1 := by omega
    obtain ⟨b1, b2, _⟩ := a4 hw
    have hb := kTe_bd (x := S 119) (t := S 118 3) (p := d 0 0) b1.2
    have hf : NF S S' := ⟨h4.1, fun i x y z w _ => h4.2.1 i x y z w⟩
    refine ⟨hf, Or.inr (Or.inr ⟨hw, h2, h3, hR0.mv hf ?_ ?_ (fun _ => ⟨hw, ?_, ?_⟩) ⟨fun i x y => up_i x, fun c hc => up_row hc⟩⟩)⟩
    · rw [h4.2.1 8 (by decide) (by decide) (by decide) (by decide), up_i (by decide)]; exact a2
    · rw [up_i (by decide)]; exact a3
    · rw [up_s]; omega
    · rw [up_s, ← b2.1]; exact h4.2.2
theorem mTok_2 {k : Int} : mTok k = 2 ↔ k = -2 := by
  unfold mTok
  constructor
  · intro h
    (repeat' split at h) <;> omega
  · intro h
    rw [h]
    rfl
theorem num_R {S S' d : St} {b r lo hi : Int} (hR : MR S d) (hb : (b = 1 ∧ S 118 5 = 2 ∧ lo ≤ S 118 7 ∧ S 118 7 ≤ hi) ∨ (b = 0 ∧ ¬ (S 118 5 = 2 ∧ lo ≤ S 118 7 ∧ S 118 7 ≤ hi))) (h : TkP S b r S') : NF S S' ∧ MR S' (numD (S 119) (S 118 3) lo hi d) ∧ (numD (S 119) (S 118 3) lo hi d 0 1 = -1 → r = numV (S 119) (S 118 3) lo hi d) ∧ ((lo ≤ r ∧ r ≤ hi) ∨ r = 0) := by
  obtain ⟨hf, hc⟩ := tk_R hR h
  refine ⟨hf, ?_⟩
  rcases hc with ⟨h1, h2, h3⟩ | ⟨h1, h2, h3, h4⟩ | ⟨h1, h2, h3, h4⟩
  · rw [numD_f h1]
    exact ⟨h3, fun z => absurd z h1, Or.inr h2⟩
  · obtain ⟨b1, b2, _⟩ := hR.2.2.2 h1
    have hs := kTs_bd (x := S 119) (t := S 118 3) (p := d 0 0) b1.2
    have hno : ¬ okN (S 119) (S 118 3) lo hi (d 0 0) := by
      intro ⟨z1, z2, z3⟩
      have e5 := b2.2.2.1
      rw [z1] at e5
      have e7 := b2.2.2.2.1 z1
      rcases hb with q | q
      · omega
      · exact q.2 ⟨e5, by omega, by omega⟩
    rw [numD_n h1 hno]
    refine ⟨h4, fun z => ?_, Or.inr h3⟩
    rw [up_s] at z
    omega
  · obtain ⟨b1, b2, _⟩ := hR.2.2.2 h1
    rcases hb with q | q
    · have ek : kTk (S 119) (S 118 3) (d 0 0) = -2 := mTok_2.mp (b2.2.2.1.symm.trans q.2.1)
      have e7 := b2.2.2.2.1 ek
      have hy : okN (S 119) (S 118 3) lo hi (d 0 0) := ⟨ek, by omega, by omega⟩
      rw [numD_y h1 hy, numV_y h1 hy]
      exact ⟨h4, fun _ => by omega, Or.inl (by omega)⟩
    · omega
set_option maxRecDepth 100000 in
set_option maxHeartbeats 4000000 in
theorem t_X8_number (S d : St) (lo hi : Int) (r1 : InR lo) (r2 : InR hi) (hR : MR S d) : EX mX8_number [.ref 118, vi lo, vi hi] S (fun r S' => NF S S' ∧ MR S' (numD (S 119) (S 118 3) lo hi d) ∧ (numD (S 119) (S 118 3) lo hi d 0 1 = -1 → r = numV (S 119) (S 118 3) lo hi d) ∧ ((lo ≤ r ∧ r ≤ hi) ∨ r = 0)) := by
  suffices hh : ∀ P : Int → St → Prop, (∀ r S', (NF S S' ∧ MR S' (numD (S 119) (S 118 3) lo hi d) ∧ (numD (S 119) (S 118 3) lo hi d 0 1 = -1 → r = numV (S 119) (S 118 3) lo hi d) ∧ ((lo ≤ r ∧ r ≤ hi) ∨ r = 0)) → P r S') → EX mX8_number [.ref 118, vi lo, vi hi] S P from hh _ (fun _ _ h => h)
  intro P hP
  refine EX.of (L := [(0, .ref 118), (1, vi lo), (2, vi hi)]) rfl rfl (Nat.le_of_ble_eq_true rfl) rfl ?_
  refine j_aload_n dX8_number_0 rfl ?_
  refine j_aload_n dX8_number_1 rfl ?_
  refine j_getI (x := S 118 5) dX8_number_2 fg_X8_83 fq_118_5 rfl (fun hi2 => ?_)
  refine j_iconst dX8_number_5 ?_
  refine j_icmp_ne (tgt := 25) dX8_number_6 (by decide) (by omega) (by omega) (fun h6 => ?_) (fun h6 => ?_)
  · refine j_iconst dX8_number_25 ?_
    have hbb : ((0 : Int) = 1 ∧ S 118 5 = 2 ∧ lo ≤ S 118 7 ∧ S 118 7 ≤ hi) ∨ ((0 : Int) = 0 ∧ ¬ (S 118 5 = 2 ∧ lo ≤ S 118 7 ∧ S 118 7 ≤ hi)) := by omega
    refine j_callVi (As := [vi 0]) (rest := []) (t_X8_takes _ 0 (by decide) (hR).1 (hR).nx) rfl cm_X8_takes ci_X8_takes ml_X8_103 oq_118 rfl (Nat.le_of_ble_eq_true rfl) (Nat.le_of_ble_eq_true rfl) dX8_number_26 (fun r26 S26 hp26 => ?_)
    exact j_iret rfl dX8_number_29 (fun h => by cases h) (hP _ _ (num_R hR hbb hp26))
  · refine j_aload_n dX8_number_9 rfl ?_
    refine j_getI (x := S 118 7) dX8_number_10 fg_X8_86 fq_118_7 rfl (fun hi10 => ?_)
    refine j_iload_n dX8_number_13 rfl ?_
    refine j_iload_n dX8_number_14 rfl ?_
    refine j_callSi (As := [vi (S 118 7), vi lo, vi hi]) (rest := [.ref 118]) (t_X8_in _ (S 118 7) lo hi (by omega) (by omega) (by omega)) rfl cm_X8_in cs_X8_in ml_X8_66 rfl (Nat.le_of_ble_eq_true rfl) (Nat.le_of_ble_eq_true rfl) dX8_number_15 (fun r15 S15 hp15 => ?_)
    obtain ⟨⟨rfl, hc15⟩ | ⟨rfl, hc15⟩, he15⟩ := hp15
    · rw [he15]
      refine j_if_eq (tgt := 25) dX8_number_18 (by decide) (by omega)  (fun h => absurd h (by decide)) (fun _ => ?_)
      refine j_iconst dX8_number_21 ?_
      refine j_goto (tgt := 26) dX8_number_22 (by decide) ?_
      have hbb : ((1 : Int) = 1 ∧ S 118 5 = 2 ∧ lo ≤ S 118 7 ∧ S 118 7 ≤ hi) ∨ ((1 : Int) = 0 ∧ ¬ (S 118 5 = 2 ∧ lo ≤ S 118 7 ∧ S 118 7 ≤ hi)) := by omega
      refine j_callVi (As := [vi 1]) (rest := []) (t_X8_takes _ 1 (by decide) (hR).1 (hR).nx) rfl cm_X8_takes ci_X8_takes ml_X8_103 oq_118 rfl (Nat.le_of_ble_eq_true rfl) (Nat.le_of_ble_eq_true rfl) dX8_number_26 (fun r26 S26 hp26 => ?_)
      exact j_iret rfl dX8_number_29 (fun h => by cases h) (hP _ _ (num_R hR hbb hp26))
    · rw [he15]
      refine j_if_eq (tgt := 25) dX8_number_18 (by decide) (by omega)  (fun _ => ?_) (fun h => absurd h (by decide))
      refine j_iconst dX8_number_25 ?_
      have hbb : ((0 : Int) = 1 ∧ S 118 5 = 2 ∧ lo ≤ S 118 7 ∧ S 118 7 ≤ hi) ∨ ((0 : Int) = 0 ∧ ¬ (S 118 5 = 2 ∧ lo ≤ S 118 7 ∧ S 118 7 ≤ hi)) := by omega
      refine j_callVi (As := [vi 0]) (rest := []) (t_X8_takes _ 0 (by decide) (hR).1 (hR).nx) rfl cm_X8_takes ci_X8_takes ml_X8_103 oq_118 rfl (Nat.le_of_ble_eq_true rfl) (Nat.le_of_ble_eq_true rfl) dX8_number_26 (fun r26 S26 hp26 => ?_)
      exact j_iret rfl dX8_number_29 (fun h => by cases h) (hP _ _ (num_R hR hbb hp26))
