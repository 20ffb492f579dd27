set_option maxRecDepth 100000 in
set_option maxHeartbeats 4000000 in
theorem t_X8_readsItem (S d : St) (w : Int) (hR : MR S d) (hw : d 0 1 = -1) (hww : w = 110 ∨ w = 119 ∨ w = 108 ∨ (w = 115 ∧ d 0 4 < 4) ∨ (w = 121 ∧ d 0 5 < 6)) : EX mX8_readsItem [.ref 118, vi w] S (fun r S' => MF S S' ∧ MR S' (itR (S 119) (S 118 3) w d)) := by
  suffices hh : ∀ P : Int → St → Prop, (∀ r S', (MF S S' ∧ MR S' (itR (S 119) (S 118 3) w d)) → P r S') → EX mX8_readsItem [.ref 118, vi w] S P from hh _ (fun _ _ h => h)
  intro P hP
  refine EX.of (L := [(0, .ref 118), (1, vi w)]) rfl rfl (Nat.le_of_ble_eq_true rfl) rfl ?_
  obtain ⟨b1, b2, b3, b4, b5, b6, b7, b8, b9, b10, b11⟩ := hR.2.2.2 hw
  refine j_iload_n dX8_readsItem_0 rfl ?_
  refine j_bipush dX8_readsItem_1 (by decide) ?_
  refine j_icmp_ne (tgt := 20) dX8_readsItem_3 (by decide) (by omega) (by omega) (fun h3 => ?_) (fun h3 => ?_)
  · refine j_iload_n dX8_readsItem_20 rfl ?_
    refine j_bipush dX8_readsItem_21 (by decide) ?_
    refine j_icmp_eq (tgt := 32) dX8_readsItem_23 (by decide) (by omega) (by omega) (fun h23 => ?_) (fun h23 => ?_)
    · refine j_aload_n dX8_readsItem_32 rfl ?_
      refine j_iconst dX8_readsItem_33 ?_
      refine j_aload_n dX8_readsItem_34 rfl ?_
      refine j_getI (x := d 0 3) dX8_readsItem_35 fg_X8_117 fq_118_14 b3 (fun hi35 => ?_)
      refine j_iconst dX8_readsItem_38 ?_
      refine j_isub dX8_readsItem_39 ?_
      refine j_callVi (As := [vi 0, vi ((d 0 3) - 1)]) (rest := []) (t_X8_number _ _ 0 ((d 0 3) - 1) (by omega) (by omega) hR) rfl cm_X8_number ci_X8_number ml_X8_113 oq_118 rfl (Nat.le_of_ble_eq_true rfl) (Nat.le_of_ble_eq_true rfl) dX8_readsItem_40 (fun r40 S40 hp40 => ?_)
      obtain ⟨hf40, hm40, hv40, hb40⟩ := hp40
      replace hv40 : Wrp _ := hv40
      refine j_istore_n (L' := [(0, .ref 118), (1, vi w), (2, vi r40)]) dX8_readsItem_43 (Nat.le_of_ble_eq_true rfl) rfl ?_
      refine j_aload_n dX8_readsItem_44 rfl ?_
      refine j_iconst dX8_readsItem_45 ?_
      refine j_iload_n dX8_readsItem_46 rfl ?_
      refine j_bipush dX8_readsItem_47 (by decide) ?_
      refine j_icmp_ne (tgt := 57) dX8_readsItem_49 (by decide) (by omega) (by omega) (fun h49 => ?_) (fun h49 => ?_)
      · refine j_bipush dX8_readsItem_57 (by decide) ?_
        refine j_callVi (As := [vi 1, vi 30]) (rest := []) (t_X8_number _ _ 1 30 (by omega) (by omega) hm40) rfl cm_X8_number ci_X8_number ml_X8_113 oq_118 rfl (Nat.le_of_ble_eq_true rfl) (Nat.le_of_ble_eq_true rfl) dX8_readsItem_59 (fun r59 S59 hp59 => ?_)
        obtain ⟨hf59, hm59, hv59, hb59⟩ := hp59
        rw [hf40.x, hf40.t] at hm59 hv59
        replace hv59 : Wrp _ := hv59
        refine j_istore_n (L' := [(0, .ref 118), (1, vi w), (2, vi r40), (3, vi r59)]) dX8_readsItem_62 (Nat.le_of_ble_eq_true rfl) rfl ?_
        refine j_iload_n dX8_readsItem_63 rfl ?_
        refine j_bipush dX8_readsItem_64 (by decide) ?_
        refine j_icmp_ne (tgt := 82) dX8_readsItem_66 (by decide) (by omega) (by omega) (fun h66 => ?_) (fun h66 => ?_)
        · refine j_aload_n dX8_readsItem_82 rfl ?_
          refine j_getR dX8_readsItem_83 fg_X8_16 fq_118_10 ?_
          refine j_bipush dX8_readsItem_86 (by decide) ?_
          refine j_iload_n dX8_readsItem_88 rfl ?_
          refine j_iadd dX8_readsItem_89 ?_
          refine j_iload_n dX8_readsItem_90 rfl ?_
          refine j_iast dX8_readsItem_91 aq_121 (by omega) (by omega) (by omega) ?_
          refine j_goto (tgt := 219) dX8_readsItem_92 (by decide) ?_
          exact j_vret rfl dX8_readsItem_219 (fun h => by cases h) (hP _ _ ⟨MF.uW (hf40.mf.tr hf59.mf) (by omega) (by omega), by rw [itR, if_neg (by omega), if_neg (by omega), if_pos (by omega)]; exact (rd_w (S1 := S40) b6 b1 hv40 hm59 hv59).2⟩)
        · exfalso; omega
      · refine j_bipush dX8_readsItem_52 (by decide) ?_
        refine j_goto (tgt := 59) dX8_readsItem_54 (by decide) ?_
        refine j_callVi (As := [vi 1, vi 9]) (rest := []) (t_X8_number _ _ 1 9 (by omega) (by omega) hm40) rfl cm_X8_number ci_X8_number ml_X8_113 oq_118 rfl (Nat.le_of_ble_eq_true rfl) (Nat.le_of_ble_eq_true rfl) dX8_readsItem_59 (fun r59 S59 hp59 => ?_)
        obtain ⟨hf59, hm59, hv59, hb59⟩ := hp59
        rw [hf40.x, hf40.t] at hm59 hv59
        replace hv59 : Wrp _ := hv59
        refine j_istore_n (L' := [(0, .ref 118), (1, vi w), (2, vi r40), (3, vi r59)]) dX8_readsItem_62 (Nat.le_of_ble_eq_true rfl) rfl ?_
        refine j_iload_n dX8_readsItem_63 rfl ?_
        refine j_bipush dX8_readsItem_64 (by decide) ?_
        refine j_icmp_ne (tgt := 82) dX8_readsItem_66 (by decide) (by omega) (by omega) (fun h66 => ?_) (fun h66 => ?_)
        · exfalso; omega
        · refine j_aload_n dX8_readsItem_69 rfl ?_
          refine j_getR dX8_readsItem_70 fg_X8_13 fq_118_9 ?_
          refine j_bipush dX8_readsItem_73 (by decide) ?_
          refine j_iload_n dX8_readsItem_75 rfl ?_
          refine j_iadd dX8_readsItem_76 ?_
          refine j_iload_n dX8_readsItem_77 rfl ?_
          refine j_iast dX8_readsItem_78 aq_120 (by omega) (by omega) (by omega) ?_
          refine j_goto (tgt := 92) dX8_readsItem_79 (by decide) ?_
          refine j_goto (tgt := 219) dX8_readsItem_92 (by decide) ?_
          exact j_vret rfl dX8_readsItem_219 (fun h => by cases h) (hP _ _ ⟨MF.uW (hf40.mf.tr hf59.mf) (by omega) (by omega), by rw [itR, if_neg (by omega), if_pos (by omega)]; exact (rd_w (S1 := S40) b6 b1 hv40 hm59 hv59).1⟩)
    · refine j_iload_n dX8_readsItem_26 rfl ?_
      refine j_bipush dX8_readsItem_27 (by decide) ?_
      refine j_icmp_ne (tgt := 95) dX8_readsItem_29 (by decide) (by omega) (by omega) (fun h29 => ?_) (fun h29 => ?_)
      · refine j_iload_n dX8_readsItem_95 rfl ?_
        refine j_bipush dX8_readsItem_96 (by decide) ?_
        refine j_icmp_ne (tgt := 132) dX8_readsItem_98 (by decide) (by omega) (by omega) (fun h98 => ?_) (fun h98 => ?_)
        · refine j_bipush dX8_readsItem_132 (by decide) ?_
          refine j_iconst dX8_readsItem_134 ?_
          refine j_aload_n dX8_readsItem_135 rfl ?_
          refine j_getI (x := d 0 5) dX8_readsItem_136 fg_X8_110 fq_118_16 b5 (fun hi136 => ?_)
          refine j_imul dX8_readsItem_139 ?_
          refine j_iadd dX8_readsItem_140 ?_
          refine j_istore_n (L' := [(0, .ref 118), (1, vi w), (2, vi (18 + (3 * (d 0 5))))]) dX8_readsItem_141 (Nat.le_of_ble_eq_true rfl) rfl ?_
          refine j_aload_n dX8_readsItem_142 rfl ?_
          refine j_getR dX8_readsItem_143 fg_X8_22 fq_118_12 ?_
          refine j_iload_n dX8_readsItem_146 rfl ?_
          refine j_aload_n dX8_readsItem_147 rfl ?_
          refine j_iconst dX8_readsItem_148 ?_
          refine j_aload_n dX8_readsItem_149 rfl ?_
          refine j_getI (x := d 0 3) dX8_readsItem_150 fg_X8_117 fq_118_14 b3 (fun hi150 => ?_)
          refine j_iconst dX8_readsItem_153 ?_
          refine j_isub dX8_readsItem_154 ?_
          refine j_callVi (As := [vi 0, vi ((d 0 3) - 1)]) (rest := [vi (18 + (3 * (d 0 5))), .ref 123]) (t_X8_number _ _ 0 ((d 0 3) - 1) (by omega) (by omega) hR) rfl cm_X8_number ci_X8_number ml_X8_113 oq_118 rfl (Nat.le_of_ble_eq_true rfl) (Nat.le_of_ble_eq_true rfl) dX8_readsItem_155 (fun r155 S155 hp155 => ?_)
          obtain ⟨hf155, hm155, hv155, hb155⟩ := hp155
          replace hv155 : Wrp _ := hv155
          refine j_iast dX8_readsItem_158 aq_123 (by omega) (by omega) (by omega) ?_
          have e05 : numD (S 119) (S 118 3) 0 (d 0 3 - 1) d 0 5 = d 0 5 := (numD_k d).1 5 (by decide) (by decide)
          have hA1 : MR (up S155 123 (18 + 3 * d 0 5) r155) (itY1 (S 119) (S 118 3) d) := MR.dr (MR.pS hm155 (fun _ => by rw [e05]; exact Int.le_refl _)) (Or.inl rfl) (fun _ => by rw [e05]; exact Int.le_refl _)
          have eY5 : itY1 (S 119) (S 118 3) d 0 5 = d 0 5 := e05
          refine j_aload_n dX8_readsItem_159 rfl ?_
          refine j_getR dX8_readsItem_160 fg_X8_22 fq_118_12 ?_
          refine j_iload_n dX8_readsItem_163 rfl ?_
          refine j_iconst dX8_readsItem_164 ?_
          refine j_iadd dX8_readsItem_165 ?_
          refine j_aload_n dX8_readsItem_166 rfl ?_
          refine j_aload_n dX8_readsItem_167 rfl ?_
          refine j_getI (x := S155 118 5) dX8_readsItem_168 fg_X8_83 fq_118_5 rfl (fun hi168 => ?_)
          refine j_iconst dX8_readsItem_171 ?_
          refine j_icmp_ne (tgt := 189) dX8_readsItem_172 (by decide) (by omega) (by omega) (fun h172 => ?_) (fun h172 => ?_)
          · refine j_iconst dX8_readsItem_189 ?_
            have hbb : ((0 : Int) = 1 ∧ S155 118 5 = 2 ∧ isMk (S155 118 7)) ∨ ((0 : Int) = 0 ∧ ¬ (S155 118 5 = 2 ∧ isMk (S155 118 7))) := by exact Or.inr ⟨rfl, fun z => by first | exact hc179 z.2 | exact h172 z.1⟩
            refine j_callVi (As := [vi 0]) (rest := [vi ((18 + (3 * (d 0 5))) + 1), .ref 123]) (t_X8_takes _ 0 (by decide) hA1.1 hA1.nx) rfl cm_X8_takes ci_X8_takes ml_X8_103 oq_118 rfl (Nat.le_of_ble_eq_true rfl) (Nat.le_of_ble_eq_true rfl) dX8_readsItem_190 (fun r190 S190 hp190 => ?_)
            obtain ⟨hf190, hm190, hv190, hb190⟩ := mk_R (j := d 0 5) hA1 (fun _ => by rw [eY5]; exact Int.le_refl _) hbb hp190
            rw [show up S155 123 (18 + 3 * d 0 5) r155 119 = S 119 from hf155.x, show up S155 123 (18 + 3 * d 0 5) r155 118 3 = S 118 3 from hf155.t, ← mk2_e] at hm190 hv190
            have hA2 : MR (up S190 123 (18 + 3 * d 0 5 + 1) r190) (itY2 (S 119) (S 118 3) d) := MR.pS hm190 (fun z => by
              obtain ⟨_, q, e⟩ := hv190 z
              rw [e]
              show 18 + 3 * itY1 (S 119) (S 118 3) d 0 5 ≤ _
              rw [eY5]
              omega)
            replace hv190 : Wrp _ := hv190
            clear hbb
            refine j_iast dX8_readsItem_193 aq_123 (by omega) (by omega) (by rcases hb190 with z | z <;> omega) ?_
            refine j_aload_n dX8_readsItem_194 rfl ?_
            refine j_getR dX8_readsItem_195 fg_X8_22 fq_118_12 ?_
            refine j_iload_n dX8_readsItem_198 rfl ?_
            refine j_iconst dX8_readsItem_199 ?_
            refine j_iadd dX8_readsItem_200 ?_
            refine j_aload_n dX8_readsItem_201 rfl ?_
            refine j_iconst dX8_readsItem_202 ?_
            refine j_bipush dX8_readsItem_203 (by decide) ?_
            refine j_callVi (As := [vi 0, vi 30]) (rest := [vi ((18 + (3 * (d 0 5))) + 2), .ref 123]) (t_X8_number _ _ 0 30 (by omega) (by omega) hA2) rfl cm_X8_number ci_X8_number ml_X8_113 oq_118 rfl (Nat.le_of_ble_eq_true rfl) (Nat.le_of_ble_eq_true rfl) dX8_readsItem_205 (fun r205 S205 hp205 => ?_)
            obtain ⟨hf205, hm205, hv205, hb205⟩ := hp205
            rw [show up S190 123 (18 + 3 * d 0 5 + 1) r190 119 = S 119 from hf190.x.trans hf155.x, show up S190 123 (18 + 3 * d 0 5 + 1) r190 118 3 = S 118 3 from hf190.t.trans hf155.t] at hm205 hv205
            have hfin : Wrp (numD (S 119) (S 118 3) 0 30 (itY2 (S 119) (S 118 3) d) 0 1 = -1 → (numD (S 119) (S 118 3) 0 30 (itY2 (S 119) (S 118 3) d) 0 5 = d 0 5 ∧ d 0 5 < 6) ∧ S205 123 (18 + 3 * d 0 5) = numD (S 119) (S 118 3) 0 30 (itY2 (S 119) (S 118 3) d) 4 (d 0 5) ∧ S205 123 (18 + 3 * d 0 5 + 1) = numD (S 119) (S 118 3) 0 30 (itY2 (S 119) (S 118 3) d) 5 (d 0 5) ∧ r205 = numV (S 119) (S 118 3) 0 30 (itY2 (S 119) (S 118 3) d)) := by
              intro z
              have hk := numD_k (x := S 119) (t := S 118 3) (lo := 0) (hi := 30) (itY2 (S 119) (S 118 3) d)
              have hw2 : itY2 (S 119) (S 118 3) d 0 1 = -1 := by
                apply Classical.byContradiction
                intro y
                rw [numD_f y] at z
                exact y z
              obtain ⟨hw1, q, e⟩ := hv190 hw2
              have hw0 : numD (S 119) (S 118 3) 0 (d 0 3 - 1) d 0 1 = -1 := hw1
              have hv1 := hv155 hw0
              refine ⟨⟨?_, by omega⟩, ?_, ?_, hv205 z⟩
              · rw [hk.1 5 (by decide) (by decide), e]; exact e05
              · rw [hk.2 4 (by decide), hf205.1 123 (by decide), e, up_i (by omega), hf190.1 123 (by decide), up_s]
                show r155 = up (numD (S 119) (S 118 3) 0 (d 0 3 - 1) d) 4 (d 0 5) (numV (S 119) (S 118 3) 0 (d 0 3 - 1) d) 4 (d 0 5)
                rw [up_s]
                exact hv1
              · rw [hk.2 5 (by decide), hf205.1 123 (by decide), e, up_s, up_s]
            replace hv205 : Wrp _ := hv205
            refine j_iast dX8_readsItem_208 aq_123 (by omega) (by omega) (by omega) ?_
            refine j_aload_n dX8_readsItem_209 rfl ?_
            refine j_dup dX8_readsItem_210 rfl ?_
            refine j_getI (x := d 0 5) dX8_readsItem_211 fg_X8_110 fq_118_16 (by show S205 118 16 = _; rw [hf205.2 16 (by decide) (by decide) (by decide) (by decide) (by decide)]; show S190 118 16 = _; rw [hf190.2 16 (by decide) (by decide) (by decide) (by decide) (by decide)]; show S155 118 16 = _; rw [hf155.2 16 (by decide) (by decide) (by decide) (by decide) (by decide)]; exact b5) (fun hi211 => ?_)
            refine j_iconst dX8_readsItem_214 ?_
            refine j_iadd dX8_readsItem_215 ?_
            refine j_putI (i := 16) dX8_readsItem_216 fg_X8_110 ft_8_16 fq_118_16 rfl (by omega) ?_
            exact j_vret rfl dX8_readsItem_219 (fun h => by cases h) (hP _ _ ⟨MF.u8 (MF.u ((MF.u ((MF.u hf155.mf (by omega)).tr hf190.mf) (by omega)).tr hf205.mf) (by omega)) (by unfold mfI; omega), by rw [itR, if_neg (by omega), if_neg (by omega), if_neg (by omega), if_neg (by omega)]; exact MR.pY hm205 hfin⟩)
          · refine j_aload_n dX8_readsItem_175 rfl ?_
            refine j_getI (x := S155 118 7) dX8_readsItem_176 fg_X8_86 fq_118_7 rfl (fun hi176 => ?_)
            refine j_callSi (As := [vi (S155 118 7)]) (rest := [.ref 118, vi ((18 + (3 * (d 0 5))) + 1), .ref 123]) (t_X8_isMake _ (S155 118 7) (by omega)) rfl cm_X8_isMake cs_X8_isMake ml_X8_120 rfl (Nat.le_of_ble_eq_true rfl) (Nat.le_of_ble_eq_true rfl) dX8_readsItem_179 (fun r179 S179 hp179 => ?_)
            obtain ⟨⟨rfl, hc179⟩ | ⟨rfl, hc179⟩, he179⟩ := hp179
            · rw [he179]
              refine j_if_eq (tgt := 189) dX8_readsItem_182 (by decide) (by omega)  (fun h => absurd h (by decide)) (fun _ => ?_)
              refine j_iconst dX8_readsItem_185 ?_
              refine j_goto (tgt := 190) dX8_readsItem_186 (by decide) ?_
              have hbb : ((1 : Int) = 1 ∧ S155 118 5 = 2 ∧ isMk (S155 118 7)) ∨ ((1 : Int) = 0 ∧ ¬ (S155 118 5 = 2 ∧ isMk (S155 118 7))) := by exact Or.inl ⟨rfl, h172, hc179⟩
              refine j_callVi (As := [vi 1]) (rest := [vi ((18 + (3 * (d 0 5))) + 1), .ref 123]) (t_X8_takes _ 1 (by decide) hA1.1 hA1.nx) rfl cm_X8_takes ci_X8_takes ml_X8_103 oq_118 rfl (Nat.le_of_ble_eq_true rfl) (Nat.le_of_ble_eq_true rfl) dX8_readsItem_190 (fun r190 S190 hp190 => ?_)
              obtain ⟨hf190, hm190, hv190, hb190⟩ := mk_R (j := d 0 5) hA1 (fun _ => by rw [eY5]; exact Int.le_refl _) hbb hp190
              rw [show up S155 123 (18 + 3 * d 0 5) r155 119 = S 119 from hf155.x, show up S155 123 (18 + 3 * d 0 5) r155 118 3 = S 118 3 from hf155.t, ← mk2_e] at hm190 hv190
              have hA2 : MR (up S190 123 (18 + 3 * d 0 5 + 1) r190) (itY2 (S 119) (S 118 3) d) := MR.pS hm190 (fun z => by
                obtain ⟨_, q, e⟩ := hv190 z
                rw [e]
                show 18 + 3 * itY1 (S 119) (S 118 3) d 0 5 ≤ _
                rw [eY5]
                omega)
              replace hv190 : Wrp _ := hv190
              clear hbb
              refine j_iast dX8_readsItem_193 aq_123 (by omega) (by omega) (by rcases hb190 with z | z <;> omega) ?_
              refine j_aload_n dX8_readsItem_194 rfl ?_
              refine j_getR dX8_readsItem_195 fg_X8_22 fq_118_12 ?_
              refine j_iload_n dX8_readsItem_198 rfl ?_
              refine j_iconst dX8_readsItem_199 ?_
              refine j_iadd dX8_readsItem_200 ?_
              refine j_aload_n dX8_readsItem_201 rfl ?_
              refine j_iconst dX8_readsItem_202 ?_
              refine j_bipush dX8_readsItem_203 (by decide) ?_
              refine j_callVi (As := [vi 0, vi 30]) (rest := [vi ((18 + (3 * (d 0 5))) + 2), .ref 123]) (t_X8_number _ _ 0 30 (by omega) (by omega) hA2) rfl cm_X8_number ci_X8_number ml_X8_113 oq_118 rfl (Nat.le_of_ble_eq_true rfl) (Nat.le_of_ble_eq_true rfl) dX8_readsItem_205 (fun r205 S205 hp205 => ?_)
              obtain ⟨hf205, hm205, hv205, hb205⟩ := hp205
              rw [show up S190 123 (18 + 3 * d 0 5 + 1) r190 119 = S 119 from hf190.x.trans hf155.x, show up S190 123 (18 + 3 * d 0 5 + 1) r190 118 3 = S 118 3 from hf190.t.trans hf155.t] at hm205 hv205
              have hfin : Wrp (numD (S 119) (S 118 3) 0 30 (itY2 (S 119) (S 118 3) d) 0 1 = -1 → (numD (S 119) (S 118 3) 0 30 (itY2 (S 119) (S 118 3) d) 0 5 = d 0 5 ∧ d 0 5 < 6) ∧ S205 123 (18 + 3 * d 0 5) = numD (S 119) (S 118 3) 0 30 (itY2 (S 119) (S 118 3) d) 4 (d 0 5) ∧ S205 123 (18 + 3 * d 0 5 + 1) = numD (S 119) (S 118 3) 0 30 (itY2 (S 119) (S 118 3) d) 5 (d 0 5) ∧ r205 = numV (S 119) (S 118 3) 0 30 (itY2 (S 119) (S 118 3) d)) := by
                intro z
                have hk := numD_k (x := S 119) (t := S 118 3) (lo := 0) (hi := 30) (itY2 (S 119) (S 118 3) d)
                have hw2 : itY2 (S 119) (S 118 3) d 0 1 = -1 := by
                  apply Classical.byContradiction
                  intro y
                  rw [numD_f y] at z
                  exact y z
                obtain ⟨hw1, q, e⟩ := hv190 hw2
                have hw0 : numD (S 119) (S 118 3) 0 (d 0 3 - 1) d 0 1 = -1 := hw1
                have hv1 := hv155 hw0
                refine ⟨⟨?_, by omega⟩, ?_, ?_, hv205 z⟩
                · rw [hk.1 5 (by decide) (by decide), e]; exact e05
                · rw [hk.2 4 (by decide), hf205.1 123 (by decide), e, up_i (by omega), hf190.1 123 (by decide), up_s]
                  show r155 = up (numD (S 119) (S 118 3) 0 (d 0 3 - 1) d) 4 (d 0 5) (numV (S 119) (S 118 3) 0 (d 0 3 - 1) d) 4 (d 0 5)
                  rw [up_s]
                  exact hv1
                · rw [hk.2 5 (by decide), hf205.1 123 (by decide), e, up_s, up_s]
              replace hv205 : Wrp _ := hv205
              refine j_iast dX8_readsItem_208 aq_123 (by omega) (by omega) (by omega) ?_
              refine j_aload_n dX8_readsItem_209 rfl ?_
              refine j_dup dX8_readsItem_210 rfl ?_
              refine j_getI (x := d 0 5) dX8_readsItem_211 fg_X8_110 fq_118_16 (by show S205 118 16 = _; rw [hf205.2 16 (by decide) (by decide) (by decide) (by decide) (by decide)]; show S190 118 16 = _; rw [hf190.2 16 (by decide) (by decide) (by decide) (by decide) (by decide)]; show S155 118 16 = _; rw [hf155.2 16 (by decide) (by decide) (by decide) (by decide) (by decide)]; exact b5) (fun hi211 => ?_)
              refine j_iconst dX8_readsItem_214 ?_
              refine j_iadd dX8_readsItem_215 ?_
              refine j_putI (i := 16) dX8_readsItem_216 fg_X8_110 ft_8_16 fq_118_16 rfl (by omega) ?_
              exact j_vret rfl dX8_readsItem_219 (fun h => by cases h) (hP _ _ ⟨MF.u8 (MF.u ((MF.u ((MF.u hf155.mf (by omega)).tr hf190.mf) (by omega)).tr hf205.mf) (by omega)) (by unfold mfI; omega), by rw [itR, if_neg (by omega), if_neg (by omega), if_neg (by omega), if_neg (by omega)]; exact MR.pY hm205 hfin⟩)
            · rw [he179]
              refine j_if_eq (tgt := 189) dX8_readsItem_182 (by decide) (by omega)  (fun _ => ?_) (fun h => absurd h (by decide))
              refine j_iconst dX8_readsItem_189 ?_
              have hbb : ((0 : Int) = 1 ∧ S155 118 5 = 2 ∧ isMk (S155 118 7)) ∨ ((0 : Int) = 0 ∧ ¬ (S155 118 5 = 2 ∧ isMk (S155 118 7))) := by exact Or.inr ⟨rfl, fun z => by first | exact hc179 z.2 | exact h172 z.1⟩
              refine j_callVi (As := [vi 0]) (rest := [vi ((18 + (3 * (d 0 5))) + 1), .ref 123]) (t_X8_takes _ 0 (by decide) hA1.1 hA1.nx) rfl cm_X8_takes ci_X8_takes ml_X8_103 oq_118 rfl (Nat.le_of_ble_eq_true rfl) (Nat.le_of_ble_eq_true rfl) dX8_readsItem_190 (fun r190 S190 hp190 => ?_)
              obtain ⟨hf190, hm190, hv190, hb190⟩ := mk_R (j := d 0 5) hA1 (fun _ => by rw [eY5]; exact Int.le_refl _) hbb hp190
              rw [show up S155 123 (18 + 3 * d 0 5) r155 119 = S 119 from hf155.x, show up S155 123 (18 + 3 * d 0 5) r155 118 3 = S 118 3 from hf155.t, ← mk2_e] at hm190 hv190
              have hA2 : MR (up S190 123 (18 + 3 * d 0 5 + 1) r190) (itY2 (S 119) (S 118 3) d) := MR.pS hm190 (fun z => by
                obtain ⟨_, q, e⟩ := hv190 z
                rw [e]
                show 18 + 3 * itY1 (S 119) (S 118 3) d 0 5 ≤ _
                rw [eY5]
                omega)
              replace hv190 : Wrp _ := hv190
              clear hbb
              refine j_iast dX8_readsItem_193 aq_123 (by omega) (by omega) (by rcases hb190 with z | z <;> omega) ?_
              refine j_aload_n dX8_readsItem_194 rfl ?_
              refine j_getR dX8_readsItem_195 fg_X8_22 fq_118_12 ?_
              refine j_iload_n dX8_readsItem_198 rfl ?_
              refine j_iconst dX8_readsItem_199 ?_
              refine j_iadd dX8_readsItem_200 ?_
              refine j_aload_n dX8_readsItem_201 rfl ?_
              refine j_iconst dX8_readsItem_202 ?_
              refine j_bipush dX8_readsItem_203 (by decide) ?_
              refine j_callVi (As := [vi 0, vi 30]) (rest := [vi ((18 + (3 * (d 0 5))) + 2), .ref 123]) (t_X8_number _ _ 0 30 (by omega) (by omega) hA2) rfl cm_X8_number ci_X8_number ml_X8_113 oq_118 rfl (Nat.le_of_ble_eq_true rfl) (Nat.le_of_ble_eq_true rfl) dX8_readsItem_205 (fun r205 S205 hp205 => ?_)
              obtain ⟨hf205, hm205, hv205, hb205⟩ := hp205
              rw [show up S190 123 (18 + 3 * d 0 5 + 1) r190 119 = S 119 from hf190.x.trans hf155.x, show up S190 123 (18 + 3 * d 0 5 + 1) r190 118 3 = S 118 3 from hf190.t.trans hf155.t] at hm205 hv205
              have hfin : Wrp (numD (S 119) (S 118 3) 0 30 (itY2 (S 119) (S 118 3) d) 0 1 = -1 → (numD (S 119) (S 118 3) 0 30 (itY2 (S 119) (S 118 3) d) 0 5 = d 0 5 ∧ d 0 5 < 6) ∧ S205 123 (18 + 3 * d 0 5) = numD (S 119) (S 118 3) 0 30 (itY2 (S 119) (S 118 3) d) 4 (d 0 5) ∧ S205 123 (18 + 3 * d 0 5 + 1) = numD (S 119) (S 118 3) 0 30 (itY2 (S 119) (S 118 3) d) 5 (d 0 5) ∧ r205 = numV (S 119) (S 118 3) 0 30 (itY2 (S 119) (S 118 3) d)) := by
                intro z
                have hk := numD_k (x := S 119) (t := S 118 3) (lo := 0) (hi := 30) (itY2 (S 119) (S 118 3) d)
                have hw2 : itY2 (S 119) (S 118 3) d 0 1 = -1 := by
                  apply Classical.byContradiction
                  intro y
                  rw [numD_f y] at z
                  exact y z
                obtain ⟨hw1, q, e⟩ := hv190 hw2
                have hw0 : numD (S 119) (S 118 3) 0 (d 0 3 - 1) d 0 1 = -1 := hw1
                have hv1 := hv155 hw0
                refine ⟨⟨?_, by omega⟩, ?_, ?_, hv205 z⟩
                · rw [hk.1 5 (by decide) (by decide), e]; exact e05
                · rw [hk.2 4 (by decide), hf205.1 123 (by decide), e, up_i (by omega), hf190.1 123 (by decide), up_s]
                  show r155 = up (numD (S 119) (S 118 3) 0 (d 0 3 - 1) d) 4 (d 0 5) (numV (S 119) (S 118 3) 0 (d 0 3 - 1) d) 4 (d 0 5)
                  rw [up_s]
                  exact hv1
                · rw [hk.2 5 (by decide), hf205.1 123 (by decide), e, up_s, up_s]
              replace hv205 : Wrp _ := hv205
              refine j_iast dX8_readsItem_208 aq_123 (by omega) (by omega) (by omega) ?_
              refine j_aload_n dX8_readsItem_209 rfl ?_
              refine j_dup dX8_readsItem_210 rfl ?_
              refine j_getI (x := d 0 5) dX8_readsItem_211 fg_X8_110 fq_118_16 (by show S205 118 16 = _; rw [hf205.2 16 (by decide) (by decide) (by decide) (by decide) (by decide)]; show S190 118 16 = _; rw [hf190.2 16 (by decide) (by decide) (by decide) (by decide) (by decide)]; show S155 118 16 = _; rw [hf155.2 16 (by decide) (by decide) (by decide) (by decide) (by decide)]; exact b5) (fun hi211 => ?_)
              refine j_iconst dX8_readsItem_214 ?_
              refine j_iadd dX8_readsItem_215 ?_
              refine j_putI (i := 16) dX8_readsItem_216 fg_X8_110 ft_8_16 fq_118_16 rfl (by omega) ?_
              exact j_vret rfl dX8_readsItem_219 (fun h => by cases h) (hP _ _ ⟨MF.u8 (MF.u ((MF.u ((MF.u hf155.mf (by omega)).tr hf190.mf) (by omega)).tr hf205.mf) (by omega)) (by unfold mfI; omega), by rw [itR, if_neg (by omega), if_neg (by omega), if_neg (by omega), if_neg (by omega)]; exact MR.pY hm205 hfin⟩)
        · refine j_aload_n dX8_readsItem_101 rfl ?_
          refine j_getR dX8_readsItem_102 fg_X8_19 fq_118_11 ?_
          refine j_iconst dX8_readsItem_105 ?_
          refine j_aload_n dX8_readsItem_106 rfl ?_
          refine j_getI (x := d 0 4) dX8_readsItem_107 fg_X8_107 fq_118_15 b4 (fun hi107 => ?_)
          refine j_iadd dX8_readsItem_110 ?_
          refine j_aload_n dX8_readsItem_111 rfl ?_
          refine j_iconst dX8_readsItem_112 ?_
          refine j_bipush dX8_readsItem_113 (by decide) ?_
          refine j_callVi (As := [vi 0, vi 9]) (rest := [vi (4 + (d 0 4)), .ref 122]) (t_X8_number _ _ 0 9 (by omega) (by omega) hR) rfl cm_X8_number ci_X8_number ml_X8_113 oq_118 rfl (Nat.le_of_ble_eq_true rfl) (Nat.le_of_ble_eq_true rfl) dX8_readsItem_115 (fun r115 S115 hp115 => ?_)
          obtain ⟨hf115, hm115, hv115, hb115⟩ := hp115
          replace hv115 : Wrp _ := hv115
          refine j_iast dX8_readsItem_118 aq_122 (by omega) (by omega) (by omega) ?_
          refine j_aload_n dX8_readsItem_119 rfl ?_
          refine j_dup dX8_readsItem_120 rfl ?_
          refine j_getI (x := d 0 4) dX8_readsItem_121 fg_X8_107 fq_118_15 (by show S115 118 15 = _; rw [hf115.2 15 (by decide) (by decide) (by decide) (by decide) (by decide)]; exact b4) (fun hi121 => ?_)
          refine j_iconst dX8_readsItem_124 ?_
          refine j_iadd dX8_readsItem_125 ?_
          refine j_putI (i := 15) dX8_readsItem_126 fg_X8_107 ft_8_15 fq_118_15 rfl (by omega) ?_
          refine j_goto (tgt := 219) dX8_readsItem_129 (by decide) ?_
          exact j_vret rfl dX8_readsItem_219 (fun h => by cases h) (hP _ _ ⟨MF.u8 (MF.u hf115.mf (by omega)) (by unfold mfI; omega), by rw [itR, if_neg (by omega), if_neg (by omega), if_neg (by omega), if_pos (by omega)]; exact MR.pO hm115 (fun z => ⟨(numD_k d).1 4 (by decide) (by decide), by omega, hv115 z⟩)⟩)
      · refine j_aload_n dX8_readsItem_32 rfl ?_
        refine j_iconst dX8_readsItem_33 ?_
        refine j_aload_n dX8_readsItem_34 rfl ?_
        refine j_getI (x := d 0 3) dX8_readsItem_35 fg_X8_117 fq_118_14 b3 (fun hi35 => ?_)
        refine j_iconst dX8_readsItem_38 ?_
        refine j_isub dX8_readsItem_39 ?_
        refine j_callVi (As := [vi 0, vi ((d 0 3) - 1)]) (rest := []) (t_X8_number _ _ 0 ((d 0 3) - 1) (by omega) (by omega) hR) rfl cm_X8_number ci_X8_number ml_X8_113 oq_118 rfl (Nat.le_of_ble_eq_true rfl) (Nat.le_of_ble_eq_true rfl) dX8_readsItem_40 (fun r40 S40 hp40 => ?_)
        obtain ⟨hf40, hm40, hv40, hb40⟩ := hp40
        replace hv40 : Wrp _ := hv40
        refine j_istore_n (L' := [(0, .ref 118), (1, vi w), (2, vi r40)]) dX8_readsItem_43 (Nat.le_of_ble_eq_true rfl) rfl ?_
        refine j_aload_n dX8_readsItem_44 rfl ?_
        refine j_iconst dX8_readsItem_45 ?_
        refine j_iload_n dX8_readsItem_46 rfl ?_
        refine j_bipush dX8_readsItem_47 (by decide) ?_
        refine j_icmp_ne (tgt := 57) dX8_readsItem_49 (by decide) (by omega) (by omega) (fun h49 => ?_) (fun h49 => ?_)
        · refine j_bipush dX8_readsItem_57 (by decide) ?_
          refine j_callVi (As := [vi 1, vi 30]) (rest := []) (t_X8_number _ _ 1 30 (by omega) (by omega) hm40) rfl cm_X8_number ci_X8_number ml_X8_113 oq_118 rfl (Nat.le_of_ble_eq_true rfl) (Nat.le_of_ble_eq_true rfl) dX8_readsItem_59 (fun r59 S59 hp59 => ?_)
          obtain ⟨hf59, hm59, hv59, hb59⟩ := hp59
          rw [hf40.x, hf40.t] at hm59 hv59
          replace hv59 : Wrp _ := hv59
          refine j_istore_n (L' := [(0, .ref 118), (1, vi w), (2, vi r40), (3, vi r59)]) dX8_readsItem_62 (Nat.le_of_ble_eq_true rfl) rfl ?_
          refine j_iload_n dX8_readsItem_63 rfl ?_
          refine j_bipush dX8_readsItem_64 (by decide) ?_
          refine j_icmp_ne (tgt := 82) dX8_readsItem_66 (by decide) (by omega) (by omega) (fun h66 => ?_) (fun h66 => ?_)
          · refine j_aload_n dX8_readsItem_82 rfl ?_
            refine j_getR dX8_readsItem_83 fg_X8_16 fq_118_10 ?_
            refine j_bipush dX8_readsItem_86 (by decide) ?_
            refine j_iload_n dX8_readsItem_88 rfl ?_
            refine j_iadd dX8_readsItem_89 ?_
            refine j_iload_n dX8_readsItem_90 rfl ?_
            refine j_iast dX8_readsItem_91 aq_121 (by omega) (by omega) (by omega) ?_
            refine j_goto (tgt := 219) dX8_readsItem_92 (by decide) ?_
            exact j_vret rfl dX8_readsItem_219 (fun h => by cases h) (hP _ _ ⟨MF.uW (hf40.mf.tr hf59.mf) (by omega) (by omega), by rw [itR, if_neg (by omega), if_neg (by omega), if_pos (by omega)]; exact (rd_w (S1 := S40) b6 b1 hv40 hm59 hv59).2⟩)
          · exfalso; omega
        · refine j_bipush dX8_readsItem_52 (by decide) ?_
          refine j_goto (tgt := 59) dX8_readsItem_54 (by decide) ?_
          refine j_callVi (As := [vi 1, vi 9]) (rest := []) (t_X8_number _ _ 1 9 (by omega) (by omega) hm40) rfl cm_X8_number ci_X8_number ml_X8_113 oq_118 rfl (Nat.le_of_ble_eq_true rfl) (Nat.le_of_ble_eq_true rfl) dX8_readsItem_59 (fun r59 S59 hp59 => ?_)
          obtain ⟨hf59, hm59, hv59, hb59⟩ := hp59
          rw [hf40.x, hf40.t] at hm59 hv59
          replace hv59 : Wrp _ := hv59
          refine j_istore_n (L' := [(0, .ref 118), (1, vi w), (2, vi r40), (3, vi r59)]) dX8_readsItem_62 (Nat.le_of_ble_eq_true rfl) rfl ?_
          refine j_iload_n dX8_readsItem_63 rfl ?_
          refine j_bipush dX8_readsItem_64 (by decide) ?_
          refine j_icmp_ne (tgt := 82) dX8_readsItem_66 (by decide) (by omega) (by omega) (fun h66 => ?_) (fun h66 => ?_)
          · exfalso; omega
          · refine j_aload_n dX8_readsItem_69 rfl ?_
            refine j_getR dX8_readsItem_70 fg_X8_13 fq_118_9 ?_
            refine j_bipush dX8_readsItem_73 (by decide) ?_
            refine j_iload_n dX8_readsItem_75 rfl ?_
            refine j_iadd dX8_readsItem_76 ?_
            refine j_iload_n dX8_readsItem_77 rfl ?_
            refine j_iast dX8_readsItem_78 aq_120 (by omega) (by omega) (by omega) ?_
            refine j_goto (tgt := 92) dX8_readsItem_79 (by decide) ?_
            refine j_goto (tgt := 219) dX8_readsItem_92 (by decide) ?_
            exact j_vret rfl dX8_readsItem_219 (fun h => by cases h) (hP _ _ ⟨MF.uW (hf40.mf.tr hf59.mf) (by omega) (by omega), by rw [itR, if_neg (by omega), if_pos (by omega)]; exact (rd_w (S1 := S40) b6 b1 hv40 hm59 hv59).1⟩)
  · refine j_aload_n dX8_readsItem_6 rfl ?_
    refine j_aload_n dX8_readsItem_7 rfl ?_
    refine j_iconst dX8_readsItem_8 ?_
    refine j_bipush dX8_readsItem_9 (by decide) ?_
    refine j_callVi (As := [vi 2, vi 6]) (rest := [.ref 118]) (t_X8_number _ _ 2 6 (by omega) (by omega) hR) rfl cm_X8_number ci_X8_number ml_X8_113 oq_118 rfl (Nat.le_of_ble_eq_true rfl) (Nat.le_of_ble_eq_true rfl) dX8_readsItem_11 (fun r11 S11 hp11 => ?_)
    obtain ⟨hf11, hm11, hv11, hb11⟩ := hp11
    replace hv11 : Wrp _ := hv11
    refine j_putI (i := 14) dX8_readsItem_14 fg_X8_117 ft_8_14 fq_118_14 rfl (by omega) ?_
    refine j_goto (tgt := 219) dX8_readsItem_17 (by decide) ?_
    exact j_vret rfl dX8_readsItem_219 (fun h => by cases h) (hP _ _ ⟨MF.u8 hf11.mf (by unfold mfI; omega), by rw [itR, if_pos h3]; exact MR.p14 hm11 (fun z => ⟨hv11 z, numV_bd (by decide) d⟩)⟩)
