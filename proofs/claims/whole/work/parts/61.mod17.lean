/-! the model's fleet as told -/
def cmW (V : St) (p k m a w : Int) : St := up (up (up (up (up V 125 (141 + p) k) 124 p m) 125 (51 + p) a) 125 (3 + p) w) 125 1 (p + 1)
theorem cmW_5 {V : St} {p k m a w j : Int} (hp : 0 ≤ p ∧ p < 48) : cmW V p k m a w 125 j = if j = 1 then p + 1 else if j = 3 + p then w else if j = 51 + p then a else if j = 141 + p then k else V 125 j := by
  unfold cmW
  by_cases e1 : j = 1
  · rw [if_pos e1, e1, up_s]
  · rw [if_neg e1, up_i e1]
    by_cases e2 : j = 3 + p
    · rw [if_pos e2, e2, up_s]
    · rw [if_neg e2, up_i e2]
      by_cases e3 : j = 51 + p
      · rw [if_pos e3, e3, up_s]
      · rw [if_neg e3, up_i e3, up_c (by decide)]
        by_cases e4 : j = 141 + p
        · rw [if_pos e4, e4, up_s]
        · rw [if_neg e4, up_i e4]
theorem cmW_4 {V : St} {p k m a w j : Int} : cmW V p k m a w 124 j = if j = p then m else V 124 j := by
  unfold cmW
  rw [up_c (by decide), up_c (by decide), up_c (by decide)]
  by_cases e : j = p
  · rw [if_pos e, e, up_s]
  · rw [if_neg e, up_i e, up_c (by decide)]
theorem cmW_c {V : St} {p k m a w : Int} {c : Nat} (h1 : c ≠ 124) (h2 : c ≠ 125) : cmW V p k m a w c = V c := by
  unfold cmW
  rw [up_row h2, up_row h2, up_row h2, up_row h1, up_row h2]
def EnM (n : Int) (T : St) (s k : Int) : Prop := T 125 (141 + (bp n s + k)) = k ∧ T 124 (bp n s + k) = s ∧ T 125 (51 + (bp n s + k)) = 0 ∧ T 125 (3 + (bp n s + k)) = s ∧ T 125 (99 + (s * 6 + k)) = bp n s + k
def TlM (n : Int) (T : St) (i k : Int) : Prop := ∀ s j, 0 ≤ s → 0 ≤ j → j < n → (s < i ∨ (s = i ∧ j < k)) → EnM n T s j
theorem TlM.step {n : Int} {T : St} {i k : Int} (hn : 0 ≤ n) (hn6 : n ≤ 6) (hi : 0 ≤ i) (hi4 : i < 4) (hk : 0 ≤ k) (hkn : k < n) (hb : 0 ≤ bp n i ∧ bp n i + n ≤ 24) (h : TlM n T i k) : TlM n (up (cmW T (bp n i + k) k i 0 i) 125 (99 + 6 * i + k) (bp n i + k)) i (k + 1) := by
  intro s j a b c e
  have hs := bp_nn hn a
  by_cases q : s = i ∧ j = k
  · obtain ⟨q1, q2⟩ := q
    subst q1; subst q2
    refine ⟨?_, ?_, ?_, ?_, ?_⟩
    · rw [up_i (by omega), cmW_5 (by omega)]; (repeat' split) <;> omega
    · rw [up_c (by decide), cmW_4, if_pos rfl]
    · rw [up_i (by omega), cmW_5 (by omega)]; (repeat' split) <;> omega
    · rw [up_i (by omega), cmW_5 (by omega)]; (repeat' split) <;> omega
    · rw [show 99 + (s * 6 + j) = 99 + 6 * s + j by omega, up_s]
  · have hlt : bp n s + j < bp n i + k := by
      rcases e with e | ⟨e, e2⟩
      · have := bp_mono hn (show s + 1 ≤ i by omega); omega
      · subst e; omega
    obtain ⟨o1, o2, o3, o4, o5⟩ := h s j a b c (by omega)
    refine ⟨?_, ?_, ?_, ?_, ?_⟩
    · rw [up_i (by omega), cmW_5 (by omega)]; (repeat' split) <;> omega
    · rw [up_c (by decide), cmW_4, if_neg (by omega)]; exact o2
    · rw [up_i (by omega), cmW_5 (by omega)]; (repeat' split) <;> omega
    · rw [up_i (by omega), cmW_5 (by omega)]; (repeat' split) <;> omega
    · rw [up_i (by omega), cmW_5 (by omega)]; (repeat' split) <;> omega
theorem TlM.next {n : Int} {T : St} {i : Int} (h : TlM n T i n) : TlM n T (i + 1) 0 := fun s j a b c e => h s j a b c (by omega)
theorem TlM.own {n : Int} {T : St} {i v : Int} (hn : 0 ≤ n) (hn6 : n ≤ 6) (hi4 : i ≤ 4) (hb : bp n i ≤ 24) (hi0 : 0 ≤ i) (h : TlM n T i 0) : TlM n (up T 125 (135 + i) v) i 0 := by
  intro s j a b c e
  have hs := bp_nn hn a
  have := bp_mono hn (show s + 1 ≤ i by omega)
  obtain ⟨o1, o2, o3, o4, o5⟩ := h s j a b c e
  refine ⟨?_, ?_, ?_, ?_, ?_⟩
  · rw [up_i (by omega)]; exact o1
  · rw [up_c (by decide)]; exact o2
  · rw [up_i (by omega)]; exact o3
  · rw [up_i (by omega)]; exact o4
  · rw [up_i (by omega)]; exact o5
theorem TlM.sp {n : Int} {T : St} {m e k x a : Int} (hn : 0 ≤ n) (hn6 : n ≤ 6) (hm : 0 ≤ m ∧ m ≤ 4) (hb : 0 ≤ bp n m ∧ bp n m ≤ 24) (he : 0 ≤ e ∧ e < 6) (h : TlM n T m 0) : TlM n (cmW T (bp n m + e) k x a 8) m 0 := by
  intro s j a b c q
  have hs := bp_nn hn a
  have := bp_mono hn (show s + 1 ≤ m by omega)
  obtain ⟨o1, o2, o3, o4, o5⟩ := h s j a b c q
  refine ⟨?_, ?_, ?_, ?_, ?_⟩
  · rw [cmW_5 (by omega)]; (repeat' split) <;> omega
  · rw [cmW_4, if_neg (by omega)]; exact o2
  · rw [cmW_5 (by omega)]; (repeat' split) <;> omega
  · rw [cmW_5 (by omega)]; (repeat' split) <;> omega
  · rw [cmW_5 (by omega)]; (repeat' split) <;> omega
def SpM (d T : St) (n m e : Int) : Prop := ∀ j, 0 ≤ j → j < e → T 125 (141 + (bp n m + j)) = d 4 j ∧ T 124 (bp n m + j) = d 5 j ∧ T 125 (51 + (bp n m + j)) = d 6 j ∧ T 125 (3 + (bp n m + j)) = 8
theorem SpM.step {d T : St} {n m e : Int} (hb : 0 ≤ bp n m ∧ bp n m ≤ 24) (he : 0 ≤ e ∧ e < 6) (h : SpM d T n m e) : SpM d (cmW T (bp n m + e) (d 4 e) (d 5 e) (d 6 e) 8) n m (e + 1) := by
  intro j a b
  by_cases q : j = e
  · subst q
    refine ⟨?_, ?_, ?_, ?_⟩
    · rw [cmW_5 (by omega)]; (repeat' split) <;> omega
    · rw [cmW_4, if_pos rfl]
    · rw [cmW_5 (by omega)]; (repeat' split) <;> omega
    · rw [cmW_5 (by omega)]; (repeat' split) <;> omega
  · obtain ⟨o1, o2, o3, o4⟩ := h j a (by omega)
    refine ⟨?_, ?_, ?_, ?_⟩
    · rw [cmW_5 (by omega)]; (repeat' split) <;> omega
    · rw [cmW_4, if_neg (by omega)]; exact o2
    · rw [cmW_5 (by omega)]; (repeat' split) <;> omega
    · rw [cmW_5 (by omega)]; (repeat' split) <;> omega
def SF (S d U : St) : Prop := Same [118, 120, 121, 124, 125] S U ∧ (∀ i, i ≠ 13 → U 118 i = S 118 i) ∧ U 118 13 = d 0 3 ∧ ∀ j, 0 ≤ j → j < 6 → U 120 j = d 1 j ∧ U 121 j = d 2 j
theorem SF.up5 {S d U : St} {i v : Int} (h : SF S d U) : SF S d (up U 125 i v) := ⟨same_up h.1 (by decide), h.2.1, h.2.2.1, h.2.2.2⟩
theorem SF.cm {S d U : St} {p k m a w : Int} (h : SF S d U) : SF S d (cmW U p k m a w) := by
  refine ⟨?_, ?_, ?_, ?_⟩
  · unfold cmW
    exact same_up (same_up (same_up (same_up (same_up h.1 (by decide)) (by decide)) (by decide)) (by decide)) (by decide)
  · rw [cmW_c (by decide) (by decide)]; exact h.2.1
  · rw [cmW_c (by decide) (by decide)]; exact h.2.2.1
  · rw [cmW_c (by decide) (by decide), cmW_c (by decide) (by decide)]; exact h.2.2.2
/-- the model's rows as the draft d tells them -/
def TldM (d T : St) : Prop := T 118 13 = d 0 3 ∧ (∀ k, 0 ≤ k → k < 6 → T 120 k = d 1 k ∧ T 121 k = d 2 k) ∧ T 125 0 = 0 ∧ T 125 1 = bp (d 0 3) (d 0 4) + d 0 5 ∧ T 125 2 = d 0 4 ∧ (∀ s, 0 ≤ s → s < d 0 4 → T 125 (135 + s) = d 3 s) ∧ TlM (d 0 3) T (d 0 4) 0 ∧ SpM d T (d 0 3) (d 0 4) (d 0 5) ∧ T 118 22 = 0 ∧ T 118 25 = 0 ∧ T 118 3 = 0 ∧ T 127 0 = 0 ∧ T 127 1 = 0
set_option maxRecDepth 100000 in
set_option maxHeartbeats 4000000 in
theorem t_X8_settles (S d : St) (hd : MRe S d) (hD : DIe d) : EX mX8_settles [.ref 118] S (fun r S' => TldM d S' ∧ Same [118, 120, 121, 124, 125, 127] S S' ∧ S' 118 0 = S 118 0 ∧ S' 118 1 = S 118 1) := by
  suffices hh : ∀ P : Int → St → Prop, (∀ r S', (TldM d S' ∧ Same [118, 120, 121, 124, 125, 127] S S' ∧ S' 118 0 = S 118 0 ∧ S' 118 1 = S 118 1) → P r S') → EX mX8_settles [.ref 118] S P from hh _ (fun _ _ h => h)
  intro P hP
  refine EX.of (L := [(0, .ref 118)]) rfl rfl (Nat.le_of_ble_eq_true rfl) rfl ?_
  obtain ⟨b1, b2, b3, b4, b5, b6, b7, b8, b9, b10, b11⟩ := hd
  obtain ⟨c1, c2, c3, c4, c5, c6, c7⟩ := hD
  have hq4 := bp_24 (n := d 0 3) (s := d 0 4) (by omega) (by omega) (by omega) (by omega)
  have hq0 := bp_nn (n := d 0 3) (s := d 0 4) (by omega) (by omega)
  refine j_aload_n dX8_settles_0 rfl ?_
  refine j_aload_n dX8_settles_1 rfl ?_
  refine j_getI (x := d 0 3) dX8_settles_2 fg_X8_117 fq_118_14 b3 (fun hi2 => ?_)
  refine j_putI (i := 13) dX8_settles_5 fg_X8_59 ft_8_13 fq_118_13 rfl (by omega) ?_
  refine j_iconst dX8_settles_8 ?_
  refine j_istore_n (L' := [(0, .ref 118), (1, vi 0)]) dX8_settles_9 (Nat.le_of_ble_eq_true rfl) rfl ?_
  have lp10 : ∀ (n : Nat) (k : Int) (T : St), (6 - k).toNat < n → ((0 ≤ k ∧ k ≤ 6) ∧ Same [118, 120, 121] S T ∧ (∀ i, i ≠ 13 → T 118 i = S 118 i) ∧ T 118 13 = d 0 3 ∧ (∀ j, 0 ≤ j → j < k → T 120 j = d 1 j ∧ T 121 j = d 2 j) ∧ ∀ j, 6 ≤ j → T 120 j = S 120 j ∧ T 121 j = S 121 j) → JJ mX8_settles (RX mX8_settles P) 10 [(0, .ref 118), (1, vi k)] [] T := by
    intro n
    induction n with
    | zero => intro k T hm; exact absurd hm (Nat.not_lt_zero _)
    | succ n ih10 =>
      intro k T hm10 hv10
      obtain ⟨hv1, hv2, hv3, hv4, hv5, hv6⟩ := hv10
      refine j_iload_n dX8_settles_10 rfl ?_
      refine j_bipush dX8_settles_11 (by decide) ?_
      refine j_icmp_ge (tgt := 52) dX8_settles_13 (by decide) (by omega) (by omega) (fun h13 => ?_) (fun h13 => ?_)
      · refine j_aload_n dX8_settles_52 rfl ?_
        refine j_getR dX8_settles_53 fg_X8_28 fq_118_18 ?_
        refine j_iconst dX8_settles_56 ?_
        refine j_iconst dX8_settles_57 ?_
        refine j_iast dX8_settles_58 aq_125 (by omega) (by omega) (by omega) ?_
        refine j_aload_n dX8_settles_59 rfl ?_
        refine j_getR dX8_settles_60 fg_X8_28 fq_118_18 ?_
        refine j_iconst dX8_settles_63 ?_
        refine j_iconst dX8_settles_64 ?_
        refine j_iast dX8_settles_65 aq_125 (by omega) (by omega) (by omega) ?_
        refine j_aload_n dX8_settles_66 rfl ?_
        refine j_getR dX8_settles_67 fg_X8_28 fq_118_18 ?_
        refine j_iconst dX8_settles_70 ?_
        refine j_aload_n dX8_settles_71 rfl ?_
        refine j_getI (x := d 0 4) dX8_settles_72 fg_X8_107 fq_118_15 (by show T 118 15 = _; rw [hv3 15 (by decide)]; exact b4) (fun hi72 => ?_)
        refine j_iast dX8_settles_75 aq_125 (by omega) (by omega) (by omega) ?_
        refine j_iconst dX8_settles_76 ?_
        refine j_istore_n (L' := [(0, .ref 118), (1, vi 0)]) dX8_settles_77 (Nat.le_of_ble_eq_true rfl) rfl ?_
        have lp78 : ∀ (n : Nat) (i : Int) (U : St), (d 0 4 - i).toNat < n → ((0 ≤ i ∧ i ≤ d 0 4) ∧ SF S d U ∧ U 125 0 = 0 ∧ U 125 2 = d 0 4 ∧ U 125 1 = bp (d 0 3) i ∧ (∀ s, 0 ≤ s → s < i → U 125 (135 + s) = d 3 s) ∧ TlM (d 0 3) U i 0) → JJ mX8_settles (RX mX8_settles P) 78 [(0, .ref 118), (1, vi i)] [] U := by
          intro n
          induction n with
          | zero => intro i U hm; exact absurd hm (Nat.not_lt_zero _)
          | succ n ih78 =>
            intro i U hm78 hv78
            obtain ⟨hu1, hu2, hu3, hu4, hu5, hu6, hu7⟩ := hv78
            refine j_iload_n dX8_settles_78 rfl ?_
            refine j_aload_n dX8_settles_79 rfl ?_
            refine j_getI (x := d 0 4) dX8_settles_80 fg_X8_107 fq_118_15 ((hu2.2.1 15 (by decide)).trans b4) (fun hi80 => ?_)
            refine j_icmp_ge (tgt := 148) dX8_settles_83 (by decide) (by omega) (by omega) (fun h83 => ?_) (fun h83 => ?_)
            · have him : i = d 0 4 := by omega
              refine j_iconst dX8_settles_148 ?_
              refine j_istore_n (L' := [(0, .ref 118), (1, vi 0)]) dX8_settles_149 (Nat.le_of_ble_eq_true rfl) rfl ?_
              have lp150 : ∀ (n : Nat) (e : Int) (Y : St), (d 0 5 - e).toNat < n → ((0 ≤ e ∧ e ≤ d 0 5) ∧ SF S d Y ∧ Y 125 0 = 0 ∧ Y 125 2 = d 0 4 ∧ Y 125 1 = bp (d 0 3) (d 0 4) + e ∧ (∀ s, 0 ≤ s → s < d 0 4 → Y 125 (135 + s) = d 3 s) ∧ TlM (d 0 3) Y (d 0 4) 0 ∧ SpM d Y (d 0 3) (d 0 4) e) → JJ mX8_settles (RX mX8_settles P) 150 [(0, .ref 118), (1, vi e)] [] Y := by
                intro n
                induction n with
                | zero => intro e Y hm; exact absurd hm (Nat.not_lt_zero _)
                | succ n ih150 =>
                  intro e Y hm150 hv150
                  obtain ⟨hy1, hy2, hy3, hy4, hy5, hy6, hy7, hy8⟩ := hv150
                  refine j_iload_n dX8_settles_150 rfl ?_
                  refine j_aload_n dX8_settles_151 rfl ?_
                  refine j_getI (x := d 0 5) dX8_settles_152 fg_X8_110 fq_118_16 ((hy2.2.1 16 (by decide)).trans b5) (fun hi152 => ?_)
                  refine j_icmp_ge (tgt := 200) dX8_settles_155 (by decide) (by omega) (by omega) (fun h155 => ?_) (fun h155 => ?_)
                  · refine j_aload_n dX8_settles_200 rfl ?_
                    refine j_iconst dX8_settles_201 ?_
                    refine j_putI (i := 3) dX8_settles_202 fg_X8_70 ft_8_3 fq_118_3 rfl (by omega) ?_
                    refine j_aload_n dX8_settles_205 rfl ?_
                    refine j_iconst dX8_settles_206 ?_
                    refine j_putI (i := 22) dX8_settles_207 fg_X8_137 ft_8_22 fq_118_22 rfl (by omega) ?_
                    refine j_aload_n dX8_settles_210 rfl ?_
                    refine j_iconst dX8_settles_211 ?_
                    refine j_putI (i := 25) dX8_settles_212 fg_X8_140 ft_8_25 fq_118_25 rfl (by omega) ?_
                    refine j_aload_n dX8_settles_215 rfl ?_
                    refine j_getR dX8_settles_216 fg_X8_34 fq_118_20 ?_
                    refine j_iconst dX8_settles_219 ?_
                    refine j_iconst dX8_settles_220 ?_
                    refine j_zast dX8_settles_221 aq_127 (by omega) (by omega) (Or.inl rfl) ?_
                    refine j_aload_n dX8_settles_222 rfl ?_
                    refine j_getR dX8_settles_223 fg_X8_34 fq_118_20 ?_
                    refine j_iconst dX8_settles_226 ?_
                    refine j_iconst dX8_settles_227 ?_
                    refine j_zast dX8_settles_228 aq_127 (by omega) (by omega) (Or.inl rfl) ?_
                    exact j_vret rfl dX8_settles_229 (fun h => by cases h) (hP _ _ ⟨⟨hy2.2.2.1, hy2.2.2.2, hy3, by have := hy5; show Y 125 1 = _; omega, hy4, hy6, hy7, by rw [show d 0 5 = e by omega]; exact hy8, rfl, rfl, rfl, rfl, rfl⟩, same_up (same_up (same_up (same_up (same_up (hy2.1.mono (by decide)) (by decide)) (by decide)) (by decide)) (by decide)) (by decide), hy2.2.1 0 (by decide), hy2.2.1 1 (by decide)⟩)
                  · have hse := b11 e (by omega) (by omega)
                    have hce := c7 e (by omega) (by omega)
                    refine j_bipush dX8_settles_158 (by decide) ?_
                    refine j_iconst dX8_settles_160 ?_
                    refine j_iload_n dX8_settles_161 rfl ?_
                    refine j_imul dX8_settles_162 ?_
                    refine j_iadd dX8_settles_163 ?_
                    refine j_istore_n (L' := [(0, .ref 118), (1, vi e), (2, vi (18 + (3 * e)))]) dX8_settles_164 (Nat.le_of_ble_eq_true rfl) rfl ?_
                    refine j_aload_n dX8_settles_165 rfl ?_
                    refine j_aload_n dX8_settles_166 rfl ?_
                    refine j_getR dX8_settles_167 fg_X8_22 fq_118_12 ?_
                    refine j_iload_n dX8_settles_170 rfl ?_
                    refine j_iald (x := d 4 e) dX8_settles_171 aq_123 (by omega) (by omega) (by rw [hy2.1 123 (by decide)]; exact hse.1) (fun hi171 => ?_)
                    refine j_aload_n dX8_settles_172 rfl ?_
                    refine j_getR dX8_settles_173 fg_X8_22 fq_118_12 ?_
                    refine j_iload_n dX8_settles_176 rfl ?_
                    refine j_iconst dX8_settles_177 ?_
                    refine j_iadd dX8_settles_178 ?_
                    refine j_iald (x := d 5 e) dX8_settles_179 aq_123 (by omega) (by omega) (by rw [hy2.1 123 (by decide)]; exact hse.2.1) (fun hi179 => ?_)
                    refine j_aload_n dX8_settles_180 rfl ?_
                    refine j_getR dX8_settles_181 fg_X8_22 fq_118_12 ?_
                    refine j_iload_n dX8_settles_184 rfl ?_
                    refine j_iconst dX8_settles_185 ?_
                    refine j_iadd dX8_settles_186 ?_
                    refine j_iald (x := d 6 e) dX8_settles_187 aq_123 (by omega) (by omega) (by rw [hy2.1 123 (by decide)]; exact hse.2.2) (fun hi187 => ?_)
                    refine j_bipush dX8_settles_188 (by decide) ?_
                    refine j_callVi (As := [vi (d 4 e), vi (d 5 e), vi (d 6 e), vi 8]) (rest := []) (t_X8_comes _ (d 4 e) (d 5 e) (d 6 e) 8 (by omega) (by omega) (by omega) (by omega) (by omega) (by omega)) rfl cm_X8_comes ci_X8_comes ml_X8_133 oq_118 rfl (Nat.le_of_ble_eq_true rfl) (Nat.le_of_ble_eq_true rfl) dX8_settles_190 (fun r190 S190 hp190 => ?_)
                    obtain ⟨hr190, he190⟩ := hp190
                    rw [hy5] at hr190
                    have he : S190 = cmW Y (bp (d 0 3) (d 0 4) + e) (d 4 e) (d 5 e) (d 6 e) 8 := by rw [he190]; unfold cmS cmW; rw [hy5]
                    rw [hr190, he]
                    refine j_pop dX8_settles_193 rfl ?_
                    refine j_iinc (L' := [(0, .ref 118), (1, vi (e + 1)), (2, vi (18 + (3 * e)))]) dX8_settles_194 (Nat.le_of_ble_eq_true rfl) rfl rfl ?_
                    refine j_goto (tgt := 150) dX8_settles_197 (by decide) ?_
                    refine j_sub (L' := [(0, .ref 118), (1, vi (e + 1))]) (by simp) ?_
                    exact ih150 (e + 1) (cmW Y (bp (d 0 3) (d 0 4) + e) (d 4 e) (d 5 e) (d 6 e) 8) (by omega) ⟨by omega, hy2.cm, by rw [cmW_5 (by omega)]; (repeat' split) <;> omega, by rw [cmW_5 (by omega)]; (repeat' split) <;> omega, by rw [cmW_5 (by omega), if_pos rfl]; omega, fun s a b => by have := hy6 s a b; rw [cmW_5 (by omega)]; (repeat' split) <;> omega, hy7.sp (by omega) (by omega) (by omega) (by omega) (by omega), hy8.step (by omega) (by omega)⟩
              exact lp150 _ 0 U (Nat.lt_succ_self _) ⟨by omega, hu2, hu3, hu4, by rw [hu5, him]; omega, by rw [him] at hu6; exact hu6, by rw [him] at hu7; exact hu7, fun j a b => by omega⟩
            · have hb1 := bp_nn (n := d 0 3) (s := i) (by omega) (by omega)
              have hb2 := bp_24 (n := d 0 3) (s := i) (by omega) (by omega) (by omega) (by omega)
              have hb3 := bp_mono (n := d 0 3) (s := i) (i := 4) (by omega) (by omega)
              have hb4 := bp_24 (n := d 0 3) (s := 4) (by omega) (by omega) (by omega) (by omega)
              have ho := c6 i (by omega) (by omega)
              refine j_aload_n dX8_settles_86 rfl ?_
              refine j_getR dX8_settles_87 fg_X8_28 fq_118_18 ?_
              refine j_sipush dX8_settles_90 (by decide) ?_
              refine j_iload_n dX8_settles_93 rfl ?_
              refine j_iadd dX8_settles_94 ?_
              refine j_aload_n dX8_settles_95 rfl ?_
              refine j_getR dX8_settles_96 fg_X8_19 fq_118_11 ?_
              refine j_iconst dX8_settles_99 ?_
              refine j_iload_n dX8_settles_100 rfl ?_
              refine j_iadd dX8_settles_101 ?_
              refine j_iald (x := d 3 i) dX8_settles_102 aq_122 (by omega) (by omega) (by rw [hu2.1 122 (by decide)]; exact b10 i (by omega) (by omega)) (fun hi102 => ?_)
              refine j_iast dX8_settles_103 aq_125 (by omega) (by omega) (by omega) ?_
              refine j_iconst dX8_settles_104 ?_
              refine j_istore_n (L' := [(0, .ref 118), (1, vi i), (2, vi 0)]) dX8_settles_105 (Nat.le_of_ble_eq_true rfl) rfl ?_
              have lp106 : ∀ (n : Nat) (k : Int) (V : St), (d 0 3 - k).toNat < n → ((0 ≤ k ∧ k ≤ d 0 3) ∧ SF S d V ∧ V 125 0 = 0 ∧ V 125 2 = d 0 4 ∧ V 125 1 = bp (d 0 3) i + k ∧ (∀ s, 0 ≤ s → s < (i + 1) → V 125 (135 + s) = d 3 s) ∧ TlM (d 0 3) V i k) → JJ mX8_settles (RX mX8_settles P) 106 [(0, .ref 118), (1, vi i), (2, vi k)] [] V := by
                intro n
                induction n with
                | zero => intro k V hm; exact absurd hm (Nat.not_lt_zero _)
                | succ n ih106 =>
                  intro k V hm106 hv106
                  obtain ⟨hw1, hw2, hw3, hw4, hw5, hw6, hw7⟩ := hv106
                  refine j_iload_n dX8_settles_106 rfl ?_
                  refine j_aload_n dX8_settles_107 rfl ?_
                  refine j_getI (x := d 0 3) dX8_settles_108 fg_X8_59 fq_118_13 hw2.2.2.1 (fun hi108 => ?_)
                  refine j_icmp_ge (tgt := 142) dX8_settles_111 (by decide) (by omega) (by omega) (fun h111 => ?_) (fun h111 => ?_)
                  · have hke : k = d 0 3 := by omega
                    refine j_iinc (L' := [(0, .ref 118), (1, vi (i + 1)), (2, vi k)]) dX8_settles_142 (Nat.le_of_ble_eq_true rfl) rfl rfl ?_
                    refine j_goto (tgt := 78) dX8_settles_145 (by decide) ?_
                    refine j_sub (L' := [(0, .ref 118), (1, vi (i + 1))]) (by simp) ?_
                    exact ih78 (i + 1) V (by omega) ⟨by omega, hw2, hw3, hw4, by rw [bp_s]; omega, hw6, by rw [hke] at hw7; exact hw7.next⟩
                  · refine j_aload_n dX8_settles_114 rfl ?_
                    refine j_getR dX8_settles_115 fg_X8_28 fq_118_18 ?_
                    refine j_bipush dX8_settles_118 (by decide) ?_
                    refine j_bipush dX8_settles_120 (by decide) ?_
                    refine j_iload_n dX8_settles_122 rfl ?_
                    refine j_imul dX8_settles_123 ?_
                    refine j_iadd dX8_settles_124 ?_
                    refine j_iload_n dX8_settles_125 rfl ?_
                    refine j_iadd dX8_settles_126 ?_
                    refine j_aload_n dX8_settles_127 rfl ?_
                    refine j_iload_n dX8_settles_128 rfl ?_
                    refine j_iload_n dX8_settles_129 rfl ?_
                    refine j_iconst dX8_settles_130 ?_
                    refine j_iload_n dX8_settles_131 rfl ?_
                    refine j_callVi (As := [vi k, vi i, vi 0, vi i]) (rest := [vi ((99 + (6 * i)) + k), .ref 125]) (t_X8_comes _ k i 0 i (by omega) (by omega) (by omega) (by omega) (by omega) (by omega)) rfl cm_X8_comes ci_X8_comes ml_X8_133 oq_118 rfl (Nat.le_of_ble_eq_true rfl) (Nat.le_of_ble_eq_true rfl) dX8_settles_132 (fun r132 S132 hp132 => ?_)
                    obtain ⟨hr132, he132⟩ := hp132
                    rw [hw5] at hr132
                    have he : S132 = cmW V (bp (d 0 3) i + k) k i 0 i := by rw [he132]; unfold cmS cmW; rw [hw5]
                    rw [hr132, he]
                    refine j_iast dX8_settles_135 aq_125 (by omega) (by omega) (by omega) ?_
                    refine j_iinc (L' := [(0, .ref 118), (1, vi i), (2, vi (k + 1))]) dX8_settles_136 (Nat.le_of_ble_eq_true rfl) rfl rfl ?_
                    refine j_goto (tgt := 106) dX8_settles_139 (by decide) ?_
                    exact ih106 (k + 1) (up (cmW V (bp (d 0 3) i + k) k i 0 i) 125 ((99 + (6 * i)) + k) (bp (d 0 3) i + k)) (by omega) ⟨by omega, hw2.cm.up5, by rw [up_i (by omega), cmW_5 (by omega)]; (repeat' split) <;> omega, by rw [up_i (by omega), cmW_5 (by omega)]; (repeat' split) <;> omega, by rw [up_i (by omega), cmW_5 (by omega), if_pos rfl]; omega, fun s a b => by have := hw6 s a b; rw [up_i (by omega), cmW_5 (by omega)]; (repeat' split) <;> omega, hw7.step (by omega) (by omega) (by omega) (by omega) (by omega) (by omega) (by omega)⟩
              exact lp106 _ 0 (up U 125 (135 + i) (d 3 i)) (Nat.lt_succ_self _) ⟨by omega, hu2.up5, by rw [up_i (by omega)]; exact hu3, by rw [up_i (by omega)]; exact hu4, by rw [up_i (by omega)]; omega, fun s a b => if e : s = i then by rw [e, up_s] else by rw [up_i (by omega)]; exact hu6 s a (by omega), hu7.own (by omega) (by omega) (by omega) (by omega) (by omega)⟩
        exact lp78 _ 0 (up (up (up T 125 0 0) 125 1 0) 125 2 (d 0 4)) (Nat.lt_succ_self _) ⟨by omega, ⟨same_up (same_up (same_up (hv2.mono (by decide)) (by decide)) (by decide)) (by decide), hv3, hv4, fun j a b => hv5 j a (by omega)⟩, rfl, up_s _ _ _ _, (bp_0 _).symm, fun s a b => by omega, fun s j a b c e => by omega⟩
      · have hw := c5 k (by omega) (by omega)
        refine j_aload_n dX8_settles_16 rfl ?_
        refine j_getR dX8_settles_17 fg_X8_13 fq_118_9 ?_
        refine j_iload_n dX8_settles_20 rfl ?_
        refine j_aload_n dX8_settles_21 rfl ?_
        refine j_getR dX8_settles_22 fg_X8_13 fq_118_9 ?_
        refine j_bipush dX8_settles_25 (by decide) ?_
        refine j_iload_n dX8_settles_27 rfl ?_
        refine j_iadd dX8_settles_28 ?_
        refine j_iald (x := d 1 k) dX8_settles_29 aq_120 (by omega) (by omega) ((hv6 (6 + k) (by omega)).1.trans (b9 k (by omega) (by omega)).1) (fun hi29 => ?_)
        refine j_iast dX8_settles_30 aq_120 (by omega) (by omega) (by omega) ?_
        refine j_aload_n dX8_settles_31 rfl ?_
        refine j_getR dX8_settles_32 fg_X8_16 fq_118_10 ?_
        refine j_iload_n dX8_settles_35 rfl ?_
        refine j_aload_n dX8_settles_36 rfl ?_
        refine j_getR dX8_settles_37 fg_X8_16 fq_118_10 ?_
        refine j_bipush dX8_settles_40 (by decide) ?_
        refine j_iload_n dX8_settles_42 rfl ?_
        refine j_iadd dX8_settles_43 ?_
        refine j_iald (x := d 2 k) dX8_settles_44 aq_121 (by omega) (by omega) (((congrFun (up_row (by decide)) _).trans (hv6 (6 + k) (by omega)).2).trans (b9 k (by omega) (by omega)).2) (fun hi44 => ?_)
        refine j_iast dX8_settles_45 aq_121 (by omega) (by omega) (by omega) ?_
        refine j_iinc (L' := [(0, .ref 118), (1, vi (k + 1))]) dX8_settles_46 (Nat.le_of_ble_eq_true rfl) rfl rfl ?_
        refine j_goto (tgt := 10) dX8_settles_49 (by decide) ?_
        exact ih10 (k + 1) (up (up T 120 k (d 1 k)) 121 k (d 2 k)) (by omega) ⟨by omega, same_up (same_up hv2 (by decide)) (by decide), hv3, hv4, fun j a b => if e : j = k then by rw [e, up_c (by decide), up_s, up_s]; exact ⟨rfl, rfl⟩ else by rw [up_c (by decide), up_i e, up_i e, up_c (by decide)]; exact hv5 j a (by omega), fun j a => by rw [up_c (by decide), up_i (by omega), up_i (by omega), up_c (by decide)]; exact hv6 j a⟩
  exact lp10 _ 0 (up S 118 13 (d 0 3)) (Nat.lt_succ_self _) ⟨by omega, same_up Same.rf (by decide), fun i a => up_i a, up_s _ _ _ _, fun j a b => by omega, fun j a => ⟨rfl, rfl⟩⟩
def PrI (S U d : St) (n : Nat) (it : Int) : Prop := MR U d ∧ MF S U ∧ DI (S 118 3) d ∧ (d 0 1 = -1 → it = d 0 2 ∧ (0 ≤ it ∧ it ≤ d 0 0) ∧ S 118 3 - d 0 0 ≤ n) ∧ prs (S 119) (S 118 3) n d = prs (S 119) (S 118 3) (S 118 3).toNat d0S
def msP (t f p : Int) : Nat := if f < 0 then (t + 1 - p).toNat else 0
def mayBg (S : St) (k : Int) : Prop := (S 118 7 = 110 ∧ k = 0) ∨ (S 118 7 = 115 ∧ S 118 15 < 4) ∨ (S 118 7 = 121 ∧ S 118 16 < 6) ∨ (S 118 7 ≠ 110 ∧ S 118 7 ≠ 115 ∧ S 118 7 ≠ 121)
theorem mTok_0 {k : Int} : mTok k = 0 ↔ k = -1 := by
  unfold mTok
  constructor
  · intro h
    (repeat' split at h) <;> omega
  · intro h
    rw [h]
    rfl
theorem mTok_3 {k : Int} : mTok k = 3 ↔ k = 59 := by
  unfold mTok
  constructor
  · intro h
    (repeat' split at h) <;> omega
  · intro h
    rw [h]
    rfl
theorem mTok_1 {k : Int} : mTok k = 1 ↔ (k = 110 ∨ k = 119 ∨ k = 108 ∨ k = 115 ∨ k = 121) := by
  unfold mTok
  constructor
  · intro h
    (repeat' split at h) <;> omega
  · intro h
    (repeat' split) <;> omega
theorem itB_no {x : Int → Int} {t : Int} {d : St} (hw : d 0 1 = -1) (hs : 0 ≤ kTs x t (d 0 0)) (hno : ¬ ((kTk x t (d 0 0) = 110 ∧ d 0 2 ≤ 0) ∨ kTk x t (d 0 0) = 119 ∨ kTk x t (d 0 0) = 108 ∨ (kTk x t (d 0 0) = 115 ∧ d 0 4 < 4) ∨ (kTk x t (d 0 0) = 121 ∧ d 0 5 < 6))) : itB x t d 0 1 = kTs x t (d 0 0) := by
  have hw1 : up d 0 0 (kTe x t (d 0 0)) 0 1 = -1 := hw
  unfold itB
  try simp only []
  by_cases h1 : kTk x t (d 0 0) = 110
  · rw [if_pos h1]
    unfold itN
    try simp only []
    have e : 0 < up d 0 0 (kTe x t (d 0 0)) 0 2 := by show 0 < d 0 2; omega
    rw [if_pos e, up_i (by decide), numD_f (by rw [refD_v hw1]; omega), refD_v hw1]
  · rw [if_neg h1, if_neg (by omega), if_neg (by omega)]
    by_cases h4 : kTk x t (d 0 0) = 115
    · rw [if_pos h4]
      unfold itS
      have e : 4 ≤ up d 0 0 (kTe x t (d 0 0)) 0 4 := by show 4 ≤ d 0 4; omega
      rw [if_pos e, refD_v hw1]
    · rw [if_neg h4]
      by_cases h5 : kTk x t (d 0 0) = 121
      · rw [if_pos h5]
        unfold itY
        have e : 6 ≤ up d 0 0 (kTe x t (d 0 0)) 0 5 := by show 6 ≤ d 0 5; omega
        rw [if_pos e, refD_v hw1]
      · rw [if_neg h5, refD_v hw1]
theorem itB_yes {x : Int → Int} {t : Int} {d : St} (hy : (kTk x t (d 0 0) = 110 ∧ d 0 2 ≤ 0) ∨ kTk x t (d 0 0) = 119 ∨ kTk x t (d 0 0) = 108 ∨ (kTk x t (d 0 0) = 115 ∧ d 0 4 < 4) ∨ (kTk x t (d 0 0) = 121 ∧ d 0 5 < 6)) : itB x t d = itR x t (kTk x t (d 0 0)) (up d 0 0 (kTe x t (d 0 0))) := by
  unfold itB itR
  try simp only []
  by_cases h1 : kTk x t (d 0 0) = 110
  · rw [if_pos h1, if_pos h1]
    unfold itN
    try simp only []
    have e : ¬ 0 < up d 0 0 (kTe x t (d 0 0)) 0 2 := by show ¬ 0 < d 0 2; omega
    rw [if_neg e]
  · rw [if_neg h1, if_neg h1]
    by_cases h2 : kTk x t (d 0 0) = 119
    · rw [if_pos h2, if_pos h2]
    · rw [if_neg h2, if_neg h2]
      by_cases h3 : kTk x t (d 0 0) = 108
      · rw [if_pos h3, if_pos h3]
      · rw [if_neg h3, if_neg h3]
        by_cases h4 : kTk x t (d 0 0) = 115
        · rw [if_pos h4, if_pos h4]
          unfold itS
          have e : ¬ 4 ≤ up d 0 0 (kTe x t (d 0 0)) 0 4 := by show ¬ 4 ≤ d 0 4; omega
          rw [if_neg e]
        · rw [if_neg h4, if_neg h4, if_pos (by omega)]
          unfold itY
          have e : ¬ 6 ≤ up d 0 0 (kTe x t (d 0 0)) 0 5 := by show ¬ 6 ≤ d 0 5; omega
          rw [if_neg e]
theorem may_iff {U d : St} {it : Int} (he : MRe U d) (hit : it = d 0 2) (h0 : 0 ≤ it) : (U 118 5 = 1 ∧ mayBg U it) ↔ ((kTk (U 119) (U 118 3) (d 0 0) = 110 ∧ d 0 2 ≤ 0) ∨ kTk (U 119) (U 118 3) (d 0 0) = 119 ∨ kTk (U 119) (U 118 3) (d 0 0) = 108 ∨ (kTk (U 119) (U 118 3) (d 0 0) = 115 ∧ d 0 4 < 4) ∨ (kTk (U 119) (U 118 3) (d 0 0) = 121 ∧ d 0 5 < 6)) := by
  obtain ⟨b1, ⟨_, _, b2, _, b3⟩, _, b4, b5, _⟩ := he
  unfold mayBg
  rw [b4, b5, b2, mTok_1]
  constructor
  · intro ⟨h1, h2⟩
    have h7 := b3 (by omega)
    omega
  · intro h
    have h7 := b3 (by omega)
    omega
theorem port_no {U S' d : St} {r it : Int} (hR : MR U d) (hw : d 0 1 = -1) (hit : it = d 0 2) (h0 : 0 ≤ it) (hno : ¬ (U 118 5 = 1 ∧ mayBg U it)) (h : TkP U 0 r S') : NF U S' ∧ MR S' (itB (U 119) (U 118 3) d) ∧ 0 ≤ S' 118 8 ∧ r = 0 := by
  obtain ⟨hf, hc⟩ := tk_R hR h
  have he := hR.2.2.2 hw
  rw [may_iff he hit h0] at hno
  have hs := kTs_bd (x := U 119) (t := U 118 3) (p := d 0 0) he.1.2
  have h1 := he.1.1
  rcases hc with ⟨z, _⟩ | ⟨_, _, z3, z4⟩ | ⟨_, z, _⟩
  · exact absurd hw z
  · have e := itB_no (x := U 119) (t := U 118 3) hw (by omega) hno
    refine ⟨hf, z4.flt (by rw [up_s]; omega) (by rw [up_s]; exact e), ?_, z3⟩
    rw [z4.2.1, up_s]
    omega
  · omega
theorem port_yes {U S' d : St} {r it : Int} (hR : MR U d) (hw : d 0 1 = -1) (hit : it = d 0 2) (h0 : 0 ≤ it) (hy : U 118 5 = 1 ∧ mayBg U it) (h : TkP U 1 r S') : NF U S' ∧ MR S' (up d 0 0 (kTe (U 119) (U 118 3) (d 0 0))) ∧ (r = 110 ∨ r = 119 ∨ r = 108 ∨ (r = 115 ∧ d 0 4 < 4) ∨ (r = 121 ∧ d 0 5 < 6)) ∧ itB (U 119) (U 118 3) d = itR (U 119) (U 118 3) r (up d 0 0 (kTe (U 119) (U 118 3) (d 0 0))) ∧ S' 118 8 < 0 := by
  obtain ⟨hf, hc⟩ := tk_R hR h
  have he := hR.2.2.2 hw
  rw [may_iff he hit h0] at hy
  rcases hc with ⟨z, _⟩ | ⟨_, z, _⟩ | ⟨_, _, z3, z4⟩
  · exact absurd hw z
  · omega
  · have e7 := he.2.1.2.2.2.2 (by omega)
    rw [e7] at z3
    refine ⟨hf, z4, by rw [z3]; omega, by rw [z3]; exact itB_yes hy, ?_⟩
    rw [z4.2.1]
    show d 0 1 < 0
    omega
theorem port_end {B S' D : St} {b r : Int} (hR : MR B D) (hb : (b = 1 ∧ B 118 5 = 3) ∨ (b = 0 ∧ B 118 5 ≠ 3)) (h : TkP B b r S') : NF B S' ∧ MR S' (itE (B 119) (B 118 3) D) := by
  obtain ⟨hf, hc⟩ := tk_R hR h
  refine ⟨hf, ?_⟩
  unfold itE
  rcases hc with ⟨h1, h2, h3⟩ | ⟨h1, h2, h3, h4⟩ | ⟨h1, h2, h3, h4⟩
  · rw [if_neg h1]; exact h3
  · have e5 := (hR.2.2.2 h1).2.1.2.2.1
    rw [if_pos h1, if_neg (fun z => by rw [z] at e5; have : mTok 59 = 3 := rfl; omega)]
    exact h4
  · have e5 := (hR.2.2.2 h1).2.1.2.2.1
    have e : kTk (B 119) (B 118 3) (D 0 0) = 59 := mTok_3.mp (by rw [← e5]; omega)
    rw [if_pos h1, if_pos e]
    exact h4
theorem PrI.step {S U V d : St} {n : Nat} {it : Int} (h : PrI S U d n it) (hw : d 0 1 = -1) (hk : kTk (S 119) (S 118 3) (d 0 0) ≠ -1) (hR : MR V (itE (S 119) (S 118 3) (itB (S 119) (S 118 3) d))) (hM : MF U V) : PrI S V (itE (S 119) (S 118 3) (itB (S 119) (S 118 3) d)) (n - 1) (it + 1) := by
  obtain ⟨a1, a2, a3, a4, a5⟩ := h
  obtain ⟨s1, s2, s3⟩ := a3.step hw hk
  obtain ⟨f1, f2, f3⟩ := a4 hw
  have hb := kTe_bd (x := S 119) (t := S 118 3) (p := d 0 0) a3.1.2
  have hb2 := hb.2.2 hk
  refine ⟨hR, a2.tr hM, s1, fun z => ?_, ?_⟩
  · have := s2 z
    omega
  · rw [← a5]
    have e : n = (n - 1) + 1 := by omega
    rw [show prs (S 119) (S 118 3) n d = prs (S 119) (S 118 3) ((n - 1) + 1) d by rw [← e]]
    show _ = @ite St _ (Classical.propDecidable _) _ _
    rw [if_pos ⟨hw, hk⟩]
theorem msP_lt {S U V d : St} {n m : Nat} {it : Int} (h : PrI S U d n it) (hw : d 0 1 = -1) (hk : kTk (S 119) (S 118 3) (d 0 0) ≠ -1) (hR : MR V (itE (S 119) (S 118 3) (itB (S 119) (S 118 3) d))) (hM : MF U V) (hm : msP (S 118 3) (U 118 8) (U 118 6) < m + 1) : msP (S 118 3) (V 118 8) (V 118 6) < m := by
  have h2 := h.step hw hk hR hM
  obtain ⟨a1, a2, a3, a4, a5⟩ := h
  have hb := kTe_bd (x := S 119) (t := S 118 3) (p := d 0 0) a3.1.2
  have hg := kTe_gt (x := S 119) (t := S 118 3) a3.1.2 hk
  have e6 : U 118 6 = kTs (S 119) (S 118 3) (d 0 0) := by
    have := (a1.2.2.2 hw).2.1.2.1
    rw [a2.x, a2.t] at this
    exact this
  have e8 : U 118 8 < 0 := by rw [a1.2.1]; omega
  unfold msP at hm ⊢
  rw [if_pos e8, e6] at hm
  split
  · rename_i z
    have zw : itE (S 119) (S 118 3) (itB (S 119) (S 118 3) d) 0 1 = -1 := by
      have := hR.2.1
      have := hR.2.2.1
      omega
    have f6 := (hR.2.2.2 zw).2.1.2.1
    rw [(a2.tr hM).x, (a2.tr hM).t] at f6
    have s3 := (a3.step hw hk).2.2
    have hp := (a3.step hw hk).1.1
    have := kTs_bd (x := S 119) (t := S 118 3) (p := itE (S 119) (S 118 3) (itB (S 119) (S 118 3) d) 0 0) hp.2
    omega
  · omega
theorem port_start {S T V : St} (hx : MTx S) (hM : MF S T) (h8 : T 118 8 = -1) (h4 : T 118 4 = 0) (h14 : T 118 14 = 3) (h15 : T 118 15 = 0) (h16 : T 118 16 = 0) (hW : ∀ j, 6 ≤ j → j < 12 → T 120 j = 1 ∧ T 121 j = 9) (hA : Adv T V) : PrI S V d0S (S 118 3).toNat 0 := by
  have hx2 := hx.1
  obtain ⟨a1, a2, a3⟩ := hA
  have hf : NF T V := ⟨a1, fun i x y z w _ => a2 i x y z w⟩
  have hV : MF S V := hM.tr hf.mf
  have e : ∀ i, i ≠ 4 → i ≠ 5 → i ≠ 6 → i ≠ 7 → V 118 i = T 118 i := a2
  rw [h4] at a3
  refine ⟨⟨hx.of hV.x hV.t, ?_, by decide, fun _ => ⟨?_, a3, ?_, ?_, ?_, by decide, by decide, by decide, fun i x y => ?_, fun i x y => ?_, fun i x y => ?_⟩⟩, hV, DI.z hx2.1, fun _ => ⟨rfl, by decide, ?_⟩, rfl⟩
  · rw [e 8 (by decide) (by decide) (by decide) (by decide), h8]; rfl
  · rw [hV.t]; exact ⟨by decide, hx2.1⟩
  · rw [e 14 (by decide) (by decide) (by decide) (by decide), h14]; rfl
  · rw [e 15 (by decide) (by decide) (by decide) (by decide), h15]; rfl
  · rw [e 16 (by decide) (by decide) (by decide) (by decide), h16]; rfl
  · rw [a1 120 (by decide), a1 121 (by decide)]; exact hW (6 + i) (by omega) (by omega)
  · have : i < 0 := y
    omega
  · have : i < 0 := y
    omega
  · show S 118 3 - 0 ≤ _
    omega
set_option maxRecDepth 100000 in
set_option maxHeartbeats 4000000 in
theorem t_X8_port (S : St) (hth : S 118 0 = 0) (hx : MTx S) : EX mX8_port [.ref 118] S (fun r S' => ((prs (S 119) (S 118 3) (S 118 3).toNat d0S) 0 1 ≠ -1 ∧ r = -10 - (prs (S 119) (S 118 3) (S 118 3).toNat d0S) 0 1 ∧ MF S S') ∨ ((prs (S 119) (S 118 3) (S 118 3).toNat d0S) 0 1 = -1 ∧ r = (prs (S 119) (S 118 3) (S 118 3).toNat d0S) 0 2 ∧ TldM (prs (S 119) (S 118 3) (S 118 3).toNat d0S) S' ∧ Same [118, 120, 121, 122, 123, 124, 125, 127] S S' ∧ S' 118 0 = S 118 0 ∧ S' 118 1 = S 118 1)) := by
  suffices hh : ∀ P : Int → St → Prop, (∀ r S', (((prs (S 119) (S 118 3) (S 118 3).toNat d0S) 0 1 ≠ -1 ∧ r = -10 - (prs (S 119) (S 118 3) (S 118 3).toNat d0S) 0 1 ∧ MF S S') ∨ ((prs (S 119) (S 118 3) (S 118 3).toNat d0S) 0 1 = -1 ∧ r = (prs (S 119) (S 118 3) (S 118 3).toNat d0S) 0 2 ∧ TldM (prs (S 119) (S 118 3) (S 118 3).toNat d0S) S' ∧ Same [118, 120, 121, 122, 123, 124, 125, 127] S S' ∧ S' 118 0 = S 118 0 ∧ S' 118 1 = S 118 1)) → P r S') → EX mX8_port [.ref 118] S P from hh _ (fun _ _ h => h)
  intro P hP
  refine EX.of (L := [(0, .ref 118)]) rfl rfl (Nat.le_of_ble_eq_true rfl) rfl ?_
  have ht := hx.1
  refine j_aload_n dX8_port_0 rfl ?_
  refine j_iconst dX8_port_1 ?_
  refine j_putI (i := 0) dX8_port_2 fg_X8_63 ft_8_0 fq_118_0 rfl (by omega) ?_
  rw [up_thr hth]
  refine j_aload_n dX8_port_5 rfl ?_
  refine j_iconst dX8_port_6 ?_
  refine j_putI (i := 8) dX8_port_7 fg_X8_93 ft_8_8 fq_118_8 rfl (by omega) ?_
  refine j_aload_n dX8_port_10 rfl ?_
  refine j_iconst dX8_port_11 ?_
  refine j_putI (i := 4) dX8_port_12 fg_X8_73 ft_8_4 fq_118_4 rfl (by omega) ?_
  refine j_iconst dX8_port_15 ?_
  refine j_istore_n (L' := [(0, .ref 118), (1, vi 0)]) dX8_port_16 (Nat.le_of_ble_eq_true rfl) rfl ?_
  refine j_aload_n dX8_port_17 rfl ?_
  refine j_iconst dX8_port_18 ?_
  refine j_putI (i := 14) dX8_port_19 fg_X8_117 ft_8_14 fq_118_14 rfl (by omega) ?_
  refine j_aload_n dX8_port_22 rfl ?_
  refine j_iconst dX8_port_23 ?_
  refine j_putI (i := 15) dX8_port_24 fg_X8_107 ft_8_15 fq_118_15 rfl (by omega) ?_
  refine j_aload_n dX8_port_27 rfl ?_
  refine j_iconst dX8_port_28 ?_
  refine j_putI (i := 16) dX8_port_29 fg_X8_110 ft_8_16 fq_118_16 rfl (by omega) ?_
  refine j_bipush dX8_port_32 (by decide) ?_
  refine j_istore_n (L' := [(0, .ref 118), (1, vi 0), (2, vi 6)]) dX8_port_34 (Nat.le_of_ble_eq_true rfl) rfl ?_
  have lp35 : ∀ (n : Nat) (k : Int) (T : St), (12 - k).toNat < n → ((6 ≤ k ∧ k ≤ 12) ∧ MF S T ∧ T 118 8 = -1 ∧ T 118 4 = 0 ∧ T 118 14 = 3 ∧ T 118 15 = 0 ∧ T 118 16 = 0 ∧ ∀ j, 6 ≤ j → j < k → T 120 j = 1 ∧ T 121 j = 9) → JJ mX8_port (RX mX8_port P) 35 [(0, .ref 118), (1, vi 0), (2, vi k)] [] T := by
    intro n
    induction n with
    | zero => intro k T hm; exact absurd hm (Nat.not_lt_zero _)
    | succ n ih35 =>
      intro k T hm35 hv35
      obtain ⟨hv1, hv2, hv3, hv4, hv5, hv6, hv7, hv8⟩ := hv35
      refine j_iload_n dX8_port_35 rfl ?_
      refine j_bipush dX8_port_36 (by decide) ?_
      refine j_icmp_ge (tgt := 62) dX8_port_38 (by decide) (by omega) (by omega) (fun h38 => ?_) (fun h38 => ?_)
      · refine j_aload_n dX8_port_62 rfl ?_
        refine j_callVv (As := []) (rest := []) (t_X8_advances _ (hx.of hv2.x hv2.t) (by omega) (by rw [hv2.t, hv4]; omega)) rfl cm_X8_advances ci_X8_advances ml_X8_100 oq_118 rfl (Nat.le_of_ble_eq_true rfl) (Nat.le_of_ble_eq_true rfl) dX8_port_63 (fun r63 S63 hp63 => ?_)
        have hst := port_start hx hv2 hv3 hv4 hv5 hv6 hv7 (fun j a b => hv8 j a (by omega)) hp63
        have lp66 : ∀ (n : Nat) (it : Int) (U : St), msP (S 118 3) (U 118 8) (U 118 6) < n → (∃ d n, PrI S U d n it) → JJ mX8_port (RX mX8_port P) 66 [(0, .ref 118), (1, vi it)] [] U := by
          intro n
          induction n with
          | zero => intro it U hm; exact absurd hm (Nat.not_lt_zero _)
          | succ n ih66 =>
            intro it U hm66 hv66
            obtain ⟨d, n, hI⟩ := hv66
            obtain ⟨hR, hMF, hDI, hit, hpr⟩ := id hI
            have hf8 := hR.2.1
            have hfb := hR.2.2.1
            refine j_aload_n dX8_port_66 rfl ?_
            refine j_callVi (As := []) (rest := []) (t_X8_isWell _) rfl cm_X8_isWell ci_X8_isWell ml_X8_96 oq_118 rfl (Nat.le_of_ble_eq_true rfl) (Nat.le_of_ble_eq_true rfl) dX8_port_67 (fun r67 S67 hp67 => ?_)
            obtain ⟨⟨rfl, hc67⟩ | ⟨rfl, hc67⟩, he67⟩ := hp67
            · rw [he67]
              refine j_if_eq (tgt := 142) dX8_port_70 (by decide) (by omega)  (fun h => absurd h (by decide)) (fun _ => ?_)
              have hw : d 0 1 = -1 := by omega
              have he := hR.2.2.2 hw
              have hk5 := he.2.1.2.2.1
              rw [hMF.x, hMF.t] at hk5
              obtain ⟨hit1, hit2, hit3⟩ := hit hw
              have hp0 := hDI.1
              refine j_aload_n dX8_port_73 rfl ?_
              refine j_getI (x := U 118 5) dX8_port_74 fg_X8_83 fq_118_5 rfl (fun hi74 => ?_)
              refine j_if_eq (tgt := 142) dX8_port_77 (by decide) (by omega)  (fun h77 => ?_) (fun h77 => ?_)
              · have hend : prs (S 119) (S 118 3) (S 118 3).toNat d0S = d := by rw [← hpr]; exact prs_end (fun z => z.2 (mTok_0.mp (by rw [← hk5]; exact h77)))
                refine j_aload_n dX8_port_142 rfl ?_
                refine j_callVi (As := []) (rest := []) (t_X8_isWell _) rfl cm_X8_isWell ci_X8_isWell ml_X8_96 oq_118 rfl (Nat.le_of_ble_eq_true rfl) (Nat.le_of_ble_eq_true rfl) dX8_port_143 (fun r143 S143 hp143 => ?_)
                obtain ⟨⟨rfl, hc143⟩ | ⟨rfl, hc143⟩, he143⟩ := hp143
                · rw [he143]
                  refine j_if_ne (tgt := 157) dX8_port_146 (by decide) (by omega)  (fun _ => ?_) (fun h => absurd h (by decide))
                  refine j_aload_n dX8_port_157 rfl ?_
                  refine j_callVv (As := []) (rest := []) (t_X8_settles _ d he (hDI.2 hw)) rfl cm_X8_settles ci_X8_settles ml_X8_130 oq_118 rfl (Nat.le_of_ble_eq_true rfl) (Nat.le_of_ble_eq_true rfl) dX8_port_158 (fun r158 S158 hp158 => ?_)
                  obtain ⟨hs1, hs2, hs3, hs4⟩ := hp158
                  refine j_iload_n dX8_port_161 rfl ?_
                  exact j_iret rfl dX8_port_162 (fun h => by cases h) (hP _ _ (Or.inr ⟨by rw [hend]; exact hw, by rw [hend]; exact hit1, by rw [hend]; exact hs1, (hMF.1.mono (by decide)).tr (hs2.mono (by decide)), hs3.trans (hMF.2.1 0 (Or.inl rfl)), hs4.trans (hMF.2.1 1 (Or.inr (Or.inl rfl)))⟩))
                · rw [he143]
                  refine j_if_ne (tgt := 157) dX8_port_146 (by decide) (by omega)  (fun h => absurd h (by decide)) (fun _ => ?_)
                  exfalso; omega
              · have hk : kTk (S 119) (S 118 3) (d 0 0) ≠ -1 := fun z => h77 (by rw [hk5, z]; rfl)
                refine j_aload_n dX8_port_80 rfl ?_
                refine j_aload_n dX8_port_81 rfl ?_
                refine j_getI (x := U 118 5) dX8_port_82 fg_X8_83 fq_118_5 rfl (fun hi82 => ?_)
                refine j_iconst dX8_port_85 ?_
                refine j_icmp_ne (tgt := 101) dX8_port_86 (by decide) (by omega) (by omega) (fun h86 => ?_) (fun h86 => ?_)
                · refine j_iconst dX8_port_101 ?_
                  refine j_callVi (As := [vi 0]) (rest := []) (t_X8_takes _ 0 (by decide) hR.1 hR.nx) rfl cm_X8_takes ci_X8_takes ml_X8_103 oq_118 rfl (Nat.le_of_ble_eq_true rfl) (Nat.le_of_ble_eq_true rfl) dX8_port_102 (fun r102 S102 hp102 => ?_)
                  obtain ⟨hf102, hRb, hg102, hr102⟩ := port_no hR hw hit1 hit2.1 (fun z => by first | exact hc91 z.2 | exact h86 z.1) hp102
                  rw [hMF.x, hMF.t] at hRb
                  have hMb := hf102.mf
                  rw [hr102]
                  refine j_istore_n (L' := [(0, .ref 118), (1, vi it), (2, vi 0)]) dX8_port_105 (Nat.le_of_ble_eq_true rfl) rfl ?_
                  refine j_aload_n dX8_port_106 rfl ?_
                  refine j_callVi (As := []) (rest := []) (t_X8_isWell _) rfl cm_X8_isWell ci_X8_isWell ml_X8_96 oq_118 rfl (Nat.le_of_ble_eq_true rfl) (Nat.le_of_ble_eq_true rfl) dX8_port_107 (fun r107 S107 hp107 => ?_)
                  obtain ⟨⟨rfl, hc107⟩ | ⟨rfl, hc107⟩, he107⟩ := hp107
                  · rw [he107]
                    refine j_if_eq (tgt := 118) dX8_port_110 (by decide) (by omega)  (fun h => absurd h (by decide)) (fun _ => ?_)
                    exfalso; omega
                  · rw [he107]
                    refine j_if_eq (tgt := 118) dX8_port_110 (by decide) (by omega)  (fun _ => ?_) (fun h => absurd h (by decide))
                    refine j_aload_n dX8_port_118 rfl ?_
                    refine j_aload_n dX8_port_119 rfl ?_
                    refine j_getI (x := S102 118 5) dX8_port_120 fg_X8_83 fq_118_5 rfl (fun hi120 => ?_)
                    refine j_iconst dX8_port_123 ?_
                    refine j_icmp_ne (tgt := 131) dX8_port_124 (by decide) (by omega) (by omega) (fun h124 => ?_) (fun h124 => ?_)
                    · refine j_iconst dX8_port_131 ?_
                      refine j_callVi (As := [vi 0]) (rest := []) (t_X8_takes _ 0 (by decide) hRb.1 hRb.nx) rfl cm_X8_takes ci_X8_takes ml_X8_103 oq_118 rfl (Nat.le_of_ble_eq_true rfl) (Nat.le_of_ble_eq_true rfl) dX8_port_132 (fun r132 S132 hp132 => ?_)
                      obtain ⟨hf132, hRn⟩ := port_end hRb (Or.inr ⟨rfl, h124⟩) hp132
                      rw [hMb.x, hMb.t, hMF.x, hMF.t] at hRn
                      have hMn := hMb.tr hf132.mf
                      refine j_pop dX8_port_135 rfl ?_
                      refine j_iinc (L' := [(0, .ref 118), (1, vi (it + 1)), (2, vi 0)]) dX8_port_136 (Nat.le_of_ble_eq_true rfl) rfl rfl ?_
                      refine j_goto (tgt := 66) dX8_port_139 (by decide) ?_
                      refine j_sub (L' := [(0, .ref 118), (1, vi (it + 1))]) (by simp) ?_
                      exact ih66 (it + 1) S132 (msP_lt hI hw hk hRn hMn hm66) ⟨_, n - 1, hI.step hw hk hRn hMn⟩
                    · refine j_iconst dX8_port_127 ?_
                      refine j_goto (tgt := 132) dX8_port_128 (by decide) ?_
                      refine j_callVi (As := [vi 1]) (rest := []) (t_X8_takes _ 1 (by decide) hRb.1 hRb.nx) rfl cm_X8_takes ci_X8_takes ml_X8_103 oq_118 rfl (Nat.le_of_ble_eq_true rfl) (Nat.le_of_ble_eq_true rfl) dX8_port_132 (fun r132 S132 hp132 => ?_)
                      obtain ⟨hf132, hRn⟩ := port_end hRb (Or.inl ⟨rfl, h124⟩) hp132
                      rw [hMb.x, hMb.t, hMF.x, hMF.t] at hRn
                      have hMn := hMb.tr hf132.mf
                      refine j_pop dX8_port_135 rfl ?_
                      refine j_iinc (L' := [(0, .ref 118), (1, vi (it + 1)), (2, vi 0)]) dX8_port_136 (Nat.le_of_ble_eq_true rfl) rfl rfl ?_
                      refine j_goto (tgt := 66) dX8_port_139 (by decide) ?_
                      refine j_sub (L' := [(0, .ref 118), (1, vi (it + 1))]) (by simp) ?_
                      exact ih66 (it + 1) S132 (msP_lt hI hw hk hRn hMn hm66) ⟨_, n - 1, hI.step hw hk hRn hMn⟩
                · refine j_aload_n dX8_port_89 rfl ?_
                  refine j_iload_n dX8_port_90 rfl ?_
                  refine j_callVi (As := [vi it]) (rest := [.ref 118]) (t_X8_mayBegin _ it (by omega)) rfl cm_X8_mayBegin ci_X8_mayBegin ml_X8_123 oq_118 rfl (Nat.le_of_ble_eq_true rfl) (Nat.le_of_ble_eq_true rfl) dX8_port_91 (fun r91 S91 hp91 => ?_)
                  obtain ⟨⟨rfl, hc91⟩ | ⟨rfl, hc91⟩, he91⟩ := hp91
                  · rw [he91]
                    refine j_if_eq (tgt := 101) dX8_port_94 (by decide) (by omega)  (fun h => absurd h (by decide)) (fun _ => ?_)
                    refine j_iconst dX8_port_97 ?_
                    refine j_goto (tgt := 102) dX8_port_98 (by decide) ?_
                    refine j_callVi (As := [vi 1]) (rest := []) (t_X8_takes _ 1 (by decide) hR.1 hR.nx) rfl cm_X8_takes ci_X8_takes ml_X8_103 oq_118 rfl (Nat.le_of_ble_eq_true rfl) (Nat.le_of_ble_eq_true rfl) dX8_port_102 (fun r102 S102 hp102 => ?_)
                    obtain ⟨hf102, hR1, hw1, hib, hg102⟩ := port_yes hR hw hit1 hit2.1 ⟨h86, hc91⟩ hp102
                    rw [hMF.x, hMF.t] at hR1 hib
                    refine j_istore_n (L' := [(0, .ref 118), (1, vi it), (2, vi r102)]) dX8_port_105 (Nat.le_of_ble_eq_true rfl) rfl ?_
                    refine j_aload_n dX8_port_106 rfl ?_
                    refine j_callVi (As := []) (rest := []) (t_X8_isWell _) rfl cm_X8_isWell ci_X8_isWell ml_X8_96 oq_118 rfl (Nat.le_of_ble_eq_true rfl) (Nat.le_of_ble_eq_true rfl) dX8_port_107 (fun r107 S107 hp107 => ?_)
                    obtain ⟨⟨rfl, hc107⟩ | ⟨rfl, hc107⟩, he107⟩ := hp107
                    · rw [he107]
                      refine j_if_eq (tgt := 118) dX8_port_110 (by decide) (by omega)  (fun h => absurd h (by decide)) (fun _ => ?_)
                      refine j_aload_n dX8_port_113 rfl ?_
                      refine j_iload_n dX8_port_114 rfl ?_
                      refine j_callVv (As := [vi r102]) (rest := []) (t_X8_readsItem _ _ r102 hR1 hw hw1) rfl cm_X8_readsItem ci_X8_readsItem ml_X8_126 oq_118 rfl (Nat.le_of_ble_eq_true rfl) (Nat.le_of_ble_eq_true rfl) dX8_port_115 (fun r115 S115 hp115 => ?_)
                      obtain ⟨hM115, hRb⟩ := hp115
                      rw [hf102.x, hf102.t, hMF.x, hMF.t, ← hib] at hRb
                      have hMb := hf102.mf.tr hM115
                      refine j_aload_n dX8_port_118 rfl ?_
                      refine j_aload_n dX8_port_119 rfl ?_
                      refine j_getI (x := S115 118 5) dX8_port_120 fg_X8_83 fq_118_5 rfl (fun hi120 => ?_)
                      refine j_iconst dX8_port_123 ?_
                      refine j_icmp_ne (tgt := 131) dX8_port_124 (by decide) (by omega) (by omega) (fun h124 => ?_) (fun h124 => ?_)
                      · refine j_iconst dX8_port_131 ?_
                        refine j_callVi (As := [vi 0]) (rest := []) (t_X8_takes _ 0 (by decide) hRb.1 hRb.nx) rfl cm_X8_takes ci_X8_takes ml_X8_103 oq_118 rfl (Nat.le_of_ble_eq_true rfl) (Nat.le_of_ble_eq_true rfl) dX8_port_132 (fun r132 S132 hp132 => ?_)
                        obtain ⟨hf132, hRn⟩ := port_end hRb (Or.inr ⟨rfl, h124⟩) hp132
                        rw [hMb.x, hMb.t, hMF.x, hMF.t] at hRn
                        have hMn := hMb.tr hf132.mf
                        refine j_pop dX8_port_135 rfl ?_
                        refine j_iinc (L' := [(0, .ref 118), (1, vi (it + 1)), (2, vi r102)]) dX8_port_136 (Nat.le_of_ble_eq_true rfl) rfl rfl ?_
                        refine j_goto (tgt := 66) dX8_port_139 (by decide) ?_
                        refine j_sub (L' := [(0, .ref 118), (1, vi (it + 1))]) (by simp) ?_
                        exact ih66 (it + 1) S132 (msP_lt hI hw hk hRn hMn hm66) ⟨_, n - 1, hI.step hw hk hRn hMn⟩
                      · refine j_iconst dX8_port_127 ?_
                        refine j_goto (tgt := 132) dX8_port_128 (by decide) ?_
                        refine j_callVi (As := [vi 1]) (rest := []) (t_X8_takes _ 1 (by decide) hRb.1 hRb.nx) rfl cm_X8_takes ci_X8_takes ml_X8_103 oq_118 rfl (Nat.le_of_ble_eq_true rfl) (Nat.le_of_ble_eq_true rfl) dX8_port_132 (fun r132 S132 hp132 => ?_)
                        obtain ⟨hf132, hRn⟩ := port_end hRb (Or.inl ⟨rfl, h124⟩) hp132
                        rw [hMb.x, hMb.t, hMF.x, hMF.t] at hRn
                        have hMn := hMb.tr hf132.mf
                        refine j_pop dX8_port_135 rfl ?_
                        refine j_iinc (L' := [(0, .ref 118), (1, vi (it + 1)), (2, vi r102)]) dX8_port_136 (Nat.le_of_ble_eq_true rfl) rfl rfl ?_
                        refine j_goto (tgt := 66) dX8_port_139 (by decide) ?_
                        refine j_sub (L' := [(0, .ref 118), (1, vi (it + 1))]) (by simp) ?_
                        exact ih66 (it + 1) S132 (msP_lt hI hw hk hRn hMn hm66) ⟨_, n - 1, hI.step hw hk hRn hMn⟩
                    · rw [he107]
                      refine j_if_eq (tgt := 118) dX8_port_110 (by decide) (by omega)  (fun _ => ?_) (fun h => absurd h (by decide))
                      exfalso; omega
                  · rw [he91]
                    refine j_if_eq (tgt := 101) dX8_port_94 (by decide) (by omega)  (fun _ => ?_) (fun h => absurd h (by decide))
                    refine j_iconst dX8_port_101 ?_
                    refine j_callVi (As := [vi 0]) (rest := []) (t_X8_takes _ 0 (by decide) hR.1 hR.nx) rfl cm_X8_takes ci_X8_takes ml_X8_103 oq_118 rfl (Nat.le_of_ble_eq_true rfl) (Nat.le_of_ble_eq_true rfl) dX8_port_102 (fun r102 S102 hp102 => ?_)
                    obtain ⟨hf102, hRb, hg102, hr102⟩ := port_no hR hw hit1 hit2.1 (fun z => by first | exact hc91 z.2 | exact h86 z.1) hp102
                    rw [hMF.x, hMF.t] at hRb
                    have hMb := hf102.mf
                    rw [hr102]
                    refine j_istore_n (L' := [(0, .ref 118), (1, vi it), (2, vi 0)]) dX8_port_105 (Nat.le_of_ble_eq_true rfl) rfl ?_
                    refine j_aload_n dX8_port_106 rfl ?_
                    refine j_callVi (As := []) (rest := []) (t_X8_isWell _) rfl cm_X8_isWell ci_X8_isWell ml_X8_96 oq_118 rfl (Nat.le_of_ble_eq_true rfl) (Nat.le_of_ble_eq_true rfl) dX8_port_107 (fun r107 S107 hp107 => ?_)
                    obtain ⟨⟨rfl, hc107⟩ | ⟨rfl, hc107⟩, he107⟩ := hp107
                    · rw [he107]
                      refine j_if_eq (tgt := 118) dX8_port_110 (by decide) (by omega)  (fun h => absurd h (by decide)) (fun _ => ?_)
                      exfalso; omega
                    · rw [he107]
                      refine j_if_eq (tgt := 118) dX8_port_110 (by decide) (by omega)  (fun _ => ?_) (fun h => absurd h (by decide))
                      refine j_aload_n dX8_port_118 rfl ?_
                      refine j_aload_n dX8_port_119 rfl ?_
                      refine j_getI (x := S102 118 5) dX8_port_120 fg_X8_83 fq_118_5 rfl (fun hi120 => ?_)
                      refine j_iconst dX8_port_123 ?_
                      refine j_icmp_ne (tgt := 131) dX8_port_124 (by decide) (by omega) (by omega) (fun h124 => ?_) (fun h124 => ?_)
                      · refine j_iconst dX8_port_131 ?_
                        refine j_callVi (As := [vi 0]) (rest := []) (t_X8_takes _ 0 (by decide) hRb.1 hRb.nx) rfl cm_X8_takes ci_X8_takes ml_X8_103 oq_118 rfl (Nat.le_of_ble_eq_true rfl) (Nat.le_of_ble_eq_true rfl) dX8_port_132 (fun r132 S132 hp132 => ?_)
                        obtain ⟨hf132, hRn⟩ := port_end hRb (Or.inr ⟨rfl, h124⟩) hp132
                        rw [hMb.x, hMb.t, hMF.x, hMF.t] at hRn
                        have hMn := hMb.tr hf132.mf
                        refine j_pop dX8_port_135 rfl ?_
                        refine j_iinc (L' := [(0, .ref 118), (1, vi (it + 1)), (2, vi 0)]) dX8_port_136 (Nat.le_of_ble_eq_true rfl) rfl rfl ?_
                        refine j_goto (tgt := 66) dX8_port_139 (by decide) ?_
                        refine j_sub (L' := [(0, .ref 118), (1, vi (it + 1))]) (by simp) ?_
                        exact ih66 (it + 1) S132 (msP_lt hI hw hk hRn hMn hm66) ⟨_, n - 1, hI.step hw hk hRn hMn⟩
                      · refine j_iconst dX8_port_127 ?_
                        refine j_goto (tgt := 132) dX8_port_128 (by decide) ?_
                        refine j_callVi (As := [vi 1]) (rest := []) (t_X8_takes _ 1 (by decide) hRb.1 hRb.nx) rfl cm_X8_takes ci_X8_takes ml_X8_103 oq_118 rfl (Nat.le_of_ble_eq_true rfl) (Nat.le_of_ble_eq_true rfl) dX8_port_132 (fun r132 S132 hp132 => ?_)
                        obtain ⟨hf132, hRn⟩ := port_end hRb (Or.inl ⟨rfl, h124⟩) hp132
                        rw [hMb.x, hMb.t, hMF.x, hMF.t] at hRn
                        have hMn := hMb.tr hf132.mf
                        refine j_pop dX8_port_135 rfl ?_
                        refine j_iinc (L' := [(0, .ref 118), (1, vi (it + 1)), (2, vi 0)]) dX8_port_136 (Nat.le_of_ble_eq_true rfl) rfl rfl ?_
                        refine j_goto (tgt := 66) dX8_port_139 (by decide) ?_
                        refine j_sub (L' := [(0, .ref 118), (1, vi (it + 1))]) (by simp) ?_
                        exact ih66 (it + 1) S132 (msP_lt hI hw hk hRn hMn hm66) ⟨_, n - 1, hI.step hw hk hRn hMn⟩
            · rw [he67]
              refine j_if_eq (tgt := 142) dX8_port_70 (by decide) (by omega)  (fun _ => ?_) (fun h => absurd h (by decide))
              have hend : prs (S 119) (S 118 3) (S 118 3).toNat d0S = d := by rw [← hpr]; exact prs_end (fun z => by have := z.1; omega)
              refine j_aload_n dX8_port_142 rfl ?_
              refine j_callVi (As := []) (rest := []) (t_X8_isWell _) rfl cm_X8_isWell ci_X8_isWell ml_X8_96 oq_118 rfl (Nat.le_of_ble_eq_true rfl) (Nat.le_of_ble_eq_true rfl) dX8_port_143 (fun r143 S143 hp143 => ?_)
              obtain ⟨⟨rfl, hc143⟩ | ⟨rfl, hc143⟩, he143⟩ := hp143
              · rw [he143]
                refine j_if_ne (tgt := 157) dX8_port_146 (by decide) (by omega)  (fun _ => ?_) (fun h => absurd h (by decide))
                exfalso; omega
              · rw [he143]
                refine j_if_ne (tgt := 157) dX8_port_146 (by decide) (by omega)  (fun h => absurd h (by decide)) (fun _ => ?_)
                refine j_bipush dX8_port_149 (by decide) ?_
                refine j_aload_n dX8_port_151 rfl ?_
                refine j_getI (x := U 118 8) dX8_port_152 fg_X8_93 fq_118_8 rfl (fun hi152 => ?_)
                refine j_isub dX8_port_155 ?_
                exact j_iret rfl dX8_port_156 (fun h => by cases h) (hP _ _ (Or.inl ⟨by rw [hend]; omega, by rw [hend]; omega, hMF⟩))
        refine j_sub (L' := [(0, .ref 118), (1, vi 0)]) (by simp) ?_
        exact lp66 _ 0 S63 (Nat.lt_succ_self _) ⟨d0S, _, hst⟩
      · refine j_aload_n dX8_port_41 rfl ?_
        refine j_getR dX8_port_42 fg_X8_13 fq_118_9 ?_
        refine j_iload_n dX8_port_45 rfl ?_
        refine j_iconst dX8_port_46 ?_
        refine j_iast dX8_port_47 aq_120 (by omega) (by omega) (by omega) ?_
        refine j_aload_n dX8_port_48 rfl ?_
        refine j_getR dX8_port_49 fg_X8_16 fq_118_10 ?_
        refine j_iload_n dX8_port_52 rfl ?_
        refine j_bipush dX8_port_53 (by decide) ?_
        refine j_iast dX8_port_55 aq_121 (by omega) (by omega) (by omega) ?_
        refine j_iinc (L' := [(0, .ref 118), (1, vi 0), (2, vi (k + 1))]) dX8_port_56 (Nat.le_of_ble_eq_true rfl) rfl rfl ?_
        refine j_goto (tgt := 35) dX8_port_59 (by decide) ?_
        exact ih35 (k + 1) (up (up T 120 k 1) 121 k 9) (by omega) ⟨by omega, MF.uW (MF.uW hv2 (by omega) (by omega)) (by omega) (by omega), hv3, hv4, hv5, hv6, hv7, fun j a b => if e : j = k then by rw [e, up_c (by decide), up_s, up_s]; exact ⟨rfl, rfl⟩ else by rw [up_c (by decide), up_i e, up_i e, up_c (by decide)]; exact hv8 j a (by omega)⟩
  exact lp35 _ 6 (up (up (up (up (up S 118 8 (-1)) 118 4 0) 118 14 3) 118 15 0) 118 16 0) (Nat.lt_succ_self _) ⟨by omega, MF.u8 (MF.u8 (MF.u8 (MF.u8 (MF.u8 MF.rf (by unfold mfI; omega)) (by unfold mfI; omega)) (by unfold mfI; omega)) (by unfold mfI; omega)) (by unfold mfI; omega), rfl, rfl, rfl, rfl, rfl, fun j a b => by omega⟩
