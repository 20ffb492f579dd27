/-! the model's thief: its fraction is brought to least terms at every place -/
theorem j_topl {M : MT} {X : CtxT} {pc : Nat} {L : List (Nat × Value)} {st : List Value} {S : St} {x : Int} (k : ∀ y, y = x → JJ M X pc L (vl y :: st) S) : JJ M X pc L (vl x :: st) S := k x rfl
def ThI (U L u l : Int) : Prop := 0 ≤ u ∧ 1 ≤ l ∧ ∃ c, 1 ≤ c ∧ U = u * c ∧ L = l * c
theorem gcdI_dl (a b : Int) (ha : 0 ≤ a) : gcdI a b ∣ a := by
  unfold gcdI
  obtain ⟨n, rfl⟩ := Int.eq_ofNat_of_zero_le ha
  exact Int.natCast_dvd_natCast.mpr (Nat.gcd_dvd_left _ _)
theorem gcdI_dr (a b : Int) (hb : 0 ≤ b) : gcdI a b ∣ b := by
  unfold gcdI
  obtain ⟨n, rfl⟩ := Int.eq_ofNat_of_zero_le hb
  exact Int.natCast_dvd_natCast.mpr (Nat.gcd_dvd_right _ _)
theorem gcdI_mul {a b c : Int} (ha : 0 ≤ a) (hb : 0 ≤ b) (hc : 0 ≤ c) : gcdI (a * c) (b * c) = gcdI a b * c := by
  unfold gcdI
  obtain ⟨n, rfl⟩ := Int.eq_ofNat_of_zero_le ha
  obtain ⟨k, rfl⟩ := Int.eq_ofNat_of_zero_le hb
  obtain ⟨j, rfl⟩ := Int.eq_ofNat_of_zero_le hc
  rw [← Int.natCast_mul, ← Int.natCast_mul, Int.toNat_natCast, Int.toNat_natCast, Int.toNat_natCast, Int.toNat_natCast, Nat.gcd_mul_right, Int.natCast_mul]
theorem ThI.step {U L u l a s g : Int} (h : ThI U L u l) (ha : 1 ≤ a) (hs : 0 ≤ s) (hg : g = gcdI (u * a + s * l) (l * a)) : ThI (U * a + s * L) (L * a) ((u * a + s * l) / g) (l * a / g) := by
  obtain ⟨h1, h2, c, h3, h4, h5⟩ := h
  have ua : 0 ≤ u * a := Int.mul_nonneg h1 (by omega)
  have sl : 0 ≤ s * l := Int.mul_nonneg hs (by omega)
  have la : 1 * 1 ≤ l * a := Int.mul_le_mul h2 ha (by decide) (by omega)
  have hg1 : 1 ≤ g := by rw [hg]; exact gcdI_pos (by omega)
  have d1 : g ∣ u * a + s * l := by rw [hg]; exact gcdI_dl _ _ (by omega)
  have d2 : g ∣ l * a := by rw [hg]; exact gcdI_dr _ _ (by omega)
  have e1 : (u * a + s * l) / g * g = u * a + s * l := Int.ediv_mul_cancel d1
  have e2 : l * a / g * g = l * a := Int.ediv_mul_cancel d2
  refine ⟨Int.ediv_nonneg (by omega) (by omega), ?_, g * c, ?_, ?_, ?_⟩
  · apply Classical.byContradiction
    intro hn
    have q : l * a / g ≤ 0 := by omega
    have q2 : l * a / g * g ≤ 0 := Int.mul_nonpos_of_nonpos_of_nonneg q (by omega)
    omega
  · have : 1 * 1 ≤ g * c := Int.mul_le_mul hg1 h3 (by decide) (by omega)
    omega
  · rw [← Int.mul_assoc, e1, h4, h5, Int.add_mul, Int.mul_assoc u c a, Int.mul_comm c a, ← Int.mul_assoc, Int.mul_assoc s l c]
  · rw [← Int.mul_assoc, e2, h5, Int.mul_assoc, Int.mul_comm c a, ← Int.mul_assoc]
theorem ThI.le {U L u l : Int} (h : ThI U L u l) : u ≤ U ∧ l ≤ L := by
  obtain ⟨h1, h2, c, h3, h4, h5⟩ := h
  have a1 : u * 1 ≤ u * c := Int.mul_le_mul_of_nonneg_left h3 h1
  have a2 : l * 1 ≤ l * c := Int.mul_le_mul_of_nonneg_left h3 (by omega)
  omega
theorem ThI.mid {U L u l a s : Int} (h : ThI U L u l) (ha : 1 ≤ a) (hs : 0 ≤ s) : (0 ≤ u * a + s * l ∧ u * a + s * l ≤ U * a + s * L) ∧ 1 ≤ l * a ∧ l * a ≤ L * a := by
  have hle := h.le
  obtain ⟨h1, h2, _⟩ := h
  have ua : 0 ≤ u * a := Int.mul_nonneg h1 (by omega)
  have sl : 0 ≤ s * l := Int.mul_nonneg hs (by omega)
  have la : 1 * 1 ≤ l * a := Int.mul_le_mul h2 ha (by decide) (by omega)
  have b1 : u * a ≤ U * a := Int.mul_le_mul_of_nonneg_right hle.1 (by omega)
  have b2 : l * a ≤ L * a := Int.mul_le_mul_of_nonneg_right hle.2 (by omega)
  have b3 : s * l ≤ s * L := Int.mul_le_mul_of_nonneg_left hle.2 hs
  omega
theorem ThI.fin {U L u l n what : Int} (h : ThI U L u l) (hn : 1 ≤ n) : leastT U (L * n) what = leastT u (l * n) what := by
  obtain ⟨h1, h2, c, h3, h4, h5⟩ := h
  have ln : 0 ≤ l * n := Int.mul_nonneg (by omega) (by omega)
  have e : L * n = l * n * c := by rw [h5, Int.mul_assoc, Int.mul_comm c n, ← Int.mul_assoc]
  unfold leastT
  rw [e, h4, gcdI_mul h1 ln (by omega), Int.mul_ediv_mul_of_pos_left _ _ (by omega), Int.mul_ediv_mul_of_pos_left _ _ (by omega)]
theorem sm_gap {f : Int → Int} {a b : Int} (h0 : 0 ≤ a) (h1 : a ≤ b) (h : ∀ q, a ≤ q → q < b → f q = 0) : sm f b.toNat = sm f a.toNat := by
  obtain ⟨n, rfl⟩ : ∃ n : Nat, b = a + n := ⟨(b - a).toNat, by omega⟩
  induction n with
  | zero => rw [show a + ((0 : Nat) : Int) = a by omega]
  | succ n ih =>
    rw [show a + ((n + 1 : Nat) : Int) = (a + n) + 1 by omega, sm_s (by omega), ih (by omega) (fun q x y => h q x (by omega)), h (a + n) (by omega) (by omega)]
    omega
def msN (P p : Int) : Nat := if p = -9 then 0 else (P - p).toNat + 1
theorem msN_lt {P p q : Int} {n : Nat} (h : msN P p < n + 1) (hp : p ≠ -9) (hq : q = -9 ∨ (p < q ∧ q < P)) : msN P q < n := by
  unfold msN at h ⊢
  rw [if_neg hp] at h
  split <;> omega
theorem ly0 {P : Int} {wh pl : Int → Int} {k : Int} (h : lyO P wh pl k = 0) : ∀ p, 0 ≤ p → p < P → ¬ (wh p = 8 ∧ pl p = k) := by
  intro p a b c
  have : 0 < lyO P wh pl k := by
    unfold lyO
    refine sm_pos (k := p) (fun i x y => ?_) a (by omega) ?_
    · show 0 ≤ if wh i = 8 ∧ pl i = k then 1 else 0
      split <;> decide
    · show 0 < if wh p = 8 ∧ pl p = k then 1 else 0
      rw [if_pos c]; decide
  omega
noncomputable def thF (n : Int) (mk ag wh pl wt hmk hag : Int → Int) (k law p : Int) : Int := if (wh p = 8 ∧ pl p = k) ∧ who n (st9 hmk k (mk p)) (st9 hag k (ag p)) wt law = who n hmk hag wt law then 1 else 0
theorem thF_0 {n : Int} {mk ag wh pl wt hmk hag : Int → Int} {k law p : Int} (h : ¬ (wh p = 8 ∧ pl p = k)) : thF n mk ag wh pl wt hmk hag k law p = 0 := if_neg (fun z => h z.1)
theorem thF_bd {n : Int} {mk ag wh pl wt hmk hag : Int → Int} {k law : Int} (m : Nat) : 0 ≤ sm (thF n mk ag wh pl wt hmk hag k law) m ∧ sm (thF n mk ag wh pl wt hmk hag k law) m ≤ m := by
  have := sm_bd (f := thF n mk ag wh pl wt hmk hag k law) (a := 1) (n := m) (fun i _ _ => by unfold thF; split <;> omega)
  omega
theorem stF_e {n P : Int} {mk ag wh pl wt hmk hag : Int → Int} {k law : Int} : stF n P mk ag wh pl wt hmk hag k law = if lyO P wh pl k = 0 then 1 else sm (thF n mk ag wh pl wt hmk hag k law) P.toNat := rfl
/-- counted so far: p is the next part that lies, or none is left -/
def ThC (P : Int) (lies : Int → Prop) (F : Int → Int) (p s0 sa : Int) : Prop := (p = -9 ∧ sa = s0 + sm F P.toNat) ∨ ((0 ≤ p ∧ p < P) ∧ lies p ∧ sa = s0 + sm F p.toNat)
theorem ThC.start {P : Int} {lies : Int → Prop} {F : Int → Int} {r s0 : Int} (hP : 0 ≤ P) (hF : ∀ q, ¬ lies q → F q = 0) (h : (-1 < r ∧ r < P ∧ lies r ∧ ∀ q, -1 < q → q < r → ¬ lies q) ∨ (r = -9 ∧ ∀ q, -1 < q → q < P → ¬ lies q)) : ThC P lies F r s0 s0 := by
  rcases h with ⟨h1, h2, h3, h4⟩ | ⟨h1, h2⟩
  · refine Or.inr ⟨⟨by omega, h2⟩, h3, ?_⟩
    have := sm_gap (f := F) (a := 0) (b := r) (by omega) (by omega) (fun q x y => hF q (h4 q (by omega) y))
    rw [this]
    show s0 = s0 + 0
    omega
  · refine Or.inl ⟨h1, ?_⟩
    have := sm_gap (f := F) (a := 0) (b := P) (by omega) hP (fun q x y => hF q (h2 q (by omega) y))
    rw [this]
    show s0 = s0 + 0
    omega
theorem ThC.step {P : Int} {lies : Int → Prop} {F : Int → Int} {p r s0 sa : Int} (hF : ∀ q, ¬ lies q → F q = 0) (h : ThC P lies F p s0 sa) (hp : p ≠ -9) (h' : (p < r ∧ r < P ∧ lies r ∧ ∀ q, p < q → q < r → ¬ lies q) ∨ (r = -9 ∧ ∀ q, p < q → q < P → ¬ lies q)) : ThC P lies F r s0 (sa + F p) := by
  rcases h with ⟨h, _⟩ | ⟨⟨a1, a2⟩, a3, a4⟩
  · exact absurd h hp
  have e : sm F (p + 1).toNat = sm F p.toNat + F p := sm_s a1
  rcases h' with ⟨h1, h2, h3, h4⟩ | ⟨h1, h2⟩
  · refine Or.inr ⟨⟨by omega, h2⟩, h3, ?_⟩
    have := sm_gap (f := F) (a := p + 1) (b := r) (by omega) (by omega) (fun q x y => hF q (h4 q (by omega) y))
    rw [this, e, a4]
    omega
  · refine Or.inl ⟨h1, ?_⟩
    have := sm_gap (f := F) (a := p + 1) (b := P) (by omega) (by omega) (fun q x y => hF q (h2 q (by omega) y))
    rw [this, e, a4]
    omega
set_option maxRecDepth 100000 in
set_option maxHeartbeats 4000000 in
theorem t_X8_thief (S : St) (s law what : Int) (r_s : InR s) (r_law : InR law) (r_what : InR what) (hM : MI S) : EX mX8_thief [.ref 118, vi s, vi law, vi what] S (fun r S' => r = fThief (S 118 13) (S 125 2) (S 125 1) (S 124) (mAg S) (mWh S) (mPl S) (S 120) (mHd S) s law what ∧ Same [131, 132] S S') := by
  suffices hh : ∀ P : Int → St → Prop, (∀ r S', (r = fThief (S 118 13) (S 125 2) (S 125 1) (S 124) (mAg S) (mWh S) (mPl S) (S 120) (mHd S) s law what ∧ Same [131, 132] S S') → P r S') → EX mX8_thief [.ref 118, vi s, vi law, vi what] S P from hh _ (fun _ _ h => h)
  intro P hP
  refine EX.of (L := [(0, .ref 118), (1, vi s), (2, vi law), (3, vi what)]) rfl rfl (Nat.le_of_ble_eq_true rfl) rfl ?_
  obtain ⟨⟨hn0, hn1⟩, hwl, ⟨hp0, hp1⟩, ⟨hs0, hs1⟩, hyr, hpt, hhd, hth⟩ := id hM
  have hwt : ∀ k, 0 ≤ k → k < 6 → 1 ≤ S 120 k ∧ S 120 k ≤ 9 := fun k a b => ⟨(hwl k a b).1, (hwl k a b).2.1⟩
  refine j_aload_n dX8_thief_0 rfl ?_
  refine j_iconst dX8_thief_1 ?_
  refine j_putI (i := 0) dX8_thief_2 fg_X8_63 ft_8_0 fq_118_0 rfl (by omega) ?_
  rw [up_thr hth]
  refine j_aload_n dX8_thief_5 rfl ?_
  refine j_iload_n dX8_thief_6 rfl ?_
  refine j_callVi (As := [vi s]) (rest := []) (t_X8_isShip _ s (by omega) (by omega)) rfl cm_X8_isShip ci_X8_isShip ml_X8_156 oq_118 rfl (Nat.le_of_ble_eq_true rfl) (Nat.le_of_ble_eq_true rfl) dX8_thief_7 (fun r7 S7 hp7 => ?_)
  obtain ⟨⟨rfl, hc7⟩ | ⟨rfl, hc7⟩, he7⟩ := hp7
  · rw [he7]
    refine j_if_eq (tgt := 29) dX8_thief_10 (by decide) (by omega)  (fun h => absurd h (by decide)) (fun _ => ?_)
    refine j_iload_n dX8_thief_13 rfl ?_
    refine j_callSi (As := [vi law]) (rest := []) (t_X8_isLaw _ law (by omega)) rfl cm_X8_isLaw cs_X8_isLaw ml_X8_184 rfl (Nat.le_of_ble_eq_true rfl) (Nat.le_of_ble_eq_true rfl) dX8_thief_14 (fun r14 S14 hp14 => ?_)
    obtain ⟨⟨rfl, hc14⟩ | ⟨rfl, hc14⟩, he14⟩ := hp14
    · rw [he14]
      refine j_if_eq (tgt := 29) dX8_thief_17 (by decide) (by omega)  (fun h => absurd h (by decide)) (fun _ => ?_)
      refine j_iload_n dX8_thief_20 rfl ?_
      refine j_iconst dX8_thief_21 ?_
      refine j_iconst dX8_thief_22 ?_
      refine j_callSi (As := [vi what, vi 0, vi 1]) (rest := []) (t_X8_in _ what 0 1 (by omega) (by omega) (by omega)) rfl cm_X8_in cs_X8_in ml_X8_66 rfl (Nat.le_of_ble_eq_true rfl) (Nat.le_of_ble_eq_true rfl) dX8_thief_23 (fun r23 S23 hp23 => ?_)
      obtain ⟨⟨rfl, hc23⟩ | ⟨rfl, hc23⟩, he23⟩ := hp23
      · rw [he23]
        refine j_if_ne (tgt := 33) dX8_thief_26 (by decide) (by omega)  (fun _ => ?_) (fun h => absurd h (by decide))
        refine j_aload_n dX8_thief_33 rfl ?_
        refine j_iload_n dX8_thief_34 rfl ?_
        refine j_iload_n dX8_thief_35 rfl ?_
        refine j_callVi (As := [vi s, vi law]) (rest := []) (t_X8_isOf _ s law hM (by omega) (by omega) (by omega) (by omega)) rfl cm_X8_isOf ci_X8_isOf ml_X8_187 oq_118 rfl (Nat.le_of_ble_eq_true rfl) (Nat.le_of_ble_eq_true rfl) dX8_thief_36 (fun r36 S36 hp36 => ?_)
        obtain ⟨hr36, hsm36, hl36⟩ := hp36
        have eS36_118 : S36 118 = S 118 := hsm36 118 (by decide)
        have eS36_119 : S36 119 = S 119 := hsm36 119 (by decide)
        have eS36_120 : S36 120 = S 120 := hsm36 120 (by decide)
        have eS36_121 : S36 121 = S 121 := hsm36 121 (by decide)
        have eS36_124 : S36 124 = S 124 := hsm36 124 (by decide)
        have eS36_125 : S36 125 = S 125 := hsm36 125 (by decide)
        have eS36_126 : S36 126 = S 126 := hsm36 126 (by decide)
        have eS36_127 : S36 127 = S 127 := hsm36 127 (by decide)
        have eS36_128 : S36 128 = S 128 := hsm36 128 (by decide)
        have eS36_129 : S36 129 = S 129 := hsm36 129 (by decide)
        have eS36_130 : S36 130 = S 130 := hsm36 130 (by decide)
        have hmkS : ∀ k, 0 ≤ k → k < S 118 13 → isMk (S 124 (mHd S (s * 6 + k))) := fun k a b => by have g := hhd s k (by omega) (by omega) a b; exact (hpt _ g.1 g.2).2.1
        have hwb0 := who_bd (n := S 118 13) (mk := (fun k => S 124 (mHd S (s * 6 + k)))) (ag := (fun k => mAg S (mHd S (s * 6 + k)))) (wt := S 120) (law := law) (by omega) hmkS
        rw [show who _ _ _ _ _ = r36 from hr36.symm] at hwb0
        refine j_istore (L' := [(0, .ref 118), (1, vi s), (2, vi law), (3, vi what), (4, vi r36)]) dX8_thief_39 (Nat.le_of_ble_eq_true rfl) rfl ?_
        refine j_lconst (x := 0) dX8_thief_41 rfl ?_
        refine j_lstore (L' := [(0, .ref 118), (1, vi s), (2, vi law), (3, vi what), (4, vi r36), (5, vl 0)]) dX8_thief_42 (Nat.le_of_ble_eq_true rfl) rfl ?_
        refine j_lconst (x := 1) dX8_thief_44 rfl ?_
        refine j_lstore (L' := [(0, .ref 118), (1, vi s), (2, vi law), (3, vi what), (4, vi r36), (5, vl 0), (7, vl 1)]) dX8_thief_45 (Nat.le_of_ble_eq_true rfl) rfl ?_
        refine j_iconst dX8_thief_47 ?_
        refine j_istore (L' := [(0, .ref 118), (1, vi s), (2, vi law), (3, vi what), (4, vi r36), (5, vl 0), (7, vl 1), (9, vi 0)]) dX8_thief_48 (Nat.le_of_ble_eq_true rfl) rfl ?_
        have lp50 : ∀ (n : Nat) (u l k : Int) (T : St), (S 118 13 - k).toNat < n → (0 ≤ k ∧ k ≤ S 118 13 ∧ Same [131, 132] S T ∧ ThI (thU (liF (S 125 1) (mWh S) (mPl S)) (fun k => stF (S 118 13) (S 125 1) (S 124) (mAg S) (mWh S) (mPl S) (S 120) (fun k => S 124 (mHd S (s * 6 + k))) (fun k => mAg S (mHd S (s * 6 + k))) k law) k.toNat) (thL (liF (S 125 1) (mWh S) (mPl S)) k.toNat) u l) → JJ mX8_thief (RX mX8_thief P) 50 [(0, .ref 118), (1, vi s), (2, vi law), (3, vi what), (4, vi r36), (5, vl u), (7, vl l), (9, vi k)] [] T := by
          intro n
          induction n with
          | zero => intro u l k T hm; exact absurd hm (Nat.not_lt_zero _)
          | succ n ih50 =>
            intro u l k T hm50 hv50
            obtain ⟨hv1, hv2, hv3, hv5⟩ := hv50
            have eT_118 : T 118 = S 118 := hv3 118 (by decide)
            have eT_119 : T 119 = S 119 := hv3 119 (by decide)
            have eT_120 : T 120 = S 120 := hv3 120 (by decide)
            have eT_121 : T 121 = S 121 := hv3 121 (by decide)
            have eT_124 : T 124 = S 124 := hv3 124 (by decide)
            have eT_125 : T 125 = S 125 := hv3 125 (by decide)
            have eT_126 : T 126 = S 126 := hv3 126 (by decide)
            have eT_127 : T 127 = S 127 := hv3 127 (by decide)
            have eT_128 : T 128 = S 128 := hv3 128 (by decide)
            have eT_129 : T 129 = S 129 := hv3 129 (by decide)
            have eT_130 : T 130 = S 130 := hv3 130 (by decide)
            refine j_iload dX8_thief_50 rfl ?_
            refine j_aload_n dX8_thief_52 rfl ?_
            refine j_getI (x := S 118 13) dX8_thief_53 fg_X8_59 fq_118_13 (congrFun eT_118 _) (fun hi53 => ?_)
            refine j_icmp_ge (tgt := 228) dX8_thief_56 (by decide) (by omega) (by omega) (fun h56 => ?_) (fun h56 => ?_)
            · have hk6 : k = S 118 13 := by omega
              have htb := th_fin (li := liF (S 125 1) (mWh S) (mPl S)) (st := fun k => stF (S 118 13) (S 125 1) (S 124) (mAg S) (mWh S) (mPl S) (S 120) (fun k => S 124 (mHd S (s * 6 + k))) (fun k => mAg S (mHd S (s * 6 + k))) k law) (n := S 118 13) (by omega) hn1 (fun k a b => ⟨liF_bd hp1, stF_bd hp1⟩)
              rw [hk6] at hv5
              have hle := hv5.le
              have hu0 := hv5.1
              have hl0 := hv5.2.1
              have hln : 1 * 2 ≤ l * S 118 13 := Int.mul_le_mul hl0 hn0 (by decide) (by omega)
              have hln2 : l * S 118 13 ≤ 12230590464 * 6 := Int.mul_le_mul (by omega) hn1 (by omega) (by decide)
              have hff := hv5.fin (n := S 118 13) (what := what) (by omega)
              refine j_lload dX8_thief_228 rfl ?_
              refine j_aload_n dX8_thief_230 rfl ?_
              refine j_getI (x := S 118 13) dX8_thief_231 fg_X8_59 fq_118_13 (congrFun eT_118 _) (fun hi231 => ?_)
              refine j_i2l dX8_thief_234 (by omega) ?_
              refine j_lmul dX8_thief_235 ?_
              refine j_lstore (L' := [(0, .ref 118), (1, vi s), (2, vi law), (3, vi what), (4, vi r36), (5, vl u), (7, vl (l * (S 118 13))), (9, vi k)]) dX8_thief_236 (Nat.le_of_ble_eq_true rfl) rfl ?_
              refine j_lload dX8_thief_238 rfl ?_
              refine j_lload dX8_thief_240 rfl ?_
              refine j_callSl (As := [vl u, vl (l * (S 118 13))]) (rest := []) (t_X8_gcd _ u (l * S 118 13) (by omega) (by omega) (by omega) (by omega)) rfl cm_X8_gcd cs_X8_gcd ml_X8_220 rfl (Nat.le_of_ble_eq_true rfl) (Nat.le_of_ble_eq_true rfl) dX8_thief_242 (fun r242 S242 hp242 => ?_)
              obtain ⟨hr242, he242⟩ := hp242
              rw [he242]
              have hg1 := gcdI_pos (a := u) (b := l * S 118 13) (by omega)
              have hg2 := gcdI_le (a := u) (b := l * S 118 13) (by omega)
              rw [← hr242] at hg1 hg2
              refine j_lstore (L' := [(0, .ref 118), (1, vi s), (2, vi law), (3, vi what), (4, vi r36), (5, vl u), (7, vl (l * (S 118 13))), (9, vl r242)]) dX8_thief_245 (Nat.le_of_ble_eq_true rfl) rfl ?_
              refine j_iload_n dX8_thief_247 rfl ?_
              refine j_if_ne (tgt := 259) dX8_thief_248 (by decide) (by omega)  (fun h248 => ?_) (fun h248 => ?_)
              · refine j_lload dX8_thief_259 rfl ?_
                refine j_lload dX8_thief_261 rfl ?_
                refine j_ldiv dX8_thief_263 (by omega) (by omega) (by omega) (by omega) ?_
                exact j_lret rfl dX8_thief_264 (fun h => by cases h) (hP _ _ ⟨by unfold fThief thieF; rw [if_pos (by omega), hff]; unfold leastT; rw [if_neg h248, ← hr242], hv3⟩)
              · refine j_lload dX8_thief_251 rfl ?_
                refine j_lload dX8_thief_253 rfl ?_
                refine j_ldiv dX8_thief_255 (by omega) (by omega) (by omega) (by omega) ?_
                refine j_goto (tgt := 264) dX8_thief_256 (by decide) ?_
                exact j_lret rfl dX8_thief_264 (fun h => by cases h) (hP _ _ ⟨by unfold fThief thieF; rw [if_pos (by omega), hff]; unfold leastT; rw [if_pos h248, ← hr242], hv3⟩)
            · refine j_aload_n dX8_thief_59 rfl ?_
              refine j_iload dX8_thief_60 rfl ?_
              refine j_callVi (As := [vi k]) (rest := []) (t_X8_lying _ k (by rw [eT_125]; omega) (by rw [eT_125]; omega) (by omega)) rfl cm_X8_lying ci_X8_lying ml_X8_147 oq_118 rfl (Nat.le_of_ble_eq_true rfl) (Nat.le_of_ble_eq_true rfl) dX8_thief_62 (fun r62 S62 hp62 => ?_)
              obtain ⟨hr62, he62⟩ := hp62
              rw [he62]
              obtain ⟨v1, v2, v3, v4, v5⟩ := mv_same hv3 (by decide)
              rw [eT_125, v1, v5] at hr62
              have hlb := lyO_bd (wh := mWh S) (pl := mPl S) (k := k) hp1
              rw [show lyO _ _ _ _ = r62 from hr62.symm] at hlb
              refine j_istore (L' := [(0, .ref 118), (1, vi s), (2, vi law), (3, vi what), (4, vi r36), (5, vl u), (7, vl l), (9, vi k), (10, vi r62)]) dX8_thief_65 (Nat.le_of_ble_eq_true rfl) rfl ?_
              refine j_iload dX8_thief_67 rfl ?_
              refine j_if_ne (tgt := 76) dX8_thief_69 (by decide) (by omega)  (fun h69 => ?_) (fun h69 => ?_)
              · refine j_iconst dX8_thief_76 ?_
                refine j_top (fun s0 es0 => ?_)
                have hs0 : s0 = if r62 = 0 then 1 else 0 := by rw [es0]; first | rw [if_pos (by omega)] | rw [if_neg (by omega)]
                refine j_istore (L' := [(0, .ref 118), (1, vi s), (2, vi law), (3, vi what), (4, vi r36), (5, vl u), (7, vl l), (9, vi k), (10, vi r62), (11, vi s0)]) dX8_thief_77 (Nat.le_of_ble_eq_true rfl) rfl ?_
                refine j_aload_n dX8_thief_79 rfl ?_
                refine j_iload dX8_thief_80 rfl ?_
                refine j_iconst dX8_thief_82 ?_
                refine j_callVi (As := [vi k, vi (-1)]) (rest := []) (t_X8_nextOf _ k (-1) (hM.same hv3 (by decide)) (by omega) (by omega) (by rw [hv3 125 (by decide)]; omega)) rfl cm_X8_nextOf ci_X8_nextOf ml_X8_208 oq_118 rfl (Nat.le_of_ble_eq_true rfl) (Nat.le_of_ble_eq_true rfl) dX8_thief_83 (fun r83 S83 hp83 => ?_)
                obtain ⟨hr83, he83⟩ := hp83
                rw [he83]
                obtain ⟨v1, v2, v3, v4, v5⟩ := mv_same hv3 (by decide)
                rw [hv3 125 (by decide), v1, v5] at hr83
                have hrb83 : r83 = -9 ∨ ((-1) < r83 ∧ r83 < S 125 1) := by rcases hr83 with z | z; exact Or.inr ⟨z.1, z.2.1⟩; exact Or.inl z.1
                have hF0 : ∀ q, ¬ (mWh S q = 8 ∧ mPl S q = k) → (thF (S 118 13) (S 124) (mAg S) (mWh S) (mPl S) (S 120) (fun k => S 124 (mHd S (s * 6 + k))) (fun k => mAg S (mHd S (s * 6 + k))) k law) q = 0 := fun q z => thF_0 z
                refine j_istore (L' := [(0, .ref 118), (1, vi s), (2, vi law), (3, vi what), (4, vi r36), (5, vl u), (7, vl l), (9, vi k), (10, vi r62), (11, vi s0), (12, vi r83)]) dX8_thief_86 (Nat.le_of_ble_eq_true rfl) rfl ?_
                have lp88 : ∀ (n : Nat) (sa p : Int) (U : St), msN (S 125 1) p < n → ((p = -9 ∨ (0 ≤ p ∧ p < S 125 1)) ∧ Same [131, 132] S U ∧ ThC (S 125 1) (fun q => mWh S q = 8 ∧ mPl S q = k) (thF (S 118 13) (S 124) (mAg S) (mWh S) (mPl S) (S 120) (fun k => S 124 (mHd S (s * 6 + k))) (fun k => mAg S (mHd S (s * 6 + k))) k law) p s0 sa ∧ InR sa) → JJ mX8_thief (RX mX8_thief P) 88 [(0, .ref 118), (1, vi s), (2, vi law), (3, vi what), (4, vi r36), (5, vl u), (7, vl l), (9, vi k), (10, vi r62), (11, vi sa), (12, vi p)] [] U := by
                  intro n
                  induction n with
                  | zero => intro sa p U hm; exact absurd hm (Nat.not_lt_zero _)
                  | succ n ih88 =>
                    intro sa p U hm88 hv88
                    obtain ⟨hu1, hu3, hu4, hu5⟩ := hv88
                    have eU_118 : U 118 = S 118 := hu3 118 (by decide)
                    have eU_119 : U 119 = S 119 := hu3 119 (by decide)
                    have eU_120 : U 120 = S 120 := hu3 120 (by decide)
                    have eU_121 : U 121 = S 121 := hu3 121 (by decide)
                    have eU_124 : U 124 = S 124 := hu3 124 (by decide)
                    have eU_125 : U 125 = S 125 := hu3 125 (by decide)
                    have eU_126 : U 126 = S 126 := hu3 126 (by decide)
                    have eU_127 : U 127 = S 127 := hu3 127 (by decide)
                    have eU_128 : U 128 = S 128 := hu3 128 (by decide)
                    have eU_129 : U 129 = S 129 := hu3 129 (by decide)
                    have eU_130 : U 130 = S 130 := hu3 130 (by decide)
                    refine j_iload dX8_thief_88 rfl ?_
                    refine j_bipush dX8_thief_90 (by decide) ?_
                    refine j_icmp_eq (tgt := 164) dX8_thief_92 (by decide) (by omega) (by omega) (fun h92 => ?_) (fun h92 => ?_)
                    · have hst : sa = (fun k => stF (S 118 13) (S 125 1) (S 124) (mAg S) (mWh S) (mPl S) (S 120) (fun k => S 124 (mHd S (s * 6 + k))) (fun k => mAg S (mHd S (s * 6 + k))) k law) k := by
                        show sa = stF _ _ _ _ _ _ _ _ _ k law
                        rw [stF_e]
                        rw [show lyO _ _ _ _ = r62 from hr62.symm]
                        rcases hu4 with ⟨_, z⟩ | ⟨z, _⟩
                        · rw [z, hs0]
                          by_cases e : r62 = 0
                          · rw [if_pos e, if_pos e, show sm (thF (S 118 13) (S 124) (mAg S) (mWh S) (mPl S) (S 120) (fun k => S 124 (mHd S (s * 6 + k))) (fun k => mAg S (mHd S (s * 6 + k))) k law) (S 125 1).toNat = 0 from sm_zero (fun i x y => hF0 i (ly0 (hr62.symm.trans e) i x (by omega)))]; rfl
                          · rw [if_neg e, if_neg e, Int.zero_add]
                        · exfalso; omega
                      have hsb := stF_bd (n := S 118 13) (mk := S 124) (ag := mAg S) (wh := mWh S) (pl := mPl S) (wt := S 120) (hmk := (fun k => S 124 (mHd S (s * 6 + k)))) (hag := (fun k => mAg S (mHd S (s * 6 + k)))) (k := k) (law := law) hp1
                      rw [show stF _ _ _ _ _ _ _ _ _ k law = sa from hst.symm] at hsb
                      refine j_iload dX8_thief_164 rfl ?_
                      refine j_if_ne (tgt := 173) dX8_thief_166 (by decide) (by omega)  (fun h166 => ?_) (fun h166 => ?_)
                      · refine j_iload dX8_thief_173 rfl ?_
                        refine j_i2l dX8_thief_175 (by omega) ?_
                        refine j_topl (fun li eli => ?_)
                        have hli : li = liF (S 125 1) (mWh S) (mPl S) k := by rw [eli]; unfold liF; rw [show lyO _ _ _ _ = r62 from hr62.symm]; split <;> omega
                        have hlb2 := liF_bd (wh := mWh S) (pl := mPl S) (k := k) hp1
                        have hmid := ThI.mid hv5 (a := li) (s := sa) (by omega) (by omega)
                        have htb := th_fin (li := liF (S 125 1) (mWh S) (mPl S)) (st := fun k => stF (S 118 13) (S 125 1) (S 124) (mAg S) (mWh S) (mPl S) (S 120) (fun k => S 124 (mHd S (s * 6 + k))) (fun k => mAg S (mHd S (s * 6 + k))) k law) (n := k + 1) (by omega) (by omega) (fun k a b => ⟨liF_bd hp1, stF_bd hp1⟩)
                        rw [thU_s (by omega), thL_s (by omega), ← hli, show stF _ _ _ _ _ _ _ _ _ k law = sa from hst.symm] at htb
                        refine j_lstore (L' := [(0, .ref 118), (1, vi s), (2, vi law), (3, vi what), (4, vi r36), (5, vl u), (7, vl l), (9, vi k), (10, vi r62), (11, vi sa), (12, vl li)]) dX8_thief_176 (Nat.le_of_ble_eq_true rfl) rfl ?_
                        refine j_lload dX8_thief_178 rfl ?_
                        refine j_lload dX8_thief_180 rfl ?_
                        refine j_lmul dX8_thief_182 ?_
                        refine j_iload dX8_thief_183 rfl ?_
                        refine j_i2l dX8_thief_185 (by omega) ?_
                        refine j_lload dX8_thief_186 rfl ?_
                        refine j_lmul dX8_thief_188 ?_
                        refine j_ladd dX8_thief_189 ?_
                        refine j_lstore (L' := [(0, .ref 118), (1, vi s), (2, vi law), (3, vi what), (4, vi r36), (5, vl ((u * li) + (sa * l))), (7, vl l), (9, vi k), (10, vi r62), (11, vi sa), (12, vl li)]) dX8_thief_190 (Nat.le_of_ble_eq_true rfl) rfl ?_
                        refine j_lload dX8_thief_192 rfl ?_
                        refine j_lload dX8_thief_194 rfl ?_
                        refine j_lmul dX8_thief_196 ?_
                        refine j_lstore (L' := [(0, .ref 118), (1, vi s), (2, vi law), (3, vi what), (4, vi r36), (5, vl ((u * li) + (sa * l))), (7, vl (l * li)), (9, vi k), (10, vi r62), (11, vi sa), (12, vl li)]) dX8_thief_197 (Nat.le_of_ble_eq_true rfl) rfl ?_
                        refine j_lload dX8_thief_199 rfl ?_
                        refine j_lload dX8_thief_201 rfl ?_
                        refine j_callSl (As := [vl ((u * li) + (sa * l)), vl (l * li)]) (rest := []) (t_X8_gcd _ (u * li + sa * l) (l * li) (by omega) (by omega) (by omega) (by omega)) rfl cm_X8_gcd cs_X8_gcd ml_X8_220 rfl (Nat.le_of_ble_eq_true rfl) (Nat.le_of_ble_eq_true rfl) dX8_thief_203 (fun r203 S203 hp203 => ?_)
                        obtain ⟨hr203, he203⟩ := hp203
                        rw [he203]
                        have hg1 := gcdI_pos (a := u * li + sa * l) (b := l * li) (by omega)
                        have hg2 := gcdI_le (a := u * li + sa * l) (b := l * li) (by omega)
                        rw [← hr203] at hg1 hg2
                        refine j_lstore (L' := [(0, .ref 118), (1, vi s), (2, vi law), (3, vi what), (4, vi r36), (5, vl ((u * li) + (sa * l))), (7, vl (l * li)), (9, vi k), (10, vi r62), (11, vi sa), (12, vl li), (14, vl r203)]) dX8_thief_206 (Nat.le_of_ble_eq_true rfl) rfl ?_
                        refine j_lload dX8_thief_208 rfl ?_
                        refine j_lload dX8_thief_210 rfl ?_
                        refine j_ldiv dX8_thief_212 (by omega) (by omega) (by omega) (by omega) ?_
                        refine j_lstore (L' := [(0, .ref 118), (1, vi s), (2, vi law), (3, vi what), (4, vi r36), (5, vl (((u * li) + (sa * l)) / r203)), (7, vl (l * li)), (9, vi k), (10, vi r62), (11, vi sa), (12, vl li), (14, vl r203)]) dX8_thief_213 (Nat.le_of_ble_eq_true rfl) rfl ?_
                        refine j_lload dX8_thief_215 rfl ?_
                        refine j_lload dX8_thief_217 rfl ?_
                        refine j_ldiv dX8_thief_219 (by omega) (by omega) (by omega) (by omega) ?_
                        refine j_lstore (L' := [(0, .ref 118), (1, vi s), (2, vi law), (3, vi what), (4, vi r36), (5, vl (((u * li) + (sa * l)) / r203)), (7, vl ((l * li) / r203)), (9, vi k), (10, vi r62), (11, vi sa), (12, vl li), (14, vl r203)]) dX8_thief_220 (Nat.le_of_ble_eq_true rfl) rfl ?_
                        refine j_iinc (L' := [(0, .ref 118), (1, vi s), (2, vi law), (3, vi what), (4, vi r36), (5, vl (((u * li) + (sa * l)) / r203)), (7, vl ((l * li) / r203)), (9, vi (k + 1)), (10, vi r62), (11, vi sa), (12, vl li), (14, vl r203)]) dX8_thief_222 (Nat.le_of_ble_eq_true rfl) rfl rfl ?_
                        refine j_goto (tgt := 50) dX8_thief_225 (by decide) ?_
                        refine j_sub (L' := [(0, .ref 118), (1, vi s), (2, vi law), (3, vi what), (4, vi r36), (5, vl (((u * li) + (sa * l)) / r203)), (7, vl ((l * li) / r203)), (9, vi (k + 1))]) (by simp) ?_
                        exact ih50 (((u * li) + (sa * l)) / r203) ((l * li) / r203) (k + 1) U (by omega) ⟨by omega, by omega, hu3, by rw [thU_s (by omega), thL_s (by omega), ← hli, show stF _ _ _ _ _ _ _ _ _ k law = sa from hst.symm]; exact ThI.step hv5 (by omega) (by omega) hr203⟩
                      · refine j_lconst (x := 1) dX8_thief_169 rfl ?_
                        refine j_goto (tgt := 176) dX8_thief_170 (by decide) ?_
                        refine j_topl (fun li eli => ?_)
                        have hli : li = liF (S 125 1) (mWh S) (mPl S) k := by rw [eli]; unfold liF; rw [show lyO _ _ _ _ = r62 from hr62.symm]; split <;> omega
                        have hlb2 := liF_bd (wh := mWh S) (pl := mPl S) (k := k) hp1
                        have hmid := ThI.mid hv5 (a := li) (s := sa) (by omega) (by omega)
                        have htb := th_fin (li := liF (S 125 1) (mWh S) (mPl S)) (st := fun k => stF (S 118 13) (S 125 1) (S 124) (mAg S) (mWh S) (mPl S) (S 120) (fun k => S 124 (mHd S (s * 6 + k))) (fun k => mAg S (mHd S (s * 6 + k))) k law) (n := k + 1) (by omega) (by omega) (fun k a b => ⟨liF_bd hp1, stF_bd hp1⟩)
                        rw [thU_s (by omega), thL_s (by omega), ← hli, show stF _ _ _ _ _ _ _ _ _ k law = sa from hst.symm] at htb
                        refine j_lstore (L' := [(0, .ref 118), (1, vi s), (2, vi law), (3, vi what), (4, vi r36), (5, vl u), (7, vl l), (9, vi k), (10, vi r62), (11, vi sa), (12, vl li)]) dX8_thief_176 (Nat.le_of_ble_eq_true rfl) rfl ?_
                        refine j_lload dX8_thief_178 rfl ?_
                        refine j_lload dX8_thief_180 rfl ?_
                        refine j_lmul dX8_thief_182 ?_
                        refine j_iload dX8_thief_183 rfl ?_
                        refine j_i2l dX8_thief_185 (by omega) ?_
                        refine j_lload dX8_thief_186 rfl ?_
                        refine j_lmul dX8_thief_188 ?_
                        refine j_ladd dX8_thief_189 ?_
                        refine j_lstore (L' := [(0, .ref 118), (1, vi s), (2, vi law), (3, vi what), (4, vi r36), (5, vl ((u * li) + (sa * l))), (7, vl l), (9, vi k), (10, vi r62), (11, vi sa), (12, vl li)]) dX8_thief_190 (Nat.le_of_ble_eq_true rfl) rfl ?_
                        refine j_lload dX8_thief_192 rfl ?_
                        refine j_lload dX8_thief_194 rfl ?_
                        refine j_lmul dX8_thief_196 ?_
                        refine j_lstore (L' := [(0, .ref 118), (1, vi s), (2, vi law), (3, vi what), (4, vi r36), (5, vl ((u * li) + (sa * l))), (7, vl (l * li)), (9, vi k), (10, vi r62), (11, vi sa), (12, vl li)]) dX8_thief_197 (Nat.le_of_ble_eq_true rfl) rfl ?_
                        refine j_lload dX8_thief_199 rfl ?_
                        refine j_lload dX8_thief_201 rfl ?_
                        refine j_callSl (As := [vl ((u * li) + (sa * l)), vl (l * li)]) (rest := []) (t_X8_gcd _ (u * li + sa * l) (l * li) (by omega) (by omega) (by omega) (by omega)) rfl cm_X8_gcd cs_X8_gcd ml_X8_220 rfl (Nat.le_of_ble_eq_true rfl) (Nat.le_of_ble_eq_true rfl) dX8_thief_203 (fun r203 S203 hp203 => ?_)
                        obtain ⟨hr203, he203⟩ := hp203
                        rw [he203]
                        have hg1 := gcdI_pos (a := u * li + sa * l) (b := l * li) (by omega)
                        have hg2 := gcdI_le (a := u * li + sa * l) (b := l * li) (by omega)
                        rw [← hr203] at hg1 hg2
                        refine j_lstore (L' := [(0, .ref 118), (1, vi s), (2, vi law), (3, vi what), (4, vi r36), (5, vl ((u * li) + (sa * l))), (7, vl (l * li)), (9, vi k), (10, vi r62), (11, vi sa), (12, vl li), (14, vl r203)]) dX8_thief_206 (Nat.le_of_ble_eq_true rfl) rfl ?_
                        refine j_lload dX8_thief_208 rfl ?_
                        refine j_lload dX8_thief_210 rfl ?_
                        refine j_ldiv dX8_thief_212 (by omega) (by omega) (by omega) (by omega) ?_
                        refine j_lstore (L' := [(0, .ref 118), (1, vi s), (2, vi law), (3, vi what), (4, vi r36), (5, vl (((u * li) + (sa * l)) / r203)), (7, vl (l * li)), (9, vi k), (10, vi r62), (11, vi sa), (12, vl li), (14, vl r203)]) dX8_thief_213 (Nat.le_of_ble_eq_true rfl) rfl ?_
                        refine j_lload dX8_thief_215 rfl ?_
                        refine j_lload dX8_thief_217 rfl ?_
                        refine j_ldiv dX8_thief_219 (by omega) (by omega) (by omega) (by omega) ?_
                        refine j_lstore (L' := [(0, .ref 118), (1, vi s), (2, vi law), (3, vi what), (4, vi r36), (5, vl (((u * li) + (sa * l)) / r203)), (7, vl ((l * li) / r203)), (9, vi k), (10, vi r62), (11, vi sa), (12, vl li), (14, vl r203)]) dX8_thief_220 (Nat.le_of_ble_eq_true rfl) rfl ?_
                        refine j_iinc (L' := [(0, .ref 118), (1, vi s), (2, vi law), (3, vi what), (4, vi r36), (5, vl (((u * li) + (sa * l)) / r203)), (7, vl ((l * li) / r203)), (9, vi (k + 1)), (10, vi r62), (11, vi sa), (12, vl li), (14, vl r203)]) dX8_thief_222 (Nat.le_of_ble_eq_true rfl) rfl rfl ?_
                        refine j_goto (tgt := 50) dX8_thief_225 (by decide) ?_
                        refine j_sub (L' := [(0, .ref 118), (1, vi s), (2, vi law), (3, vi what), (4, vi r36), (5, vl (((u * li) + (sa * l)) / r203)), (7, vl ((l * li) / r203)), (9, vi (k + 1))]) (by simp) ?_
                        exact ih50 (((u * li) + (sa * l)) / r203) ((l * li) / r203) (k + 1) U (by omega) ⟨by omega, by omega, hu3, by rw [thU_s (by omega), thL_s (by omega), ← hli, show stF _ _ _ _ _ _ _ _ _ k law = sa from hst.symm]; exact ThI.step hv5 (by omega) (by omega) hr203⟩
                    · refine j_aload_n dX8_thief_95 rfl ?_
                      refine j_iload_n dX8_thief_96 rfl ?_
                      refine j_callVv (As := [vi s]) (rest := []) (t_X8_asIs _ s (hM.same hu3 (by decide)) (by omega) (by rw [hu3 125 (by decide)]; omega)) rfl cm_X8_asIs ci_X8_asIs ml_X8_178 oq_118 rfl (Nat.le_of_ble_eq_true rfl) (Nat.le_of_ble_eq_true rfl) dX8_thief_97 (fun r97 S97 hp97 => ?_)
                      obtain ⟨hsm97, hl97⟩ := hp97
                      obtain ⟨v1, v2, v3, v4, v5⟩ := mv_same hu3 (by decide)
                      rw [hu3 118 (by decide), hu3 124 (by decide), v2, v3] at hl97
                      have hpp := hpt p (by omega) (by omega)
                      have eS97_118 : S97 118 = S 118 := (hsm97 118 (by decide)).trans eU_118
                      have eS97_119 : S97 119 = S 119 := (hsm97 119 (by decide)).trans eU_119
                      have eS97_120 : S97 120 = S 120 := (hsm97 120 (by decide)).trans eU_120
                      have eS97_121 : S97 121 = S 121 := (hsm97 121 (by decide)).trans eU_121
                      have eS97_124 : S97 124 = S 124 := (hsm97 124 (by decide)).trans eU_124
                      have eS97_125 : S97 125 = S 125 := (hsm97 125 (by decide)).trans eU_125
                      have eS97_126 : S97 126 = S 126 := (hsm97 126 (by decide)).trans eU_126
                      have eS97_127 : S97 127 = S 127 := (hsm97 127 (by decide)).trans eU_127
                      have eS97_128 : S97 128 = S 128 := (hsm97 128 (by decide)).trans eU_128
                      have eS97_129 : S97 129 = S 129 := (hsm97 129 (by decide)).trans eU_129
                      have eS97_130 : S97 130 = S 130 := (hsm97 130 (by decide)).trans eU_130
                      refine j_aload_n dX8_thief_100 rfl ?_
                      refine j_getR dX8_thief_101 fg_X8_47 fq_118_26 ?_
                      refine j_iload dX8_thief_104 rfl ?_
                      refine j_aload_n dX8_thief_106 rfl ?_
                      refine j_getR dX8_thief_107 fg_X8_25 fq_118_17 ?_
                      refine j_iload dX8_thief_110 rfl ?_
                      refine j_iald (x := S 124 p) dX8_thief_112 aq_124 (by omega) (by omega) (congrFun eS97_124 _) (fun hi112 => ?_)
                      refine j_iast dX8_thief_113 aq_131 (by omega) (by omega) (by omega) ?_
                      refine j_aload_n dX8_thief_114 rfl ?_
                      refine j_getR dX8_thief_115 fg_X8_50 fq_118_27 ?_
                      refine j_iload dX8_thief_118 rfl ?_
                      refine j_aload_n dX8_thief_120 rfl ?_
                      refine j_getR dX8_thief_121 fg_X8_28 fq_118_18 ?_
                      refine j_bipush dX8_thief_124 (by decide) ?_
                      refine j_iload dX8_thief_126 rfl ?_
                      refine j_iadd dX8_thief_128 ?_
                      refine j_iald (x := mAg S p) dX8_thief_129 aq_125 (by omega) (by omega) (congrFun eS97_125 _) (fun hi129 => ?_)
                      refine j_iast dX8_thief_130 aq_132 (by omega) (by omega) (by omega) ?_
                      refine j_iload dX8_thief_131 rfl ?_
                      refine j_aload_n dX8_thief_133 rfl ?_
                      refine j_iload_n dX8_thief_134 rfl ?_
                      have h9 := putm9 (n := S 118 13) (k := k) (x := S 124 p) (y := mAg S p) (mk := (fun k => S 124 (mHd S (s * 6 + k)))) (ag := (fun k => mAg S (mHd S (s * 6 + k)))) (fun j a b _ => hl97 j a b)
                      refine j_callVi (As := [vi law]) (rest := [vi sa]) (t_X8_isBy _ law (by show 2 ≤ S97 118 13; rw [eS97_118]; exact hn0) (by show S97 118 13 ≤ 6; rw [eS97_118]; exact hn1) (by show ∀ k, 0 ≤ k → k < 6 → 1 ≤ S97 120 k ∧ S97 120 k ≤ 9; rw [eS97_120]; exact hwt) (by show ∀ j, 0 ≤ j → j < S97 118 13 → isMk ((up (up S97 131 k (S 124 p)) 132 k (mAg S p)) 131 j); rw [eS97_118]; intro j a b; rw [(h9 j a b).1]; exact st9_mk hmkS hpp.2.1 j a b) (by omega) (by omega)) rfl cm_X8_isBy ci_X8_isBy ml_X8_181 oq_118 rfl (Nat.le_of_ble_eq_true rfl) (Nat.le_of_ble_eq_true rfl) dX8_thief_135 (fun r135 S135 hp135 => ?_)
                      obtain ⟨hr135, he135⟩ := hp135
                      rw [he135]
                      have hw135 : r135 = who (S 118 13) (st9 (fun k => S 124 (mHd S (s * 6 + k))) k (S 124 p)) (st9 (fun k => mAg S (mHd S (s * 6 + k))) k (mAg S p)) (S 120) law := by rw [hr135]; show who (S97 118 13) ((up (up S97 131 k (S 124 p)) 132 k (mAg S p)) 131) ((up (up S97 131 k (S 124 p)) 132 k (mAg S p)) 132) (S97 120) law = _; rw [eS97_118, eS97_120]; exact who_congr (by omega) (fun j a b => ⟨(h9 j a b).1, (h9 j a b).2, rfl⟩)
                      have hwb135 := who_bd (n := S 118 13) (mk := st9 (fun k => S 124 (mHd S (s * 6 + k))) k (S 124 p)) (ag := st9 (fun k => mAg S (mHd S (s * 6 + k))) k (mAg S p)) (wt := S 120) (law := law) (by omega) (st9_mk hmkS hpp.2.1)
                      rw [← hw135] at hwb135
                      refine j_iload dX8_thief_138 rfl ?_
                      refine j_icmp_ne (tgt := 147) dX8_thief_140 (by decide) (by omega) (by omega) (fun h140 => ?_) (fun h140 => ?_)
                      · refine j_iconst dX8_thief_147 ?_
                        refine j_top (fun one eone => ?_)
                        have hl : mWh S p = 8 ∧ mPl S p = k := by rcases hu4 with z | z; exact absurd z.1 h92; exact z.2.1
                        have hone : one = (thF (S 118 13) (S 124) (mAg S) (mWh S) (mPl S) (S 120) (fun k => S 124 (mHd S (s * 6 + k))) (fun k => mAg S (mHd S (s * 6 + k))) k law) p := by unfold thF; rw [eone, show who _ _ _ _ _ = r36 from hr36.symm, ← hw135]; split <;> first | rfl | (exfalso; omega) | (exfalso; rename_i hz; exact hz ⟨hl, by omega⟩) | (exfalso; rename_i hz; exact absurd hz.2 (by omega))
                        have honeb : 0 ≤ one ∧ one ≤ 1 := by omega
                        refine j_iadd dX8_thief_148 ?_
                        refine j_istore (L' := [(0, .ref 118), (1, vi s), (2, vi law), (3, vi what), (4, vi r36), (5, vl u), (7, vl l), (9, vi k), (10, vi r62), (11, vi (sa + one)), (12, vi p)]) dX8_thief_149 (Nat.le_of_ble_eq_true rfl) rfl ?_
                        have hU : Same [131, 132] S (up (up S97 131 k (S 124 p)) 132 k (mAg S p)) := same_up (same_up (hu3.tr hsm97) (by decide)) (by decide)
                        refine j_aload_n dX8_thief_151 rfl ?_
                        refine j_iload dX8_thief_152 rfl ?_
                        refine j_iload dX8_thief_154 rfl ?_
                        refine j_callVi (As := [vi k, vi p]) (rest := []) (t_X8_nextOf _ k p (hM.same hU (by decide)) (by omega) (by omega) (by rw [hU 125 (by decide)]; omega)) rfl cm_X8_nextOf ci_X8_nextOf ml_X8_208 oq_118 rfl (Nat.le_of_ble_eq_true rfl) (Nat.le_of_ble_eq_true rfl) dX8_thief_156 (fun r156 S156 hp156 => ?_)
                        obtain ⟨hr156, he156⟩ := hp156
                        rw [he156]
                        obtain ⟨v1, v2, v3, v4, v5⟩ := mv_same hU (by decide)
                        rw [hU 125 (by decide), v1, v5] at hr156
                        have hrb156 : r156 = -9 ∨ (p < r156 ∧ r156 < S 125 1) := by rcases hr156 with z | z; exact Or.inr ⟨z.1, z.2.1⟩; exact Or.inl z.1
                        have hcn : ThC (S 125 1) (fun q => mWh S q = 8 ∧ mPl S q = k) (thF (S 118 13) (S 124) (mAg S) (mWh S) (mPl S) (S 120) (fun k => S 124 (mHd S (s * 6 + k))) (fun k => mAg S (mHd S (s * 6 + k))) k law) r156 s0 (sa + one) := by rw [hone]; exact hu4.step hF0 h92 hr156
                        have hfb := thF_bd (n := S 118 13) (mk := S 124) (ag := mAg S) (wh := mWh S) (pl := mPl S) (wt := S 120) (hmk := (fun k => S 124 (mHd S (s * 6 + k)))) (hag := (fun k => mAg S (mHd S (s * 6 + k)))) (k := k) (law := law) (S 125 1).toNat
                        have hfc := thF_bd (n := S 118 13) (mk := S 124) (ag := mAg S) (wh := mWh S) (pl := mPl S) (wt := S 120) (hmk := (fun k => S 124 (mHd S (s * 6 + k)))) (hag := (fun k => mAg S (mHd S (s * 6 + k)))) (k := k) (law := law) r156.toNat
                        have hsb : 0 ≤ s0 ∧ s0 ≤ 1 := by rw [hs0]; split <;> omega
                        have hsaR : InR (sa + one) := by rcases hcn with z | z; have := z.2; omega; have := z.2.2; omega
                        refine j_istore (L' := [(0, .ref 118), (1, vi s), (2, vi law), (3, vi what), (4, vi r36), (5, vl u), (7, vl l), (9, vi k), (10, vi r62), (11, vi (sa + one)), (12, vi r156)]) dX8_thief_159 (Nat.le_of_ble_eq_true rfl) rfl ?_
                        refine j_goto (tgt := 88) dX8_thief_161 (by decide) ?_
                        exact ih88 (sa + one) r156 (up (up S97 131 k (S 124 p)) 132 k (mAg S p)) (msN_lt hm88 h92 (by omega)) ⟨by omega, hU, hcn, hsaR⟩
                      · refine j_iconst dX8_thief_143 ?_
                        refine j_goto (tgt := 148) dX8_thief_144 (by decide) ?_
                        refine j_top (fun one eone => ?_)
                        have hl : mWh S p = 8 ∧ mPl S p = k := by rcases hu4 with z | z; exact absurd z.1 h92; exact z.2.1
                        have hone : one = (thF (S 118 13) (S 124) (mAg S) (mWh S) (mPl S) (S 120) (fun k => S 124 (mHd S (s * 6 + k))) (fun k => mAg S (mHd S (s * 6 + k))) k law) p := by unfold thF; rw [eone, show who _ _ _ _ _ = r36 from hr36.symm, ← hw135]; split <;> first | rfl | (exfalso; omega) | (exfalso; rename_i hz; exact hz ⟨hl, by omega⟩) | (exfalso; rename_i hz; exact absurd hz.2 (by omega))
                        have honeb : 0 ≤ one ∧ one ≤ 1 := by omega
                        refine j_iadd dX8_thief_148 ?_
                        refine j_istore (L' := [(0, .ref 118), (1, vi s), (2, vi law), (3, vi what), (4, vi r36), (5, vl u), (7, vl l), (9, vi k), (10, vi r62), (11, vi (sa + one)), (12, vi p)]) dX8_thief_149 (Nat.le_of_ble_eq_true rfl) rfl ?_
                        have hU : Same [131, 132] S (up (up S97 131 k (S 124 p)) 132 k (mAg S p)) := same_up (same_up (hu3.tr hsm97) (by decide)) (by decide)
                        refine j_aload_n dX8_thief_151 rfl ?_
                        refine j_iload dX8_thief_152 rfl ?_
                        refine j_iload dX8_thief_154 rfl ?_
                        refine j_callVi (As := [vi k, vi p]) (rest := []) (t_X8_nextOf _ k p (hM.same hU (by decide)) (by omega) (by omega) (by rw [hU 125 (by decide)]; omega)) rfl cm_X8_nextOf ci_X8_nextOf ml_X8_208 oq_118 rfl (Nat.le_of_ble_eq_true rfl) (Nat.le_of_ble_eq_true rfl) dX8_thief_156 (fun r156 S156 hp156 => ?_)
                        obtain ⟨hr156, he156⟩ := hp156
                        rw [he156]
                        obtain ⟨v1, v2, v3, v4, v5⟩ := mv_same hU (by decide)
                        rw [hU 125 (by decide), v1, v5] at hr156
                        have hrb156 : r156 = -9 ∨ (p < r156 ∧ r156 < S 125 1) := by rcases hr156 with z | z; exact Or.inr ⟨z.1, z.2.1⟩; exact Or.inl z.1
                        have hcn : ThC (S 125 1) (fun q => mWh S q = 8 ∧ mPl S q = k) (thF (S 118 13) (S 124) (mAg S) (mWh S) (mPl S) (S 120) (fun k => S 124 (mHd S (s * 6 + k))) (fun k => mAg S (mHd S (s * 6 + k))) k law) r156 s0 (sa + one) := by rw [hone]; exact hu4.step hF0 h92 hr156
                        have hfb := thF_bd (n := S 118 13) (mk := S 124) (ag := mAg S) (wh := mWh S) (pl := mPl S) (wt := S 120) (hmk := (fun k => S 124 (mHd S (s * 6 + k)))) (hag := (fun k => mAg S (mHd S (s * 6 + k)))) (k := k) (law := law) (S 125 1).toNat
                        have hfc := thF_bd (n := S 118 13) (mk := S 124) (ag := mAg S) (wh := mWh S) (pl := mPl S) (wt := S 120) (hmk := (fun k => S 124 (mHd S (s * 6 + k)))) (hag := (fun k => mAg S (mHd S (s * 6 + k)))) (k := k) (law := law) r156.toNat
                        have hsb : 0 ≤ s0 ∧ s0 ≤ 1 := by rw [hs0]; split <;> omega
                        have hsaR : InR (sa + one) := by rcases hcn with z | z; have := z.2; omega; have := z.2.2; omega
                        refine j_istore (L' := [(0, .ref 118), (1, vi s), (2, vi law), (3, vi what), (4, vi r36), (5, vl u), (7, vl l), (9, vi k), (10, vi r62), (11, vi (sa + one)), (12, vi r156)]) dX8_thief_159 (Nat.le_of_ble_eq_true rfl) rfl ?_
                        refine j_goto (tgt := 88) dX8_thief_161 (by decide) ?_
                        exact ih88 (sa + one) r156 (up (up S97 131 k (S 124 p)) 132 k (mAg S p)) (msN_lt hm88 h92 (by omega)) ⟨by omega, hU, hcn, hsaR⟩
                exact lp88 _ s0 r83 T (Nat.lt_succ_self _) ⟨by omega, hv3, ThC.start (by omega) hF0 hr83, by rw [hs0]; split <;> omega⟩
              · refine j_iconst dX8_thief_72 ?_
                refine j_goto (tgt := 77) dX8_thief_73 (by decide) ?_
                refine j_top (fun s0 es0 => ?_)
                have hs0 : s0 = if r62 = 0 then 1 else 0 := by rw [es0]; first | rw [if_pos (by omega)] | rw [if_neg (by omega)]
                refine j_istore (L' := [(0, .ref 118), (1, vi s), (2, vi law), (3, vi what), (4, vi r36), (5, vl u), (7, vl l), (9, vi k), (10, vi r62), (11, vi s0)]) dX8_thief_77 (Nat.le_of_ble_eq_true rfl) rfl ?_
                refine j_aload_n dX8_thief_79 rfl ?_
                refine j_iload dX8_thief_80 rfl ?_
                refine j_iconst dX8_thief_82 ?_
                refine j_callVi (As := [vi k, vi (-1)]) (rest := []) (t_X8_nextOf _ k (-1) (hM.same hv3 (by decide)) (by omega) (by omega) (by rw [hv3 125 (by decide)]; omega)) rfl cm_X8_nextOf ci_X8_nextOf ml_X8_208 oq_118 rfl (Nat.le_of_ble_eq_true rfl) (Nat.le_of_ble_eq_true rfl) dX8_thief_83 (fun r83 S83 hp83 => ?_)
                obtain ⟨hr83, he83⟩ := hp83
                rw [he83]
                obtain ⟨v1, v2, v3, v4, v5⟩ := mv_same hv3 (by decide)
                rw [hv3 125 (by decide), v1, v5] at hr83
                have hrb83 : r83 = -9 ∨ ((-1) < r83 ∧ r83 < S 125 1) := by rcases hr83 with z | z; exact Or.inr ⟨z.1, z.2.1⟩; exact Or.inl z.1
                have hF0 : ∀ q, ¬ (mWh S q = 8 ∧ mPl S q = k) → (thF (S 118 13) (S 124) (mAg S) (mWh S) (mPl S) (S 120) (fun k => S 124 (mHd S (s * 6 + k))) (fun k => mAg S (mHd S (s * 6 + k))) k law) q = 0 := fun q z => thF_0 z
                refine j_istore (L' := [(0, .ref 118), (1, vi s), (2, vi law), (3, vi what), (4, vi r36), (5, vl u), (7, vl l), (9, vi k), (10, vi r62), (11, vi s0), (12, vi r83)]) dX8_thief_86 (Nat.le_of_ble_eq_true rfl) rfl ?_
                have lp88 : ∀ (n : Nat) (sa p : Int) (U : St), msN (S 125 1) p < n → ((p = -9 ∨ (0 ≤ p ∧ p < S 125 1)) ∧ Same [131, 132] S U ∧ ThC (S 125 1) (fun q => mWh S q = 8 ∧ mPl S q = k) (thF (S 118 13) (S 124) (mAg S) (mWh S) (mPl S) (S 120) (fun k => S 124 (mHd S (s * 6 + k))) (fun k => mAg S (mHd S (s * 6 + k))) k law) p s0 sa ∧ InR sa) → JJ mX8_thief (RX mX8_thief P) 88 [(0, .ref 118), (1, vi s), (2, vi law), (3, vi what), (4, vi r36), (5, vl u), (7, vl l), (9, vi k), (10, vi r62), (11, vi sa), (12, vi p)] [] U := by
                  intro n
                  induction n with
                  | zero => intro sa p U hm; exact absurd hm (Nat.not_lt_zero _)
                  | succ n ih88 =>
                    intro sa p U hm88 hv88
                    obtain ⟨hu1, hu3, hu4, hu5⟩ := hv88
                    have eU_118 : U 118 = S 118 := hu3 118 (by decide)
                    have eU_119 : U 119 = S 119 := hu3 119 (by decide)
                    have eU_120 : U 120 = S 120 := hu3 120 (by decide)
                    have eU_121 : U 121 = S 121 := hu3 121 (by decide)
                    have eU_124 : U 124 = S 124 := hu3 124 (by decide)
                    have eU_125 : U 125 = S 125 := hu3 125 (by decide)
                    have eU_126 : U 126 = S 126 := hu3 126 (by decide)
                    have eU_127 : U 127 = S 127 := hu3 127 (by decide)
                    have eU_128 : U 128 = S 128 := hu3 128 (by decide)
                    have eU_129 : U 129 = S 129 := hu3 129 (by decide)
                    have eU_130 : U 130 = S 130 := hu3 130 (by decide)
                    refine j_iload dX8_thief_88 rfl ?_
                    refine j_bipush dX8_thief_90 (by decide) ?_
                    refine j_icmp_eq (tgt := 164) dX8_thief_92 (by decide) (by omega) (by omega) (fun h92 => ?_) (fun h92 => ?_)
                    · have hst : sa = (fun k => stF (S 118 13) (S 125 1) (S 124) (mAg S) (mWh S) (mPl S) (S 120) (fun k => S 124 (mHd S (s * 6 + k))) (fun k => mAg S (mHd S (s * 6 + k))) k law) k := by
                        show sa = stF _ _ _ _ _ _ _ _ _ k law
                        rw [stF_e]
                        rw [show lyO _ _ _ _ = r62 from hr62.symm]
                        rcases hu4 with ⟨_, z⟩ | ⟨z, _⟩
                        · rw [z, hs0]
                          by_cases e : r62 = 0
                          · rw [if_pos e, if_pos e, show sm (thF (S 118 13) (S 124) (mAg S) (mWh S) (mPl S) (S 120) (fun k => S 124 (mHd S (s * 6 + k))) (fun k => mAg S (mHd S (s * 6 + k))) k law) (S 125 1).toNat = 0 from sm_zero (fun i x y => hF0 i (ly0 (hr62.symm.trans e) i x (by omega)))]; rfl
                          · rw [if_neg e, if_neg e, Int.zero_add]
                        · exfalso; omega
                      have hsb := stF_bd (n := S 118 13) (mk := S 124) (ag := mAg S) (wh := mWh S) (pl := mPl S) (wt := S 120) (hmk := (fun k => S 124 (mHd S (s * 6 + k)))) (hag := (fun k => mAg S (mHd S (s * 6 + k)))) (k := k) (law := law) hp1
                      rw [show stF _ _ _ _ _ _ _ _ _ k law = sa from hst.symm] at hsb
                      refine j_iload dX8_thief_164 rfl ?_
                      refine j_if_ne (tgt := 173) dX8_thief_166 (by decide) (by omega)  (fun h166 => ?_) (fun h166 => ?_)
                      · refine j_iload dX8_thief_173 rfl ?_
                        refine j_i2l dX8_thief_175 (by omega) ?_
                        refine j_topl (fun li eli => ?_)
                        have hli : li = liF (S 125 1) (mWh S) (mPl S) k := by rw [eli]; unfold liF; rw [show lyO _ _ _ _ = r62 from hr62.symm]; split <;> omega
                        have hlb2 := liF_bd (wh := mWh S) (pl := mPl S) (k := k) hp1
                        have hmid := ThI.mid hv5 (a := li) (s := sa) (by omega) (by omega)
                        have htb := th_fin (li := liF (S 125 1) (mWh S) (mPl S)) (st := fun k => stF (S 118 13) (S 125 1) (S 124) (mAg S) (mWh S) (mPl S) (S 120) (fun k => S 124 (mHd S (s * 6 + k))) (fun k => mAg S (mHd S (s * 6 + k))) k law) (n := k + 1) (by omega) (by omega) (fun k a b => ⟨liF_bd hp1, stF_bd hp1⟩)
                        rw [thU_s (by omega), thL_s (by omega), ← hli, show stF _ _ _ _ _ _ _ _ _ k law = sa from hst.symm] at htb
                        refine j_lstore (L' := [(0, .ref 118), (1, vi s), (2, vi law), (3, vi what), (4, vi r36), (5, vl u), (7, vl l), (9, vi k), (10, vi r62), (11, vi sa), (12, vl li)]) dX8_thief_176 (Nat.le_of_ble_eq_true rfl) rfl ?_
                        refine j_lload dX8_thief_178 rfl ?_
                        refine j_lload dX8_thief_180 rfl ?_
                        refine j_lmul dX8_thief_182 ?_
                        refine j_iload dX8_thief_183 rfl ?_
                        refine j_i2l dX8_thief_185 (by omega) ?_
                        refine j_lload dX8_thief_186 rfl ?_
                        refine j_lmul dX8_thief_188 ?_
                        refine j_ladd dX8_thief_189 ?_
                        refine j_lstore (L' := [(0, .ref 118), (1, vi s), (2, vi law), (3, vi what), (4, vi r36), (5, vl ((u * li) + (sa * l))), (7, vl l), (9, vi k), (10, vi r62), (11, vi sa), (12, vl li)]) dX8_thief_190 (Nat.le_of_ble_eq_true rfl) rfl ?_
                        refine j_lload dX8_thief_192 rfl ?_
                        refine j_lload dX8_thief_194 rfl ?_
                        refine j_lmul dX8_thief_196 ?_
                        refine j_lstore (L' := [(0, .ref 118), (1, vi s), (2, vi law), (3, vi what), (4, vi r36), (5, vl ((u * li) + (sa * l))), (7, vl (l * li)), (9, vi k), (10, vi r62), (11, vi sa), (12, vl li)]) dX8_thief_197 (Nat.le_of_ble_eq_true rfl) rfl ?_
                        refine j_lload dX8_thief_199 rfl ?_
                        refine j_lload dX8_thief_201 rfl ?_
                        refine j_callSl (As := [vl ((u * li) + (sa * l)), vl (l * li)]) (rest := []) (t_X8_gcd _ (u * li + sa * l) (l * li) (by omega) (by omega) (by omega) (by omega)) rfl cm_X8_gcd cs_X8_gcd ml_X8_220 rfl (Nat.le_of_ble_eq_true rfl) (Nat.le_of_ble_eq_true rfl) dX8_thief_203 (fun r203 S203 hp203 => ?_)
                        obtain ⟨hr203, he203⟩ := hp203
                        rw [he203]
                        have hg1 := gcdI_pos (a := u * li + sa * l) (b := l * li) (by omega)
                        have hg2 := gcdI_le (a := u * li + sa * l) (b := l * li) (by omega)
                        rw [← hr203] at hg1 hg2
                        refine j_lstore (L' := [(0, .ref 118), (1, vi s), (2, vi law), (3, vi what), (4, vi r36), (5, vl ((u * li) + (sa * l))), (7, vl (l * li)), (9, vi k), (10, vi r62), (11, vi sa), (12, vl li), (14, vl r203)]) dX8_thief_206 (Nat.le_of_ble_eq_true rfl) rfl ?_
                        refine j_lload dX8_thief_208 rfl ?_
                        refine j_lload dX8_thief_210 rfl ?_
                        refine j_ldiv dX8_thief_212 (by omega) (by omega) (by omega) (by omega) ?_
                        refine j_lstore (L' := [(0, .ref 118), (1, vi s), (2, vi law), (3, vi what), (4, vi r36), (5, vl (((u * li) + (sa * l)) / r203)), (7, vl (l * li)), (9, vi k), (10, vi r62), (11, vi sa), (12, vl li), (14, vl r203)]) dX8_thief_213 (Nat.le_of_ble_eq_true rfl) rfl ?_
                        refine j_lload dX8_thief_215 rfl ?_
                        refine j_lload dX8_thief_217 rfl ?_
                        refine j_ldiv dX8_thief_219 (by omega) (by omega) (by omega) (by omega) ?_
                        refine j_lstore (L' := [(0, .ref 118), (1, vi s), (2, vi law), (3, vi what), (4, vi r36), (5, vl (((u * li) + (sa * l)) / r203)), (7, vl ((l * li) / r203)), (9, vi k), (10, vi r62), (11, vi sa), (12, vl li), (14, vl r203)]) dX8_thief_220 (Nat.le_of_ble_eq_true rfl) rfl ?_
                        refine j_iinc (L' := [(0, .ref 118), (1, vi s), (2, vi law), (3, vi what), (4, vi r36), (5, vl (((u * li) + (sa * l)) / r203)), (7, vl ((l * li) / r203)), (9, vi (k + 1)), (10, vi r62), (11, vi sa), (12, vl li), (14, vl r203)]) dX8_thief_222 (Nat.le_of_ble_eq_true rfl) rfl rfl ?_
                        refine j_goto (tgt := 50) dX8_thief_225 (by decide) ?_
                        refine j_sub (L' := [(0, .ref 118), (1, vi s), (2, vi law), (3, vi what), (4, vi r36), (5, vl (((u * li) + (sa * l)) / r203)), (7, vl ((l * li) / r203)), (9, vi (k + 1))]) (by simp) ?_
                        exact ih50 (((u * li) + (sa * l)) / r203) ((l * li) / r203) (k + 1) U (by omega) ⟨by omega, by omega, hu3, by rw [thU_s (by omega), thL_s (by omega), ← hli, show stF _ _ _ _ _ _ _ _ _ k law = sa from hst.symm]; exact ThI.step hv5 (by omega) (by omega) hr203⟩
                      · refine j_lconst (x := 1) dX8_thief_169 rfl ?_
                        refine j_goto (tgt := 176) dX8_thief_170 (by decide) ?_
                        refine j_topl (fun li eli => ?_)
                        have hli : li = liF (S 125 1) (mWh S) (mPl S) k := by rw [eli]; unfold liF; rw [show lyO _ _ _ _ = r62 from hr62.symm]; split <;> omega
                        have hlb2 := liF_bd (wh := mWh S) (pl := mPl S) (k := k) hp1
                        have hmid := ThI.mid hv5 (a := li) (s := sa) (by omega) (by omega)
                        have htb := th_fin (li := liF (S 125 1) (mWh S) (mPl S)) (st := fun k => stF (S 118 13) (S 125 1) (S 124) (mAg S) (mWh S) (mPl S) (S 120) (fun k => S 124 (mHd S (s * 6 + k))) (fun k => mAg S (mHd S (s * 6 + k))) k law) (n := k + 1) (by omega) (by omega) (fun k a b => ⟨liF_bd hp1, stF_bd hp1⟩)
                        rw [thU_s (by omega), thL_s (by omega), ← hli, show stF _ _ _ _ _ _ _ _ _ k law = sa from hst.symm] at htb
                        refine j_lstore (L' := [(0, .ref 118), (1, vi s), (2, vi law), (3, vi what), (4, vi r36), (5, vl u), (7, vl l), (9, vi k), (10, vi r62), (11, vi sa), (12, vl li)]) dX8_thief_176 (Nat.le_of_ble_eq_true rfl) rfl ?_
                        refine j_lload dX8_thief_178 rfl ?_
                        refine j_lload dX8_thief_180 rfl ?_
                        refine j_lmul dX8_thief_182 ?_
                        refine j_iload dX8_thief_183 rfl ?_
                        refine j_i2l dX8_thief_185 (by omega) ?_
                        refine j_lload dX8_thief_186 rfl ?_
                        refine j_lmul dX8_thief_188 ?_
                        refine j_ladd dX8_thief_189 ?_
                        refine j_lstore (L' := [(0, .ref 118), (1, vi s), (2, vi law), (3, vi what), (4, vi r36), (5, vl ((u * li) + (sa * l))), (7, vl l), (9, vi k), (10, vi r62), (11, vi sa), (12, vl li)]) dX8_thief_190 (Nat.le_of_ble_eq_true rfl) rfl ?_
                        refine j_lload dX8_thief_192 rfl ?_
                        refine j_lload dX8_thief_194 rfl ?_
                        refine j_lmul dX8_thief_196 ?_
                        refine j_lstore (L' := [(0, .ref 118), (1, vi s), (2, vi law), (3, vi what), (4, vi r36), (5, vl ((u * li) + (sa * l))), (7, vl (l * li)), (9, vi k), (10, vi r62), (11, vi sa), (12, vl li)]) dX8_thief_197 (Nat.le_of_ble_eq_true rfl) rfl ?_
                        refine j_lload dX8_thief_199 rfl ?_
                        refine j_lload dX8_thief_201 rfl ?_
                        refine j_callSl (As := [vl ((u * li) + (sa * l)), vl (l * li)]) (rest := []) (t_X8_gcd _ (u * li + sa * l) (l * li) (by omega) (by omega) (by omega) (by omega)) rfl cm_X8_gcd cs_X8_gcd ml_X8_220 rfl (Nat.le_of_ble_eq_true rfl) (Nat.le_of_ble_eq_true rfl) dX8_thief_203 (fun r203 S203 hp203 => ?_)
                        obtain ⟨hr203, he203⟩ := hp203
                        rw [he203]
                        have hg1 := gcdI_pos (a := u * li + sa * l) (b := l * li) (by omega)
                        have hg2 := gcdI_le (a := u * li + sa * l) (b := l * li) (by omega)
                        rw [← hr203] at hg1 hg2
                        refine j_lstore (L' := [(0, .ref 118), (1, vi s), (2, vi law), (3, vi what), (4, vi r36), (5, vl ((u * li) + (sa * l))), (7, vl (l * li)), (9, vi k), (10, vi r62), (11, vi sa), (12, vl li), (14, vl r203)]) dX8_thief_206 (Nat.le_of_ble_eq_true rfl) rfl ?_
                        refine j_lload dX8_thief_208 rfl ?_
                        refine j_lload dX8_thief_210 rfl ?_
                        refine j_ldiv dX8_thief_212 (by omega) (by omega) (by omega) (by omega) ?_
                        refine j_lstore (L' := [(0, .ref 118), (1, vi s), (2, vi law), (3, vi what), (4, vi r36), (5, vl (((u * li) + (sa * l)) / r203)), (7, vl (l * li)), (9, vi k), (10, vi r62), (11, vi sa), (12, vl li), (14, vl r203)]) dX8_thief_213 (Nat.le_of_ble_eq_true rfl) rfl ?_
                        refine j_lload dX8_thief_215 rfl ?_
                        refine j_lload dX8_thief_217 rfl ?_
                        refine j_ldiv dX8_thief_219 (by omega) (by omega) (by omega) (by omega) ?_
                        refine j_lstore (L' := [(0, .ref 118), (1, vi s), (2, vi law), (3, vi what), (4, vi r36), (5, vl (((u * li) + (sa * l)) / r203)), (7, vl ((l * li) / r203)), (9, vi k), (10, vi r62), (11, vi sa), (12, vl li), (14, vl r203)]) dX8_thief_220 (Nat.le_of_ble_eq_true rfl) rfl ?_
                        refine j_iinc (L' := [(0, .ref 118), (1, vi s), (2, vi law), (3, vi what), (4, vi r36), (5, vl (((u * li) + (sa * l)) / r203)), (7, vl ((l * li) / r203)), (9, vi (k + 1)), (10, vi r62), (11, vi sa), (12, vl li), (14, vl r203)]) dX8_thief_222 (Nat.le_of_ble_eq_true rfl) rfl rfl ?_
                        refine j_goto (tgt := 50) dX8_thief_225 (by decide) ?_
                        refine j_sub (L' := [(0, .ref 118), (1, vi s), (2, vi law), (3, vi what), (4, vi r36), (5, vl (((u * li) + (sa * l)) / r203)), (7, vl ((l * li) / r203)), (9, vi (k + 1))]) (by simp) ?_
                        exact ih50 (((u * li) + (sa * l)) / r203) ((l * li) / r203) (k + 1) U (by omega) ⟨by omega, by omega, hu3, by rw [thU_s (by omega), thL_s (by omega), ← hli, show stF _ _ _ _ _ _ _ _ _ k law = sa from hst.symm]; exact ThI.step hv5 (by omega) (by omega) hr203⟩
                    · refine j_aload_n dX8_thief_95 rfl ?_
                      refine j_iload_n dX8_thief_96 rfl ?_
                      refine j_callVv (As := [vi s]) (rest := []) (t_X8_asIs _ s (hM.same hu3 (by decide)) (by omega) (by rw [hu3 125 (by decide)]; omega)) rfl cm_X8_asIs ci_X8_asIs ml_X8_178 oq_118 rfl (Nat.le_of_ble_eq_true rfl) (Nat.le_of_ble_eq_true rfl) dX8_thief_97 (fun r97 S97 hp97 => ?_)
                      obtain ⟨hsm97, hl97⟩ := hp97
                      obtain ⟨v1, v2, v3, v4, v5⟩ := mv_same hu3 (by decide)
                      rw [hu3 118 (by decide), hu3 124 (by decide), v2, v3] at hl97
                      have hpp := hpt p (by omega) (by omega)
                      have eS97_118 : S97 118 = S 118 := (hsm97 118 (by decide)).trans eU_118
                      have eS97_119 : S97 119 = S 119 := (hsm97 119 (by decide)).trans eU_119
                      have eS97_120 : S97 120 = S 120 := (hsm97 120 (by decide)).trans eU_120
                      have eS97_121 : S97 121 = S 121 := (hsm97 121 (by decide)).trans eU_121
                      have eS97_124 : S97 124 = S 124 := (hsm97 124 (by decide)).trans eU_124
                      have eS97_125 : S97 125 = S 125 := (hsm97 125 (by decide)).trans eU_125
                      have eS97_126 : S97 126 = S 126 := (hsm97 126 (by decide)).trans eU_126
                      have eS97_127 : S97 127 = S 127 := (hsm97 127 (by decide)).trans eU_127
                      have eS97_128 : S97 128 = S 128 := (hsm97 128 (by decide)).trans eU_128
                      have eS97_129 : S97 129 = S 129 := (hsm97 129 (by decide)).trans eU_129
                      have eS97_130 : S97 130 = S 130 := (hsm97 130 (by decide)).trans eU_130
                      refine j_aload_n dX8_thief_100 rfl ?_
                      refine j_getR dX8_thief_101 fg_X8_47 fq_118_26 ?_
                      refine j_iload dX8_thief_104 rfl ?_
                      refine j_aload_n dX8_thief_106 rfl ?_
                      refine j_getR dX8_thief_107 fg_X8_25 fq_118_17 ?_
                      refine j_iload dX8_thief_110 rfl ?_
                      refine j_iald (x := S 124 p) dX8_thief_112 aq_124 (by omega) (by omega) (congrFun eS97_124 _) (fun hi112 => ?_)
                      refine j_iast dX8_thief_113 aq_131 (by omega) (by omega) (by omega) ?_
                      refine j_aload_n dX8_thief_114 rfl ?_
                      refine j_getR dX8_thief_115 fg_X8_50 fq_118_27 ?_
                      refine j_iload dX8_thief_118 rfl ?_
                      refine j_aload_n dX8_thief_120 rfl ?_
                      refine j_getR dX8_thief_121 fg_X8_28 fq_118_18 ?_
                      refine j_bipush dX8_thief_124 (by decide) ?_
                      refine j_iload dX8_thief_126 rfl ?_
                      refine j_iadd dX8_thief_128 ?_
                      refine j_iald (x := mAg S p) dX8_thief_129 aq_125 (by omega) (by omega) (congrFun eS97_125 _) (fun hi129 => ?_)
                      refine j_iast dX8_thief_130 aq_132 (by omega) (by omega) (by omega) ?_
                      refine j_iload dX8_thief_131 rfl ?_
                      refine j_aload_n dX8_thief_133 rfl ?_
                      refine j_iload_n dX8_thief_134 rfl ?_
                      have h9 := putm9 (n := S 118 13) (k := k) (x := S 124 p) (y := mAg S p) (mk := (fun k => S 124 (mHd S (s * 6 + k)))) (ag := (fun k => mAg S (mHd S (s * 6 + k)))) (fun j a b _ => hl97 j a b)
                      refine j_callVi (As := [vi law]) (rest := [vi sa]) (t_X8_isBy _ law (by show 2 ≤ S97 118 13; rw [eS97_118]; exact hn0) (by show S97 118 13 ≤ 6; rw [eS97_118]; exact hn1) (by show ∀ k, 0 ≤ k → k < 6 → 1 ≤ S97 120 k ∧ S97 120 k ≤ 9; rw [eS97_120]; exact hwt) (by show ∀ j, 0 ≤ j → j < S97 118 13 → isMk ((up (up S97 131 k (S 124 p)) 132 k (mAg S p)) 131 j); rw [eS97_118]; intro j a b; rw [(h9 j a b).1]; exact st9_mk hmkS hpp.2.1 j a b) (by omega) (by omega)) rfl cm_X8_isBy ci_X8_isBy ml_X8_181 oq_118 rfl (Nat.le_of_ble_eq_true rfl) (Nat.le_of_ble_eq_true rfl) dX8_thief_135 (fun r135 S135 hp135 => ?_)
                      obtain ⟨hr135, he135⟩ := hp135
                      rw [he135]
                      have hw135 : r135 = who (S 118 13) (st9 (fun k => S 124 (mHd S (s * 6 + k))) k (S 124 p)) (st9 (fun k => mAg S (mHd S (s * 6 + k))) k (mAg S p)) (S 120) law := by rw [hr135]; show who (S97 118 13) ((up (up S97 131 k (S 124 p)) 132 k (mAg S p)) 131) ((up (up S97 131 k (S 124 p)) 132 k (mAg S p)) 132) (S97 120) law = _; rw [eS97_118, eS97_120]; exact who_congr (by omega) (fun j a b => ⟨(h9 j a b).1, (h9 j a b).2, rfl⟩)
                      have hwb135 := who_bd (n := S 118 13) (mk := st9 (fun k => S 124 (mHd S (s * 6 + k))) k (S 124 p)) (ag := st9 (fun k => mAg S (mHd S (s * 6 + k))) k (mAg S p)) (wt := S 120) (law := law) (by omega) (st9_mk hmkS hpp.2.1)
                      rw [← hw135] at hwb135
                      refine j_iload dX8_thief_138 rfl ?_
                      refine j_icmp_ne (tgt := 147) dX8_thief_140 (by decide) (by omega) (by omega) (fun h140 => ?_) (fun h140 => ?_)
                      · refine j_iconst dX8_thief_147 ?_
                        refine j_top (fun one eone => ?_)
                        have hl : mWh S p = 8 ∧ mPl S p = k := by rcases hu4 with z | z; exact absurd z.1 h92; exact z.2.1
                        have hone : one = (thF (S 118 13) (S 124) (mAg S) (mWh S) (mPl S) (S 120) (fun k => S 124 (mHd S (s * 6 + k))) (fun k => mAg S (mHd S (s * 6 + k))) k law) p := by unfold thF; rw [eone, show who _ _ _ _ _ = r36 from hr36.symm, ← hw135]; split <;> first | rfl | (exfalso; omega) | (exfalso; rename_i hz; exact hz ⟨hl, by omega⟩) | (exfalso; rename_i hz; exact absurd hz.2 (by omega))
                        have honeb : 0 ≤ one ∧ one ≤ 1 := by omega
                        refine j_iadd dX8_thief_148 ?_
                        refine j_istore (L' := [(0, .ref 118), (1, vi s), (2, vi law), (3, vi what), (4, vi r36), (5, vl u), (7, vl l), (9, vi k), (10, vi r62), (11, vi (sa + one)), (12, vi p)]) dX8_thief_149 (Nat.le_of_ble_eq_true rfl) rfl ?_
                        have hU : Same [131, 132] S (up (up S97 131 k (S 124 p)) 132 k (mAg S p)) := same_up (same_up (hu3.tr hsm97) (by decide)) (by decide)
                        refine j_aload_n dX8_thief_151 rfl ?_
                        refine j_iload dX8_thief_152 rfl ?_
                        refine j_iload dX8_thief_154 rfl ?_
                        refine j_callVi (As := [vi k, vi p]) (rest := []) (t_X8_nextOf _ k p (hM.same hU (by decide)) (by omega) (by omega) (by rw [hU 125 (by decide)]; omega)) rfl cm_X8_nextOf ci_X8_nextOf ml_X8_208 oq_118 rfl (Nat.le_of_ble_eq_true rfl) (Nat.le_of_ble_eq_true rfl) dX8_thief_156 (fun r156 S156 hp156 => ?_)
                        obtain ⟨hr156, he156⟩ := hp156
                        rw [he156]
                        obtain ⟨v1, v2, v3, v4, v5⟩ := mv_same hU (by decide)
                        rw [hU 125 (by decide), v1, v5] at hr156
                        have hrb156 : r156 = -9 ∨ (p < r156 ∧ r156 < S 125 1) := by rcases hr156 with z | z; exact Or.inr ⟨z.1, z.2.1⟩; exact Or.inl z.1
                        have hcn : ThC (S 125 1) (fun q => mWh S q = 8 ∧ mPl S q = k) (thF (S 118 13) (S 124) (mAg S) (mWh S) (mPl S) (S 120) (fun k => S 124 (mHd S (s * 6 + k))) (fun k => mAg S (mHd S (s * 6 + k))) k law) r156 s0 (sa + one) := by rw [hone]; exact hu4.step hF0 h92 hr156
                        have hfb := thF_bd (n := S 118 13) (mk := S 124) (ag := mAg S) (wh := mWh S) (pl := mPl S) (wt := S 120) (hmk := (fun k => S 124 (mHd S (s * 6 + k)))) (hag := (fun k => mAg S (mHd S (s * 6 + k)))) (k := k) (law := law) (S 125 1).toNat
                        have hfc := thF_bd (n := S 118 13) (mk := S 124) (ag := mAg S) (wh := mWh S) (pl := mPl S) (wt := S 120) (hmk := (fun k => S 124 (mHd S (s * 6 + k)))) (hag := (fun k => mAg S (mHd S (s * 6 + k)))) (k := k) (law := law) r156.toNat
                        have hsb : 0 ≤ s0 ∧ s0 ≤ 1 := by rw [hs0]; split <;> omega
                        have hsaR : InR (sa + one) := by rcases hcn with z | z; have := z.2; omega; have := z.2.2; omega
                        refine j_istore (L' := [(0, .ref 118), (1, vi s), (2, vi law), (3, vi what), (4, vi r36), (5, vl u), (7, vl l), (9, vi k), (10, vi r62), (11, vi (sa + one)), (12, vi r156)]) dX8_thief_159 (Nat.le_of_ble_eq_true rfl) rfl ?_
                        refine j_goto (tgt := 88) dX8_thief_161 (by decide) ?_
                        exact ih88 (sa + one) r156 (up (up S97 131 k (S 124 p)) 132 k (mAg S p)) (msN_lt hm88 h92 (by omega)) ⟨by omega, hU, hcn, hsaR⟩
                      · refine j_iconst dX8_thief_143 ?_
                        refine j_goto (tgt := 148) dX8_thief_144 (by decide) ?_
                        refine j_top (fun one eone => ?_)
                        have hl : mWh S p = 8 ∧ mPl S p = k := by rcases hu4 with z | z; exact absurd z.1 h92; exact z.2.1
                        have hone : one = (thF (S 118 13) (S 124) (mAg S) (mWh S) (mPl S) (S 120) (fun k => S 124 (mHd S (s * 6 + k))) (fun k => mAg S (mHd S (s * 6 + k))) k law) p := by unfold thF; rw [eone, show who _ _ _ _ _ = r36 from hr36.symm, ← hw135]; split <;> first | rfl | (exfalso; omega) | (exfalso; rename_i hz; exact hz ⟨hl, by omega⟩) | (exfalso; rename_i hz; exact absurd hz.2 (by omega))
                        have honeb : 0 ≤ one ∧ one ≤ 1 := by omega
                        refine j_iadd dX8_thief_148 ?_
                        refine j_istore (L' := [(0, .ref 118), (1, vi s), (2, vi law), (3, vi what), (4, vi r36), (5, vl u), (7, vl l), (9, vi k), (10, vi r62), (11, vi (sa + one)), (12, vi p)]) dX8_thief_149 (Nat.le_of_ble_eq_true rfl) rfl ?_
                        have hU : Same [131, 132] S (up (up S97 131 k (S 124 p)) 132 k (mAg S p)) := same_up (same_up (hu3.tr hsm97) (by decide)) (by decide)
                        refine j_aload_n dX8_thief_151 rfl ?_
                        refine j_iload dX8_thief_152 rfl ?_
                        refine j_iload dX8_thief_154 rfl ?_
                        refine j_callVi (As := [vi k, vi p]) (rest := []) (t_X8_nextOf _ k p (hM.same hU (by decide)) (by omega) (by omega) (by rw [hU 125 (by decide)]; omega)) rfl cm_X8_nextOf ci_X8_nextOf ml_X8_208 oq_118 rfl (Nat.le_of_ble_eq_true rfl) (Nat.le_of_ble_eq_true rfl) dX8_thief_156 (fun r156 S156 hp156 => ?_)
                        obtain ⟨hr156, he156⟩ := hp156
                        rw [he156]
                        obtain ⟨v1, v2, v3, v4, v5⟩ := mv_same hU (by decide)
                        rw [hU 125 (by decide), v1, v5] at hr156
                        have hrb156 : r156 = -9 ∨ (p < r156 ∧ r156 < S 125 1) := by rcases hr156 with z | z; exact Or.inr ⟨z.1, z.2.1⟩; exact Or.inl z.1
                        have hcn : ThC (S 125 1) (fun q => mWh S q = 8 ∧ mPl S q = k) (thF (S 118 13) (S 124) (mAg S) (mWh S) (mPl S) (S 120) (fun k => S 124 (mHd S (s * 6 + k))) (fun k => mAg S (mHd S (s * 6 + k))) k law) r156 s0 (sa + one) := by rw [hone]; exact hu4.step hF0 h92 hr156
                        have hfb := thF_bd (n := S 118 13) (mk := S 124) (ag := mAg S) (wh := mWh S) (pl := mPl S) (wt := S 120) (hmk := (fun k => S 124 (mHd S (s * 6 + k)))) (hag := (fun k => mAg S (mHd S (s * 6 + k)))) (k := k) (law := law) (S 125 1).toNat
                        have hfc := thF_bd (n := S 118 13) (mk := S 124) (ag := mAg S) (wh := mWh S) (pl := mPl S) (wt := S 120) (hmk := (fun k => S 124 (mHd S (s * 6 + k)))) (hag := (fun k => mAg S (mHd S (s * 6 + k)))) (k := k) (law := law) r156.toNat
                        have hsb : 0 ≤ s0 ∧ s0 ≤ 1 := by rw [hs0]; split <;> omega
                        have hsaR : InR (sa + one) := by rcases hcn with z | z; have := z.2; omega; have := z.2.2; omega
                        refine j_istore (L' := [(0, .ref 118), (1, vi s), (2, vi law), (3, vi what), (4, vi r36), (5, vl u), (7, vl l), (9, vi k), (10, vi r62), (11, vi (sa + one)), (12, vi r156)]) dX8_thief_159 (Nat.le_of_ble_eq_true rfl) rfl ?_
                        refine j_goto (tgt := 88) dX8_thief_161 (by decide) ?_
                        exact ih88 (sa + one) r156 (up (up S97 131 k (S 124 p)) 132 k (mAg S p)) (msN_lt hm88 h92 (by omega)) ⟨by omega, hU, hcn, hsaR⟩
                exact lp88 _ s0 r83 T (Nat.lt_succ_self _) ⟨by omega, hv3, ThC.start (by omega) hF0 hr83, by rw [hs0]; split <;> omega⟩
        exact lp50 _ 0 1 0 S36 (Nat.lt_succ_self _) ⟨by omega, by omega, hsm36, by omega, by omega, 1, by omega, rfl, rfl⟩
      · rw [he23]
        refine j_if_ne (tgt := 33) dX8_thief_26 (by decide) (by omega)  (fun h => absurd h (by decide)) (fun _ => ?_)
        refine j_ldc2 (x := (-1)) dX8_thief_29 cn_X8_224 ?_
        exact j_lret rfl dX8_thief_32 (fun h => by cases h) (hP _ _ ⟨by unfold fThief; rw [if_neg (by omega)], Same.rf⟩)
    · rw [he14]
      refine j_if_eq (tgt := 29) dX8_thief_17 (by decide) (by omega)  (fun _ => ?_) (fun h => absurd h (by decide))
      refine j_ldc2 (x := (-1)) dX8_thief_29 cn_X8_224 ?_
      exact j_lret rfl dX8_thief_32 (fun h => by cases h) (hP _ _ ⟨by unfold fThief; rw [if_neg (by omega)], Same.rf⟩)
  · rw [he7]
    refine j_if_eq (tgt := 29) dX8_thief_10 (by decide) (by omega)  (fun _ => ?_) (fun h => absurd h (by decide))
    refine j_ldc2 (x := (-1)) dX8_thief_29 cn_X8_224 ?_
    exact j_lret rfl dX8_thief_32 (fun h => by cases h) (hP _ _ ⟨by unfold fThief; rw [if_neg (by omega)], Same.rf⟩)
