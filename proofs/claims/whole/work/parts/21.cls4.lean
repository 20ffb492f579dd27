theorem st9_mk {n k v : Int} {mk : Int → Int} (h : ∀ j, 0 ≤ j → j < n → isMk (mk j)) (hv : isMk v) : ∀ j, 0 ≤ j → j < n → isMk (st9 mk k v j) := by
  intro j a b
  unfold st9
  by_cases e : j = k
  · rw [if_pos e]; exact hv
  · rw [if_neg e]; exact h j a b
theorem put9 {T : St} {n k x y : Int} {mk ag : Int → Int} (h : ∀ j, 0 ≤ j → j < n → j ≠ k → T 5 j = mk j ∧ T 6 j = ag j) : ∀ j, 0 ≤ j → j < n → up (up T 5 k x) 6 k y 5 j = st9 mk k x j ∧ up (up T 5 k x) 6 k y 6 j = st9 ag k y j := by
  intro j a b
  unfold st9
  by_cases e : j = k
  · subst e; simp [up]
  · rw [up_c (by decide), up_i e, up_i e, up_c (by decide), if_neg e, if_neg e]; exact h j a b e
set_option maxRecDepth 100000 in
set_option maxHeartbeats 4000000 in
theorem t_X7_decides (S : St) (s law : Int) (r_s : InR s) (r_law : InR law) (hX : XI S) : EX mX7_decides [.ref 0, vi s, vi law] S (fun r S' => r = fDec (S 1 0) (S 27 2) (S 29) (S 30) (S 2) (S 33) s law ∧ Same [5, 6, 7] S S') := by
  suffices hh : ∀ P : Int → St → Prop, (∀ r S', (r = fDec (S 1 0) (S 27 2) (S 29) (S 30) (S 2) (S 33) s law ∧ Same [5, 6, 7] S S') → P r S') → EX mX7_decides [.ref 0, vi s, vi law] S P from hh _ (fun _ _ h => h)
  intro P hP
  refine EX.of (L := [(0, .ref 0), (1, vi s), (2, vi law)]) rfl rfl (Nat.le_of_ble_eq_true rfl) rfl ?_
  obtain ⟨⟨hn0, hn1⟩, hwl, ⟨hp0, hp1⟩, ⟨hs0, hs1⟩, hyr, hpt, hhd⟩ := id hX
  have hwt : ∀ k, 0 ≤ k → k < 6 → 1 ≤ S 2 k ∧ S 2 k ≤ 9 := fun k a b => ⟨(hwl k a b).1, (hwl k a b).2.1⟩
  refine j_aload_n dX7_decides_0 rfl ?_
  refine j_iload_n dX7_decides_1 rfl ?_
  refine j_callVi (As := [vi s]) (rest := []) (t_X7_isShip _ s (by omega)) rfl cm_X7_isShip ci_X7_isShip ml_X7_135 oq_0 rfl (Nat.le_of_ble_eq_true rfl) (Nat.le_of_ble_eq_true rfl) dX7_decides_2 (fun r2 S2 hp2 => ?_)
  obtain ⟨⟨rfl, hc2⟩ | ⟨rfl, hc2⟩, he2⟩ := hp2
  · rw [he2]
    refine j_if_eq (tgt := 15) dX7_decides_5 (by decide) (by omega)  (fun h => absurd h (by decide)) (fun _ => ?_)
    refine j_iload_n dX7_decides_8 rfl ?_
    refine j_callSi (As := [vi law]) (rest := []) (t_X7_isLaw _ law (by omega)) rfl cm_X7_isLaw cs_X7_isLaw ml_X7_148 rfl (Nat.le_of_ble_eq_true rfl) (Nat.le_of_ble_eq_true rfl) dX7_decides_9 (fun r9 S9 hp9 => ?_)
    obtain ⟨⟨rfl, hc9⟩ | ⟨rfl, hc9⟩, he9⟩ := hp9
    · rw [he9]
      refine j_if_ne (tgt := 17) dX7_decides_12 (by decide) (by omega)  (fun _ => ?_) (fun h => absurd h (by decide))
      refine j_aload_n dX7_decides_17 rfl ?_
      refine j_iload_n dX7_decides_18 rfl ?_
      refine j_iload_n dX7_decides_19 rfl ?_
      refine j_callVi (As := [vi s, vi law]) (rest := []) (t_X7_whoseNow _ s law hX (by omega) (by omega) (by omega) (by omega)) rfl cm_X7_whoseNow ci_X7_whoseNow ml_X7_151 oq_0 rfl (Nat.le_of_ble_eq_true rfl) (Nat.le_of_ble_eq_true rfl) dX7_decides_20 (fun r20 S20 hp20 => ?_)
      obtain ⟨hr20, hsm20, hl20⟩ := hp20
      have eS20_1 : S20 1 = S 1 := hsm20 1 (by decide)
      have eS20_2 : S20 2 = S 2 := hsm20 2 (by decide)
      have eS20_3 : S20 3 = S 3 := hsm20 3 (by decide)
      have eS20_27 : S20 27 = S 27 := hsm20 27 (by decide)
      have eS20_28 : S20 28 = S 28 := hsm20 28 (by decide)
      have eS20_29 : S20 29 = S 29 := hsm20 29 (by decide)
      have eS20_30 : S20 30 = S 30 := hsm20 30 (by decide)
      have eS20_31 : S20 31 = S 31 := hsm20 31 (by decide)
      have eS20_32 : S20 32 = S 32 := hsm20 32 (by decide)
      have eS20_33 : S20 33 = S 33 := hsm20 33 (by decide)
      have hmkS : ∀ k, 0 ≤ k → k < S 1 0 → isMk (S 29 (S 33 (s * 6 + k))) := fun k a b => by have g := hhd s k (by omega) (by omega) a b; exact (hpt _ g.1 g.2).2.1
      have hwb0 := who_bd (n := S 1 0) (mk := (fun k => S 29 (S 33 (s * 6 + k)))) (ag := (fun k => S 30 (S 33 (s * 6 + k)))) (wt := S 2) (law := law) (by omega) hmkS
      rw [show who _ _ _ _ _ = r20 from hr20.symm] at hwb0
      refine j_istore_n (L' := [(0, .ref 0), (1, vi s), (2, vi law), (3, vi r20)]) dX7_decides_23 (Nat.le_of_ble_eq_true rfl) rfl ?_
      refine j_iconst dX7_decides_24 ?_
      refine j_istore (L' := [(0, .ref 0), (1, vi s), (2, vi law), (3, vi r20), (4, vi 0)]) dX7_decides_25 (Nat.le_of_ble_eq_true rfl) rfl ?_
      refine j_iconst dX7_decides_27 ?_
      refine j_istore (L' := [(0, .ref 0), (1, vi s), (2, vi law), (3, vi r20), (4, vi 0), (5, vi 0)]) dX7_decides_28 (Nat.le_of_ble_eq_true rfl) rfl ?_
      have lp30 : ∀ (n : Nat) (b k : Int) (T : St), (S 1 0 - k).toNat < n → (0 ≤ k ∧ k ≤ S 1 0 ∧ Same [5, 6, 7] S T ∧ (∀ j, 0 ≤ j → j < S 1 0 → T 5 j = S 29 (S 33 (s * 6 + j)) ∧ T 6 j = S 30 (S 33 (s * 6 + j))) ∧ b = sm (fun k => if who (S 1 0) (st9 (fun k => S 29 (S 33 (s * 6 + k))) k 9) (st9 (fun k => S 30 (S 33 (s * 6 + k))) k 0) (S 2) law ≠ who (S 1 0) (fun k => S 29 (S 33 (s * 6 + k))) (fun k => S 30 (S 33 (s * 6 + k))) (S 2) law then ((2 ^ k.toNat : Nat) : Int) else 0) k.toNat) → JJ mX7_decides (RX mX7_decides P) 30 [(0, .ref 0), (1, vi s), (2, vi law), (3, vi r20), (4, vi b), (5, vi k)] [] T := by
        intro n
        induction n with
        | zero => intro b k T hm; exact absurd hm (Nat.not_lt_zero _)
        | succ n ih30 =>
          intro b k T hm30 hv30
          obtain ⟨hv1, hv2, hv3, hv4, hv5⟩ := hv30
          have hb := bs_lt (f := fun k => if who (S 1 0) (st9 (fun k => S 29 (S 33 (s * 6 + k))) k 9) (st9 (fun k => S 30 (S 33 (s * 6 + k))) k 0) (S 2) law ≠ who (S 1 0) (fun k => S 29 (S 33 (s * 6 + k))) (fun k => S 30 (S 33 (s * 6 + k))) (S 2) law then ((2 ^ k.toNat : Nat) : Int) else 0) (n := k.toNat) (fun i i0 i1 => by split; exact Or.inr rfl; exact Or.inl rfl)
          rw [← hv5] at hb
          have eT_1 : T 1 = S 1 := hv3 1 (by decide)
          have eT_2 : T 2 = S 2 := hv3 2 (by decide)
          have eT_3 : T 3 = S 3 := hv3 3 (by decide)
          have eT_27 : T 27 = S 27 := hv3 27 (by decide)
          have eT_28 : T 28 = S 28 := hv3 28 (by decide)
          have eT_29 : T 29 = S 29 := hv3 29 (by decide)
          have eT_30 : T 30 = S 30 := hv3 30 (by decide)
          have eT_31 : T 31 = S 31 := hv3 31 (by decide)
          have eT_33 : T 33 = S 33 := hv3 33 (by decide)
          refine j_iload dX7_decides_30 rfl ?_
          refine j_aload_n dX7_decides_32 rfl ?_
          refine j_getR dX7_decides_33 fg_X7_10 fq_0_0 ?_
          refine j_getI (x := S 1 0) dX7_decides_36 fg_X7_184 fq_1_0 (congrFun eT_1 _) (fun hi36 => ?_)
          refine j_icmp_ge (tgt := 100) dX7_decides_39 (by decide) (by omega) (by omega) (fun h39 => ?_) (fun h39 => ?_)
          · refine j_iload dX7_decides_100 rfl ?_
            exact j_iret rfl dX7_decides_102 (fun h => by cases h) (hP _ _ ⟨by unfold fDec decS decF; rw [if_pos (by omega), hv5]; congr 2; omega, hv3⟩)
          · have hg := hhd s k (by omega) (by omega) (by omega) (by omega)
            refine j_aload_n dX7_decides_42 rfl ?_
            refine j_getR dX7_decides_43 fg_X7_28 fq_0_2 ?_
            refine j_iload dX7_decides_46 rfl ?_
            refine j_bipush dX7_decides_48 (by decide) ?_
            refine j_iconst dX7_decides_50 ?_
            refine j_callVv (As := [vi k, vi 9, vi 0]) (rest := []) (t_X2_put _ k 9 0 (by omega) (by omega) (by omega) (by omega)) rfl cm_X2_put ci_X2_put ml_X7_245 oq_4 rfl (Nat.le_of_ble_eq_true rfl) (Nat.le_of_ble_eq_true rfl) dX7_decides_51 (fun r51 S51 hp51 => ?_)
            rw [hp51]
            refine j_aload_n dX7_decides_54 rfl ?_
            refine j_getR dX7_decides_55 fg_X7_28 fq_0_2 ?_
            refine j_iload_n dX7_decides_58 rfl ?_
            have h9 := put9 (n := S 1 0) (k := k) (x := 9) (y := 0) (mk := (fun k => S 29 (S 33 (s * 6 + k)))) (ag := (fun k => S 30 (S 33 (s * 6 + k)))) (fun j a b _ => hv4 j a b)
            refine j_callVi (As := [vi law]) (rest := []) (t_X2_whose _ law (by show 2 ≤ T 1 0; rw [eT_1]; exact hn0) (by show T 1 0 ≤ 6; rw [eT_1]; exact hn1) (by show ∀ k, 0 ≤ k → k < 6 → 1 ≤ T 2 k ∧ T 2 k ≤ 9; rw [eT_2]; exact hwt) (by show ∀ j, 0 ≤ j → j < T 1 0 → isMk ((up (up T 5 k 9) 6 k 0) 5 j); rw [eT_1]; intro j a b; rw [(h9 j a b).1]; exact st9_mk hmkS (Or.inr rfl) j a b) (by omega) (by omega)) rfl cm_X2_whose ci_X2_whose ml_X7_219 oq_4 rfl (Nat.le_of_ble_eq_true rfl) (Nat.le_of_ble_eq_true rfl) dX7_decides_59 (fun r59 S59 hp59 => ?_)
            obtain ⟨hr59, hsm59⟩ := hp59
            have hw59 : r59 = who (S 1 0) (st9 (fun k => S 29 (S 33 (s * 6 + k))) k (9)) (st9 (fun k => S 30 (S 33 (s * 6 + k))) k (0)) (S 2) law := by rw [hr59]; show who (T 1 0) ((up (up T 5 k 9) 6 k 0) 5) ((up (up T 5 k 9) 6 k 0) 6) (T 2) law = _; rw [eT_1, eT_2]; exact who_congr (by omega) (fun j a b => ⟨(h9 j a b).1, (h9 j a b).2, rfl⟩)
            have hwb59 := who_bd (n := S 1 0) (mk := st9 (fun k => S 29 (S 33 (s * 6 + k))) k (9)) (ag := st9 (fun k => S 30 (S 33 (s * 6 + k))) k (0)) (wt := S 2) (law := law) (by omega) (st9_mk hmkS (Or.inr rfl))
            rw [← hw59] at hwb59
            have eS59_1 : S59 1 = S 1 := (hsm59 1 (by decide)).trans eT_1
            have eS59_2 : S59 2 = S 2 := (hsm59 2 (by decide)).trans eT_2
            have eS59_3 : S59 3 = S 3 := (hsm59 3 (by decide)).trans eT_3
            have eS59_27 : S59 27 = S 27 := (hsm59 27 (by decide)).trans eT_27
            have eS59_28 : S59 28 = S 28 := (hsm59 28 (by decide)).trans eT_28
            have eS59_29 : S59 29 = S 29 := (hsm59 29 (by decide)).trans eT_29
            have eS59_30 : S59 30 = S 30 := (hsm59 30 (by decide)).trans eT_30
            have eS59_31 : S59 31 = S 31 := (hsm59 31 (by decide)).trans eT_31
            have eS59_33 : S59 33 = S 33 := (hsm59 33 (by decide)).trans eT_33
            refine j_iload_n dX7_decides_62 rfl ?_
            refine j_icmp_eq (tgt := 75) dX7_decides_63 (by decide) (by omega) (by omega) (fun h63 => ?_) (fun h63 => ?_)
            · refine j_aload_n dX7_decides_75 rfl ?_
              refine j_getR dX7_decides_76 fg_X7_28 fq_0_2 ?_
              refine j_iload dX7_decides_79 rfl ?_
              refine j_aload_n dX7_decides_81 rfl ?_
              refine j_getR dX7_decides_82 fg_X7_19 fq_0_1 ?_
              refine j_iload_n dX7_decides_85 rfl ?_
              refine j_iload dX7_decides_86 rfl ?_
              refine j_callVi (As := [vi s, vi k]) (rest := [vi k, .ref 4]) (t_X1_partAt _ s k (by omega) (by omega) (by omega) (by omega)) rfl cm_X1_partAt ci_X1_partAt ml_X7_138 oq_27 rfl (Nat.le_of_ble_eq_true rfl) (Nat.le_of_ble_eq_true rfl) dX7_decides_88 (fun r88 S88 hp88 => ?_)
              obtain ⟨hr88, he88⟩ := hp88
              rw [he88]
              rw [show r88 = S 33 (s * 6 + k) from hr88.trans (congrFun eS59_33 _)]
              refine j_callVv (As := [vi k, vi (S 33 (s * 6 + k))]) (rest := []) (t_X2_putPart _ k (S 33 (s * 6 + k)) (by omega) (by omega) (by omega) (by omega)) rfl cm_X2_putPart ci_X2_putPart ml_X7_248 oq_4 rfl (Nat.le_of_ble_eq_true rfl) (Nat.le_of_ble_eq_true rfl) dX7_decides_91 (fun r91 S91 hp91 => ?_)
              rw [hp91]
              rw [show S59 29 (S 33 (s * 6 + k)) = S 29 (S 33 (s * 6 + k)) from (congrFun eS59_29 _)]
              rw [show S59 30 (S 33 (s * 6 + k)) = S 30 (S 33 (s * 6 + k)) from (congrFun eS59_30 _)]
              refine j_iinc (L' := [(0, .ref 0), (1, vi s), (2, vi law), (3, vi r20), (4, vi b), (5, vi (k + 1))]) dX7_decides_94 (Nat.le_of_ble_eq_true rfl) rfl rfl ?_
              refine j_goto (tgt := 30) dX7_decides_97 (by decide) ?_
              exact ih30 b (k + 1) (up (up S59 5 k (S 29 (S 33 (s * 6 + k)))) 6 k (S 30 (S 33 (s * 6 + k)))) (by omega) ⟨by omega, by omega, same_up (same_up ((same_up (same_up hv3 (by decide)) (by decide)).tr (hsm59.mono (by decide))) (by decide)) (by decide), fun j a b => if e : j = k then by subst e; exact ⟨by simp [up], by simp [up]⟩ else by rw [up_c (by decide), up_i e, up_i e, up_c (by decide), hsm59 5 (by decide), hsm59 6 (by decide), up_c (by decide), up_i e, up_i e, up_c (by decide)]; exact hv4 j a b, by rw [sm_s (by omega), ← hv5, ← hw59, show who _ _ _ _ _ = r20 from hr20.symm]; split <;> omega⟩
            · refine j_iload dX7_decides_66 rfl ?_
              refine j_iconst dX7_decides_68 ?_
              refine j_iload dX7_decides_69 rfl ?_
              refine j_shl dX7_decides_71 (by omega) (by omega) ?_
              refine j_ior dX7_decides_72 (by omega) (by omega) ?_
              rw [or_bit (by omega) (by omega)]
              refine j_istore (L' := [(0, .ref 0), (1, vi s), (2, vi law), (3, vi r20), (4, vi (b + ((2 ^ k.toNat : Nat) : Int))), (5, vi k)]) dX7_decides_73 (Nat.le_of_ble_eq_true rfl) rfl ?_
              refine j_aload_n dX7_decides_75 rfl ?_
              refine j_getR dX7_decides_76 fg_X7_28 fq_0_2 ?_
              refine j_iload dX7_decides_79 rfl ?_
              refine j_aload_n dX7_decides_81 rfl ?_
              refine j_getR dX7_decides_82 fg_X7_19 fq_0_1 ?_
              refine j_iload_n dX7_decides_85 rfl ?_
              refine j_iload dX7_decides_86 rfl ?_
              refine j_callVi (As := [vi s, vi k]) (rest := [vi k, .ref 4]) (t_X1_partAt _ s k (by omega) (by omega) (by omega) (by omega)) rfl cm_X1_partAt ci_X1_partAt ml_X7_138 oq_27 rfl (Nat.le_of_ble_eq_true rfl) (Nat.le_of_ble_eq_true rfl) dX7_decides_88 (fun r88 S88 hp88 => ?_)
              obtain ⟨hr88, he88⟩ := hp88
              rw [he88]
              rw [show r88 = S 33 (s * 6 + k) from hr88.trans (congrFun eS59_33 _)]
              refine j_callVv (As := [vi k, vi (S 33 (s * 6 + k))]) (rest := []) (t_X2_putPart _ k (S 33 (s * 6 + k)) (by omega) (by omega) (by omega) (by omega)) rfl cm_X2_putPart ci_X2_putPart ml_X7_248 oq_4 rfl (Nat.le_of_ble_eq_true rfl) (Nat.le_of_ble_eq_true rfl) dX7_decides_91 (fun r91 S91 hp91 => ?_)
              rw [hp91]
              rw [show S59 29 (S 33 (s * 6 + k)) = S 29 (S 33 (s * 6 + k)) from (congrFun eS59_29 _)]
              rw [show S59 30 (S 33 (s * 6 + k)) = S 30 (S 33 (s * 6 + k)) from (congrFun eS59_30 _)]
              refine j_iinc (L' := [(0, .ref 0), (1, vi s), (2, vi law), (3, vi r20), (4, vi (b + ((2 ^ k.toNat : Nat) : Int))), (5, vi (k + 1))]) dX7_decides_94 (Nat.le_of_ble_eq_true rfl) rfl rfl ?_
              refine j_goto (tgt := 30) dX7_decides_97 (by decide) ?_
              exact ih30 (b + ((2 ^ k.toNat : Nat) : Int)) (k + 1) (up (up S59 5 k (S 29 (S 33 (s * 6 + k)))) 6 k (S 30 (S 33 (s * 6 + k)))) (by omega) ⟨by omega, by omega, same_up (same_up ((same_up (same_up hv3 (by decide)) (by decide)).tr (hsm59.mono (by decide))) (by decide)) (by decide), fun j a b => if e : j = k then by subst e; exact ⟨by simp [up], by simp [up]⟩ else by rw [up_c (by decide), up_i e, up_i e, up_c (by decide), hsm59 5 (by decide), hsm59 6 (by decide), up_c (by decide), up_i e, up_i e, up_c (by decide)]; exact hv4 j a b, by rw [sm_s (by omega), ← hv5, ← hw59, show who _ _ _ _ _ = r20 from hr20.symm]; split <;> omega⟩
      exact lp30 _ 0 0 S20 (Nat.lt_succ_self _) ⟨by omega, by omega, hsm20, hl20, rfl⟩
    · rw [he9]
      refine j_if_ne (tgt := 17) dX7_decides_12 (by decide) (by omega)  (fun h => absurd h (by decide)) (fun _ => ?_)
      refine j_iconst dX7_decides_15 ?_
      exact j_iret rfl dX7_decides_16 (fun h => by cases h) (hP _ _ ⟨by unfold fDec; rw [if_neg (by omega)], Same.rf⟩)
  · rw [he2]
    refine j_if_eq (tgt := 15) dX7_decides_5 (by decide) (by omega)  (fun _ => ?_) (fun h => absurd h (by decide))
    refine j_iconst dX7_decides_15 ?_
    exact j_iret rfl dX7_decides_16 (fun h => by cases h) (hP _ _ ⟨by unfold fDec; rw [if_neg (by omega)], Same.rf⟩)
set_option maxRecDepth 100000 in
set_option maxHeartbeats 4000000 in
theorem t_X7_commonDivisor (S : St) (a b : Int) (a0 : 0 ≤ a) (a1 : a < 4611686018427387904) (b0 : 0 ≤ b) (b1 : b < 4611686018427387904) (hab : a.toNat * b.toNat < 2 ^ 98) : EX mX7_commonDivisor [vl a, vl b] S (fun r S' => r = gcdI a b ∧ S' = S) := by
  suffices hh : ∀ P : Int → St → Prop, (∀ r S', (r = gcdI a b ∧ S' = S) → P r S') → EX mX7_commonDivisor [vl a, vl b] S P from hh _ (fun _ _ h => h)
  intro P hP
  refine EX.of (L := [(0, vl a), (2, vl b)]) rfl rfl (Nat.le_of_ble_eq_true rfl) rfl ?_
  refine j_lload_n dX7_commonDivisor_0 rfl ?_
  refine j_lstore (L' := [(0, vl a), (2, vl b), (4, vl a)]) dX7_commonDivisor_1 (Nat.le_of_ble_eq_true rfl) rfl ?_
  refine j_lload_n dX7_commonDivisor_3 rfl ?_
  refine j_lstore (L' := [(0, vl a), (2, vl b), (4, vl a), (6, vl b)]) dX7_commonDivisor_4 (Nat.le_of_ble_eq_true rfl) rfl ?_
  refine j_iconst dX7_commonDivisor_6 ?_
  refine j_istore (L' := [(0, vl a), (2, vl b), (4, vl a), (6, vl b), (8, vi 0)]) dX7_commonDivisor_7 (Nat.le_of_ble_eq_true rfl) rfl ?_
  have lp9 : ∀ (n : Nat) (g l z : Int), (100 - z).toNat < n → ((0 ≤ g ∧ g < 4611686018427387904) ∧ (0 ≤ l ∧ l < 4611686018427387904) ∧ (0 ≤ z ∧ z ≤ 100) ∧ gcdI g l = gcdI a b ∧ Euc g l z) → JJ mX7_commonDivisor (RX mX7_commonDivisor P) 9 [(0, vl a), (2, vl b), (4, vl g), (6, vl l), (8, vi z)] [] S := by
    intro n
    induction n with
    | zero => intro g l z hm; exact absurd hm (Nat.not_lt_zero _)
    | succ n ih9 =>
      intro g l z hm9 hv9
      obtain ⟨hv1, hv2, hv3, hv4, hv5⟩ := hv9
      refine j_iload dX7_commonDivisor_9 rfl ?_
      refine j_bipush dX7_commonDivisor_11 (by decide) ?_
      refine j_icmp_ge (tgt := 44) dX7_commonDivisor_13 (by decide) (by omega) (by omega) (fun h13 => ?_) (fun h13 => ?_)
      · refine j_lload dX7_commonDivisor_44 rfl ?_
        exact j_lret rfl dX7_commonDivisor_46 (fun h => by cases h) (hP _ _ ⟨by rw [← hv4, show l = 0 from hv5.stop (by omega) (by omega), gcdI_0 (by omega)], rfl⟩)
      · refine j_lload dX7_commonDivisor_16 rfl ?_
        refine j_lconst (x := 0) dX7_commonDivisor_18 rfl ?_
        refine j_lcmp dX7_commonDivisor_19 (by omega) (by omega) ?_
        refine j_if_eq (tgt := 44) dX7_commonDivisor_20 (by decide) (by unfold sg; (repeat' split) <;> omega)  (fun h20 => ?_) (fun h20 => ?_)
        · refine j_lload dX7_commonDivisor_44 rfl ?_
          exact j_lret rfl dX7_commonDivisor_46 (fun h => by cases h) (hP _ _ ⟨by rw [← hv4, show l = 0 from (by unfold sg at h20; (repeat' split at h20) <;> omega), gcdI_0 (by omega)], rfl⟩)
        · have hl0 : 0 < l := by unfold sg at h20; (repeat' split at h20) <;> omega
          refine j_lload dX7_commonDivisor_23 rfl ?_
          refine j_lload dX7_commonDivisor_25 rfl ?_
          refine j_lrem dX7_commonDivisor_27 (by omega) (by omega) (by omega) (by omega) ?_
          refine j_lstore (L' := [(0, vl a), (2, vl b), (4, vl g), (6, vl l), (8, vi z), (9, vl (g % l))]) dX7_commonDivisor_28 (Nat.le_of_ble_eq_true rfl) rfl ?_
          refine j_lload dX7_commonDivisor_30 rfl ?_
          refine j_lstore (L' := [(0, vl a), (2, vl b), (4, vl l), (6, vl l), (8, vi z), (9, vl (g % l))]) dX7_commonDivisor_32 (Nat.le_of_ble_eq_true rfl) rfl ?_
          refine j_lload dX7_commonDivisor_34 rfl ?_
          refine j_lstore (L' := [(0, vl a), (2, vl b), (4, vl l), (6, vl (g % l)), (8, vi z), (9, vl (g % l))]) dX7_commonDivisor_36 (Nat.le_of_ble_eq_true rfl) rfl ?_
          refine j_iinc (L' := [(0, vl a), (2, vl b), (4, vl l), (6, vl (g % l)), (8, vi (z + 1)), (9, vl (g % l))]) dX7_commonDivisor_38 (Nat.le_of_ble_eq_true rfl) rfl rfl ?_
          refine j_goto (tgt := 9) dX7_commonDivisor_41 (by decide) ?_
          refine j_sub (L' := [(0, vl a), (2, vl b), (4, vl l), (6, vl (g % l)), (8, vi (z + 1))]) (by simp) ?_
          exact ih9 l (g % l) (z + 1) (by omega) ⟨by omega, ⟨Int.emod_nonneg g (by omega), by have := Int.emod_lt_of_pos g hl0; omega⟩, by omega, by rw [gcdI_step (by omega) hl0]; exact hv4, hv5.step (by omega) hl0 (by omega)⟩
  exact lp9 _ a b 0 (Nat.lt_succ_self _) ⟨by omega, by omega, by omega, rfl, fun _ => hab, fun h => by omega⟩
set_option maxRecDepth 100000 in
set_option maxHeartbeats 4000000 in
theorem t_X7_inLeastTerms (S : St) (u l what : Int) (u0 : 0 ≤ u) (u1 : u < 4611686018427387904) (l0 : 0 < l) (l1 : l < 4611686018427387904) (hul : u.toNat * l.toNat < 2 ^ 98) (hw : InR what) : EX mX7_inLeastTerms [vl u, vl l, vi what] S (fun r S' => r = leastT u l what ∧ S' = S) := by
  suffices hh : ∀ P : Int → St → Prop, (∀ r S', (r = leastT u l what ∧ S' = S) → P r S') → EX mX7_inLeastTerms [vl u, vl l, vi what] S P from hh _ (fun _ _ h => h)
  intro P hP
  refine EX.of (L := [(0, vl u), (2, vl l), (4, vi what)]) rfl rfl (Nat.le_of_ble_eq_true rfl) rfl ?_
  refine j_lconst (x := 1) dX7_inLeastTerms_0 rfl ?_
  refine j_lload_n dX7_inLeastTerms_1 rfl ?_
  refine j_lload_n dX7_inLeastTerms_2 rfl ?_
  refine j_callSl (As := [vl u, vl l]) (rest := [vl 1]) (t_X7_commonDivisor _ u l (by omega) (by omega) (by omega) (by omega) hul) rfl cm_X7_commonDivisor cs_X7_commonDivisor ml_X7_292 rfl (Nat.le_of_ble_eq_true rfl) (Nat.le_of_ble_eq_true rfl) dX7_inLeastTerms_3 (fun r3 S3 hp3 => ?_)
  obtain ⟨hr3, he3⟩ := hp3
  rw [he3]
  subst hr3
  have hg1 := gcdI_pos (a := u) (b := l) (by omega)
  have hg2 := gcdI_le (a := u) (b := l) (by omega)
  refine j_mmaxl dX7_inLeastTerms_6 mw_X7_296 (by omega) (by omega) (Nat.le_of_ble_eq_true rfl) (Nat.le_of_ble_eq_true rfl) ?_
  rw [if_neg (by omega : ¬ gcdI u l < 1)]
  refine j_lstore (L' := [(0, vl u), (2, vl l), (4, vi what), (5, vl (gcdI u l))]) dX7_inLeastTerms_9 (Nat.le_of_ble_eq_true rfl) rfl ?_
  refine j_iload dX7_inLeastTerms_11 rfl ?_
  refine j_if_ne (tgt := 23) dX7_inLeastTerms_13 (by decide) (by omega)  (fun h13 => ?_) (fun h13 => ?_)
  · refine j_lload_n dX7_inLeastTerms_23 rfl ?_
    refine j_lload dX7_inLeastTerms_24 rfl ?_
    refine j_ldiv dX7_inLeastTerms_26 (by omega) (by omega) (by omega) (by omega) ?_
    exact j_lret rfl dX7_inLeastTerms_27 (fun h => by cases h) (hP _ _ ⟨by unfold leastT; rw [if_neg h13], rfl⟩)
  · refine j_lload_n dX7_inLeastTerms_16 rfl ?_
    refine j_lload dX7_inLeastTerms_17 rfl ?_
    refine j_ldiv dX7_inLeastTerms_19 (by omega) (by omega) (by omega) (by omega) ?_
    refine j_goto (tgt := 27) dX7_inLeastTerms_20 (by decide) ?_
    exact j_lret rfl dX7_inLeastTerms_27 (fun h => by cases h) (hP _ _ ⟨by unfold leastT; rw [if_pos h13], rfl⟩)
set_option maxRecDepth 100000 in
set_option maxHeartbeats 4000000 in
theorem t_X7_share (S : St) (s m what : Int) (r_s : InR s) (r_m : InR m) (r_what : InR what) (hX : XI S) : EX mX7_share [.ref 0, vi s, vi m, vi what] S (fun r S' => r = fShare (S 1 0) (S 27 2) (S 29) (S 2) (S 33) s m what ∧ Same [5, 6, 7] S S') := by
  suffices hh : ∀ P : Int → St → Prop, (∀ r S', (r = fShare (S 1 0) (S 27 2) (S 29) (S 2) (S 33) s m what ∧ Same [5, 6, 7] S S') → P r S') → EX mX7_share [.ref 0, vi s, vi m, vi what] S P from hh _ (fun _ _ h => h)
  intro P hP
  refine EX.of (L := [(0, .ref 0), (1, vi s), (2, vi m), (3, vi what)]) rfl rfl (Nat.le_of_ble_eq_true rfl) rfl ?_
  obtain ⟨⟨hn0, hn1⟩, hwl, ⟨hp0, hp1⟩, ⟨hs0, hs1⟩, hyr, hpt, hhd⟩ := id hX
  have hwt : ∀ k, 0 ≤ k → k < 6 → 1 ≤ S 2 k ∧ S 2 k ≤ 9 := fun k a b => ⟨(hwl k a b).1, (hwl k a b).2.1⟩
  refine j_aload_n dX7_share_0 rfl ?_
  refine j_iload_n dX7_share_1 rfl ?_
  refine j_callVi (As := [vi s]) (rest := []) (t_X7_isShip _ s (by omega)) rfl cm_X7_isShip ci_X7_isShip ml_X7_135 oq_0 rfl (Nat.le_of_ble_eq_true rfl) (Nat.le_of_ble_eq_true rfl) dX7_share_2 (fun r2 S2 hp2 => ?_)
  obtain ⟨⟨rfl, hc2⟩ | ⟨rfl, hc2⟩, he2⟩ := hp2
  · rw [he2]
    refine j_if_eq (tgt := 22) dX7_share_5 (by decide) (by omega)  (fun h => absurd h (by decide)) (fun _ => ?_)
    refine j_iload_n dX7_share_8 rfl ?_
    refine j_callSi (As := [vi m]) (rest := []) (t_X7_isMake _ m (by omega)) rfl cm_X7_isMake cs_X7_isMake ml_X7_222 rfl (Nat.le_of_ble_eq_true rfl) (Nat.le_of_ble_eq_true rfl) dX7_share_9 (fun r9 S9 hp9 => ?_)
    obtain ⟨⟨rfl, hc9⟩ | ⟨rfl, hc9⟩, he9⟩ := hp9
    · rw [he9]
      refine j_if_eq (tgt := 22) dX7_share_12 (by decide) (by omega)  (fun h => absurd h (by decide)) (fun _ => ?_)
      refine j_iload_n dX7_share_15 rfl ?_
      refine j_callSi (As := [vi what]) (rest := []) (t_X7_isFractionSide _ what (by omega)) rfl cm_X7_isFractionSide cs_X7_isFractionSide ml_X7_225 rfl (Nat.le_of_ble_eq_true rfl) (Nat.le_of_ble_eq_true rfl) dX7_share_16 (fun r16 S16 hp16 => ?_)
      obtain ⟨⟨rfl, hc16⟩ | ⟨rfl, hc16⟩, he16⟩ := hp16
      · rw [he16]
        refine j_if_ne (tgt := 24) dX7_share_19 (by decide) (by omega)  (fun _ => ?_) (fun h => absurd h (by decide))
        refine j_aload_n dX7_share_24 rfl ?_
        refine j_getR dX7_share_25 fg_X7_28 fq_0_2 ?_
        refine j_iload_n dX7_share_28 rfl ?_
        refine j_callVv (As := [vi s]) (rest := []) (t_X2_load _ s hn0 hn1 (by omega) (by omega) (fun k a b => by have := hhd s k (by omega) (by omega) a b; omega)) rfl cm_X2_load ci_X2_load ml_X7_228 oq_4 rfl (Nat.le_of_ble_eq_true rfl) (Nat.le_of_ble_eq_true rfl) dX7_share_29 (fun r29 S29 hp29 => ?_)
        obtain ⟨hsm29, hl29⟩ := hp29
        have eS29_1 : S29 1 = S 1 := hsm29 1 (by decide)
        have eS29_2 : S29 2 = S 2 := hsm29 2 (by decide)
        have eS29_3 : S29 3 = S 3 := hsm29 3 (by decide)
        have eS29_27 : S29 27 = S 27 := hsm29 27 (by decide)
        have eS29_28 : S29 28 = S 28 := hsm29 28 (by decide)
        have eS29_29 : S29 29 = S 29 := hsm29 29 (by decide)
        have eS29_30 : S29 30 = S 30 := hsm29 30 (by decide)
        have eS29_31 : S29 31 = S 31 := hsm29 31 (by decide)
        have eS29_33 : S29 33 = S 33 := hsm29 33 (by decide)
        refine j_aload_n dX7_share_32 rfl ?_
        refine j_getR dX7_share_33 fg_X7_28 fq_0_2 ?_
        refine j_callVv (As := []) (rest := []) (t_X2_weigh _ (by rw [eS29_1]; exact hn0) (by rw [eS29_1]; exact hn1) (by rw [eS29_2]; exact hwt) (by rw [eS29_1]; intro j a b; rw [(hl29 j a b).1]; have g := hhd s j (by omega) (by omega) a b; exact (hpt _ g.1 g.2).2.1)) rfl cm_X2_weigh ci_X2_weigh ml_X7_232 oq_4 rfl (Nat.le_of_ble_eq_true rfl) (Nat.le_of_ble_eq_true rfl) dX7_share_36 (fun r36 S36 hp36 => ?_)
        obtain ⟨hsm36, hw36⟩ := hp36
        have hwm : S36 7 m = wgt (S 1 0) (fun k => S 29 (S 33 (s * 6 + k))) (S 2) m := by rw [hw36 m (by omega) (by omega), eS29_1, eS29_2]; exact wgt_congr (fun j a b => ⟨(hl29 j a b).1, rfl⟩)
        have hwb := wgt_nn (n := S 1 0) (mk := (fun k => S 29 (S 33 (s * 6 + k)))) (wt := S 2) (m := m) (fun i i0 i1 => by have := hwt i i0 (by omega); omega)
        have eS36_1 : S36 1 = S 1 := (hsm36 1 (by decide)).trans eS29_1
        have eS36_2 : S36 2 = S 2 := (hsm36 2 (by decide)).trans eS29_2
        have eS36_3 : S36 3 = S 3 := (hsm36 3 (by decide)).trans eS29_3
        have eS36_27 : S36 27 = S 27 := (hsm36 27 (by decide)).trans eS29_27
        have eS36_28 : S36 28 = S 28 := (hsm36 28 (by decide)).trans eS29_28
        have eS36_29 : S36 29 = S 29 := (hsm36 29 (by decide)).trans eS29_29
        have eS36_30 : S36 30 = S 30 := (hsm36 30 (by decide)).trans eS29_30
        have eS36_31 : S36 31 = S 31 := (hsm36 31 (by decide)).trans eS29_31
        have eS36_33 : S36 33 = S 33 := (hsm36 33 (by decide)).trans eS29_33
        refine j_aload_n dX7_share_39 rfl ?_
        refine j_getR dX7_share_40 fg_X7_28 fq_0_2 ?_
        refine j_getR dX7_share_43 fg_X7_235 fq_4_4 ?_
        refine j_iload_n dX7_share_46 rfl ?_
        refine j_iald (x := wgt (S 1 0) (fun k => S 29 (S 33 (s * 6 + k))) (S 2) m) dX7_share_47 aq_7 (by omega) (by omega) hwm (fun hi47 => ?_)
        refine j_i2l dX7_share_48 (by omega) ?_
        refine j_aload_n dX7_share_49 rfl ?_
        refine j_getR dX7_share_50 fg_X7_10 fq_0_0 ?_
        refine j_callVi (As := []) (rest := [vl (wgt (S 1 0) (fun k => S 29 (S 33 (s * 6 + k))) (S 2) m)]) (t_X5_allWeights _ (by rw [eS36_1]; exact hn0) (by rw [eS36_1]; exact hn1) (by rw [eS36_2]; exact hwt)) rfl cm_X5_allWeights ci_X5_allWeights ml_X7_238 oq_1 rfl (Nat.le_of_ble_eq_true rfl) (Nat.le_of_ble_eq_true rfl) dX7_share_53 (fun r53 S53 hp53 => ?_)
        obtain ⟨hr53, he53⟩ := hp53
        rw [he53]
        rw [eS36_1, eS36_2] at hr53
        have hab := sm_bd (f := S 2) (a := 9) (n := (S 1 0).toNat) (fun i i0 i1 => by have := hwt i i0 (by omega); omega)
        have hap := sm_pos (f := S 2) (n := (S 1 0).toNat) (k := 0) (fun i i0 i1 => by have := hwt i i0 (by omega); omega) (by omega) (by omega) (by have := hwt 0 (by omega) (by omega); omega)
        rw [← hr53] at hab hap
        have hmul : (wgt (S 1 0) (fun k => S 29 (S 33 (s * 6 + k))) (S 2) m).toNat * r53.toNat < 2 ^ 98 := Nat.lt_of_le_of_lt (Nat.mul_le_mul (show _ ≤ 54 by omega) (show _ ≤ 54 by omega)) (by decide)
        refine j_i2l dX7_share_56 (by omega) ?_
        refine j_iload_n dX7_share_57 rfl ?_
        refine j_callSl (As := [vl (wgt (S 1 0) (fun k => S 29 (S 33 (s * 6 + k))) (S 2) m), vl r53, vi what]) (rest := []) (t_X7_inLeastTerms _ (wgt (S 1 0) (fun k => S 29 (S 33 (s * 6 + k))) (S 2) m) r53 what (by omega) (by omega) (by omega) (by omega) hmul (by omega)) rfl cm_X7_inLeastTerms cs_X7_inLeastTerms ml_X7_241 rfl (Nat.le_of_ble_eq_true rfl) (Nat.le_of_ble_eq_true rfl) dX7_share_58 (fun r58 S58 hp58 => ?_)
        obtain ⟨hr58, he58⟩ := hp58
        rw [he58]
        have hlt : InR r58 := by
          rw [hr58]
          unfold leastT
          have g1 := gcdI_pos (a := wgt (S 1 0) (fun k => S 29 (S 33 (s * 6 + k))) (S 2) m) (b := r53) (by omega)
          have d1 := Int.ediv_le_self (a := wgt (S 1 0) (fun k => S 29 (S 33 (s * 6 + k))) (S 2) m) (gcdI (wgt (S 1 0) (fun k => S 29 (S 33 (s * 6 + k))) (S 2) m) r53) (by omega)
          have d2 := Int.ediv_le_self (a := r53) (gcdI (wgt (S 1 0) (fun k => S 29 (S 33 (s * 6 + k))) (S 2) m) r53) (by omega)
          have d3 := Int.ediv_nonneg (a := wgt (S 1 0) (fun k => S 29 (S 33 (s * 6 + k))) (S 2) m) (b := gcdI (wgt (S 1 0) (fun k => S 29 (S 33 (s * 6 + k))) (S 2) m) r53) (by omega) (by omega)
          have d4 := Int.ediv_nonneg (a := r53) (b := gcdI (wgt (S 1 0) (fun k => S 29 (S 33 (s * 6 + k))) (S 2) m) r53) (by omega) (by omega)
          split <;> omega
        refine j_l2i dX7_share_61 (by omega) ?_
        exact j_iret rfl dX7_share_62 (fun h => by cases h) (hP _ _ ⟨by unfold fShare; rw [if_pos (by omega), ← hr53]; exact hr58, (hsm29.mono (by decide)).tr (hsm36.mono (by decide))⟩)
      · rw [he16]
        refine j_if_ne (tgt := 24) dX7_share_19 (by decide) (by omega)  (fun h => absurd h (by decide)) (fun _ => ?_)
        refine j_iconst dX7_share_22 ?_
        exact j_iret rfl dX7_share_23 (fun h => by cases h) (hP _ _ ⟨by unfold fShare; rw [if_neg (by omega)], Same.rf⟩)
    · rw [he9]
      refine j_if_eq (tgt := 22) dX7_share_12 (by decide) (by omega)  (fun _ => ?_) (fun h => absurd h (by decide))
      refine j_iconst dX7_share_22 ?_
      exact j_iret rfl dX7_share_23 (fun h => by cases h) (hP _ _ ⟨by unfold fShare; rw [if_neg (by omega)], Same.rf⟩)
  · rw [he2]
    refine j_if_eq (tgt := 22) dX7_share_5 (by decide) (by omega)  (fun _ => ?_) (fun h => absurd h (by decide))
    refine j_iconst dX7_share_22 ?_
    exact j_iret rfl dX7_share_23 (fun h => by cases h) (hP _ _ ⟨by unfold fShare; rw [if_neg (by omega)], Same.rf⟩)
set_option maxRecDepth 100000 in
set_option maxHeartbeats 4000000 in
theorem t_X7_staying (S : St) (s k law f : Int) (hX : XI S) (hs0 : 0 ≤ s) (hs1 : s < S 27 2) (hk0 : 0 ≤ k) (hk1 : k < S 1 0) (hl0 : 0 ≤ law) (hl1 : law < 5) (hf : f = who (S 1 0) (fun k => S 29 (S 33 (s * 6 + k))) (fun k => S 30 (S 33 (s * 6 + k))) (S 2) law) (hld : ∀ j, 0 ≤ j → j < S 1 0 → S 5 j = S 29 (S 33 (s * 6 + j)) ∧ S 6 j = S 30 (S 33 (s * 6 + j))) : EX mX7_staying [.ref 0, vi s, vi k, vi law, vi f] S (fun r S' => r = stF (S 1 0) (S 27 1) (S 29) (S 30) (S 31) (S 28) (S 2) (fun k => S 29 (S 33 (s * 6 + k))) (fun k => S 30 (S 33 (s * 6 + k))) k law ∧ Same [5, 6, 7] S S' ∧ (∀ j, 0 ≤ j → j < S 1 0 → S' 5 j = S 29 (S 33 (s * 6 + j)) ∧ S' 6 j = S 30 (S 33 (s * 6 + j)))) := by
  suffices hh : ∀ P : Int → St → Prop, (∀ r S', (r = stF (S 1 0) (S 27 1) (S 29) (S 30) (S 31) (S 28) (S 2) (fun k => S 29 (S 33 (s * 6 + k))) (fun k => S 30 (S 33 (s * 6 + k))) k law ∧ Same [5, 6, 7] S S' ∧ (∀ j, 0 ≤ j → j < S 1 0 → S' 5 j = S 29 (S 33 (s * 6 + j)) ∧ S' 6 j = S 30 (S 33 (s * 6 + j)))) → P r S') → EX mX7_staying [.ref 0, vi s, vi k, vi law, vi f] S P from hh _ (fun _ _ h => h)
  intro P hP
  refine EX.of (L := [(0, .ref 0), (1, vi s), (2, vi k), (3, vi law), (4, vi f)]) rfl rfl (Nat.le_of_ble_eq_true rfl) rfl ?_
  obtain ⟨⟨hn0, hn1⟩, hwl, ⟨hp0, hp1⟩, hsh, hyr, hpt, hhd⟩ := id hX
  have hwt : ∀ k, 0 ≤ k → k < 6 → 1 ≤ S 2 k ∧ S 2 k ≤ 9 := fun k a b => ⟨(hwl k a b).1, (hwl k a b).2.1⟩
  have hmkS : ∀ k, 0 ≤ k → k < S 1 0 → isMk (S 29 (S 33 (s * 6 + k))) := fun k a b => by have g := hhd s k (by omega) (by omega) a b; exact (hpt _ g.1 g.2).2.1
  have hwb0 := who_bd (n := S 1 0) (mk := (fun k => S 29 (S 33 (s * 6 + k)))) (ag := (fun k => S 30 (S 33 (s * 6 + k)))) (wt := S 2) (law := law) (by omega) hmkS
  rw [← hf] at hwb0
  have hg := hhd s k hs0 hs1 hk0 hk1
  refine j_iconst dX7_staying_0 ?_
  refine j_istore (L' := [(0, .ref 0), (1, vi s), (2, vi k), (3, vi law), (4, vi f), (5, vi 0)]) dX7_staying_1 (Nat.le_of_ble_eq_true rfl) rfl ?_
  refine j_iconst dX7_staying_3 ?_
  refine j_istore (L' := [(0, .ref 0), (1, vi s), (2, vi k), (3, vi law), (4, vi f), (5, vi 0), (6, vi 0)]) dX7_staying_4 (Nat.le_of_ble_eq_true rfl) rfl ?_
  refine j_iconst dX7_staying_6 ?_
  refine j_istore (L' := [(0, .ref 0), (1, vi s), (2, vi k), (3, vi law), (4, vi f), (5, vi 0), (6, vi 0), (7, vi 0)]) dX7_staying_7 (Nat.le_of_ble_eq_true rfl) rfl ?_
  have lp9 : ∀ (n : Nat) (sa tr p : Int) (T : St), (S 27 1 - p).toNat < n → (0 ≤ p ∧ p ≤ S 27 1 ∧ Same [5, 6, 7] S T ∧ (∀ j, 0 ≤ j → j < S 1 0 → j ≠ k → T 5 j = S 29 (S 33 (s * 6 + j)) ∧ T 6 j = S 30 (S 33 (s * 6 + j))) ∧ sa = sm (fun q => if (S 31 q = 8 ∧ S 28 q = k) ∧ who (S 1 0) (st9 (fun k => S 29 (S 33 (s * 6 + k))) k (S 29 q)) (st9 (fun k => S 30 (S 33 (s * 6 + k))) k (S 30 q)) (S 2) law = who (S 1 0) (fun k => S 29 (S 33 (s * 6 + k))) (fun k => S 30 (S 33 (s * 6 + k))) (S 2) law then 1 else 0) p.toNat ∧ tr = sm (fun q => if S 31 q = 8 ∧ S 28 q = k then 1 else 0) p.toNat ∧ (0 ≤ tr ∧ tr ≤ p)) → JJ mX7_staying (RX mX7_staying P) 9 [(0, .ref 0), (1, vi s), (2, vi k), (3, vi law), (4, vi f), (5, vi sa), (6, vi tr), (7, vi p)] [] T := by
    intro n
    induction n with
    | zero => intro sa tr p T hm; exact absurd hm (Nat.not_lt_zero _)
    | succ n ih9 =>
      intro sa tr p T hm9 hv9
      obtain ⟨hv1, hv2, hv3, hv4, hv5, hv6, hv7⟩ := hv9
      have eT_1 : T 1 = S 1 := hv3 1 (by decide)
      have eT_2 : T 2 = S 2 := hv3 2 (by decide)
      have eT_3 : T 3 = S 3 := hv3 3 (by decide)
      have eT_27 : T 27 = S 27 := hv3 27 (by decide)
      have eT_28 : T 28 = S 28 := hv3 28 (by decide)
      have eT_29 : T 29 = S 29 := hv3 29 (by decide)
      have eT_30 : T 30 = S 30 := hv3 30 (by decide)
      have eT_31 : T 31 = S 31 := hv3 31 (by decide)
      have eT_33 : T 33 = S 33 := hv3 33 (by decide)
      refine j_iload dX7_staying_9 rfl ?_
      refine j_aload_n dX7_staying_11 rfl ?_
      refine j_getR dX7_staying_12 fg_X7_19 fq_0_1 ?_
      refine j_getI (x := S 27 1) dX7_staying_15 fg_X7_177 fq_27_1 (congrFun eT_27 _) (fun hi15 => ?_)
      refine j_icmp_ge (tgt := 69) dX7_staying_18 (by decide) (by omega) (by omega) (fun h18 => ?_) (fun h18 => ?_)
      · have hP1 : tr = sm (fun p => if S 31 p = 8 ∧ S 28 p = k then 1 else 0) (S 27 1).toNat := by rw [hv6]; congr 2; omega
        refine j_aload_n dX7_staying_69 rfl ?_
        refine j_getR dX7_staying_70 fg_X7_28 fq_0_2 ?_
        refine j_iload_n dX7_staying_73 rfl ?_
        refine j_aload_n dX7_staying_74 rfl ?_
        refine j_getR dX7_staying_75 fg_X7_19 fq_0_1 ?_
        refine j_iload_n dX7_staying_78 rfl ?_
        refine j_iload_n dX7_staying_79 rfl ?_
        refine j_callVi (As := [vi s, vi k]) (rest := [vi k, .ref 4]) (t_X1_partAt _ s k (by omega) (by omega) (by omega) (by omega)) rfl cm_X1_partAt ci_X1_partAt ml_X7_138 oq_27 rfl (Nat.le_of_ble_eq_true rfl) (Nat.le_of_ble_eq_true rfl) dX7_staying_80 (fun r80 S80 hp80 => ?_)
        obtain ⟨hr80, he80⟩ := hp80
        rw [he80]
        rw [show r80 = S 33 (s * 6 + k) from hr80.trans (congrFun eT_33 _)]
        refine j_callVv (As := [vi k, vi (S 33 (s * 6 + k))]) (rest := []) (t_X2_putPart _ k (S 33 (s * 6 + k)) (by omega) (by omega) (by omega) (by omega)) rfl cm_X2_putPart ci_X2_putPart ml_X7_248 oq_4 rfl (Nat.le_of_ble_eq_true rfl) (Nat.le_of_ble_eq_true rfl) dX7_staying_83 (fun r83 S83 hp83 => ?_)
        rw [hp83]
        rw [show T 29 (S 33 (s * 6 + k)) = S 29 (S 33 (s * 6 + k)) from (congrFun eT_29 _)]
        rw [show T 30 (S 33 (s * 6 + k)) = S 30 (S 33 (s * 6 + k)) from (congrFun eT_30 _)]
        refine j_iload dX7_staying_86 rfl ?_
        refine j_if_ne (tgt := 95) dX7_staying_88 (by decide) (by omega)  (fun h88 => ?_) (fun h88 => ?_)
        · refine j_iload dX7_staying_95 rfl ?_
          exact j_iret rfl dX7_staying_97 (fun h => by cases h) (hP _ _ ⟨by unfold stF; rw [if_neg (by unfold lyO; rw [← hP1]; omega), hv5]; congr 2; omega, same_up (same_up hv3 (by decide)) (by decide), fun j a b => if e : j = k then by subst e; exact ⟨by simp [up], by simp [up]⟩ else by rw [up_c (by decide), up_i e, up_i e, up_c (by decide)]; exact hv4 j a b e⟩)
        · refine j_iconst dX7_staying_91 ?_
          refine j_goto (tgt := 97) dX7_staying_92 (by decide) ?_
          exact j_iret rfl dX7_staying_97 (fun h => by cases h) (hP _ _ ⟨by unfold stF; rw [if_pos (by unfold lyO; rw [← hP1]; omega)], same_up (same_up hv3 (by decide)) (by decide), fun j a b => if e : j = k then by subst e; exact ⟨by simp [up], by simp [up]⟩ else by rw [up_c (by decide), up_i e, up_i e, up_c (by decide)]; exact hv4 j a b e⟩)
      · refine j_aload_n dX7_staying_21 rfl ?_
        refine j_getR dX7_staying_22 fg_X7_19 fq_0_1 ?_
        refine j_iload dX7_staying_25 rfl ?_
        refine j_iload_n dX7_staying_27 rfl ?_
        refine j_callVi (As := [vi p, vi k]) (rest := []) (t_X1_liesFor _ p k (by omega) (by omega) (by omega)) rfl cm_X1_liesFor ci_X1_liesFor ml_X7_285 oq_27 rfl (Nat.le_of_ble_eq_true rfl) (Nat.le_of_ble_eq_true rfl) dX7_staying_28 (fun r28 S28 hp28 => ?_)
        obtain ⟨⟨rfl, hc28⟩ | ⟨rfl, hc28⟩, he28⟩ := hp28
        · rw [he28]
          rw [eT_31] at hc28
          rw [eT_28] at hc28
          refine j_if_eq (tgt := 63) dX7_staying_31 (by decide) (by omega)  (fun h => absurd h (by decide)) (fun _ => ?_)
          refine j_iinc (L' := [(0, .ref 0), (1, vi s), (2, vi k), (3, vi law), (4, vi f), (5, vi sa), (6, vi (tr + 1)), (7, vi p)]) dX7_staying_34 (Nat.le_of_ble_eq_true rfl) rfl rfl ?_
          have hpp := hpt p (by omega) (by omega)
          refine j_aload_n dX7_staying_37 rfl ?_
          refine j_getR dX7_staying_38 fg_X7_28 fq_0_2 ?_
          refine j_iload_n dX7_staying_41 rfl ?_
          refine j_iload dX7_staying_42 rfl ?_
          refine j_callVv (As := [vi k, vi p]) (rest := []) (t_X2_putPart _ k p (by omega) (by omega) (by omega) (by omega)) rfl cm_X2_putPart ci_X2_putPart ml_X7_248 oq_4 rfl (Nat.le_of_ble_eq_true rfl) (Nat.le_of_ble_eq_true rfl) dX7_staying_44 (fun r44 S44 hp44 => ?_)
          rw [hp44]
          rw [show T 29 p = S 29 p from (congrFun eT_29 _)]
          rw [show T 30 p = S 30 p from (congrFun eT_30 _)]
          refine j_aload_n dX7_staying_47 rfl ?_
          refine j_getR dX7_staying_48 fg_X7_28 fq_0_2 ?_
          refine j_iload_n dX7_staying_51 rfl ?_
          have h9 := put9 (n := S 1 0) (k := k) (x := S 29 p) (y := S 30 p) (mk := (fun k => S 29 (S 33 (s * 6 + k)))) (ag := (fun k => S 30 (S 33 (s * 6 + k)))) hv4
          refine j_callVi (As := [vi law]) (rest := []) (t_X2_whose _ law (by show 2 ≤ T 1 0; rw [eT_1]; exact hn0) (by show T 1 0 ≤ 6; rw [eT_1]; exact hn1) (by show ∀ k, 0 ≤ k → k < 6 → 1 ≤ T 2 k ∧ T 2 k ≤ 9; rw [eT_2]; exact hwt) (by show ∀ j, 0 ≤ j → j < T 1 0 → isMk ((up (up T 5 k (S 29 p)) 6 k (S 30 p)) 5 j); rw [eT_1]; intro j a b; rw [(h9 j a b).1]; exact st9_mk hmkS hpp.2.1 j a b) (by omega) (by omega)) rfl cm_X2_whose ci_X2_whose ml_X7_219 oq_4 rfl (Nat.le_of_ble_eq_true rfl) (Nat.le_of_ble_eq_true rfl) dX7_staying_52 (fun r52 S52 hp52 => ?_)
          obtain ⟨hr52, hsm52⟩ := hp52
          have hw52 : r52 = who (S 1 0) (st9 (fun k => S 29 (S 33 (s * 6 + k))) k (S 29 p)) (st9 (fun k => S 30 (S 33 (s * 6 + k))) k (S 30 p)) (S 2) law := by rw [hr52]; show who (T 1 0) ((up (up T 5 k (S 29 p)) 6 k (S 30 p)) 5) ((up (up T 5 k (S 29 p)) 6 k (S 30 p)) 6) (T 2) law = _; rw [eT_1, eT_2]; exact who_congr (by omega) (fun j a b => ⟨(h9 j a b).1, (h9 j a b).2, rfl⟩)
          have hwb52 := who_bd (n := S 1 0) (mk := st9 (fun k => S 29 (S 33 (s * 6 + k))) k (S 29 p)) (ag := st9 (fun k => S 30 (S 33 (s * 6 + k))) k (S 30 p)) (wt := S 2) (law := law) (by omega) (st9_mk hmkS hpp.2.1)
          rw [← hw52] at hwb52
          have eS52_1 : S52 1 = S 1 := (hsm52 1 (by decide)).trans eT_1
          have eS52_2 : S52 2 = S 2 := (hsm52 2 (by decide)).trans eT_2
          have eS52_3 : S52 3 = S 3 := (hsm52 3 (by decide)).trans eT_3
          have eS52_27 : S52 27 = S 27 := (hsm52 27 (by decide)).trans eT_27
          have eS52_28 : S52 28 = S 28 := (hsm52 28 (by decide)).trans eT_28
          have eS52_29 : S52 29 = S 29 := (hsm52 29 (by decide)).trans eT_29
          have eS52_30 : S52 30 = S 30 := (hsm52 30 (by decide)).trans eT_30
          have eS52_31 : S52 31 = S 31 := (hsm52 31 (by decide)).trans eT_31
          have eS52_33 : S52 33 = S 33 := (hsm52 33 (by decide)).trans eT_33
          refine j_iload dX7_staying_55 rfl ?_
          refine j_icmp_ne (tgt := 63) dX7_staying_57 (by decide) (by omega) (by omega) (fun h57 => ?_) (fun h57 => ?_)
          · refine j_iinc (L' := [(0, .ref 0), (1, vi s), (2, vi k), (3, vi law), (4, vi f), (5, vi sa), (6, vi (tr + 1)), (7, vi (p + 1))]) dX7_staying_63 (Nat.le_of_ble_eq_true rfl) rfl rfl ?_
            refine j_goto (tgt := 9) dX7_staying_66 (by decide) ?_
            exact ih9 sa (tr + 1) (p + 1) S52 (by omega) ⟨by omega, by omega, (same_up (same_up hv3 (by decide)) (by decide)).tr (hsm52.mono (by decide)), fun j a b e => by rw [hsm52 5 (by decide), hsm52 6 (by decide), up_c (by decide), up_i e, up_i e, up_c (by decide)]; exact hv4 j a b e, by rw [sm_s (by omega), ← hv5, ← hf, ← hw52]; rw [if_neg (fun z => h57 z.2), Int.add_zero], by rw [sm_s (by omega), if_pos hc28]; omega, by omega⟩
          · refine j_iinc (L' := [(0, .ref 0), (1, vi s), (2, vi k), (3, vi law), (4, vi f), (5, vi (sa + 1)), (6, vi (tr + 1)), (7, vi p)]) dX7_staying_60 (Nat.le_of_ble_eq_true rfl) rfl rfl ?_
            refine j_iinc (L' := [(0, .ref 0), (1, vi s), (2, vi k), (3, vi law), (4, vi f), (5, vi (sa + 1)), (6, vi (tr + 1)), (7, vi (p + 1))]) dX7_staying_63 (Nat.le_of_ble_eq_true rfl) rfl rfl ?_
            refine j_goto (tgt := 9) dX7_staying_66 (by decide) ?_
            exact ih9 (sa + 1) (tr + 1) (p + 1) S52 (by omega) ⟨by omega, by omega, (same_up (same_up hv3 (by decide)) (by decide)).tr (hsm52.mono (by decide)), fun j a b e => by rw [hsm52 5 (by decide), hsm52 6 (by decide), up_c (by decide), up_i e, up_i e, up_c (by decide)]; exact hv4 j a b e, by rw [sm_s (by omega), ← hv5, ← hf, ← hw52]; rw [if_pos ⟨hc28, h57⟩], by rw [sm_s (by omega), if_pos hc28]; omega, by omega⟩
        · rw [he28]
          rw [eT_31] at hc28
          rw [eT_28] at hc28
          refine j_if_eq (tgt := 63) dX7_staying_31 (by decide) (by omega)  (fun _ => ?_) (fun h => absurd h (by decide))
          refine j_iinc (L' := [(0, .ref 0), (1, vi s), (2, vi k), (3, vi law), (4, vi f), (5, vi sa), (6, vi tr), (7, vi (p + 1))]) dX7_staying_63 (Nat.le_of_ble_eq_true rfl) rfl rfl ?_
          refine j_goto (tgt := 9) dX7_staying_66 (by decide) ?_
          exact ih9 sa tr (p + 1) T (by omega) ⟨by omega, by omega, hv3, hv4, by rw [sm_s (by omega), if_neg (fun z => hc28 z.1)]; omega, by rw [sm_s (by omega), if_neg hc28]; omega, by omega⟩
  exact lp9 _ 0 0 0 S (Nat.lt_succ_self _) ⟨by omega, by omega, Same.rf, fun j a b _ => hld j a b, rfl, rfl, by omega⟩
