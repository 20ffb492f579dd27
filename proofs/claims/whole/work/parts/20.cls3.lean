set_option maxRecDepth 100000 in
set_option maxHeartbeats 4000000 in
theorem t_bc_n (S : St) (n : Nat) (hn : n < 64) : EX mJ6_bitCount_0f7a4 [vi (n : Int)] S (fun r S' => r = onesF (n : Int) ∧ S' = S) := by
  suffices hh : ∀ P : Int → St → Prop, (∀ r S', (r = onesF (n : Int) ∧ S' = S) → P r S') → EX mJ6_bitCount_0f7a4 [vi (n : Int)] S P from hh _ (fun _ _ h => h)
  intro P hP
  refine EX.of (L := [(0, vi (n : Int))]) rfl rfl (Nat.le_of_ble_eq_true rfl) rfl ?_
  obtain ⟨q1, q2, q3, q4, q5⟩ := g_small ⟨n, hn⟩
  dsimp only at q1 q2 q3 q4 q5
  refine j_iload_n dJ6_bitCount_0f7a4_0 rfl ?_
  refine j_iload_n dJ6_bitCount_0f7a4_1 rfl ?_
  refine j_iconst dJ6_bitCount_0f7a4_2 ?_
  refine j_iushr dJ6_bitCount_0f7a4_3 (by omega) (by omega) (by omega) (by omega) ?_
  refine j_ldcw (x := 1431655765) dJ6_bitCount_0f7a4_4 cn_J6_265 ?_
  refine j_iand dJ6_bitCount_0f7a4_7 (Int.natCast_nonneg _) (by decide) ?_
  refine j_isub dJ6_bitCount_0f7a4_8 ?_
  refine j_top (fun x1 ex1 => ?_)
  have hx1 : x1 = (g1 n : Int) := ex1.trans (g1_ok ⟨n, hn⟩)
  refine j_istore_n (L' := [(0, vi x1)]) dJ6_bitCount_0f7a4_9 (Nat.le_of_ble_eq_true rfl) rfl ?_
  refine j_iload_n dJ6_bitCount_0f7a4_10 rfl ?_
  refine j_ldcw (x := 858993459) dJ6_bitCount_0f7a4_11 cn_J6_266 ?_
  refine j_iand dJ6_bitCount_0f7a4_14 (by omega) (by decide) ?_
  refine j_iload_n dJ6_bitCount_0f7a4_15 rfl ?_
  refine j_iconst dJ6_bitCount_0f7a4_16 ?_
  refine j_iushr dJ6_bitCount_0f7a4_17 (by omega) (by omega) (by omega) (by omega) ?_
  refine j_ldcw (x := 858993459) dJ6_bitCount_0f7a4_18 cn_J6_266 ?_
  refine j_iand dJ6_bitCount_0f7a4_21 (Int.natCast_nonneg _) (by decide) ?_
  refine j_iadd dJ6_bitCount_0f7a4_22 ?_
  refine j_top (fun x2 ex2 => ?_)
  have hx2 : x2 = (g2 n : Int) := by rw [ex2, hx1]; rfl
  refine j_istore_n (L' := [(0, vi x2)]) dJ6_bitCount_0f7a4_23 (Nat.le_of_ble_eq_true rfl) rfl ?_
  refine j_iload_n dJ6_bitCount_0f7a4_24 rfl ?_
  refine j_iload_n dJ6_bitCount_0f7a4_25 rfl ?_
  refine j_iconst dJ6_bitCount_0f7a4_26 ?_
  refine j_iushr dJ6_bitCount_0f7a4_27 (by omega) (by omega) (by omega) (by omega) ?_
  refine j_iadd dJ6_bitCount_0f7a4_28 ?_
  refine j_ldcw (x := 252645135) dJ6_bitCount_0f7a4_29 cn_J6_267 ?_
  refine j_iand dJ6_bitCount_0f7a4_32 (Int.add_nonneg (by omega) (Int.natCast_nonneg _)) (by decide) ?_
  refine j_top (fun x3 ex3 => ?_)
  have hx3 : x3 = (g3 n : Int) := by rw [ex3, hx2]; rfl
  refine j_istore_n (L' := [(0, vi x3)]) dJ6_bitCount_0f7a4_33 (Nat.le_of_ble_eq_true rfl) rfl ?_
  refine j_iload_n dJ6_bitCount_0f7a4_34 rfl ?_
  refine j_iload_n dJ6_bitCount_0f7a4_35 rfl ?_
  refine j_bipush dJ6_bitCount_0f7a4_36 (by decide) ?_
  refine j_iushr dJ6_bitCount_0f7a4_38 (by omega) (by omega) (by omega) (by omega) ?_
  refine j_iadd dJ6_bitCount_0f7a4_39 ?_
  refine j_top (fun x4 ex4 => ?_)
  have hx4 : x4 = (g4 n : Int) := by rw [ex4, hx3]; rfl
  refine j_istore_n (L' := [(0, vi x4)]) dJ6_bitCount_0f7a4_40 (Nat.le_of_ble_eq_true rfl) rfl ?_
  refine j_iload_n dJ6_bitCount_0f7a4_41 rfl ?_
  refine j_iload_n dJ6_bitCount_0f7a4_42 rfl ?_
  refine j_bipush dJ6_bitCount_0f7a4_43 (by decide) ?_
  refine j_iushr dJ6_bitCount_0f7a4_45 (by omega) (by omega) (by omega) (by omega) ?_
  refine j_iadd dJ6_bitCount_0f7a4_46 ?_
  refine j_top (fun x5 ex5 => ?_)
  have hx5 : x5 = (g5 n : Int) := by rw [ex5, hx4]; rfl
  refine j_istore_n (L' := [(0, vi x5)]) dJ6_bitCount_0f7a4_47 (Nat.le_of_ble_eq_true rfl) rfl ?_
  refine j_iload_n dJ6_bitCount_0f7a4_48 rfl ?_
  refine j_bipush dJ6_bitCount_0f7a4_49 (by decide) ?_
  refine j_iand dJ6_bitCount_0f7a4_51 (by omega) (by decide) ?_
  refine j_top (fun x6 ex6 => ?_)
  have hx6 : x6 = (g6 n : Int) := by rw [ex6, hx5]; rfl
  exact j_iret rfl dJ6_bitCount_0f7a4_52 (fun h => by cases h) (hP _ _ ⟨hx6.trans (g6_ok ⟨n, hn⟩), rfl⟩)
theorem t_J6_bitCount (S : St) (b : Int) (h0 : 0 ≤ b) (h1 : b < 64) : EX mJ6_bitCount_0f7a4 [vi b] S (fun r S' => r = onesF b ∧ S' = S) := by
  obtain ⟨n, rfl⟩ := Int.eq_ofNat_of_zero_le h0
  exact t_bc_n S n (by omega)
set_option maxRecDepth 100000 in
set_option maxHeartbeats 4000000 in
theorem t_X7_leastSeen (S : St) (s : Int) (r_s : InR s) (hX : XI S) : EX mX7_leastSeen [.ref 0, vi s] S (fun r S' => r = fLeast (S 1 0) (S 27 2) (S 29) (S 33) s ∧ S' = S) := by
  suffices hh : ∀ P : Int → St → Prop, (∀ r S', (r = fLeast (S 1 0) (S 27 2) (S 29) (S 33) s ∧ S' = S) → P r S') → EX mX7_leastSeen [.ref 0, vi s] S P from hh _ (fun _ _ h => h)
  intro P hP
  refine EX.of (L := [(0, .ref 0), (1, vi s)]) rfl rfl (Nat.le_of_ble_eq_true rfl) rfl ?_
  obtain ⟨⟨hn0, hn1⟩, hwl, ⟨hp0, hp1⟩, ⟨hs0, hs1⟩, hyr, hpt, hhd⟩ := id hX
  have hwt : ∀ k, 0 ≤ k → k < 6 → 1 ≤ S 2 k ∧ S 2 k ≤ 9 := fun k a b => ⟨(hwl k a b).1, (hwl k a b).2.1⟩
  refine j_aload_n dX7_leastSeen_0 rfl ?_
  refine j_iload_n dX7_leastSeen_1 rfl ?_
  refine j_callVi (As := [vi s]) (rest := []) (t_X7_isShip _ s (by omega)) rfl cm_X7_isShip ci_X7_isShip ml_X7_135 oq_0 rfl (Nat.le_of_ble_eq_true rfl) (Nat.le_of_ble_eq_true rfl) dX7_leastSeen_2 (fun r2 S2 hp2 => ?_)
  obtain ⟨⟨rfl, hc2⟩ | ⟨rfl, hc2⟩, he2⟩ := hp2
  · rw [he2]
    refine j_if_ne (tgt := 10) dX7_leastSeen_5 (by decide) (by omega)  (fun _ => ?_) (fun h => absurd h (by decide))
    refine j_bipush dX7_leastSeen_10 (by decide) ?_
    refine j_istore_n (L' := [(0, .ref 0), (1, vi s), (2, vi (-9))]) dX7_leastSeen_12 (Nat.le_of_ble_eq_true rfl) rfl ?_
    refine j_iconst dX7_leastSeen_13 ?_
    refine j_istore_n (L' := [(0, .ref 0), (1, vi s), (2, vi (-9)), (3, vi 0)]) dX7_leastSeen_14 (Nat.le_of_ble_eq_true rfl) rfl ?_
    have lp15 : ∀ (n : Nat) (q b : Int), (((2 ^ (S 1 0).toNat : Nat) : Int) - b).toNat < n → (0 ≤ b ∧ b ≤ ((2 ^ (S 1 0).toNat : Nat) : Int) ∧ q = lsF (tels (S 1 0) (S 27 2) (S 29) (S 33) s) b.toNat) → JJ mX7_leastSeen (RX mX7_leastSeen P) 15 [(0, .ref 0), (1, vi s), (2, vi q), (3, vi b)] [] S := by
      intro n
      induction n with
      | zero => intro q b hm; exact absurd hm (Nat.not_lt_zero _)
      | succ n ih15 =>
        intro q b hm15 hv15
        obtain ⟨hv1, hv2, hv3⟩ := hv15
        have hqb := lsF_bd (tels (S 1 0) (S 27 2) (S 29) (S 33) s) b.toNat
        rw [← hv3] at hqb
        have hp6 := pw_le (k := S 1 0) (m := 6) hn1
        have hp7 : ((2 ^ (6 : Int).toNat : Nat) : Int) = 64 := by decide
        have hp8 := pw_pos (S 1 0)
        refine j_iload_n dX7_leastSeen_15 rfl ?_
        refine j_iconst dX7_leastSeen_16 ?_
        refine j_aload_n dX7_leastSeen_17 rfl ?_
        refine j_getR dX7_leastSeen_18 fg_X7_10 fq_0_0 ?_
        refine j_getI (x := S 1 0) dX7_leastSeen_21 fg_X7_184 fq_1_0 rfl (fun hi21 => ?_)
        refine j_shl dX7_leastSeen_24 (by omega) (by omega) ?_
        refine j_icmp_ge (tgt := 74) dX7_leastSeen_25 (by decide) (by omega) (by omega) (fun h25 => ?_) (fun h25 => ?_)
        · refine j_iload_n dX7_leastSeen_74 rfl ?_
          exact j_iret rfl dX7_leastSeen_75 (fun h => by cases h) (hP _ _ ⟨by unfold fLeast; rw [if_pos hc2, hv3]; congr 1; omega, rfl⟩)
        · refine j_iload_n dX7_leastSeen_28 rfl ?_
          refine j_bipush dX7_leastSeen_29 (by decide) ?_
          refine j_icmp_eq (tgt := 45) dX7_leastSeen_31 (by decide) (by omega) (by omega) (fun h31 => ?_) (fun h31 => ?_)
          · refine j_iconst dX7_leastSeen_45 ?_
            refine j_goto (tgt := 50) dX7_leastSeen_46 (by decide) ?_
            refine j_istore (L' := [(0, .ref 0), (1, vi s), (2, vi q), (3, vi b), (4, vi 1)]) dX7_leastSeen_50 (Nat.le_of_ble_eq_true rfl) rfl ?_
            refine j_iload dX7_leastSeen_52 rfl ?_
            refine j_if_eq (tgt := 68) dX7_leastSeen_54 (by decide) (by omega)  (fun h => absurd h (by decide)) (fun _ => ?_)
            refine j_aload_n dX7_leastSeen_57 rfl ?_
            refine j_iload_n dX7_leastSeen_58 rfl ?_
            refine j_iload_n dX7_leastSeen_59 rfl ?_
            refine j_callVi (As := [vi s, vi b]) (rest := []) (t_X7_tellsFromAll _ s b hX (by omega) (by omega) (by omega) (by omega)) rfl cm_X7_tellsFromAll ci_X7_tellsFromAll ml_X7_270 oq_0 rfl (Nat.le_of_ble_eq_true rfl) (Nat.le_of_ble_eq_true rfl) dX7_leastSeen_60 (fun r60 S60 hp60 => ?_)
            obtain ⟨⟨rfl, hc60⟩ | ⟨rfl, hc60⟩, he60⟩ := hp60
            · rw [he60]
              refine j_if_eq (tgt := 68) dX7_leastSeen_63 (by decide) (by omega)  (fun h => absurd h (by decide)) (fun _ => ?_)
              refine j_iload_n dX7_leastSeen_66 rfl ?_
              refine j_istore_n (L' := [(0, .ref 0), (1, vi s), (2, vi b), (3, vi b), (4, vi 1)]) dX7_leastSeen_67 (Nat.le_of_ble_eq_true rfl) rfl ?_
              refine j_iinc (L' := [(0, .ref 0), (1, vi s), (2, vi b), (3, vi (b + 1)), (4, vi 1)]) dX7_leastSeen_68 (Nat.le_of_ble_eq_true rfl) rfl rfl ?_
              refine j_goto (tgt := 15) dX7_leastSeen_71 (by decide) ?_
              refine j_sub (L' := [(0, .ref 0), (1, vi s), (2, vi b), (3, vi (b + 1))]) (by simp) ?_
              exact ih15 b (b + 1) (by omega) ⟨by omega, by omega, by rw [lsF_s (by omega), ← hv3, cb_pos ⟨by omega, hc60⟩]⟩
            · rw [he60]
              refine j_if_eq (tgt := 68) dX7_leastSeen_63 (by decide) (by omega)  (fun _ => ?_) (fun h => absurd h (by decide))
              refine j_iinc (L' := [(0, .ref 0), (1, vi s), (2, vi q), (3, vi (b + 1)), (4, vi 1)]) dX7_leastSeen_68 (Nat.le_of_ble_eq_true rfl) rfl rfl ?_
              refine j_goto (tgt := 15) dX7_leastSeen_71 (by decide) ?_
              refine j_sub (L' := [(0, .ref 0), (1, vi s), (2, vi q), (3, vi (b + 1))]) (by simp) ?_
              exact ih15 q (b + 1) (by omega) ⟨by omega, by omega, by rw [lsF_s (by omega), ← hv3, cb_neg (fun z => by first | exact hc60 z.2 | (have := z.1; omega))]⟩
          · refine j_iload_n dX7_leastSeen_34 rfl ?_
            refine j_callSi (As := [vi b]) (rest := []) (t_J6_bitCount _ b (by omega) (by omega)) rfl cm_J6_bitCount_0f7a4 cs_J6_bitCount_0f7a4 ml_X7_265 rfl (Nat.le_of_ble_eq_true rfl) (Nat.le_of_ble_eq_true rfl) dX7_leastSeen_35 (fun r35 S35 hp35 => ?_)
            obtain ⟨hr35, he35⟩ := hp35
            rw [he35]
            subst hr35
            have hob35 := onesF_bd b
            refine j_iload_n dX7_leastSeen_38 rfl ?_
            refine j_callSi (As := [vi q]) (rest := [vi (onesF b)]) (t_J6_bitCount _ q (by omega) (by omega)) rfl cm_J6_bitCount_0f7a4 cs_J6_bitCount_0f7a4 ml_X7_265 rfl (Nat.le_of_ble_eq_true rfl) (Nat.le_of_ble_eq_true rfl) dX7_leastSeen_39 (fun r39 S39 hp39 => ?_)
            obtain ⟨hr39, he39⟩ := hp39
            rw [he39]
            subst hr39
            have hob39 := onesF_bd q
            refine j_icmp_ge (tgt := 49) dX7_leastSeen_42 (by decide) (by omega) (by omega) (fun h42 => ?_) (fun h42 => ?_)
            · refine j_iconst dX7_leastSeen_49 ?_
              refine j_istore (L' := [(0, .ref 0), (1, vi s), (2, vi q), (3, vi b), (4, vi 0)]) dX7_leastSeen_50 (Nat.le_of_ble_eq_true rfl) rfl ?_
              refine j_iload dX7_leastSeen_52 rfl ?_
              refine j_if_eq (tgt := 68) dX7_leastSeen_54 (by decide) (by omega)  (fun _ => ?_) (fun h => absurd h (by decide))
              refine j_iinc (L' := [(0, .ref 0), (1, vi s), (2, vi q), (3, vi (b + 1)), (4, vi 0)]) dX7_leastSeen_68 (Nat.le_of_ble_eq_true rfl) rfl rfl ?_
              refine j_goto (tgt := 15) dX7_leastSeen_71 (by decide) ?_
              refine j_sub (L' := [(0, .ref 0), (1, vi s), (2, vi q), (3, vi (b + 1))]) (by simp) ?_
              exact ih15 q (b + 1) (by omega) ⟨by omega, by omega, by rw [lsF_s (by omega), ← hv3, cb_neg (fun z => by first | exact hc60 z.2 | (have := z.1; omega))]⟩
            · refine j_iconst dX7_leastSeen_45 ?_
              refine j_goto (tgt := 50) dX7_leastSeen_46 (by decide) ?_
              refine j_istore (L' := [(0, .ref 0), (1, vi s), (2, vi q), (3, vi b), (4, vi 1)]) dX7_leastSeen_50 (Nat.le_of_ble_eq_true rfl) rfl ?_
              refine j_iload dX7_leastSeen_52 rfl ?_
              refine j_if_eq (tgt := 68) dX7_leastSeen_54 (by decide) (by omega)  (fun h => absurd h (by decide)) (fun _ => ?_)
              refine j_aload_n dX7_leastSeen_57 rfl ?_
              refine j_iload_n dX7_leastSeen_58 rfl ?_
              refine j_iload_n dX7_leastSeen_59 rfl ?_
              refine j_callVi (As := [vi s, vi b]) (rest := []) (t_X7_tellsFromAll _ s b hX (by omega) (by omega) (by omega) (by omega)) rfl cm_X7_tellsFromAll ci_X7_tellsFromAll ml_X7_270 oq_0 rfl (Nat.le_of_ble_eq_true rfl) (Nat.le_of_ble_eq_true rfl) dX7_leastSeen_60 (fun r60 S60 hp60 => ?_)
              obtain ⟨⟨rfl, hc60⟩ | ⟨rfl, hc60⟩, he60⟩ := hp60
              · rw [he60]
                refine j_if_eq (tgt := 68) dX7_leastSeen_63 (by decide) (by omega)  (fun h => absurd h (by decide)) (fun _ => ?_)
                refine j_iload_n dX7_leastSeen_66 rfl ?_
                refine j_istore_n (L' := [(0, .ref 0), (1, vi s), (2, vi b), (3, vi b), (4, vi 1)]) dX7_leastSeen_67 (Nat.le_of_ble_eq_true rfl) rfl ?_
                refine j_iinc (L' := [(0, .ref 0), (1, vi s), (2, vi b), (3, vi (b + 1)), (4, vi 1)]) dX7_leastSeen_68 (Nat.le_of_ble_eq_true rfl) rfl rfl ?_
                refine j_goto (tgt := 15) dX7_leastSeen_71 (by decide) ?_
                refine j_sub (L' := [(0, .ref 0), (1, vi s), (2, vi b), (3, vi (b + 1))]) (by simp) ?_
                exact ih15 b (b + 1) (by omega) ⟨by omega, by omega, by rw [lsF_s (by omega), ← hv3, cb_pos ⟨by omega, hc60⟩]⟩
              · rw [he60]
                refine j_if_eq (tgt := 68) dX7_leastSeen_63 (by decide) (by omega)  (fun _ => ?_) (fun h => absurd h (by decide))
                refine j_iinc (L' := [(0, .ref 0), (1, vi s), (2, vi q), (3, vi (b + 1)), (4, vi 1)]) dX7_leastSeen_68 (Nat.le_of_ble_eq_true rfl) rfl rfl ?_
                refine j_goto (tgt := 15) dX7_leastSeen_71 (by decide) ?_
                refine j_sub (L' := [(0, .ref 0), (1, vi s), (2, vi q), (3, vi (b + 1))]) (by simp) ?_
                exact ih15 q (b + 1) (by omega) ⟨by omega, by omega, by rw [lsF_s (by omega), ← hv3, cb_neg (fun z => by first | exact hc60 z.2 | (have := z.1; omega))]⟩
    exact lp15 _ (-9) 0 (Nat.lt_succ_self _) ⟨by omega, by have := pw_pos (S 1 0); omega, rfl⟩
  · rw [he2]
    refine j_if_ne (tgt := 10) dX7_leastSeen_5 (by decide) (by omega)  (fun h => absurd h (by decide)) (fun _ => ?_)
    refine j_iconst dX7_leastSeen_8 ?_
    exact j_iret rfl dX7_leastSeen_9 (fun h => by cases h) (hP _ _ ⟨by unfold fLeast; rw [if_neg (by omega)], rfl⟩)
set_option maxRecDepth 100000 in
set_option maxHeartbeats 4000000 in
theorem t_X7_repairs (S : St) (s y what : Int) (r_s : InR s) (r_y : InR y) (r_what : InR what) (hX : XI S) : EX mX7_repairs [.ref 0, vi s, vi y, vi what] S (fun r S' => r = fRep (S 1 0) (S 27 2) (S 3) (S 30) (S 33) s y what ∧ Same [5, 6] S S') := by
  suffices hh : ∀ P : Int → St → Prop, (∀ r S', (r = fRep (S 1 0) (S 27 2) (S 3) (S 30) (S 33) s y what ∧ Same [5, 6] S S') → P r S') → EX mX7_repairs [.ref 0, vi s, vi y, vi what] S P from hh _ (fun _ _ h => h)
  intro P hP
  refine EX.of (L := [(0, .ref 0), (1, vi s), (2, vi y), (3, vi what)]) rfl rfl (Nat.le_of_ble_eq_true rfl) rfl ?_
  obtain ⟨⟨hn0, hn1⟩, hwl, ⟨hp0, hp1⟩, ⟨hs0, hs1⟩, hyr, hpt, hhd⟩ := id hX
  have hwt : ∀ k, 0 ≤ k → k < 6 → 1 ≤ S 2 k ∧ S 2 k ≤ 9 := fun k a b => ⟨(hwl k a b).1, (hwl k a b).2.1⟩
  refine j_aload_n dX7_repairs_0 rfl ?_
  refine j_iload_n dX7_repairs_1 rfl ?_
  refine j_callVi (As := [vi s]) (rest := []) (t_X7_isShip _ s (by omega)) rfl cm_X7_isShip ci_X7_isShip ml_X7_135 oq_0 rfl (Nat.le_of_ble_eq_true rfl) (Nat.le_of_ble_eq_true rfl) dX7_repairs_2 (fun r2 S2 hp2 => ?_)
  obtain ⟨⟨rfl, hc2⟩ | ⟨rfl, hc2⟩, he2⟩ := hp2
  · rw [he2]
    refine j_if_eq (tgt := 27) dX7_repairs_5 (by decide) (by omega)  (fun h => absurd h (by decide)) (fun _ => ?_)
    refine j_iload_n dX7_repairs_8 rfl ?_
    refine j_if_lt (tgt := 27) dX7_repairs_9 (by decide) (by omega)  (fun h9 => ?_) (fun h9 => ?_)
    · refine j_iconst dX7_repairs_27 ?_
      exact j_iret rfl dX7_repairs_28 (fun h => by cases h) (hP _ _ ⟨by unfold fRep; rw [if_neg (by omega)], Same.rf⟩)
    · refine j_iload_n dX7_repairs_12 rfl ?_
      refine j_bipush dX7_repairs_13 (by decide) ?_
      refine j_icmp_gt (tgt := 27) dX7_repairs_15 (by decide) (by omega) (by omega) (fun h15 => ?_) (fun h15 => ?_)
      · refine j_iconst dX7_repairs_27 ?_
        exact j_iret rfl dX7_repairs_28 (fun h => by cases h) (hP _ _ ⟨by unfold fRep; rw [if_neg (by omega)], Same.rf⟩)
      · refine j_iload_n dX7_repairs_18 rfl ?_
        refine j_if_lt (tgt := 27) dX7_repairs_19 (by decide) (by omega)  (fun h19 => ?_) (fun h19 => ?_)
        · refine j_iconst dX7_repairs_27 ?_
          exact j_iret rfl dX7_repairs_28 (fun h => by cases h) (hP _ _ ⟨by unfold fRep; rw [if_neg (by omega)], Same.rf⟩)
        · refine j_iload_n dX7_repairs_22 rfl ?_
          refine j_iconst dX7_repairs_23 ?_
          refine j_icmp_le (tgt := 29) dX7_repairs_24 (by decide) (by omega) (by omega) (fun h24 => ?_) (fun h24 => ?_)
          · refine j_aload_n dX7_repairs_29 rfl ?_
            refine j_getR dX7_repairs_30 fg_X7_28 fq_0_2 ?_
            refine j_iload_n dX7_repairs_33 rfl ?_
            refine j_callVv (As := [vi s]) (rest := []) (t_X2_load _ s hn0 hn1 (by omega) (by omega) (fun k a b => by have := hhd s k (by omega) (by omega) a b; omega)) rfl cm_X2_load ci_X2_load ml_X7_228 oq_4 rfl (Nat.le_of_ble_eq_true rfl) (Nat.le_of_ble_eq_true rfl) dX7_repairs_34 (fun r34 S34 hp34 => ?_)
            obtain ⟨hsm34, hl34⟩ := hp34
            have eS34_1 : S34 1 = S 1 := hsm34 1 (by decide)
            have eS34_2 : S34 2 = S 2 := hsm34 2 (by decide)
            have eS34_3 : S34 3 = S 3 := hsm34 3 (by decide)
            have eS34_27 : S34 27 = S 27 := hsm34 27 (by decide)
            have eS34_28 : S34 28 = S 28 := hsm34 28 (by decide)
            have eS34_29 : S34 29 = S 29 := hsm34 29 (by decide)
            have eS34_30 : S34 30 = S 30 := hsm34 30 (by decide)
            have eS34_31 : S34 31 = S 31 := hsm34 31 (by decide)
            have eS34_33 : S34 33 = S 33 := hsm34 33 (by decide)
            refine j_iconst dX7_repairs_37 ?_
            refine j_istore (L' := [(0, .ref 0), (1, vi s), (2, vi y), (3, vi what), (4, vi 0)]) dX7_repairs_38 (Nat.le_of_ble_eq_true rfl) rfl ?_
            refine j_iconst dX7_repairs_40 ?_
            refine j_istore (L' := [(0, .ref 0), (1, vi s), (2, vi y), (3, vi what), (4, vi 0), (5, vi 0)]) dX7_repairs_41 (Nat.le_of_ble_eq_true rfl) rfl ?_
            refine j_bipush dX7_repairs_43 (by decide) ?_
            refine j_istore (L' := [(0, .ref 0), (1, vi s), (2, vi y), (3, vi what), (4, vi 0), (5, vi 0), (6, vi (-9))]) dX7_repairs_45 (Nat.le_of_ble_eq_true rfl) rfl ?_
            refine j_iconst dX7_repairs_47 ?_
            refine j_istore (L' := [(0, .ref 0), (1, vi s), (2, vi y), (3, vi what), (4, vi 0), (5, vi 0), (6, vi (-9)), (7, vi 1)]) dX7_repairs_48 (Nat.le_of_ble_eq_true rfl) rfl ?_
            have lp50 : ∀ (n : Nat) (al mo my z : Int) (T : St), (y + 1 - z).toNat < n → (1 ≤ z ∧ z ≤ y + 1 ∧ (∀ j, 0 ≤ j → j < S 1 0 → T 5 j = yMk (S 3) (fun k => S 29 (S 33 (s * 6 + k))) (fun k => S 30 (S 33 (s * 6 + k))) (z - 1).toNat j ∧ T 6 j = yAg (S 3) (fun k => S 30 (S 33 (s * 6 + k))) (z - 1).toNat j) ∧ al = sm (cntS (S 1 0) (S 3) (S 30) (S 33) s) (z - 1).toNat ∧ mo = mxF (cntS (S 1 0) (S 3) (S 30) (S 33) s) (z - 1).toNat ∧ my = myF (cntS (S 1 0) (S 3) (S 30) (S 33) s) (z - 1).toNat ∧ Same [5, 6] S T ∧ (0 ≤ al ∧ al ≤ 6 * (z - 1)) ∧ (0 ≤ mo ∧ mo ≤ 6) ∧ (my = -9 ∨ 0 ≤ my)) → JJ mX7_repairs (RX mX7_repairs P) 50 [(0, .ref 0), (1, vi s), (2, vi y), (3, vi what), (4, vi al), (5, vi mo), (6, vi my), (7, vi z)] [] T := by
              intro n
              induction n with
              | zero => intro al mo my z T hm; exact absurd hm (Nat.not_lt_zero _)
              | succ n ih50 =>
                intro al mo my z T hm50 hv50
                obtain ⟨hv1, hv2, hv3, hv4, hv5, hv6, hv7, hv8, hv9, hv10⟩ := hv50
                have eT_1 : T 1 = S 1 := hv7 1 (by decide)
                have eT_2 : T 2 = S 2 := hv7 2 (by decide)
                have eT_3 : T 3 = S 3 := hv7 3 (by decide)
                have eT_27 : T 27 = S 27 := hv7 27 (by decide)
                have eT_28 : T 28 = S 28 := hv7 28 (by decide)
                have eT_29 : T 29 = S 29 := hv7 29 (by decide)
                have eT_30 : T 30 = S 30 := hv7 30 (by decide)
                have eT_31 : T 31 = S 31 := hv7 31 (by decide)
                have eT_33 : T 33 = S 33 := hv7 33 (by decide)
                refine j_iload dX7_repairs_50 rfl ?_
                refine j_iload_n dX7_repairs_52 rfl ?_
                refine j_icmp_gt (tgt := 93) dX7_repairs_53 (by decide) (by omega) (by omega) (fun h53 => ?_) (fun h53 => ?_)
                · refine j_iload_n dX7_repairs_93 rfl ?_
                  refine j_if_ne (tgt := 102) dX7_repairs_94 (by decide) (by omega)  (fun h94 => ?_) (fun h94 => ?_)
                  · refine j_iload dX7_repairs_102 rfl ?_
                    exact j_iret rfl dX7_repairs_104 (fun h => by cases h) (hP _ _ ⟨by unfold fRep; rw [if_pos (by omega), if_neg (by omega), hv6]; congr 2; omega, hv7⟩)
                  · refine j_iload dX7_repairs_97 rfl ?_
                    refine j_goto (tgt := 104) dX7_repairs_99 (by decide) ?_
                    exact j_iret rfl dX7_repairs_104 (fun h => by cases h) (hP _ _ ⟨by unfold fRep; rw [if_pos (by omega), if_pos (by omega), hv4]; congr 2; omega, hv7⟩)
                · refine j_aload_n dX7_repairs_56 rfl ?_
                  refine j_getR dX7_repairs_57 fg_X7_28 fq_0_2 ?_
                  refine j_callVi (As := []) (rest := []) (t_X2_ageAndRenew _ (by rw [eT_1]; exact hn0) (by rw [eT_1]; exact hn1) (by rw [eT_1]; exact (fun k a b => by rw [(hv3 k a (by omega)).2]; have g := hhd s k (by omega) (by omega) a (by omega); have := yAg_bd (lf := S 3) (ag := (fun k => S 30 (S 33 (s * 6 + k)))) (k := k) ((hpt _ g.1 g.2).2.2.1) (z - 1).toNat; omega))) rfl cm_X2_ageAndRenew ci_X2_ageAndRenew ml_X7_216 oq_4 rfl (Nat.le_of_ble_eq_true rfl) (Nat.le_of_ble_eq_true rfl) dX7_repairs_60 (fun r60 S60 hp60 => ?_)
                  obtain ⟨hr60, hsm60, hrn60⟩ := hp60
                  rw [eT_1, eT_3] at hr60
                  rw [eT_1] at hrn60
                  have eS60_1 : S60 1 = S 1 := (hsm60 1 (by decide)).trans eT_1
                  have eS60_2 : S60 2 = S 2 := (hsm60 2 (by decide)).trans eT_2
                  have eS60_3 : S60 3 = S 3 := (hsm60 3 (by decide)).trans eT_3
                  have eS60_27 : S60 27 = S 27 := (hsm60 27 (by decide)).trans eT_27
                  have eS60_28 : S60 28 = S 28 := (hsm60 28 (by decide)).trans eT_28
                  have eS60_29 : S60 29 = S 29 := (hsm60 29 (by decide)).trans eT_29
                  have eS60_30 : S60 30 = S 30 := (hsm60 30 (by decide)).trans eT_30
                  have eS60_31 : S60 31 = S 31 := (hsm60 31 (by decide)).trans eT_31
                  have eS60_33 : S60 33 = S 33 := (hsm60 33 (by decide)).trans eT_33
                  have e1 : z + 1 - 1 = (z - 1) + 1 := by omega
                  have hc : r60 = cntS (S 1 0) (S 3) (S 30) (S 33) s (z - 1) := by rw [hr60]; unfold cntS cntR; apply sm_congr; intro i i0 i1; rw [(hv3 i i0 (by omega)).2]
                  have hcb := sm_bd (f := fun j => if S 3 j ≤ T 6 j + 1 then 1 else 0) (a := 1) (n := (S 1 0).toNat) (fun i i0 i1 => by split <;> omega)
                  rw [← hr60] at hcb
                  have hren := ren_y (n := S 1 0) eT_3 hv3 hrn60
                  refine j_istore (L' := [(0, .ref 0), (1, vi s), (2, vi y), (3, vi what), (4, vi al), (5, vi mo), (6, vi my), (7, vi z), (8, vi r60)]) dX7_repairs_63 (Nat.le_of_ble_eq_true rfl) rfl ?_
                  refine j_iload dX7_repairs_65 rfl ?_
                  refine j_iload dX7_repairs_67 rfl ?_
                  refine j_iadd dX7_repairs_69 ?_
                  refine j_istore (L' := [(0, .ref 0), (1, vi s), (2, vi y), (3, vi what), (4, vi (al + r60)), (5, vi mo), (6, vi my), (7, vi z), (8, vi r60)]) dX7_repairs_70 (Nat.le_of_ble_eq_true rfl) rfl ?_
                  refine j_iload dX7_repairs_72 rfl ?_
                  refine j_iload dX7_repairs_74 rfl ?_
                  refine j_icmp_le (tgt := 87) dX7_repairs_76 (by decide) (by omega) (by omega) (fun h76 => ?_) (fun h76 => ?_)
                  · refine j_iinc (L' := [(0, .ref 0), (1, vi s), (2, vi y), (3, vi what), (4, vi (al + r60)), (5, vi mo), (6, vi my), (7, vi (z + 1)), (8, vi r60)]) dX7_repairs_87 (Nat.le_of_ble_eq_true rfl) rfl rfl ?_
                    refine j_goto (tgt := 50) dX7_repairs_90 (by decide) ?_
                    refine j_sub (L' := [(0, .ref 0), (1, vi s), (2, vi y), (3, vi what), (4, vi (al + r60)), (5, vi mo), (6, vi my), (7, vi (z + 1))]) (by simp) ?_
                    exact ih50 (al + r60) mo my (z + 1) S60 (by omega) ⟨by omega, by omega, fun j a b => by have q := hren j a b; rw [show z + 1 - 1 = z by omega, yMk_s hv1, yAg_s hv1]; exact q, by rw [e1, sm_s (by omega), ← hv4, hc], by rw [e1, mxF_s (by omega), ← hv5, ← hc]; split <;> omega, by rw [e1, myF_s (by omega), ← hv5, ← hv6, ← hc]; split <;> omega, hv7.tr hsm60, by omega, by omega, by omega⟩
                  · refine j_iload dX7_repairs_79 rfl ?_
                    refine j_istore (L' := [(0, .ref 0), (1, vi s), (2, vi y), (3, vi what), (4, vi (al + r60)), (5, vi r60), (6, vi my), (7, vi z), (8, vi r60)]) dX7_repairs_81 (Nat.le_of_ble_eq_true rfl) rfl ?_
                    refine j_iload dX7_repairs_83 rfl ?_
                    refine j_istore (L' := [(0, .ref 0), (1, vi s), (2, vi y), (3, vi what), (4, vi (al + r60)), (5, vi r60), (6, vi z), (7, vi z), (8, vi r60)]) dX7_repairs_85 (Nat.le_of_ble_eq_true rfl) rfl ?_
                    refine j_iinc (L' := [(0, .ref 0), (1, vi s), (2, vi y), (3, vi what), (4, vi (al + r60)), (5, vi r60), (6, vi z), (7, vi (z + 1)), (8, vi r60)]) dX7_repairs_87 (Nat.le_of_ble_eq_true rfl) rfl rfl ?_
                    refine j_goto (tgt := 50) dX7_repairs_90 (by decide) ?_
                    refine j_sub (L' := [(0, .ref 0), (1, vi s), (2, vi y), (3, vi what), (4, vi (al + r60)), (5, vi r60), (6, vi z), (7, vi (z + 1))]) (by simp) ?_
                    exact ih50 (al + r60) r60 z (z + 1) S60 (by omega) ⟨by omega, by omega, fun j a b => by have q := hren j a b; rw [show z + 1 - 1 = z by omega, yMk_s hv1, yAg_s hv1]; exact q, by rw [e1, sm_s (by omega), ← hv4, hc], by rw [e1, mxF_s (by omega), ← hv5, ← hc]; split <;> omega, by rw [e1, myF_s (by omega), ← hv5, ← hv6, ← hc]; split <;> omega, hv7.tr hsm60, by omega, by omega, by omega⟩
            exact lp50 _ 0 0 (-9) 1 S34 (Nat.lt_succ_self _) ⟨by omega, by omega, fun j a b => hl34 j a b, rfl, rfl, rfl, hsm34, by omega, by omega, by omega⟩
          · refine j_iconst dX7_repairs_27 ?_
            exact j_iret rfl dX7_repairs_28 (fun h => by cases h) (hP _ _ ⟨by unfold fRep; rw [if_neg (by omega)], Same.rf⟩)
  · rw [he2]
    refine j_if_eq (tgt := 27) dX7_repairs_5 (by decide) (by omega)  (fun _ => ?_) (fun h => absurd h (by decide))
    refine j_iconst dX7_repairs_27 ?_
    exact j_iret rfl dX7_repairs_28 (fun h => by cases h) (hP _ _ ⟨by unfold fRep; rw [if_neg (by omega)], Same.rf⟩)
set_option maxRecDepth 100000 in
set_option maxHeartbeats 4000000 in
theorem t_X7_stays (S : St) (s law : Int) (r_s : InR s) (r_law : InR law) (hX : XI S) : EX mX7_stays [.ref 0, vi s, vi law] S (fun r S' => r = fStays (S 1 0) (S 27 2) (S 3) (S 29) (S 30) (S 2) (S 33) s law ∧ Same [5, 6, 7] S S') := by
  suffices hh : ∀ P : Int → St → Prop, (∀ r S', (r = fStays (S 1 0) (S 27 2) (S 3) (S 29) (S 30) (S 2) (S 33) s law ∧ Same [5, 6, 7] S S') → P r S') → EX mX7_stays [.ref 0, vi s, vi law] S P from hh _ (fun _ _ h => h)
  intro P hP
  refine EX.of (L := [(0, .ref 0), (1, vi s), (2, vi law)]) rfl rfl (Nat.le_of_ble_eq_true rfl) rfl ?_
  obtain ⟨⟨hn0, hn1⟩, hwl, ⟨hp0, hp1⟩, ⟨hs0, hs1⟩, hyr, hpt, hhd⟩ := id hX
  have hwt : ∀ k, 0 ≤ k → k < 6 → 1 ≤ S 2 k ∧ S 2 k ≤ 9 := fun k a b => ⟨(hwl k a b).1, (hwl k a b).2.1⟩
  refine j_aload_n dX7_stays_0 rfl ?_
  refine j_iload_n dX7_stays_1 rfl ?_
  refine j_callVi (As := [vi s]) (rest := []) (t_X7_isShip _ s (by omega)) rfl cm_X7_isShip ci_X7_isShip ml_X7_135 oq_0 rfl (Nat.le_of_ble_eq_true rfl) (Nat.le_of_ble_eq_true rfl) dX7_stays_2 (fun r2 S2 hp2 => ?_)
  obtain ⟨⟨rfl, hc2⟩ | ⟨rfl, hc2⟩, he2⟩ := hp2
  · rw [he2]
    refine j_if_eq (tgt := 15) dX7_stays_5 (by decide) (by omega)  (fun h => absurd h (by decide)) (fun _ => ?_)
    refine j_iload_n dX7_stays_8 rfl ?_
    refine j_callSi (As := [vi law]) (rest := []) (t_X7_isLaw _ law (by omega)) rfl cm_X7_isLaw cs_X7_isLaw ml_X7_148 rfl (Nat.le_of_ble_eq_true rfl) (Nat.le_of_ble_eq_true rfl) dX7_stays_9 (fun r9 S9 hp9 => ?_)
    obtain ⟨⟨rfl, hc9⟩ | ⟨rfl, hc9⟩, he9⟩ := hp9
    · rw [he9]
      refine j_if_ne (tgt := 17) dX7_stays_12 (by decide) (by omega)  (fun _ => ?_) (fun h => absurd h (by decide))
      refine j_aload_n dX7_stays_17 rfl ?_
      refine j_iload_n dX7_stays_18 rfl ?_
      refine j_iload_n dX7_stays_19 rfl ?_
      refine j_callVi (As := [vi s, vi law]) (rest := []) (t_X7_whoseNow _ s law hX (by omega) (by omega) (by omega) (by omega)) rfl cm_X7_whoseNow ci_X7_whoseNow ml_X7_151 oq_0 rfl (Nat.le_of_ble_eq_true rfl) (Nat.le_of_ble_eq_true rfl) dX7_stays_20 (fun r20 S20 hp20 => ?_)
      obtain ⟨hr20, hsm20, hl20⟩ := hp20
      have eS20_1 : S20 1 = S 1 := hsm20 1 (by decide)
      have eS20_2 : S20 2 = S 2 := hsm20 2 (by decide)
      have eS20_3 : S20 3 = S 3 := hsm20 3 (by decide)
      have eS20_27 : S20 27 = S 27 := hsm20 27 (by decide)
      have eS20_28 : S20 28 = S 28 := hsm20 28 (by decide)
      have eS20_29 : S20 29 = S 29 := hsm20 29 (by decide)
      have eS20_30 : S20 30 = S 30 := hsm20 30 (by decide)
      have eS20_31 : S20 31 = S 31 := hsm20 31 (by decide)
      have eS20_32 : S20 32 = S 32 := hsm20 32 (by decide)
      have eS20_33 : S20 33 = S 33 := hsm20 33 (by decide)
      have h00 : whoSY (S 1 0) (S 3) (S 29) (S 30) (S 2) (S 33) s law 0 = r20 := hr20.symm
      have hwb0 := who_bd (n := S 1 0) (mk := (fun k => S 29 (S 33 (s * 6 + k)))) (ag := (fun k => S 30 (S 33 (s * 6 + k)))) (wt := S 2) (law := law) (by omega) (fun k a b => by have g := hhd s k (by omega) (by omega) a b; exact (hpt _ g.1 g.2).2.1)
      rw [show who _ _ _ _ _ = r20 from hr20.symm] at hwb0
      refine j_istore_n (L' := [(0, .ref 0), (1, vi s), (2, vi law), (3, vi r20)]) dX7_stays_23 (Nat.le_of_ble_eq_true rfl) rfl ?_
      refine j_iload_n dX7_stays_24 rfl ?_
      refine j_bipush dX7_stays_25 (by decide) ?_
      refine j_icmp_ne (tgt := 33) dX7_stays_27 (by decide) (by omega) (by omega) (fun h27 => ?_) (fun h27 => ?_)
      · refine j_iconst dX7_stays_33 ?_
        refine j_istore (L' := [(0, .ref 0), (1, vi s), (2, vi law), (3, vi r20), (4, vi 1)]) dX7_stays_34 (Nat.le_of_ble_eq_true rfl) rfl ?_
        have lp36 : ∀ (n : Nat) (z : Int) (T : St), (41 - z).toNat < n → (1 ≤ z ∧ z ≤ 41 ∧ (∀ j, 0 ≤ j → j < S 1 0 → T 5 j = yMk (S 3) (fun k => S 29 (S 33 (s * 6 + k))) (fun k => S 30 (S 33 (s * 6 + k))) (z - 1).toNat j ∧ T 6 j = yAg (S 3) (fun k => S 30 (S 33 (s * 6 + k))) (z - 1).toNat j) ∧ Same [5, 6, 7] S T ∧ ∀ y : Nat, 1 ≤ y → (y : Int) < z → whoSY (S 1 0) (S 3) (S 29) (S 30) (S 2) (S 33) s law y = r20) → JJ mX7_stays (RX mX7_stays P) 36 [(0, .ref 0), (1, vi s), (2, vi law), (3, vi r20), (4, vi z)] [] T := by
          intro n
          induction n with
          | zero => intro z T hm; exact absurd hm (Nat.not_lt_zero _)
          | succ n ih36 =>
            intro z T hm36 hv36
            obtain ⟨hv1, hv2, hv3, hv7, hv8⟩ := hv36
            have eT_1 : T 1 = S 1 := hv7 1 (by decide)
            have eT_2 : T 2 = S 2 := hv7 2 (by decide)
            have eT_3 : T 3 = S 3 := hv7 3 (by decide)
            have eT_27 : T 27 = S 27 := hv7 27 (by decide)
            have eT_28 : T 28 = S 28 := hv7 28 (by decide)
            have eT_29 : T 29 = S 29 := hv7 29 (by decide)
            have eT_30 : T 30 = S 30 := hv7 30 (by decide)
            have eT_31 : T 31 = S 31 := hv7 31 (by decide)
            have eT_33 : T 33 = S 33 := hv7 33 (by decide)
            refine j_iload dX7_stays_36 rfl ?_
            refine j_bipush dX7_stays_38 (by decide) ?_
            refine j_icmp_gt (tgt := 72) dX7_stays_40 (by decide) (by omega) (by omega) (fun h40 => ?_) (fun h40 => ?_)
            · refine j_bipush dX7_stays_72 (by decide) ?_
              exact j_iret rfl dX7_stays_74 (fun h => by cases h) (hP _ _ ⟨by unfold fStays; rw [if_pos (by omega)]; exact (sty_eq (by rw [h00]; exact h27) (Or.inr ⟨rfl, fun y a b => by rw [h00]; exact hv8 y a (by omega)⟩)).symm, hv7⟩)
            · refine j_aload_n dX7_stays_43 rfl ?_
              refine j_getR dX7_stays_44 fg_X7_28 fq_0_2 ?_
              refine j_callVi (As := []) (rest := []) (t_X2_ageAndRenew _ (by rw [eT_1]; exact hn0) (by rw [eT_1]; exact hn1) (by rw [eT_1]; exact (fun k a b => by rw [(hv3 k a (by omega)).2]; have g := hhd s k (by omega) (by omega) a (by omega); have := yAg_bd (lf := S 3) (ag := (fun k => S 30 (S 33 (s * 6 + k)))) (k := k) ((hpt _ g.1 g.2).2.2.1) (z - 1).toNat; omega))) rfl cm_X2_ageAndRenew ci_X2_ageAndRenew ml_X7_216 oq_4 rfl (Nat.le_of_ble_eq_true rfl) (Nat.le_of_ble_eq_true rfl) dX7_stays_47 (fun r47 S47 hp47 => ?_)
              obtain ⟨hr47, hsm47, hrn47⟩ := hp47
              rw [eT_1, eT_3] at hr47
              rw [eT_1] at hrn47
              have eS47_1 : S47 1 = S 1 := (hsm47 1 (by decide)).trans eT_1
              have eS47_2 : S47 2 = S 2 := (hsm47 2 (by decide)).trans eT_2
              have eS47_3 : S47 3 = S 3 := (hsm47 3 (by decide)).trans eT_3
              have eS47_27 : S47 27 = S 27 := (hsm47 27 (by decide)).trans eT_27
              have eS47_28 : S47 28 = S 28 := (hsm47 28 (by decide)).trans eT_28
              have eS47_29 : S47 29 = S 29 := (hsm47 29 (by decide)).trans eT_29
              have eS47_30 : S47 30 = S 30 := (hsm47 30 (by decide)).trans eT_30
              have eS47_31 : S47 31 = S 31 := (hsm47 31 (by decide)).trans eT_31
              have eS47_33 : S47 33 = S 33 := (hsm47 33 (by decide)).trans eT_33
              have hren := ren_y (n := S 1 0) eT_3 hv3 hrn47
              have hy : ∀ j, 0 ≤ j → j < S 1 0 → S47 5 j = yMk (S 3) (fun k => S 29 (S 33 (s * 6 + k))) (fun k => S 30 (S 33 (s * 6 + k))) z.toNat j ∧ S47 6 j = yAg (S 3) (fun k => S 30 (S 33 (s * 6 + k))) z.toNat j := fun j a b => by rw [yMk_s hv1, yAg_s hv1]; exact hren j a b
              refine j_pop dX7_stays_50 rfl ?_
              refine j_aload_n dX7_stays_51 rfl ?_
              refine j_getR dX7_stays_52 fg_X7_28 fq_0_2 ?_
              refine j_iload_n dX7_stays_55 rfl ?_
              refine j_callVi (As := [vi law]) (rest := []) (t_X2_whose _ law (by rw [eS47_1]; exact hn0) (by rw [eS47_1]; exact hn1) (by rw [eS47_2]; exact hwt) (by rw [eS47_1]; intro k a b; rw [(hy k a b).1]; have g := hhd s k (by omega) (by omega) a b; exact yMk_mk (lf := S 3) (mk := (fun k => S 29 (S 33 (s * 6 + k)))) (ag := (fun k => S 30 (S 33 (s * 6 + k)))) ((hpt _ g.1 g.2).2.1) _) (by omega) (by omega)) rfl cm_X2_whose ci_X2_whose ml_X7_219 oq_4 rfl (Nat.le_of_ble_eq_true rfl) (Nat.le_of_ble_eq_true rfl) dX7_stays_56 (fun r56 S56 hp56 => ?_)
              obtain ⟨hr56, hsm56⟩ := hp56
              have hw56 : r56 = whoSY (S 1 0) (S 3) (S 29) (S 30) (S 2) (S 33) s law z.toNat := by rw [hr56, eS47_1, eS47_2]; exact who_congr (by omega) (fun k a b => ⟨(hy k a b).1, (hy k a b).2, rfl⟩)
              have hwb56 := who_bd (n := S 1 0) (mk := yMk (S 3) (fun k => S 29 (S 33 (s * 6 + k))) (fun k => S 30 (S 33 (s * 6 + k))) z.toNat) (ag := yAg (S 3) (fun k => S 30 (S 33 (s * 6 + k))) z.toNat) (wt := S 2) (law := law) (by omega) (fun k a b => by have g := hhd s k (by omega) (by omega) a b; exact yMk_mk (lf := S 3) (mk := (fun k => S 29 (S 33 (s * 6 + k)))) (ag := (fun k => S 30 (S 33 (s * 6 + k)))) ((hpt _ g.1 g.2).2.1) _)
              rw [show who _ _ _ _ _ = r56 from hw56.symm] at hwb56
              have eS56_1 : S56 1 = S 1 := (hsm56 1 (by decide)).trans eS47_1
              have eS56_2 : S56 2 = S 2 := (hsm56 2 (by decide)).trans eS47_2
              have eS56_3 : S56 3 = S 3 := (hsm56 3 (by decide)).trans eS47_3
              have eS56_27 : S56 27 = S 27 := (hsm56 27 (by decide)).trans eS47_27
              have eS56_28 : S56 28 = S 28 := (hsm56 28 (by decide)).trans eS47_28
              have eS56_29 : S56 29 = S 29 := (hsm56 29 (by decide)).trans eS47_29
              have eS56_30 : S56 30 = S 30 := (hsm56 30 (by decide)).trans eS47_30
              have eS56_31 : S56 31 = S 31 := (hsm56 31 (by decide)).trans eS47_31
              have eS56_33 : S56 33 = S 33 := (hsm56 33 (by decide)).trans eS47_33
              have hy56 : ∀ j, 0 ≤ j → j < S 1 0 → S56 5 j = yMk (S 3) (fun k => S 29 (S 33 (s * 6 + k))) (fun k => S 30 (S 33 (s * 6 + k))) z.toNat j ∧ S56 6 j = yAg (S 3) (fun k => S 30 (S 33 (s * 6 + k))) z.toNat j := fun j a b => by rw [hsm56 5 (by decide), hsm56 6 (by decide)]; exact hy j a b
              refine j_iload_n dX7_stays_59 rfl ?_
              refine j_icmp_eq (tgt := 66) dX7_stays_60 (by decide) (by omega) (by omega) (fun h60 => ?_) (fun h60 => ?_)
              · refine j_iinc (L' := [(0, .ref 0), (1, vi s), (2, vi law), (3, vi r20), (4, vi (z + 1))]) dX7_stays_66 (Nat.le_of_ble_eq_true rfl) rfl rfl ?_
                refine j_goto (tgt := 36) dX7_stays_69 (by decide) ?_
                exact ih36 (z + 1) S56 (by omega) ⟨by omega, by omega, fun j a b => by rw [show z + 1 - 1 = z by omega]; exact hy56 j a b, hv7.tr ((hsm47.mono (by decide)).tr (hsm56.mono (by decide))), fun y a b => if e : (y : Int) = z then by rw [show y = z.toNat by omega, ← hw56]; exact h60 else hv8 y a (by omega)⟩
              · refine j_iload dX7_stays_63 rfl ?_
                exact j_iret rfl dX7_stays_65 (fun h => by cases h) (hP _ _ ⟨by unfold fStays; rw [if_pos (by omega)]; refine (sty_eq (by rw [h00]; exact h27) (Or.inl ⟨z.toNat, by omega, by omega, by omega, ?_, fun y a b => ?_⟩)).symm <;> rw [h00] <;> first | exact hv8 y a (by omega) | (rw [← hw56]; exact h60), hv7.tr ((hsm47.mono (by decide)).tr (hsm56.mono (by decide)))⟩)
        exact lp36 _ 1 S20 (Nat.lt_succ_self _) ⟨by omega, by omega, fun j a b => hl20 j a b, hsm20, fun y a b => by omega⟩
      · refine j_bipush dX7_stays_30 (by decide) ?_
        exact j_iret rfl dX7_stays_32 (fun h => by cases h) (hP _ _ ⟨by unfold fStays; rw [if_pos (by omega)]; exact (sty_n (h00.trans h27)).symm, hsm20⟩)
    · rw [he9]
      refine j_if_ne (tgt := 17) dX7_stays_12 (by decide) (by omega)  (fun h => absurd h (by decide)) (fun _ => ?_)
      refine j_iconst dX7_stays_15 ?_
      exact j_iret rfl dX7_stays_16 (fun h => by cases h) (hP _ _ ⟨by unfold fStays; rw [if_neg (by omega)], Same.rf⟩)
  · rw [he2]
    refine j_if_eq (tgt := 15) dX7_stays_5 (by decide) (by omega)  (fun _ => ?_) (fun h => absurd h (by decide))
    refine j_iconst dX7_stays_15 ?_
    exact j_iret rfl dX7_stays_16 (fun h => by cases h) (hP _ _ ⟨by unfold fStays; rw [if_neg (by omega)], Same.rf⟩)
