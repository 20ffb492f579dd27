set_option maxRecDepth 100000 in
set_option maxHeartbeats 4000000 in
theorem t_X6_readPlaces (S d : St) (hC : RC S d) (hde : d 0 1 = -1) (h13 : 0 ≤ S 17 13 ∧ S 17 13 ≤ 200)  : EX mX6_readPlaces [.ref 17] S (fun r S' => RC S' (itN (S 16) (S 17 6) d (S 17 13)) ∧ Same [17, 18, 19, 20, 21, 22, 23, 24] S S' ∧ S' 17 6 = S 17 6 ∧ S' 17 9 = S 17 9) := by
  suffices hh : ∀ P : Int → St → Prop, (∀ r S', (RC S' (itN (S 16) (S 17 6) d (S 17 13)) ∧ Same [17, 18, 19, 20, 21, 22, 23, 24] S S' ∧ S' 17 6 = S 17 6 ∧ S' 17 9 = S 17 9) → P r S') → EX mX6_readPlaces [.ref 17] S P from hh _ (fun _ _ h => h)
  intro P hP
  refine EX.of (L := [(0, .ref 17)]) rfl rfl (Nat.le_of_ble_eq_true rfl) rfl ?_
  obtain ⟨⟨hR, hpl, hsh, hsp, hfb⟩, hfd, hce⟩ := id hC
  obtain ⟨e11, e9, e18, e7, e8, eW, eO, eY⟩ := hce hde
  refine j_aload_n dX6_readPlaces_0 rfl ?_
  refine j_getI (x := S 17 9) dX6_readPlaces_1 fg_X6_41 fq_17_9 rfl (fun hi1 => ?_)
  refine j_if_le (tgt := 11) dX6_readPlaces_4 (by decide) (by omega)  (fun h4 => ?_) (fun h4 => ?_)
  · refine j_aload_n dX6_readPlaces_11 rfl ?_
    refine j_getR dX6_readPlaces_12 fg_X6_12 fq_17_1 ?_
    refine j_aload_n dX6_readPlaces_15 rfl ?_
    refine j_iconst dX6_readPlaces_16 ?_
    refine j_bipush dX6_readPlaces_17 (by decide) ?_
    refine j_callVi (As := [vi 2, vi 6]) (rest := [.ref 18]) (t_X6_readNumber _ d 2 6 hC (by omega) (by omega)) rfl cm_X6_readNumber ci_X6_readNumber ml_X6_92 oq_17 rfl (Nat.le_of_ble_eq_true rfl) (Nat.le_of_ble_eq_true rfl) dX6_readPlaces_19 (fun r19 S19 hp19 => ?_)
    obtain ⟨hr19, hC19, hs19, hi19, hT19⟩ := hp19
    have hb19 := numV_bd (x := S 16) (t := S 17 6) (lo := 2) (hi := 6) (by omega) d
    rw [← hr19] at hb19
    refine j_putI (i := 0) dX6_readPlaces_22 fg_X6_96 ft_5_0 fq_18_0 rfl (by omega) ?_
    exact j_vret rfl dX6_readPlaces_25 (fun h => by cases h) (hP _ _ ⟨by unfold itN; simp only []; rw [if_neg (by omega), ← hr19]; exact hC19.put3 hb19.1 hb19.2, same_up (hs19.mono (by decide)) (by decide), by rw [up_c (by decide), hi19 6 (by decide)], by rw [up_c (by decide), hi19 9 (by decide)]⟩)
  · refine j_aload_n dX6_readPlaces_7 rfl ?_
    refine j_callVv (As := []) (rest := []) (t_X6_refuse _ d hC (by omega)) rfl cm_X6_refuse ci_X6_refuse ml_X6_84 oq_17 rfl (Nat.le_of_ble_eq_true rfl) (Nat.le_of_ble_eq_true rfl) dX6_readPlaces_8 (fun r8 S8 hp8 => ?_)
    obtain ⟨hC8, hs8, hi8⟩ := hp8
    refine j_aload_n dX6_readPlaces_11 rfl ?_
    refine j_getR dX6_readPlaces_12 fg_X6_12 fq_17_1 ?_
    refine j_aload_n dX6_readPlaces_15 rfl ?_
    refine j_iconst dX6_readPlaces_16 ?_
    refine j_bipush dX6_readPlaces_17 (by decide) ?_
    refine j_callVi (As := [vi 2, vi 6]) (rest := [.ref 18]) (t_X6_readNumber _ (refD d (S 17 13)) 2 6 hC8 (by omega) (by omega)) rfl cm_X6_readNumber ci_X6_readNumber ml_X6_92 oq_17 rfl (Nat.le_of_ble_eq_true rfl) (Nat.le_of_ble_eq_true rfl) dX6_readPlaces_19 (fun r19 S19 hp19 => ?_)
    obtain ⟨hr19, hC19, hs19, hi19, hT19⟩ := hp19
    rw [hs8 16 (by decide), hi8 6 (by decide)] at hr19 hC19
    have hb19 := numV_bd (x := S 16) (t := S 17 6) (lo := 2) (hi := 6) (by omega) (refD d (S 17 13))
    rw [← hr19] at hb19
    refine j_putI (i := 0) dX6_readPlaces_22 fg_X6_96 ft_5_0 fq_18_0 rfl (by omega) ?_
    exact j_vret rfl dX6_readPlaces_25 (fun h => by cases h) (hP _ _ ⟨by unfold itN; simp only []; rw [if_pos (by omega), ← hr19]; exact hC19.put3 hb19.1 hb19.2, same_up ((hs8.mono (by decide)).tr (hs19.mono (by decide))) (by decide), by rw [up_c (by decide), hi19 6 (by decide), hi8 6 (by decide)], by rw [up_c (by decide), hi19 9 (by decide), hi8 9 (by decide)]⟩)
set_option maxRecDepth 100000 in
set_option maxHeartbeats 4000000 in
theorem t_X6_readWeight (S d : St) (hC : RC S d) (hde : d 0 1 = -1) (h13 : 0 ≤ S 17 13 ∧ S 17 13 ≤ 200)  : EX mX6_readWeight [.ref 17] S (fun r S' => RC S' (itW (S 16) (S 17 6) 9 1 d) ∧ Same [17, 18, 19, 20, 21, 22, 23, 24] S S' ∧ S' 17 6 = S 17 6 ∧ S' 17 9 = S 17 9) := by
  suffices hh : ∀ P : Int → St → Prop, (∀ r S', (RC S' (itW (S 16) (S 17 6) 9 1 d) ∧ Same [17, 18, 19, 20, 21, 22, 23, 24] S S' ∧ S' 17 6 = S 17 6 ∧ S' 17 9 = S 17 9) → P r S') → EX mX6_readWeight [.ref 17] S P from hh _ (fun _ _ h => h)
  intro P hP
  refine EX.of (L := [(0, .ref 17)]) rfl rfl (Nat.le_of_ble_eq_true rfl) rfl ?_
  obtain ⟨⟨hR, hpl, hsh, hsp, hfb⟩, hfd, hce⟩ := id hC
  obtain ⟨e11, e9, e18, e7, e8, eW, eO, eY⟩ := hce hde
  refine j_aload_n dX6_readWeight_0 rfl ?_
  refine j_iconst dX6_readWeight_1 ?_
  refine j_aload_n dX6_readWeight_2 rfl ?_
  refine j_getR dX6_readWeight_3 fg_X6_12 fq_17_1 ?_
  refine j_getI (x := S 18 0) dX6_readWeight_6 fg_X6_96 fq_18_0 rfl (fun hi6 => ?_)
  refine j_iconst dX6_readWeight_9 ?_
  refine j_isub dX6_readWeight_10 ?_
  refine j_callVi (As := [vi 0, vi ((S 18 0) - 1)]) (rest := []) (t_X6_readNumber _ d 0 (S 18 0 - 1) hC (by omega) (by omega)) rfl cm_X6_readNumber ci_X6_readNumber ml_X6_92 oq_17 rfl (Nat.le_of_ble_eq_true rfl) (Nat.le_of_ble_eq_true rfl) dX6_readWeight_11 (fun r11 S11 hp11 => ?_)
  obtain ⟨hr11, hC11, hs11, hi11, hT11⟩ := hp11
  rw [e18] at hr11 hC11
  have hb11 := numV_bd (x := S 16) (t := S 17 6) (lo := 0) (hi := d 0 3 - 1) (by omega) d
  rw [← hr11] at hb11
  refine j_istore_n (L' := [(0, .ref 17), (1, vi r11)]) dX6_readWeight_14 (Nat.le_of_ble_eq_true rfl) rfl ?_
  refine j_aload_n dX6_readWeight_15 rfl ?_
  refine j_getR dX6_readWeight_16 fg_X6_12 fq_17_1 ?_
  refine j_getR dX6_readWeight_19 fg_X6_99 fq_18_1 ?_
  refine j_iload_n dX6_readWeight_22 rfl ?_
  refine j_aload_n dX6_readWeight_23 rfl ?_
  refine j_iconst dX6_readWeight_24 ?_
  refine j_bipush dX6_readWeight_25 (by decide) ?_
  refine j_callVi (As := [vi 1, vi 9]) (rest := [vi r11, .ref 19]) (t_X6_readNumber _ (numD (S 16) (S 17 6) 0 (d 0 3 - 1) d) 1 9 hC11 (by omega) (by omega)) rfl cm_X6_readNumber ci_X6_readNumber ml_X6_92 oq_17 rfl (Nat.le_of_ble_eq_true rfl) (Nat.le_of_ble_eq_true rfl) dX6_readWeight_27 (fun r27 S27 hp27 => ?_)
  obtain ⟨hr27, hC27, hs27, hi27, hT27⟩ := hp27
  rw [hs11 16 (by decide), hi11 6 (by decide)] at hr27 hC27
  have hb27 := numV_bd (x := S 16) (t := S 17 6) (lo := 1) (hi := 9) (by omega) (numD (S 16) (S 17 6) 0 (d 0 3 - 1) d)
  rw [← hr27] at hb27
  refine j_iast dX6_readWeight_30 aq_19 (by omega) (by omega) (by omega) ?_
  exact j_vret rfl dX6_readWeight_31 (fun h => by cases h) (hP _ _ ⟨by unfold itW; rw [← hr11, ← hr27]; exact hC27.putW, same_up ((hs11.mono (by decide)).tr (hs27.mono (by decide))) (by decide), by rw [up_c (by decide), hi27 6 (by decide), hi11 6 (by decide)], by rw [up_c (by decide), hi27 9 (by decide), hi11 9 (by decide)]⟩)
set_option maxRecDepth 100000 in
set_option maxHeartbeats 4000000 in
theorem t_X6_readLife (S d : St) (hC : RC S d) (hde : d 0 1 = -1) (h13 : 0 ≤ S 17 13 ∧ S 17 13 ≤ 200)  : EX mX6_readLife [.ref 17] S (fun r S' => RC S' (itW (S 16) (S 17 6) 30 2 d) ∧ Same [17, 18, 19, 20, 21, 22, 23, 24] S S' ∧ S' 17 6 = S 17 6 ∧ S' 17 9 = S 17 9) := by
  suffices hh : ∀ P : Int → St → Prop, (∀ r S', (RC S' (itW (S 16) (S 17 6) 30 2 d) ∧ Same [17, 18, 19, 20, 21, 22, 23, 24] S S' ∧ S' 17 6 = S 17 6 ∧ S' 17 9 = S 17 9) → P r S') → EX mX6_readLife [.ref 17] S P from hh _ (fun _ _ h => h)
  intro P hP
  refine EX.of (L := [(0, .ref 17)]) rfl rfl (Nat.le_of_ble_eq_true rfl) rfl ?_
  obtain ⟨⟨hR, hpl, hsh, hsp, hfb⟩, hfd, hce⟩ := id hC
  obtain ⟨e11, e9, e18, e7, e8, eW, eO, eY⟩ := hce hde
  refine j_aload_n dX6_readLife_0 rfl ?_
  refine j_iconst dX6_readLife_1 ?_
  refine j_aload_n dX6_readLife_2 rfl ?_
  refine j_getR dX6_readLife_3 fg_X6_12 fq_17_1 ?_
  refine j_getI (x := S 18 0) dX6_readLife_6 fg_X6_96 fq_18_0 rfl (fun hi6 => ?_)
  refine j_iconst dX6_readLife_9 ?_
  refine j_isub dX6_readLife_10 ?_
  refine j_callVi (As := [vi 0, vi ((S 18 0) - 1)]) (rest := []) (t_X6_readNumber _ d 0 (S 18 0 - 1) hC (by omega) (by omega)) rfl cm_X6_readNumber ci_X6_readNumber ml_X6_92 oq_17 rfl (Nat.le_of_ble_eq_true rfl) (Nat.le_of_ble_eq_true rfl) dX6_readLife_11 (fun r11 S11 hp11 => ?_)
  obtain ⟨hr11, hC11, hs11, hi11, hT11⟩ := hp11
  rw [e18] at hr11 hC11
  have hb11 := numV_bd (x := S 16) (t := S 17 6) (lo := 0) (hi := d 0 3 - 1) (by omega) d
  rw [← hr11] at hb11
  refine j_istore_n (L' := [(0, .ref 17), (1, vi r11)]) dX6_readLife_14 (Nat.le_of_ble_eq_true rfl) rfl ?_
  refine j_aload_n dX6_readLife_15 rfl ?_
  refine j_getR dX6_readLife_16 fg_X6_12 fq_17_1 ?_
  refine j_getR dX6_readLife_19 fg_X6_102 fq_18_2 ?_
  refine j_iload_n dX6_readLife_22 rfl ?_
  refine j_aload_n dX6_readLife_23 rfl ?_
  refine j_iconst dX6_readLife_24 ?_
  refine j_bipush dX6_readLife_25 (by decide) ?_
  refine j_callVi (As := [vi 1, vi 30]) (rest := [vi r11, .ref 20]) (t_X6_readNumber _ (numD (S 16) (S 17 6) 0 (d 0 3 - 1) d) 1 30 hC11 (by omega) (by omega)) rfl cm_X6_readNumber ci_X6_readNumber ml_X6_92 oq_17 rfl (Nat.le_of_ble_eq_true rfl) (Nat.le_of_ble_eq_true rfl) dX6_readLife_27 (fun r27 S27 hp27 => ?_)
  obtain ⟨hr27, hC27, hs27, hi27, hT27⟩ := hp27
  rw [hs11 16 (by decide), hi11 6 (by decide)] at hr27 hC27
  have hb27 := numV_bd (x := S 16) (t := S 17 6) (lo := 1) (hi := 30) (by omega) (numD (S 16) (S 17 6) 0 (d 0 3 - 1) d)
  rw [← hr27] at hb27
  refine j_iast dX6_readLife_30 aq_20 (by omega) (by omega) (by omega) ?_
  exact j_vret rfl dX6_readLife_31 (fun h => by cases h) (hP _ _ ⟨by unfold itW; rw [← hr11, ← hr27]; exact hC27.putL, same_up ((hs11.mono (by decide)).tr (hs27.mono (by decide))) (by decide), by rw [up_c (by decide), hi27 6 (by decide), hi11 6 (by decide)], by rw [up_c (by decide), hi27 9 (by decide), hi11 9 (by decide)]⟩)
set_option maxRecDepth 100000 in
set_option maxHeartbeats 4000000 in
theorem t_X6_readShip (S d : St) (hC : RC S d) (hde : d 0 1 = -1) (h13 : 0 ≤ S 17 13 ∧ S 17 13 ≤ 200)  : EX mX6_readShip [.ref 17] S (fun r S' => RC S' (itS (S 16) (S 17 6) d (S 17 13)) ∧ Same [17, 18, 19, 20, 21, 22, 23, 24] S S' ∧ S' 17 6 = S 17 6 ∧ S' 17 9 = S 17 9) := by
  suffices hh : ∀ P : Int → St → Prop, (∀ r S', (RC S' (itS (S 16) (S 17 6) d (S 17 13)) ∧ Same [17, 18, 19, 20, 21, 22, 23, 24] S S' ∧ S' 17 6 = S 17 6 ∧ S' 17 9 = S 17 9) → P r S') → EX mX6_readShip [.ref 17] S P from hh _ (fun _ _ h => h)
  intro P hP
  refine EX.of (L := [(0, .ref 17)]) rfl rfl (Nat.le_of_ble_eq_true rfl) rfl ?_
  obtain ⟨⟨hR, hpl, hsh, hsp, hfb⟩, hfd, hce⟩ := id hC
  obtain ⟨e11, e9, e18, e7, e8, eW, eO, eY⟩ := hce hde
  refine j_aload_n dX6_readShip_0 rfl ?_
  refine j_getI (x := S 17 7) dX6_readShip_1 fg_X6_35 fq_17_7 rfl (fun hi1 => ?_)
  refine j_iconst dX6_readShip_4 ?_
  refine j_icmp_lt (tgt := 13) dX6_readShip_5 (by decide) (by omega) (by omega) (fun h5 => ?_) (fun h5 => ?_)
  · refine j_aload_n dX6_readShip_13 rfl ?_
    refine j_getR dX6_readShip_14 fg_X6_18 fq_17_2 ?_
    refine j_aload_n dX6_readShip_17 rfl ?_
    refine j_getI (x := S 17 7) dX6_readShip_18 fg_X6_35 fq_17_7 rfl (fun hi18 => ?_)
    refine j_aload_n dX6_readShip_21 rfl ?_
    refine j_iconst dX6_readShip_22 ?_
    refine j_bipush dX6_readShip_23 (by decide) ?_
    refine j_callVi (As := [vi 0, vi 9]) (rest := [vi (S 17 7), .ref 21]) (t_X6_readNumber _ d 0 9 hC (by omega) (by omega)) rfl cm_X6_readNumber ci_X6_readNumber ml_X6_92 oq_17 rfl (Nat.le_of_ble_eq_true rfl) (Nat.le_of_ble_eq_true rfl) dX6_readShip_25 (fun r25 S25 hp25 => ?_)
    obtain ⟨hr25, hC25, hs25, hi25, hT25⟩ := hp25
    have hb25 := numV_bd (x := S 16) (t := S 17 6) (lo := 0) (hi := 9) (by omega) d
    rw [← hr25] at hb25
    have h725 : S25 17 7 = S 17 7 := hi25 7 (by decide)
    refine j_iast dX6_readShip_28 aq_21 (by omega) (by omega) (by omega) ?_
    refine j_aload_n dX6_readShip_29 rfl ?_
    refine j_dup dX6_readShip_30 rfl ?_
    refine j_getI (x := S 17 7) dX6_readShip_31 fg_X6_35 fq_17_7 ((up_c (by decide)).trans h725) (fun hi31 => ?_)
    refine j_iconst dX6_readShip_34 ?_
    refine j_iadd dX6_readShip_35 ?_
    refine j_putI (i := 7) dX6_readShip_36 fg_X6_35 ft_6_7 fq_17_7 rfl (by omega) ?_
    exact j_vret rfl dX6_readShip_39 (fun h => by cases h) (hP _ _ ⟨by unfold itS; rw [if_neg (by omega), ← hr25, ← e7]; exact hC25.putS h725 (by omega) (fun _ => by rw [(numD_k d).1 4 (by decide) (by decide)]; exact e7.symm), same_up (same_up (hs25.mono (by decide)) (by decide)) (by decide), by rw [up_i (by decide), up_c (by decide), hi25 6 (by decide)], by rw [up_i (by decide), up_c (by decide), hi25 9 (by decide)]⟩)
  · refine j_aload_n dX6_readShip_8 rfl ?_
    refine j_callVv (As := []) (rest := []) (t_X6_refuse _ d hC (by omega)) rfl cm_X6_refuse ci_X6_refuse ml_X6_84 oq_17 rfl (Nat.le_of_ble_eq_true rfl) (Nat.le_of_ble_eq_true rfl) dX6_readShip_9 (fun r9 S9 hp9 => ?_)
    obtain ⟨hC9, hs9, hi9⟩ := hp9
    exact j_vret rfl dX6_readShip_12 (fun h => by cases h) (hP _ _ ⟨by unfold itS; rw [if_pos (by omega)]; exact hC9, hs9.mono (by decide), hi9 6 (by decide), hi9 9 (by decide)⟩)
set_option maxRecDepth 100000 in
set_option maxHeartbeats 4000000 in
theorem t_X6_readEnd (S d : St) (hC : RC S d) (hit : 0 ≤ S 17 9 ∧ S 17 9 ≤ 1000) : EX mX6_readEnd [.ref 17] S (fun r S' => RC S' (itE (S 16) (S 17 6) d) ∧ Same [17, 18, 19, 20, 21, 22, 23, 24] S S' ∧ S' 17 6 = S 17 6 ∧ S 17 9 ≤ S' 17 9 ∧ S' 17 9 ≤ S 17 9 + 1) := by
  suffices hh : ∀ P : Int → St → Prop, (∀ r S', (RC S' (itE (S 16) (S 17 6) d) ∧ Same [17, 18, 19, 20, 21, 22, 23, 24] S S' ∧ S' 17 6 = S 17 6 ∧ S 17 9 ≤ S' 17 9 ∧ S' 17 9 ≤ S 17 9 + 1) → P r S') → EX mX6_readEnd [.ref 17] S P from hh _ (fun _ _ h => h)
  intro P hP
  refine EX.of (L := [(0, .ref 17)]) rfl rfl (Nat.le_of_ble_eq_true rfl) rfl ?_
  obtain ⟨⟨hR, hpl, hsh, hsp, hfb⟩, hfd, hce⟩ := id hC
  refine j_aload_n dX6_readEnd_0 rfl ?_
  refine j_getI (x := S 17 10) dX6_readEnd_1 fg_X6_44 fq_17_10 rfl (fun hi1 => ?_)
  refine j_iconst dX6_readEnd_4 ?_
  refine j_icmp_eq (tgt := 9) dX6_readEnd_5 (by decide) (by omega) (by omega) (fun h5 => ?_) (fun h5 => ?_)
  · refine j_aload_n dX6_readEnd_9 rfl ?_
    refine j_callVv (As := []) (rest := []) (t_X6_step _ hR) rfl cm_X6_step ci_X6_step ml_X6_66 oq_17 rfl (Nat.le_of_ble_eq_true rfl) (Nat.le_of_ble_eq_true rfl) dX6_readEnd_10 (fun r10 S10 hp10 => ?_)
    obtain ⟨hk10, hs10, he10, ht10, hv10⟩ := hp10
    have hde : d 0 1 = -1 := by omega
    obtain ⟨e11, e9, e18, e7, e8, eW, eO, eY⟩ := hce hde
    have hr10 : ∀ i, i < 11 → S10 17 i = S 17 i := hk10.2
    have hkb := kTe_bd (x := S 16) (t := S 17 6) (p := S 17 11) hR.2.1.2
    have hsb := kTs_bd (x := S 16) (t := S 17 6) (p := S 17 11) hR.2.1.2
    have htl := hR.1
    have hr11 := hR.2.1
    have hCm : RC S10 (up d 0 0 (kTe (S 16) (S 17 6) (d 0 0))) := hC.move hk10.1 (fun i h => hr10 i (by omega)) (by rw [he10]; omega) (by rw [hr10 10 (by decide)]; exact hfb) (by rw [hr10 10 (by decide), up_i (by decide)]; exact hfd) (fun _ => ⟨by rw [up_s, ← e11]; exact he10, hde⟩) ⟨fun i a b => up_i a, fun c hc => up_row hc⟩
    have h9 : S10 17 9 = S 17 9 := hr10 9 (by decide)
    refine j_aload_n dX6_readEnd_13 rfl ?_
    refine j_getI (x := kTk (S 16) (S 17 6) (S 17 11)) dX6_readEnd_14 fg_X6_50 fq_17_12 ht10 (fun hi14 => ?_)
    refine j_bipush dX6_readEnd_17 (by decide) ?_
    refine j_icmp_eq (tgt := 26) dX6_readEnd_19 (by decide) (by rw [← ht10]; omega) (by omega) (fun h19 => ?_) (fun h19 => ?_)
    · refine j_aload_n dX6_readEnd_26 rfl ?_
      refine j_dup dX6_readEnd_27 rfl ?_
      refine j_getI (x := S 17 9) dX6_readEnd_28 fg_X6_41 fq_17_9 h9 (fun hi28 => ?_)
      refine j_iconst dX6_readEnd_31 ?_
      refine j_iadd dX6_readEnd_32 ?_
      refine j_putI (i := 9) dX6_readEnd_33 fg_X6_41 ft_6_9 fq_17_9 rfl (by omega) ?_
      exact j_vret rfl dX6_readEnd_36 (fun h => by cases h) (hP _ _ ⟨by unfold itE; rw [if_pos hde, if_pos (by rw [← e11]; exact h19), ← e9]; exact hCm.putI (fun _ => e9.symm), same_up (hk10.1.mono (by decide)) (by decide), by rw [up_i (by decide), hr10 6 (by decide)], by rw [up_s]; omega, by rw [up_s]; omega⟩)
    · refine j_aload_n dX6_readEnd_22 rfl ?_
      refine j_callVv (As := []) (rest := []) (t_X6_refuse _ (up d 0 0 (kTe (S 16) (S 17 6) (d 0 0))) hCm (by rw [hs10]; omega)) rfl cm_X6_refuse ci_X6_refuse ml_X6_84 oq_17 rfl (Nat.le_of_ble_eq_true rfl) (Nat.le_of_ble_eq_true rfl) dX6_readEnd_23 (fun r23 S23 hp23 => ?_)
      obtain ⟨hC23, hs23, hi23⟩ := hp23
      have h923 : S23 17 9 = S 17 9 := (hi23 9 (by decide)).trans h9
      refine j_aload_n dX6_readEnd_26 rfl ?_
      refine j_dup dX6_readEnd_27 rfl ?_
      refine j_getI (x := S 17 9) dX6_readEnd_28 fg_X6_41 fq_17_9 h923 (fun hi28 => ?_)
      refine j_iconst dX6_readEnd_31 ?_
      refine j_iadd dX6_readEnd_32 ?_
      refine j_putI (i := 9) dX6_readEnd_33 fg_X6_41 ft_6_9 fq_17_9 rfl (by omega) ?_
      exact j_vret rfl dX6_readEnd_36 (fun h => by cases h) (hP _ _ ⟨by unfold itE; rw [if_pos hde, if_neg (by rw [← e11]; exact h19)]; refine RC.flt (d := up (refD (up d 0 0 (kTe (S 16) (S 17 6) (d 0 0))) (S10 17 13)) 0 2 (S 17 9 + 1)) (hC23.putI (fun z => by unfold refD at z; rw [if_pos (by rw [up_i (by decide)]; exact hde), up_s] at z; omega)) ?_ ?_ <;> (rw [up_i (show (1 : Int) ≠ 2 by decide)]; unfold refD; rw [if_pos (by rw [up_i (by decide)]; exact hde), up_s]; first | (rw [up_s, hs10, e11]) | omega), same_up ((hk10.1.mono (by decide)).tr (hs23.mono (by decide))) (by decide), by rw [up_i (by decide), hi23 6 (by decide), hr10 6 (by decide)], by rw [up_s]; omega, by rw [up_s]; omega⟩)
  · exact j_vret rfl dX6_readEnd_8 (fun h => by cases h) (hP _ _ ⟨by unfold itE; rw [if_neg (by omega)]; exact hC, Same.rf, rfl, Int.le_refl _, by omega⟩)
