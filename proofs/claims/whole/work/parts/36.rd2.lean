set_option maxRecDepth 100000 in
set_option maxHeartbeats 4000000 in
theorem t_X6_refuse (S d : St) (hC : RC S d) (h13 : 0 ≤ S 17 13 ∧ S 17 13 ≤ 200) : EX mX6_refuse [.ref 17] S (fun r S' => RC S' (refD d (S 17 13)) ∧ Same [17] S S' ∧ (∀ i, i ≠ 10 → S' 17 i = S 17 i)) := by
  suffices hh : ∀ P : Int → St → Prop, (∀ r S', (RC S' (refD d (S 17 13)) ∧ Same [17] S S' ∧ (∀ i, i ≠ 10 → S' 17 i = S 17 i)) → P r S') → EX mX6_refuse [.ref 17] S P from hh _ (fun _ _ h => h)
  intro P hP
  refine EX.of (L := [(0, .ref 17)]) rfl rfl (Nat.le_of_ble_eq_true rfl) rfl ?_
  obtain ⟨⟨hR, hpl, hsh, hsp, hfb⟩, hfd, hce⟩ := id hC
  refine j_aload_n dX6_refuse_0 rfl ?_
  refine j_getI (x := S 17 10) dX6_refuse_1 fg_X6_44 fq_17_10 rfl (fun hi1 => ?_)
  refine j_iconst dX6_refuse_4 ?_
  refine j_icmp_ne (tgt := 16) dX6_refuse_5 (by decide) (by omega) (by omega) (fun h5 => ?_) (fun h5 => ?_)
  · exact j_vret rfl dX6_refuse_16 (fun h => by cases h) (hP _ _ ⟨by unfold refD; rw [if_neg (by omega)]; exact hC, Same.rf, fun _ _ => rfl⟩)
  · refine j_aload_n dX6_refuse_8 rfl ?_
    refine j_aload_n dX6_refuse_9 rfl ?_
    refine j_getI (x := S 17 13) dX6_refuse_10 fg_X6_53 fq_17_13 rfl (fun hi10 => ?_)
    refine j_putI (i := 10) dX6_refuse_13 fg_X6_44 ft_6_10 fq_17_10 rfl (by omega) ?_
    exact j_vret rfl dX6_refuse_16 (fun h => by cases h) (hP _ _ ⟨by unfold refD; rw [if_pos (by omega)]; exact hC.move (same_up Same.rf (by decide)) (fun i h => up_i (by omega)) (by rw [up_i (by decide)]; exact hR.2.1) (by rw [up_s]; omega) (by rw [up_s, up_s]) (fun z => by rw [up_s] at z; omega) ⟨fun i a b => up_i b, fun c hc => up_row hc⟩, same_up Same.rf (by decide), fun i h => up_i h⟩)
set_option maxRecDepth 100000 in
set_option maxHeartbeats 4000000 in
theorem t_X6_readNumber (S d : St) (lo hi : Int) (hC : RC S d) (hlo : InR lo) (hhi : InR hi) : EX mX6_readNumber [.ref 17, vi lo, vi hi] S (fun r S' => r = numV (S 16) (S 17 6) lo hi d ∧ RC S' (numD (S 16) (S 17 6) lo hi d) ∧ Same [17] S S' ∧ (∀ i, i < 10 → S' 17 i = S 17 i) ∧ (d 0 1 = -1 → S' 17 13 = kTs (S 16) (S 17 6) (d 0 0))) := by
  suffices hh : ∀ P : Int → St → Prop, (∀ r S', (r = numV (S 16) (S 17 6) lo hi d ∧ RC S' (numD (S 16) (S 17 6) lo hi d) ∧ Same [17] S S' ∧ (∀ i, i < 10 → S' 17 i = S 17 i) ∧ (d 0 1 = -1 → S' 17 13 = kTs (S 16) (S 17 6) (d 0 0))) → P r S') → EX mX6_readNumber [.ref 17, vi lo, vi hi] S P from hh _ (fun _ _ h => h)
  intro P hP
  refine EX.of (L := [(0, .ref 17), (1, vi lo), (2, vi hi)]) rfl rfl (Nat.le_of_ble_eq_true rfl) rfl ?_
  obtain ⟨⟨hR, hpl, hsh, hsp, hfb⟩, hfd, hce⟩ := id hC
  refine j_aload_n dX6_readNumber_0 rfl ?_
  refine j_getI (x := S 17 10) dX6_readNumber_1 fg_X6_44 fq_17_10 rfl (fun hi1 => ?_)
  refine j_iconst dX6_readNumber_4 ?_
  refine j_icmp_eq (tgt := 10) dX6_readNumber_5 (by decide) (by omega) (by omega) (fun h5 => ?_) (fun h5 => ?_)
  · refine j_aload_n dX6_readNumber_10 rfl ?_
    refine j_callVv (As := []) (rest := []) (t_X6_step _ hR) rfl cm_X6_step ci_X6_step ml_X6_66 oq_17 rfl (Nat.le_of_ble_eq_true rfl) (Nat.le_of_ble_eq_true rfl) dX6_readNumber_11 (fun r11 S11 hp11 => ?_)
    obtain ⟨hk11, hs11, he11, ht11, hv11⟩ := hp11
    have eS11_16 : S11 16 = S 16 := hk11.1 16 (by decide)
    have eS11_18 : S11 18 = S 18 := hk11.1 18 (by decide)
    have eS11_19 : S11 19 = S 19 := hk11.1 19 (by decide)
    have eS11_20 : S11 20 = S 20 := hk11.1 20 (by decide)
    have hde : d 0 1 = -1 := by omega
    have hp0 := (hce hde).1
    have hr10 : ∀ i, i < 11 → S11 17 i = S 17 i := hk11.2
    have hkb := kTe_bd (x := S 16) (t := S 17 6) (p := S 17 11) hR.2.1.2
    have hsb := kTs_bd (x := S 16) (t := S 17 6) (p := S 17 11) hR.2.1.2
    have htl := hR.1
    have hr11 := hR.2.1
    have hvb := nvF_bd (S 16) (S 17 6) (S 17 6 - tsB (S 16) (S 17 6) (S 17 11)).toNat (tsB (S 16) (S 17 6) (S 17 11)) 0 (by omega) (by omega)
    rw [show nvF _ _ _ _ _ = kTv (S 16) (S 17 6) (S 17 11) from rfl] at hvb
    rw [hp0] at hs11 he11 ht11 hv11 hkb hsb hvb
    refine j_aload_n dX6_readNumber_14 rfl ?_
    refine j_getI (x := kTk (S 16) (S 17 6) (d 0 0)) dX6_readNumber_15 fg_X6_50 fq_17_12 ht11 (fun hi15 => ?_)
    refine j_bipush dX6_readNumber_18 (by decide) ?_
    refine j_icmp_ne (tgt := 39) dX6_readNumber_20 (by decide) (by rw [← ht11]; omega) (by omega) (fun h20 => ?_) (fun h20 => ?_)
    · refine j_aload_n dX6_readNumber_39 rfl ?_
      have hCm : RC S11 (up d 0 0 (kTe (S 16) (S 17 6) (d 0 0))) := hC.move hk11.1 (fun i h => hr10 i (by omega)) (by rw [he11]; omega) (by rw [hr10 10 (by decide)]; exact hfb) (by rw [hr10 10 (by decide), up_i (by decide)]; exact hfd) (fun _ => ⟨by rw [up_s]; exact he11, hde⟩) ⟨fun i a b => up_i a, fun c hc => up_row hc⟩
      refine j_callVv (As := []) (rest := []) (t_X6_refuse _ (up d 0 0 (kTe (S 16) (S 17 6) (d 0 0))) hCm (by rw [hs11]; omega)) rfl cm_X6_refuse ci_X6_refuse ml_X6_84 oq_17 rfl (Nat.le_of_ble_eq_true rfl) (Nat.le_of_ble_eq_true rfl) dX6_readNumber_40 (fun r40 S40 hp40 => ?_)
      obtain ⟨hC40, hs40, hi40⟩ := hp40
      have hno : ¬ okN (S 16) (S 17 6) lo hi (d 0 0) := by intro z; obtain ⟨z1, z2, z3⟩ := z; omega
      have hf40 : S40 17 10 = kTs (S 16) (S 17 6) (d 0 0) := by
        have := hC40.2.1
        rw [this]
        unfold refD
        rw [if_pos (by rw [up_i (by decide)]; exact hde), up_s]
        exact hs11
      have hfin : RC S40 (numD (S 16) (S 17 6) lo hi d) := by
        rw [numD_n hde hno]
        refine ⟨hC40.1, by rw [up_s]; exact hf40, fun z => ?_⟩
        rw [up_s] at z
        omega
      refine j_iload_n dX6_readNumber_43 rfl ?_
      exact j_iret rfl dX6_readNumber_44 (fun h => by cases h) (hP _ _ ⟨(numV_n hno).symm, hfin, hk11.1.tr hs40, fun i h => (hi40 i (by omega)).trans (hr10 i (by omega)), fun _ => (hi40 13 (by decide)).trans hs11⟩)
    · refine j_aload_n dX6_readNumber_23 rfl ?_
      refine j_getI (x := kTv (S 16) (S 17 6) (d 0 0)) dX6_readNumber_24 fg_X6_56 fq_17_14 (hv11 h20) (fun hi24 => ?_)
      refine j_iload_n dX6_readNumber_27 rfl ?_
      refine j_icmp_lt (tgt := 39) dX6_readNumber_28 (by decide) (by omega) (by omega) (fun h28 => ?_) (fun h28 => ?_)
      · refine j_aload_n dX6_readNumber_39 rfl ?_
        have hCm : RC S11 (up d 0 0 (kTe (S 16) (S 17 6) (d 0 0))) := hC.move hk11.1 (fun i h => hr10 i (by omega)) (by rw [he11]; omega) (by rw [hr10 10 (by decide)]; exact hfb) (by rw [hr10 10 (by decide), up_i (by decide)]; exact hfd) (fun _ => ⟨by rw [up_s]; exact he11, hde⟩) ⟨fun i a b => up_i a, fun c hc => up_row hc⟩
        refine j_callVv (As := []) (rest := []) (t_X6_refuse _ (up d 0 0 (kTe (S 16) (S 17 6) (d 0 0))) hCm (by rw [hs11]; omega)) rfl cm_X6_refuse ci_X6_refuse ml_X6_84 oq_17 rfl (Nat.le_of_ble_eq_true rfl) (Nat.le_of_ble_eq_true rfl) dX6_readNumber_40 (fun r40 S40 hp40 => ?_)
        obtain ⟨hC40, hs40, hi40⟩ := hp40
        have hno : ¬ okN (S 16) (S 17 6) lo hi (d 0 0) := by intro z; obtain ⟨z1, z2, z3⟩ := z; omega
        have hf40 : S40 17 10 = kTs (S 16) (S 17 6) (d 0 0) := by
          have := hC40.2.1
          rw [this]
          unfold refD
          rw [if_pos (by rw [up_i (by decide)]; exact hde), up_s]
          exact hs11
        have hfin : RC S40 (numD (S 16) (S 17 6) lo hi d) := by
          rw [numD_n hde hno]
          refine ⟨hC40.1, by rw [up_s]; exact hf40, fun z => ?_⟩
          rw [up_s] at z
          omega
        refine j_iload_n dX6_readNumber_43 rfl ?_
        exact j_iret rfl dX6_readNumber_44 (fun h => by cases h) (hP _ _ ⟨(numV_n hno).symm, hfin, hk11.1.tr hs40, fun i h => (hi40 i (by omega)).trans (hr10 i (by omega)), fun _ => (hi40 13 (by decide)).trans hs11⟩)
      · refine j_aload_n dX6_readNumber_31 rfl ?_
        refine j_getI (x := kTv (S 16) (S 17 6) (d 0 0)) dX6_readNumber_32 fg_X6_56 fq_17_14 (hv11 h20) (fun hi32 => ?_)
        refine j_iload_n dX6_readNumber_35 rfl ?_
        refine j_icmp_le (tgt := 45) dX6_readNumber_36 (by decide) (by omega) (by omega) (fun h36 => ?_) (fun h36 => ?_)
        · have hyes : okN (S 16) (S 17 6) lo hi (d 0 0) := ⟨h20, h28, h36⟩
          refine j_aload_n dX6_readNumber_45 rfl ?_
          refine j_getI (x := kTv (S 16) (S 17 6) (d 0 0)) dX6_readNumber_46 fg_X6_56 fq_17_14 (hv11 h20) (fun hi46 => ?_)
          exact j_iret rfl dX6_readNumber_49 (fun h => by cases h) (hP _ _ ⟨(numV_y hde hyes).symm, by rw [numD_y hde hyes]; exact hC.move hk11.1 (fun i h => hr10 i (by omega)) (by rw [he11]; omega) (by rw [hr10 10 (by decide)]; exact hfb) (by rw [hr10 10 (by decide), up_i (by decide)]; exact hfd) (fun _ => ⟨by rw [up_s]; exact he11, hde⟩) ⟨fun i a b => up_i a, fun c hc => up_row hc⟩, hk11.1, fun i h => hr10 i (by omega), fun _ => hs11⟩)
        · refine j_aload_n dX6_readNumber_39 rfl ?_
          have hCm : RC S11 (up d 0 0 (kTe (S 16) (S 17 6) (d 0 0))) := hC.move hk11.1 (fun i h => hr10 i (by omega)) (by rw [he11]; omega) (by rw [hr10 10 (by decide)]; exact hfb) (by rw [hr10 10 (by decide), up_i (by decide)]; exact hfd) (fun _ => ⟨by rw [up_s]; exact he11, hde⟩) ⟨fun i a b => up_i a, fun c hc => up_row hc⟩
          refine j_callVv (As := []) (rest := []) (t_X6_refuse _ (up d 0 0 (kTe (S 16) (S 17 6) (d 0 0))) hCm (by rw [hs11]; omega)) rfl cm_X6_refuse ci_X6_refuse ml_X6_84 oq_17 rfl (Nat.le_of_ble_eq_true rfl) (Nat.le_of_ble_eq_true rfl) dX6_readNumber_40 (fun r40 S40 hp40 => ?_)
          obtain ⟨hC40, hs40, hi40⟩ := hp40
          have hno : ¬ okN (S 16) (S 17 6) lo hi (d 0 0) := by intro z; obtain ⟨z1, z2, z3⟩ := z; omega
          have hf40 : S40 17 10 = kTs (S 16) (S 17 6) (d 0 0) := by
            have := hC40.2.1
            rw [this]
            unfold refD
            rw [if_pos (by rw [up_i (by decide)]; exact hde), up_s]
            exact hs11
          have hfin : RC S40 (numD (S 16) (S 17 6) lo hi d) := by
            rw [numD_n hde hno]
            refine ⟨hC40.1, by rw [up_s]; exact hf40, fun z => ?_⟩
            rw [up_s] at z
            omega
          refine j_iload_n dX6_readNumber_43 rfl ?_
          exact j_iret rfl dX6_readNumber_44 (fun h => by cases h) (hP _ _ ⟨(numV_n hno).symm, hfin, hk11.1.tr hs40, fun i h => (hi40 i (by omega)).trans (hr10 i (by omega)), fun _ => (hi40 13 (by decide)).trans hs11⟩)
  · refine j_iload_n dX6_readNumber_8 rfl ?_
    exact j_iret rfl dX6_readNumber_9 (fun h => by cases h) (hP _ _ ⟨(numV_f (by omega)).symm, by rw [numD_f (by omega)]; exact hC, Same.rf, fun _ _ => rfl, fun z => by omega⟩)
