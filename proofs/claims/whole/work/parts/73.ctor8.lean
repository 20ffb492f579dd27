theorem ko_X8 : (Cond.methodLink RX8 1 Lib.objectInit) ∈ lw_good := (mg (w := .methodLink RX8 1 Lib.objectInit) 756 (by decide +kernel) (by decide +kernel))
theorem kf_X8_7 : ∃ C T N, vwCl[8]? = some (C, T, N) ∧ C = RX8 ∧ (Cond.fieldLink RX8 7 C (T 2).2.1 (T 2).2.2.1) ∈ lw_good := ⟨_, _, _, rfl, rfl, mg 759 (by decide +kernel) (by decide +kernel)⟩
theorem ftf_8_2 : FTF 8 2 (.array .int) := ⟨_, _, _, rfl, rfl, by decide +kernel⟩
theorem kf_X8_13 : ∃ C T N, vwCl[8]? = some (C, T, N) ∧ C = RX8 ∧ (Cond.fieldLink RX8 13 C (T 9).2.1 (T 9).2.2.1) ∈ lw_good := ⟨_, _, _, rfl, rfl, mg 766 (by decide +kernel) (by decide +kernel)⟩
theorem ftf_8_9 : FTF 8 9 (.array .int) := ⟨_, _, _, rfl, rfl, by decide +kernel⟩
theorem kf_X8_16 : ∃ C T N, vwCl[8]? = some (C, T, N) ∧ C = RX8 ∧ (Cond.fieldLink RX8 16 C (T 10).2.1 (T 10).2.2.1) ∈ lw_good := ⟨_, _, _, rfl, rfl, mg 767 (by decide +kernel) (by decide +kernel)⟩
theorem ftf_8_10 : FTF 8 10 (.array .int) := ⟨_, _, _, rfl, rfl, by decide +kernel⟩
theorem kf_X8_19 : ∃ C T N, vwCl[8]? = some (C, T, N) ∧ C = RX8 ∧ (Cond.fieldLink RX8 19 C (T 11).2.1 (T 11).2.2.1) ∈ lw_good := ⟨_, _, _, rfl, rfl, mg 768 (by decide +kernel) (by decide +kernel)⟩
theorem ftf_8_11 : FTF 8 11 (.array .int) := ⟨_, _, _, rfl, rfl, by decide +kernel⟩
theorem kf_X8_22 : ∃ C T N, vwCl[8]? = some (C, T, N) ∧ C = RX8 ∧ (Cond.fieldLink RX8 22 C (T 12).2.1 (T 12).2.2.1) ∈ lw_good := ⟨_, _, _, rfl, rfl, mg 769 (by decide +kernel) (by decide +kernel)⟩
theorem ftf_8_12 : FTF 8 12 (.array .int) := ⟨_, _, _, rfl, rfl, by decide +kernel⟩
theorem kf_X8_25 : ∃ C T N, vwCl[8]? = some (C, T, N) ∧ C = RX8 ∧ (Cond.fieldLink RX8 25 C (T 17).2.1 (T 17).2.2.1) ∈ lw_good := ⟨_, _, _, rfl, rfl, mg 774 (by decide +kernel) (by decide +kernel)⟩
theorem ftf_8_17 : FTF 8 17 (.array .int) := ⟨_, _, _, rfl, rfl, by decide +kernel⟩
theorem kf_X8_28 : ∃ C T N, vwCl[8]? = some (C, T, N) ∧ C = RX8 ∧ (Cond.fieldLink RX8 28 C (T 18).2.1 (T 18).2.2.1) ∈ lw_good := ⟨_, _, _, rfl, rfl, mg 775 (by decide +kernel) (by decide +kernel)⟩
theorem ftf_8_18 : FTF 8 18 (.array .int) := ⟨_, _, _, rfl, rfl, by decide +kernel⟩
theorem kf_X8_31 : ∃ C T N, vwCl[8]? = some (C, T, N) ∧ C = RX8 ∧ (Cond.fieldLink RX8 31 C (T 19).2.1 (T 19).2.2.1) ∈ lw_good := ⟨_, _, _, rfl, rfl, mg 776 (by decide +kernel) (by decide +kernel)⟩
theorem ftf_8_19 : FTF 8 19 (.array .int) := ⟨_, _, _, rfl, rfl, by decide +kernel⟩
theorem kf_X8_34 : ∃ C T N, vwCl[8]? = some (C, T, N) ∧ C = RX8 ∧ (Cond.fieldLink RX8 34 C (T 20).2.1 (T 20).2.2.1) ∈ lw_good := ⟨_, _, _, rfl, rfl, mg 777 (by decide +kernel) (by decide +kernel)⟩
theorem ftf_8_20 : FTF 8 20 (.array .boolean) := ⟨_, _, _, rfl, rfl, by decide +kernel⟩
theorem kf_X8_38 : ∃ C T N, vwCl[8]? = some (C, T, N) ∧ C = RX8 ∧ (Cond.fieldLink RX8 38 C (T 21).2.1 (T 21).2.2.1) ∈ lw_good := ⟨_, _, _, rfl, rfl, mg 778 (by decide +kernel) (by decide +kernel)⟩
theorem ftf_8_21 : FTF 8 21 (.array .int) := ⟨_, _, _, rfl, rfl, by decide +kernel⟩
theorem kf_X8_41 : ∃ C T N, vwCl[8]? = some (C, T, N) ∧ C = RX8 ∧ (Cond.fieldLink RX8 41 C (T 23).2.1 (T 23).2.2.1) ∈ lw_good := ⟨_, _, _, rfl, rfl, mg 780 (by decide +kernel) (by decide +kernel)⟩
theorem ftf_8_23 : FTF 8 23 (.array .int) := ⟨_, _, _, rfl, rfl, by decide +kernel⟩
theorem kf_X8_44 : ∃ C T N, vwCl[8]? = some (C, T, N) ∧ C = RX8 ∧ (Cond.fieldLink RX8 44 C (T 24).2.1 (T 24).2.2.1) ∈ lw_good := ⟨_, _, _, rfl, rfl, mg 781 (by decide +kernel) (by decide +kernel)⟩
theorem ftf_8_24 : FTF 8 24 (.array .int) := ⟨_, _, _, rfl, rfl, by decide +kernel⟩
theorem kf_X8_47 : ∃ C T N, vwCl[8]? = some (C, T, N) ∧ C = RX8 ∧ (Cond.fieldLink RX8 47 C (T 26).2.1 (T 26).2.2.1) ∈ lw_good := ⟨_, _, _, rfl, rfl, mg 783 (by decide +kernel) (by decide +kernel)⟩
theorem ftf_8_26 : FTF 8 26 (.array .int) := ⟨_, _, _, rfl, rfl, by decide +kernel⟩
theorem kf_X8_50 : ∃ C T N, vwCl[8]? = some (C, T, N) ∧ C = RX8 ∧ (Cond.fieldLink RX8 50 C (T 27).2.1 (T 27).2.2.1) ∈ lw_good := ⟨_, _, _, rfl, rfl, mg 784 (by decide +kernel) (by decide +kernel)⟩
theorem ftf_8_27 : FTF 8 27 (.array .int) := ⟨_, _, _, rfl, rfl, by decide +kernel⟩
theorem kf_X8_53 : ∃ C T N, vwCl[8]? = some (C, T, N) ∧ C = RX8 ∧ (Cond.fieldLink RX8 53 C (T 28).2.1 (T 28).2.2.1) ∈ lw_good := ⟨_, _, _, rfl, rfl, mg 785 (by decide +kernel) (by decide +kernel)⟩
theorem ftf_8_28 : FTF 8 28 (.array .int) := ⟨_, _, _, rfl, rfl, by decide +kernel⟩
theorem kf_X8_56 : ∃ C T N, vwCl[8]? = some (C, T, N) ∧ C = RX8 ∧ (Cond.fieldLink RX8 56 C (T 29).2.1 (T 29).2.2.1) ∈ lw_good := ⟨_, _, _, rfl, rfl, mg 786 (by decide +kernel) (by decide +kernel)⟩
theorem ftf_8_29 : FTF 8 29 (.array .int) := ⟨_, _, _, rfl, rfl, by decide +kernel⟩
set_option maxRecDepth 100000 in
set_option maxHeartbeats 4000000 in
theorem k_X8_init (a : Nat) (r : KW) : EK mX8_init [.ref a] (fun cy => (a, .inr (8, dfX8)) :: r cy) (fun u => ∃ q1 q2 q3 q4 q5 q6 q7 q8 q9 q10 q11 q12 q13 q14 q15 q16 : Nat, u = fun cy => (q16, .inl (cy.1, 6, .inl (fun _ => 0))) :: (q15, .inl (cy.1, 6, .inl (fun _ => 0))) :: (q14, .inl (cy.1, 6, .inl (fun _ => 0))) :: (q13, .inl (cy.1, 6, .inl (fun _ => 0))) :: (q12, .inl (cy.1, 6, .inl (fun _ => 0))) :: (q11, .inl (cy.1, 6, .inl (fun _ => 0))) :: (q10, .inl (cy.1, 1890, .inl (fun _ => 0))) :: (q9, .inl (cy.2.1, 2, .inl (fun _ => 0))) :: (q8, .inl (cy.1, 378, .inl (fun _ => 0))) :: (q7, .inl (cy.1, 189, .inl (fun _ => 0))) :: (q6, .inl (cy.1, 48, .inl (fun _ => 0))) :: (q5, .inl (cy.1, 36, .inl (fun _ => 0))) :: (q4, .inl (cy.1, 8, .inl (fun _ => 0))) :: (q3, .inl (cy.1, 12, .inl (fun j => Int32.ofInt (pl9 j)))) :: (q2, .inl (cy.1, 12, .inl (fun j => Int32.ofInt (pl1 j)))) :: (q1, .inl (cy.1, 200, .inl (fun _ => 0))) :: (a, .inr (8, [vi (0), vl (0), .ref q1, vi (0), vi (0), vi (0), vi (0), vi (0), vi (0), .ref q2, .ref q3, .ref q4, .ref q5, vi (3), vi (0), vi (0), vi (0), .ref q6, .ref q7, .ref q8, .ref q9, .ref q10, vi (0), .ref q11, .ref q12, vi (0), .ref q13, .ref q14, .ref q15, .ref q16])) :: r cy) 16 2811 := by
  refine EK.of (L := [(0, .ref a)]) rfl rfl (Nat.le_of_ble_eq_true rfl) rfl ?_
  refine k_aload dX8_init_0 rfl ?_
  refine k_obj dX8_init_1 ko_X8 (Nat.le_of_ble_eq_true rfl) (Nat.le_of_ble_eq_true rfl) ?_
  refine k_aload dX8_init_4 rfl ?_
  refine k_sipush dX8_init_5 (by decide) ?_
  refine k_newi (N := 200) dX8_init_8 (by decide) (by decide) (by decide) (Nat.le_of_ble_eq_true rfl) (Nat.le_of_ble_eq_true rfl) (fun q1 => ?_)
  refine k_putF (q0 := 1) dX8_init_10 fg_X8_7 kf_X8_7 ftf_8_2 rfl (fun _ => rfl) rfl rfl (Nat.le_of_ble_eq_true rfl) ?_
  refine k_world (w' := fun cy => (q1, .inl (cy.1, 200, .inl (fun _ => 0))) :: (a, .inr (8, [vi (0), vl (0), .ref q1, vi (0), vi (0), vi (0), vi (0), vi (0), vi (0), .null, .null, .null, .null, vi (0), vi (0), vi (0), vi (0), .null, .null, .null, .null, .null, vi (0), .null, .null, vi (0), .null, .null, .null, .null])) :: r cy) (fun _ => rfl) ?_
  refine k_aload dX8_init_13 rfl ?_
  refine k_bipush dX8_init_14 (by decide) ?_
  refine k_newi (N := 12) dX8_init_16 (by decide) (by decide) (by decide) (Nat.le_of_ble_eq_true rfl) (Nat.le_of_ble_eq_true rfl) (fun q2 => ?_)
  refine k_putF (q0 := 2) dX8_init_18 fg_X8_13 kf_X8_13 ftf_8_9 rfl (fun _ => rfl) rfl rfl (Nat.le_of_ble_eq_true rfl) ?_
  refine k_world (w' := fun cy => (q2, .inl (cy.1, 12, .inl (fun _ => 0))) :: (q1, .inl (cy.1, 200, .inl (fun _ => 0))) :: (a, .inr (8, [vi (0), vl (0), .ref q1, vi (0), vi (0), vi (0), vi (0), vi (0), vi (0), .ref q2, .null, .null, .null, vi (0), vi (0), vi (0), vi (0), .null, .null, .null, .null, .null, vi (0), .null, .null, vi (0), .null, .null, .null, .null])) :: r cy) (fun _ => rfl) ?_
  refine k_aload dX8_init_21 rfl ?_
  refine k_bipush dX8_init_22 (by decide) ?_
  refine k_newi (N := 12) dX8_init_24 (by decide) (by decide) (by decide) (Nat.le_of_ble_eq_true rfl) (Nat.le_of_ble_eq_true rfl) (fun q3 => ?_)
  refine k_putF (q0 := 3) dX8_init_26 fg_X8_16 kf_X8_16 ftf_8_10 rfl (fun _ => rfl) rfl rfl (Nat.le_of_ble_eq_true rfl) ?_
  refine k_world (w' := fun cy => (q3, .inl (cy.1, 12, .inl (fun _ => 0))) :: (q2, .inl (cy.1, 12, .inl (fun _ => 0))) :: (q1, .inl (cy.1, 200, .inl (fun _ => 0))) :: (a, .inr (8, [vi (0), vl (0), .ref q1, vi (0), vi (0), vi (0), vi (0), vi (0), vi (0), .ref q2, .ref q3, .null, .null, vi (0), vi (0), vi (0), vi (0), .null, .null, .null, .null, .null, vi (0), .null, .null, vi (0), .null, .null, .null, .null])) :: r cy) (fun _ => rfl) ?_
  refine k_aload dX8_init_29 rfl ?_
  refine k_bipush dX8_init_30 (by decide) ?_
  refine k_newi (N := 8) dX8_init_32 (by decide) (by decide) (by decide) (Nat.le_of_ble_eq_true rfl) (Nat.le_of_ble_eq_true rfl) (fun q4 => ?_)
  refine k_putF (q0 := 4) dX8_init_34 fg_X8_19 kf_X8_19 ftf_8_11 rfl (fun _ => rfl) rfl rfl (Nat.le_of_ble_eq_true rfl) ?_
  refine k_world (w' := fun cy => (q4, .inl (cy.1, 8, .inl (fun _ => 0))) :: (q3, .inl (cy.1, 12, .inl (fun _ => 0))) :: (q2, .inl (cy.1, 12, .inl (fun _ => 0))) :: (q1, .inl (cy.1, 200, .inl (fun _ => 0))) :: (a, .inr (8, [vi (0), vl (0), .ref q1, vi (0), vi (0), vi (0), vi (0), vi (0), vi (0), .ref q2, .ref q3, .ref q4, .null, vi (0), vi (0), vi (0), vi (0), .null, .null, .null, .null, .null, vi (0), .null, .null, vi (0), .null, .null, .null, .null])) :: r cy) (fun _ => rfl) ?_
  refine k_aload dX8_init_37 rfl ?_
  refine k_bipush dX8_init_38 (by decide) ?_
  refine k_newi (N := 36) dX8_init_40 (by decide) (by decide) (by decide) (Nat.le_of_ble_eq_true rfl) (Nat.le_of_ble_eq_true rfl) (fun q5 => ?_)
  refine k_putF (q0 := 5) dX8_init_42 fg_X8_22 kf_X8_22 ftf_8_12 rfl (fun _ => rfl) rfl rfl (Nat.le_of_ble_eq_true rfl) ?_
  refine k_world (w' := fun cy => (q5, .inl (cy.1, 36, .inl (fun _ => 0))) :: (q4, .inl (cy.1, 8, .inl (fun _ => 0))) :: (q3, .inl (cy.1, 12, .inl (fun _ => 0))) :: (q2, .inl (cy.1, 12, .inl (fun _ => 0))) :: (q1, .inl (cy.1, 200, .inl (fun _ => 0))) :: (a, .inr (8, [vi (0), vl (0), .ref q1, vi (0), vi (0), vi (0), vi (0), vi (0), vi (0), .ref q2, .ref q3, .ref q4, .ref q5, vi (0), vi (0), vi (0), vi (0), .null, .null, .null, .null, .null, vi (0), .null, .null, vi (0), .null, .null, .null, .null])) :: r cy) (fun _ => rfl) ?_
  refine k_aload dX8_init_45 rfl ?_
  refine k_bipush dX8_init_46 (by decide) ?_
  refine k_newi (N := 48) dX8_init_48 (by decide) (by decide) (by decide) (Nat.le_of_ble_eq_true rfl) (Nat.le_of_ble_eq_true rfl) (fun q6 => ?_)
  refine k_putF (q0 := 6) dX8_init_50 fg_X8_25 kf_X8_25 ftf_8_17 rfl (fun _ => rfl) rfl rfl (Nat.le_of_ble_eq_true rfl) ?_
  refine k_world (w' := fun cy => (q6, .inl (cy.1, 48, .inl (fun _ => 0))) :: (q5, .inl (cy.1, 36, .inl (fun _ => 0))) :: (q4, .inl (cy.1, 8, .inl (fun _ => 0))) :: (q3, .inl (cy.1, 12, .inl (fun _ => 0))) :: (q2, .inl (cy.1, 12, .inl (fun _ => 0))) :: (q1, .inl (cy.1, 200, .inl (fun _ => 0))) :: (a, .inr (8, [vi (0), vl (0), .ref q1, vi (0), vi (0), vi (0), vi (0), vi (0), vi (0), .ref q2, .ref q3, .ref q4, .ref q5, vi (0), vi (0), vi (0), vi (0), .ref q6, .null, .null, .null, .null, vi (0), .null, .null, vi (0), .null, .null, .null, .null])) :: r cy) (fun _ => rfl) ?_
  refine k_aload dX8_init_53 rfl ?_
  refine k_sipush dX8_init_54 (by decide) ?_
  refine k_newi (N := 189) dX8_init_57 (by decide) (by decide) (by decide) (Nat.le_of_ble_eq_true rfl) (Nat.le_of_ble_eq_true rfl) (fun q7 => ?_)
  refine k_putF (q0 := 7) dX8_init_59 fg_X8_28 kf_X8_28 ftf_8_18 rfl (fun _ => rfl) rfl rfl (Nat.le_of_ble_eq_true rfl) ?_
  refine k_world (w' := fun cy => (q7, .inl (cy.1, 189, .inl (fun _ => 0))) :: (q6, .inl (cy.1, 48, .inl (fun _ => 0))) :: (q5, .inl (cy.1, 36, .inl (fun _ => 0))) :: (q4, .inl (cy.1, 8, .inl (fun _ => 0))) :: (q3, .inl (cy.1, 12, .inl (fun _ => 0))) :: (q2, .inl (cy.1, 12, .inl (fun _ => 0))) :: (q1, .inl (cy.1, 200, .inl (fun _ => 0))) :: (a, .inr (8, [vi (0), vl (0), .ref q1, vi (0), vi (0), vi (0), vi (0), vi (0), vi (0), .ref q2, .ref q3, .ref q4, .ref q5, vi (0), vi (0), vi (0), vi (0), .ref q6, .ref q7, .null, .null, .null, vi (0), .null, .null, vi (0), .null, .null, .null, .null])) :: r cy) (fun _ => rfl) ?_
  refine k_aload dX8_init_62 rfl ?_
  refine k_sipush dX8_init_63 (by decide) ?_
  refine k_newi (N := 378) dX8_init_66 (by decide) (by decide) (by decide) (Nat.le_of_ble_eq_true rfl) (Nat.le_of_ble_eq_true rfl) (fun q8 => ?_)
  refine k_putF (q0 := 8) dX8_init_68 fg_X8_31 kf_X8_31 ftf_8_19 rfl (fun _ => rfl) rfl rfl (Nat.le_of_ble_eq_true rfl) ?_
  refine k_world (w' := fun cy => (q8, .inl (cy.1, 378, .inl (fun _ => 0))) :: (q7, .inl (cy.1, 189, .inl (fun _ => 0))) :: (q6, .inl (cy.1, 48, .inl (fun _ => 0))) :: (q5, .inl (cy.1, 36, .inl (fun _ => 0))) :: (q4, .inl (cy.1, 8, .inl (fun _ => 0))) :: (q3, .inl (cy.1, 12, .inl (fun _ => 0))) :: (q2, .inl (cy.1, 12, .inl (fun _ => 0))) :: (q1, .inl (cy.1, 200, .inl (fun _ => 0))) :: (a, .inr (8, [vi (0), vl (0), .ref q1, vi (0), vi (0), vi (0), vi (0), vi (0), vi (0), .ref q2, .ref q3, .ref q4, .ref q5, vi (0), vi (0), vi (0), vi (0), .ref q6, .ref q7, .ref q8, .null, .null, vi (0), .null, .null, vi (0), .null, .null, .null, .null])) :: r cy) (fun _ => rfl) ?_
  refine k_aload dX8_init_71 rfl ?_
  refine k_iconst dX8_init_72 ?_
  refine k_newz (N := 2) dX8_init_73 (by decide) (by decide) (by decide) (Nat.le_of_ble_eq_true rfl) (Nat.le_of_ble_eq_true rfl) (fun q9 => ?_)
  refine k_putF (q0 := 9) dX8_init_75 fg_X8_34 kf_X8_34 ftf_8_20 rfl (fun _ => rfl) rfl rfl (Nat.le_of_ble_eq_true rfl) ?_
  refine k_world (w' := fun cy => (q9, .inl (cy.2.1, 2, .inl (fun _ => 0))) :: (q8, .inl (cy.1, 378, .inl (fun _ => 0))) :: (q7, .inl (cy.1, 189, .inl (fun _ => 0))) :: (q6, .inl (cy.1, 48, .inl (fun _ => 0))) :: (q5, .inl (cy.1, 36, .inl (fun _ => 0))) :: (q4, .inl (cy.1, 8, .inl (fun _ => 0))) :: (q3, .inl (cy.1, 12, .inl (fun _ => 0))) :: (q2, .inl (cy.1, 12, .inl (fun _ => 0))) :: (q1, .inl (cy.1, 200, .inl (fun _ => 0))) :: (a, .inr (8, [vi (0), vl (0), .ref q1, vi (0), vi (0), vi (0), vi (0), vi (0), vi (0), .ref q2, .ref q3, .ref q4, .ref q5, vi (0), vi (0), vi (0), vi (0), .ref q6, .ref q7, .ref q8, .ref q9, .null, vi (0), .null, .null, vi (0), .null, .null, .null, .null])) :: r cy) (fun _ => rfl) ?_
  refine k_aload dX8_init_78 rfl ?_
  refine k_sipush dX8_init_79 (by decide) ?_
  refine k_newi (N := 1890) dX8_init_82 (by decide) (by decide) (by decide) (Nat.le_of_ble_eq_true rfl) (Nat.le_of_ble_eq_true rfl) (fun q10 => ?_)
  refine k_putF (q0 := 10) dX8_init_84 fg_X8_38 kf_X8_38 ftf_8_21 rfl (fun _ => rfl) rfl rfl (Nat.le_of_ble_eq_true rfl) ?_
  refine k_world (w' := fun cy => (q10, .inl (cy.1, 1890, .inl (fun _ => 0))) :: (q9, .inl (cy.2.1, 2, .inl (fun _ => 0))) :: (q8, .inl (cy.1, 378, .inl (fun _ => 0))) :: (q7, .inl (cy.1, 189, .inl (fun _ => 0))) :: (q6, .inl (cy.1, 48, .inl (fun _ => 0))) :: (q5, .inl (cy.1, 36, .inl (fun _ => 0))) :: (q4, .inl (cy.1, 8, .inl (fun _ => 0))) :: (q3, .inl (cy.1, 12, .inl (fun _ => 0))) :: (q2, .inl (cy.1, 12, .inl (fun _ => 0))) :: (q1, .inl (cy.1, 200, .inl (fun _ => 0))) :: (a, .inr (8, [vi (0), vl (0), .ref q1, vi (0), vi (0), vi (0), vi (0), vi (0), vi (0), .ref q2, .ref q3, .ref q4, .ref q5, vi (0), vi (0), vi (0), vi (0), .ref q6, .ref q7, .ref q8, .ref q9, .ref q10, vi (0), .null, .null, vi (0), .null, .null, .null, .null])) :: r cy) (fun _ => rfl) ?_
  refine k_aload dX8_init_87 rfl ?_
  refine k_bipush dX8_init_88 (by decide) ?_
  refine k_newi (N := 6) dX8_init_90 (by decide) (by decide) (by decide) (Nat.le_of_ble_eq_true rfl) (Nat.le_of_ble_eq_true rfl) (fun q11 => ?_)
  refine k_putF (q0 := 11) dX8_init_92 fg_X8_41 kf_X8_41 ftf_8_23 rfl (fun _ => rfl) rfl rfl (Nat.le_of_ble_eq_true rfl) ?_
  refine k_world (w' := fun cy => (q11, .inl (cy.1, 6, .inl (fun _ => 0))) :: (q10, .inl (cy.1, 1890, .inl (fun _ => 0))) :: (q9, .inl (cy.2.1, 2, .inl (fun _ => 0))) :: (q8, .inl (cy.1, 378, .inl (fun _ => 0))) :: (q7, .inl (cy.1, 189, .inl (fun _ => 0))) :: (q6, .inl (cy.1, 48, .inl (fun _ => 0))) :: (q5, .inl (cy.1, 36, .inl (fun _ => 0))) :: (q4, .inl (cy.1, 8, .inl (fun _ => 0))) :: (q3, .inl (cy.1, 12, .inl (fun _ => 0))) :: (q2, .inl (cy.1, 12, .inl (fun _ => 0))) :: (q1, .inl (cy.1, 200, .inl (fun _ => 0))) :: (a, .inr (8, [vi (0), vl (0), .ref q1, vi (0), vi (0), vi (0), vi (0), vi (0), vi (0), .ref q2, .ref q3, .ref q4, .ref q5, vi (0), vi (0), vi (0), vi (0), .ref q6, .ref q7, .ref q8, .ref q9, .ref q10, vi (0), .ref q11, .null, vi (0), .null, .null, .null, .null])) :: r cy) (fun _ => rfl) ?_
  refine k_aload dX8_init_95 rfl ?_
  refine k_bipush dX8_init_96 (by decide) ?_
  refine k_newi (N := 6) dX8_init_98 (by decide) (by decide) (by decide) (Nat.le_of_ble_eq_true rfl) (Nat.le_of_ble_eq_true rfl) (fun q12 => ?_)
  refine k_putF (q0 := 12) dX8_init_100 fg_X8_44 kf_X8_44 ftf_8_24 rfl (fun _ => rfl) rfl rfl (Nat.le_of_ble_eq_true rfl) ?_
  refine k_world (w' := fun cy => (q12, .inl (cy.1, 6, .inl (fun _ => 0))) :: (q11, .inl (cy.1, 6, .inl (fun _ => 0))) :: (q10, .inl (cy.1, 1890, .inl (fun _ => 0))) :: (q9, .inl (cy.2.1, 2, .inl (fun _ => 0))) :: (q8, .inl (cy.1, 378, .inl (fun _ => 0))) :: (q7, .inl (cy.1, 189, .inl (fun _ => 0))) :: (q6, .inl (cy.1, 48, .inl (fun _ => 0))) :: (q5, .inl (cy.1, 36, .inl (fun _ => 0))) :: (q4, .inl (cy.1, 8, .inl (fun _ => 0))) :: (q3, .inl (cy.1, 12, .inl (fun _ => 0))) :: (q2, .inl (cy.1, 12, .inl (fun _ => 0))) :: (q1, .inl (cy.1, 200, .inl (fun _ => 0))) :: (a, .inr (8, [vi (0), vl (0), .ref q1, vi (0), vi (0), vi (0), vi (0), vi (0), vi (0), .ref q2, .ref q3, .ref q4, .ref q5, vi (0), vi (0), vi (0), vi (0), .ref q6, .ref q7, .ref q8, .ref q9, .ref q10, vi (0), .ref q11, .ref q12, vi (0), .null, .null, .null, .null])) :: r cy) (fun _ => rfl) ?_
  refine k_aload dX8_init_103 rfl ?_
  refine k_bipush dX8_init_104 (by decide) ?_
  refine k_newi (N := 6) dX8_init_106 (by decide) (by decide) (by decide) (Nat.le_of_ble_eq_true rfl) (Nat.le_of_ble_eq_true rfl) (fun q13 => ?_)
  refine k_putF (q0 := 13) dX8_init_108 fg_X8_47 kf_X8_47 ftf_8_26 rfl (fun _ => rfl) rfl rfl (Nat.le_of_ble_eq_true rfl) ?_
  refine k_world (w' := fun cy => (q13, .inl (cy.1, 6, .inl (fun _ => 0))) :: (q12, .inl (cy.1, 6, .inl (fun _ => 0))) :: (q11, .inl (cy.1, 6, .inl (fun _ => 0))) :: (q10, .inl (cy.1, 1890, .inl (fun _ => 0))) :: (q9, .inl (cy.2.1, 2, .inl (fun _ => 0))) :: (q8, .inl (cy.1, 378, .inl (fun _ => 0))) :: (q7, .inl (cy.1, 189, .inl (fun _ => 0))) :: (q6, .inl (cy.1, 48, .inl (fun _ => 0))) :: (q5, .inl (cy.1, 36, .inl (fun _ => 0))) :: (q4, .inl (cy.1, 8, .inl (fun _ => 0))) :: (q3, .inl (cy.1, 12, .inl (fun _ => 0))) :: (q2, .inl (cy.1, 12, .inl (fun _ => 0))) :: (q1, .inl (cy.1, 200, .inl (fun _ => 0))) :: (a, .inr (8, [vi (0), vl (0), .ref q1, vi (0), vi (0), vi (0), vi (0), vi (0), vi (0), .ref q2, .ref q3, .ref q4, .ref q5, vi (0), vi (0), vi (0), vi (0), .ref q6, .ref q7, .ref q8, .ref q9, .ref q10, vi (0), .ref q11, .ref q12, vi (0), .ref q13, .null, .null, .null])) :: r cy) (fun _ => rfl) ?_
  refine k_aload dX8_init_111 rfl ?_
  refine k_bipush dX8_init_112 (by decide) ?_
  refine k_newi (N := 6) dX8_init_114 (by decide) (by decide) (by decide) (Nat.le_of_ble_eq_true rfl) (Nat.le_of_ble_eq_true rfl) (fun q14 => ?_)
  refine k_putF (q0 := 14) dX8_init_116 fg_X8_50 kf_X8_50 ftf_8_27 rfl (fun _ => rfl) rfl rfl (Nat.le_of_ble_eq_true rfl) ?_
  refine k_world (w' := fun cy => (q14, .inl (cy.1, 6, .inl (fun _ => 0))) :: (q13, .inl (cy.1, 6, .inl (fun _ => 0))) :: (q12, .inl (cy.1, 6, .inl (fun _ => 0))) :: (q11, .inl (cy.1, 6, .inl (fun _ => 0))) :: (q10, .inl (cy.1, 1890, .inl (fun _ => 0))) :: (q9, .inl (cy.2.1, 2, .inl (fun _ => 0))) :: (q8, .inl (cy.1, 378, .inl (fun _ => 0))) :: (q7, .inl (cy.1, 189, .inl (fun _ => 0))) :: (q6, .inl (cy.1, 48, .inl (fun _ => 0))) :: (q5, .inl (cy.1, 36, .inl (fun _ => 0))) :: (q4, .inl (cy.1, 8, .inl (fun _ => 0))) :: (q3, .inl (cy.1, 12, .inl (fun _ => 0))) :: (q2, .inl (cy.1, 12, .inl (fun _ => 0))) :: (q1, .inl (cy.1, 200, .inl (fun _ => 0))) :: (a, .inr (8, [vi (0), vl (0), .ref q1, vi (0), vi (0), vi (0), vi (0), vi (0), vi (0), .ref q2, .ref q3, .ref q4, .ref q5, vi (0), vi (0), vi (0), vi (0), .ref q6, .ref q7, .ref q8, .ref q9, .ref q10, vi (0), .ref q11, .ref q12, vi (0), .ref q13, .ref q14, .null, .null])) :: r cy) (fun _ => rfl) ?_
  refine k_aload dX8_init_119 rfl ?_
  refine k_bipush dX8_init_120 (by decide) ?_
  refine k_newi (N := 6) dX8_init_122 (by decide) (by decide) (by decide) (Nat.le_of_ble_eq_true rfl) (Nat.le_of_ble_eq_true rfl) (fun q15 => ?_)
  refine k_putF (q0 := 15) dX8_init_124 fg_X8_53 kf_X8_53 ftf_8_28 rfl (fun _ => rfl) rfl rfl (Nat.le_of_ble_eq_true rfl) ?_
  refine k_world (w' := fun cy => (q15, .inl (cy.1, 6, .inl (fun _ => 0))) :: (q14, .inl (cy.1, 6, .inl (fun _ => 0))) :: (q13, .inl (cy.1, 6, .inl (fun _ => 0))) :: (q12, .inl (cy.1, 6, .inl (fun _ => 0))) :: (q11, .inl (cy.1, 6, .inl (fun _ => 0))) :: (q10, .inl (cy.1, 1890, .inl (fun _ => 0))) :: (q9, .inl (cy.2.1, 2, .inl (fun _ => 0))) :: (q8, .inl (cy.1, 378, .inl (fun _ => 0))) :: (q7, .inl (cy.1, 189, .inl (fun _ => 0))) :: (q6, .inl (cy.1, 48, .inl (fun _ => 0))) :: (q5, .inl (cy.1, 36, .inl (fun _ => 0))) :: (q4, .inl (cy.1, 8, .inl (fun _ => 0))) :: (q3, .inl (cy.1, 12, .inl (fun _ => 0))) :: (q2, .inl (cy.1, 12, .inl (fun _ => 0))) :: (q1, .inl (cy.1, 200, .inl (fun _ => 0))) :: (a, .inr (8, [vi (0), vl (0), .ref q1, vi (0), vi (0), vi (0), vi (0), vi (0), vi (0), .ref q2, .ref q3, .ref q4, .ref q5, vi (0), vi (0), vi (0), vi (0), .ref q6, .ref q7, .ref q8, .ref q9, .ref q10, vi (0), .ref q11, .ref q12, vi (0), .ref q13, .ref q14, .ref q15, .null])) :: r cy) (fun _ => rfl) ?_
  refine k_aload dX8_init_127 rfl ?_
  refine k_bipush dX8_init_128 (by decide) ?_
  refine k_newi (N := 6) dX8_init_130 (by decide) (by decide) (by decide) (Nat.le_of_ble_eq_true rfl) (Nat.le_of_ble_eq_true rfl) (fun q16 => ?_)
  refine k_putF (q0 := 16) dX8_init_132 fg_X8_56 kf_X8_56 ftf_8_29 rfl (fun _ => rfl) rfl rfl (Nat.le_of_ble_eq_true rfl) ?_
  refine k_world (w' := fun cy => (q16, .inl (cy.1, 6, .inl (fun _ => 0))) :: (q15, .inl (cy.1, 6, .inl (fun _ => 0))) :: (q14, .inl (cy.1, 6, .inl (fun _ => 0))) :: (q13, .inl (cy.1, 6, .inl (fun _ => 0))) :: (q12, .inl (cy.1, 6, .inl (fun _ => 0))) :: (q11, .inl (cy.1, 6, .inl (fun _ => 0))) :: (q10, .inl (cy.1, 1890, .inl (fun _ => 0))) :: (q9, .inl (cy.2.1, 2, .inl (fun _ => 0))) :: (q8, .inl (cy.1, 378, .inl (fun _ => 0))) :: (q7, .inl (cy.1, 189, .inl (fun _ => 0))) :: (q6, .inl (cy.1, 48, .inl (fun _ => 0))) :: (q5, .inl (cy.1, 36, .inl (fun _ => 0))) :: (q4, .inl (cy.1, 8, .inl (fun _ => 0))) :: (q3, .inl (cy.1, 12, .inl (fun _ => 0))) :: (q2, .inl (cy.1, 12, .inl (fun _ => 0))) :: (q1, .inl (cy.1, 200, .inl (fun _ => 0))) :: (a, .inr (8, [vi (0), vl (0), .ref q1, vi (0), vi (0), vi (0), vi (0), vi (0), vi (0), .ref q2, .ref q3, .ref q4, .ref q5, vi (0), vi (0), vi (0), vi (0), .ref q6, .ref q7, .ref q8, .ref q9, .ref q10, vi (0), .ref q11, .ref q12, vi (0), .ref q13, .ref q14, .ref q15, .ref q16])) :: r cy) (fun _ => rfl) ?_
  refine k_aload dX8_init_135 rfl ?_
  refine k_iconst dX8_init_136 ?_
  refine k_put (q0 := 16) dX8_init_137 fg_X8_59 ft_8_13 (fun _ => rfl) rfl rfl (Nat.le_of_ble_eq_true rfl) ?_
  refine k_world (w' := fun cy => (q16, .inl (cy.1, 6, .inl (fun _ => 0))) :: (q15, .inl (cy.1, 6, .inl (fun _ => 0))) :: (q14, .inl (cy.1, 6, .inl (fun _ => 0))) :: (q13, .inl (cy.1, 6, .inl (fun _ => 0))) :: (q12, .inl (cy.1, 6, .inl (fun _ => 0))) :: (q11, .inl (cy.1, 6, .inl (fun _ => 0))) :: (q10, .inl (cy.1, 1890, .inl (fun _ => 0))) :: (q9, .inl (cy.2.1, 2, .inl (fun _ => 0))) :: (q8, .inl (cy.1, 378, .inl (fun _ => 0))) :: (q7, .inl (cy.1, 189, .inl (fun _ => 0))) :: (q6, .inl (cy.1, 48, .inl (fun _ => 0))) :: (q5, .inl (cy.1, 36, .inl (fun _ => 0))) :: (q4, .inl (cy.1, 8, .inl (fun _ => 0))) :: (q3, .inl (cy.1, 12, .inl (fun _ => 0))) :: (q2, .inl (cy.1, 12, .inl (fun _ => 0))) :: (q1, .inl (cy.1, 200, .inl (fun _ => 0))) :: (a, .inr (8, [vi (0), vl (0), .ref q1, vi (0), vi (0), vi (0), vi (0), vi (0), vi (0), .ref q2, .ref q3, .ref q4, .ref q5, vi (3), vi (0), vi (0), vi (0), .ref q6, .ref q7, .ref q8, .ref q9, .ref q10, vi (0), .ref q11, .ref q12, vi (0), .ref q13, .ref q14, .ref q15, .ref q16])) :: r cy) (fun _ => rfl) ?_
  refine k_iconst dX8_init_140 ?_
  refine k_istore (L' := [(0, .ref a), (1, vi (0))]) dX8_init_141 (Nat.le_of_ble_eq_true rfl) rfl ?_
  refine k_iload dX8_init_142 rfl ?_
  refine k_bipush dX8_init_143 (by decide) ?_
  refine k_geF (tgt := 169) dX8_init_145 (by decide) (by decide) ?_
  refine k_aload dX8_init_148 rfl ?_
  refine k_get (q0 := 16) (v := .ref q2) dX8_init_149 fg_X8_13 (fun _ => rfl) rfl ?_
  refine k_iload dX8_init_152 rfl ?_
  refine k_iconst dX8_init_153 ?_
  refine k_iast (q0 := 14) dX8_init_154 (fun _ => rfl) (vi_in (by decide) (by decide) (by decide)) ?_
  refine k_world (w' := fun cy => (q16, .inl (cy.1, 6, .inl (fun _ => 0))) :: (q15, .inl (cy.1, 6, .inl (fun _ => 0))) :: (q14, .inl (cy.1, 6, .inl (fun _ => 0))) :: (q13, .inl (cy.1, 6, .inl (fun _ => 0))) :: (q12, .inl (cy.1, 6, .inl (fun _ => 0))) :: (q11, .inl (cy.1, 6, .inl (fun _ => 0))) :: (q10, .inl (cy.1, 1890, .inl (fun _ => 0))) :: (q9, .inl (cy.2.1, 2, .inl (fun _ => 0))) :: (q8, .inl (cy.1, 378, .inl (fun _ => 0))) :: (q7, .inl (cy.1, 189, .inl (fun _ => 0))) :: (q6, .inl (cy.1, 48, .inl (fun _ => 0))) :: (q5, .inl (cy.1, 36, .inl (fun _ => 0))) :: (q4, .inl (cy.1, 8, .inl (fun _ => 0))) :: (q3, .inl (cy.1, 12, .inl (fun _ => 0))) :: (q2, .inl (cy.1, 12, .inl (upd (fun _ => 0) 0 (Int32.ofInt 1)))) :: (q1, .inl (cy.1, 200, .inl (fun _ => 0))) :: (a, .inr (8, [vi (0), vl (0), .ref q1, vi (0), vi (0), vi (0), vi (0), vi (0), vi (0), .ref q2, .ref q3, .ref q4, .ref q5, vi (3), vi (0), vi (0), vi (0), .ref q6, .ref q7, .ref q8, .ref q9, .ref q10, vi (0), .ref q11, .ref q12, vi (0), .ref q13, .ref q14, .ref q15, .ref q16])) :: r cy) (fun _ => rfl) ?_
  refine k_aload dX8_init_155 rfl ?_
  refine k_get (q0 := 16) (v := .ref q3) dX8_init_156 fg_X8_16 (fun _ => rfl) rfl ?_
  refine k_iload dX8_init_159 rfl ?_
  refine k_bipush dX8_init_160 (by decide) ?_
  refine k_iast (q0 := 13) dX8_init_162 (fun _ => rfl) (vi_in (by decide) (by decide) (by decide)) ?_
  refine k_world (w' := fun cy => (q16, .inl (cy.1, 6, .inl (fun _ => 0))) :: (q15, .inl (cy.1, 6, .inl (fun _ => 0))) :: (q14, .inl (cy.1, 6, .inl (fun _ => 0))) :: (q13, .inl (cy.1, 6, .inl (fun _ => 0))) :: (q12, .inl (cy.1, 6, .inl (fun _ => 0))) :: (q11, .inl (cy.1, 6, .inl (fun _ => 0))) :: (q10, .inl (cy.1, 1890, .inl (fun _ => 0))) :: (q9, .inl (cy.2.1, 2, .inl (fun _ => 0))) :: (q8, .inl (cy.1, 378, .inl (fun _ => 0))) :: (q7, .inl (cy.1, 189, .inl (fun _ => 0))) :: (q6, .inl (cy.1, 48, .inl (fun _ => 0))) :: (q5, .inl (cy.1, 36, .inl (fun _ => 0))) :: (q4, .inl (cy.1, 8, .inl (fun _ => 0))) :: (q3, .inl (cy.1, 12, .inl (upd (fun _ => 0) 0 (Int32.ofInt 9)))) :: (q2, .inl (cy.1, 12, .inl (upd (fun _ => 0) 0 (Int32.ofInt 1)))) :: (q1, .inl (cy.1, 200, .inl (fun _ => 0))) :: (a, .inr (8, [vi (0), vl (0), .ref q1, vi (0), vi (0), vi (0), vi (0), vi (0), vi (0), .ref q2, .ref q3, .ref q4, .ref q5, vi (3), vi (0), vi (0), vi (0), .ref q6, .ref q7, .ref q8, .ref q9, .ref q10, vi (0), .ref q11, .ref q12, vi (0), .ref q13, .ref q14, .ref q15, .ref q16])) :: r cy) (fun _ => rfl) ?_
  refine k_iinc (L' := [(0, .ref a), (1, vi (0 + 1))]) dX8_init_163 (Nat.le_of_ble_eq_true rfl) rfl rfl ?_
  refine k_goto (tgt := 142) dX8_init_166 (by decide) ?_
  refine k_iload dX8_init_142 rfl ?_
  refine k_bipush dX8_init_143 (by decide) ?_
  refine k_geF (tgt := 169) dX8_init_145 (by decide) (by decide) ?_
  refine k_aload dX8_init_148 rfl ?_
  refine k_get (q0 := 16) (v := .ref q2) dX8_init_149 fg_X8_13 (fun _ => rfl) rfl ?_
  refine k_iload dX8_init_152 rfl ?_
  refine k_iconst dX8_init_153 ?_
  refine k_iast (q0 := 14) dX8_init_154 (fun _ => rfl) (vi_in (by decide) (by decide) (by decide)) ?_
  refine k_world (w' := fun cy => (q16, .inl (cy.1, 6, .inl (fun _ => 0))) :: (q15, .inl (cy.1, 6, .inl (fun _ => 0))) :: (q14, .inl (cy.1, 6, .inl (fun _ => 0))) :: (q13, .inl (cy.1, 6, .inl (fun _ => 0))) :: (q12, .inl (cy.1, 6, .inl (fun _ => 0))) :: (q11, .inl (cy.1, 6, .inl (fun _ => 0))) :: (q10, .inl (cy.1, 1890, .inl (fun _ => 0))) :: (q9, .inl (cy.2.1, 2, .inl (fun _ => 0))) :: (q8, .inl (cy.1, 378, .inl (fun _ => 0))) :: (q7, .inl (cy.1, 189, .inl (fun _ => 0))) :: (q6, .inl (cy.1, 48, .inl (fun _ => 0))) :: (q5, .inl (cy.1, 36, .inl (fun _ => 0))) :: (q4, .inl (cy.1, 8, .inl (fun _ => 0))) :: (q3, .inl (cy.1, 12, .inl (upd (fun _ => 0) 0 (Int32.ofInt 9)))) :: (q2, .inl (cy.1, 12, .inl (upd (upd (fun _ => 0) 0 (Int32.ofInt 1)) 1 (Int32.ofInt 1)))) :: (q1, .inl (cy.1, 200, .inl (fun _ => 0))) :: (a, .inr (8, [vi (0), vl (0), .ref q1, vi (0), vi (0), vi (0), vi (0), vi (0), vi (0), .ref q2, .ref q3, .ref q4, .ref q5, vi (3), vi (0), vi (0), vi (0), .ref q6, .ref q7, .ref q8, .ref q9, .ref q10, vi (0), .ref q11, .ref q12, vi (0), .ref q13, .ref q14, .ref q15, .ref q16])) :: r cy) (fun _ => rfl) ?_
  refine k_aload dX8_init_155 rfl ?_
  refine k_get (q0 := 16) (v := .ref q3) dX8_init_156 fg_X8_16 (fun _ => rfl) rfl ?_
  refine k_iload dX8_init_159 rfl ?_
  refine k_bipush dX8_init_160 (by decide) ?_
  refine k_iast (q0 := 13) dX8_init_162 (fun _ => rfl) (vi_in (by decide) (by decide) (by decide)) ?_
  refine k_world (w' := fun cy => (q16, .inl (cy.1, 6, .inl (fun _ => 0))) :: (q15, .inl (cy.1, 6, .inl (fun _ => 0))) :: (q14, .inl (cy.1, 6, .inl (fun _ => 0))) :: (q13, .inl (cy.1, 6, .inl (fun _ => 0))) :: (q12, .inl (cy.1, 6, .inl (fun _ => 0))) :: (q11, .inl (cy.1, 6, .inl (fun _ => 0))) :: (q10, .inl (cy.1, 1890, .inl (fun _ => 0))) :: (q9, .inl (cy.2.1, 2, .inl (fun _ => 0))) :: (q8, .inl (cy.1, 378, .inl (fun _ => 0))) :: (q7, .inl (cy.1, 189, .inl (fun _ => 0))) :: (q6, .inl (cy.1, 48, .inl (fun _ => 0))) :: (q5, .inl (cy.1, 36, .inl (fun _ => 0))) :: (q4, .inl (cy.1, 8, .inl (fun _ => 0))) :: (q3, .inl (cy.1, 12, .inl (upd (upd (fun _ => 0) 0 (Int32.ofInt 9)) 1 (Int32.ofInt 9)))) :: (q2, .inl (cy.1, 12, .inl (upd (upd (fun _ => 0) 0 (Int32.ofInt 1)) 1 (Int32.ofInt 1)))) :: (q1, .inl (cy.1, 200, .inl (fun _ => 0))) :: (a, .inr (8, [vi (0), vl (0), .ref q1, vi (0), vi (0), vi (0), vi (0), vi (0), vi (0), .ref q2, .ref q3, .ref q4, .ref q5, vi (3), vi (0), vi (0), vi (0), .ref q6, .ref q7, .ref q8, .ref q9, .ref q10, vi (0), .ref q11, .ref q12, vi (0), .ref q13, .ref q14, .ref q15, .ref q16])) :: r cy) (fun _ => rfl) ?_
  refine k_iinc (L' := [(0, .ref a), (1, vi ((0 + 1) + 1))]) dX8_init_163 (Nat.le_of_ble_eq_true rfl) rfl rfl ?_
  refine k_goto (tgt := 142) dX8_init_166 (by decide) ?_
  refine k_iload dX8_init_142 rfl ?_
  refine k_bipush dX8_init_143 (by decide) ?_
  refine k_geF (tgt := 169) dX8_init_145 (by decide) (by decide) ?_
  refine k_aload dX8_init_148 rfl ?_
  refine k_get (q0 := 16) (v := .ref q2) dX8_init_149 fg_X8_13 (fun _ => rfl) rfl ?_
  refine k_iload dX8_init_152 rfl ?_
  refine k_iconst dX8_init_153 ?_
  refine k_iast (q0 := 14) dX8_init_154 (fun _ => rfl) (vi_in (by decide) (by decide) (by decide)) ?_
  refine k_world (w' := fun cy => (q16, .inl (cy.1, 6, .inl (fun _ => 0))) :: (q15, .inl (cy.1, 6, .inl (fun _ => 0))) :: (q14, .inl (cy.1, 6, .inl (fun _ => 0))) :: (q13, .inl (cy.1, 6, .inl (fun _ => 0))) :: (q12, .inl (cy.1, 6, .inl (fun _ => 0))) :: (q11, .inl (cy.1, 6, .inl (fun _ => 0))) :: (q10, .inl (cy.1, 1890, .inl (fun _ => 0))) :: (q9, .inl (cy.2.1, 2, .inl (fun _ => 0))) :: (q8, .inl (cy.1, 378, .inl (fun _ => 0))) :: (q7, .inl (cy.1, 189, .inl (fun _ => 0))) :: (q6, .inl (cy.1, 48, .inl (fun _ => 0))) :: (q5, .inl (cy.1, 36, .inl (fun _ => 0))) :: (q4, .inl (cy.1, 8, .inl (fun _ => 0))) :: (q3, .inl (cy.1, 12, .inl (upd (upd (fun _ => 0) 0 (Int32.ofInt 9)) 1 (Int32.ofInt 9)))) :: (q2, .inl (cy.1, 12, .inl (upd (upd (upd (fun _ => 0) 0 (Int32.ofInt 1)) 1 (Int32.ofInt 1)) 2 (Int32.ofInt 1)))) :: (q1, .inl (cy.1, 200, .inl (fun _ => 0))) :: (a, .inr (8, [vi (0), vl (0), .ref q1, vi (0), vi (0), vi (0), vi (0), vi (0), vi (0), .ref q2, .ref q3, .ref q4, .ref q5, vi (3), vi (0), vi (0), vi (0), .ref q6, .ref q7, .ref q8, .ref q9, .ref q10, vi (0), .ref q11, .ref q12, vi (0), .ref q13, .ref q14, .ref q15, .ref q16])) :: r cy) (fun _ => rfl) ?_
  refine k_aload dX8_init_155 rfl ?_
  refine k_get (q0 := 16) (v := .ref q3) dX8_init_156 fg_X8_16 (fun _ => rfl) rfl ?_
  refine k_iload dX8_init_159 rfl ?_
  refine k_bipush dX8_init_160 (by decide) ?_
  refine k_iast (q0 := 13) dX8_init_162 (fun _ => rfl) (vi_in (by decide) (by decide) (by decide)) ?_
  refine k_world (w' := fun cy => (q16, .inl (cy.1, 6, .inl (fun _ => 0))) :: (q15, .inl (cy.1, 6, .inl (fun _ => 0))) :: (q14, .inl (cy.1, 6, .inl (fun _ => 0))) :: (q13, .inl (cy.1, 6, .inl (fun _ => 0))) :: (q12, .inl (cy.1, 6, .inl (fun _ => 0))) :: (q11, .inl (cy.1, 6, .inl (fun _ => 0))) :: (q10, .inl (cy.1, 1890, .inl (fun _ => 0))) :: (q9, .inl (cy.2.1, 2, .inl (fun _ => 0))) :: (q8, .inl (cy.1, 378, .inl (fun _ => 0))) :: (q7, .inl (cy.1, 189, .inl (fun _ => 0))) :: (q6, .inl (cy.1, 48, .inl (fun _ => 0))) :: (q5, .inl (cy.1, 36, .inl (fun _ => 0))) :: (q4, .inl (cy.1, 8, .inl (fun _ => 0))) :: (q3, .inl (cy.1, 12, .inl (upd (upd (upd (fun _ => 0) 0 (Int32.ofInt 9)) 1 (Int32.ofInt 9)) 2 (Int32.ofInt 9)))) :: (q2, .inl (cy.1, 12, .inl (upd (upd (upd (fun _ => 0) 0 (Int32.ofInt 1)) 1 (Int32.ofInt 1)) 2 (Int32.ofInt 1)))) :: (q1, .inl (cy.1, 200, .inl (fun _ => 0))) :: (a, .inr (8, [vi (0), vl (0), .ref q1, vi (0), vi (0), vi (0), vi (0), vi (0), vi (0), .ref q2, .ref q3, .ref q4, .ref q5, vi (3), vi (0), vi (0), vi (0), .ref q6, .ref q7, .ref q8, .ref q9, .ref q10, vi (0), .ref q11, .ref q12, vi (0), .ref q13, .ref q14, .ref q15, .ref q16])) :: r cy) (fun _ => rfl) ?_
  refine k_iinc (L' := [(0, .ref a), (1, vi (((0 + 1) + 1) + 1))]) dX8_init_163 (Nat.le_of_ble_eq_true rfl) rfl rfl ?_
  refine k_goto (tgt := 142) dX8_init_166 (by decide) ?_
  refine k_iload dX8_init_142 rfl ?_
  refine k_bipush dX8_init_143 (by decide) ?_
  refine k_geF (tgt := 169) dX8_init_145 (by decide) (by decide) ?_
  refine k_aload dX8_init_148 rfl ?_
  refine k_get (q0 := 16) (v := .ref q2) dX8_init_149 fg_X8_13 (fun _ => rfl) rfl ?_
  refine k_iload dX8_init_152 rfl ?_
  refine k_iconst dX8_init_153 ?_
  refine k_iast (q0 := 14) dX8_init_154 (fun _ => rfl) (vi_in (by decide) (by decide) (by decide)) ?_
  refine k_world (w' := fun cy => (q16, .inl (cy.1, 6, .inl (fun _ => 0))) :: (q15, .inl (cy.1, 6, .inl (fun _ => 0))) :: (q14, .inl (cy.1, 6, .inl (fun _ => 0))) :: (q13, .inl (cy.1, 6, .inl (fun _ => 0))) :: (q12, .inl (cy.1, 6, .inl (fun _ => 0))) :: (q11, .inl (cy.1, 6, .inl (fun _ => 0))) :: (q10, .inl (cy.1, 1890, .inl (fun _ => 0))) :: (q9, .inl (cy.2.1, 2, .inl (fun _ => 0))) :: (q8, .inl (cy.1, 378, .inl (fun _ => 0))) :: (q7, .inl (cy.1, 189, .inl (fun _ => 0))) :: (q6, .inl (cy.1, 48, .inl (fun _ => 0))) :: (q5, .inl (cy.1, 36, .inl (fun _ => 0))) :: (q4, .inl (cy.1, 8, .inl (fun _ => 0))) :: (q3, .inl (cy.1, 12, .inl (upd (upd (upd (fun _ => 0) 0 (Int32.ofInt 9)) 1 (Int32.ofInt 9)) 2 (Int32.ofInt 9)))) :: (q2, .inl (cy.1, 12, .inl (upd (upd (upd (upd (fun _ => 0) 0 (Int32.ofInt 1)) 1 (Int32.ofInt 1)) 2 (Int32.ofInt 1)) 3 (Int32.ofInt 1)))) :: (q1, .inl (cy.1, 200, .inl (fun _ => 0))) :: (a, .inr (8, [vi (0), vl (0), .ref q1, vi (0), vi (0), vi (0), vi (0), vi (0), vi (0), .ref q2, .ref q3, .ref q4, .ref q5, vi (3), vi (0), vi (0), vi (0), .ref q6, .ref q7, .ref q8, .ref q9, .ref q10, vi (0), .ref q11, .ref q12, vi (0), .ref q13, .ref q14, .ref q15, .ref q16])) :: r cy) (fun _ => rfl) ?_
  refine k_aload dX8_init_155 rfl ?_
  refine k_get (q0 := 16) (v := .ref q3) dX8_init_156 fg_X8_16 (fun _ => rfl) rfl ?_
  refine k_iload dX8_init_159 rfl ?_
  refine k_bipush dX8_init_160 (by decide) ?_
  refine k_iast (q0 := 13) dX8_init_162 (fun _ => rfl) (vi_in (by decide) (by decide) (by decide)) ?_
  refine k_world (w' := fun cy => (q16, .inl (cy.1, 6, .inl (fun _ => 0))) :: (q15, .inl (cy.1, 6, .inl (fun _ => 0))) :: (q14, .inl (cy.1, 6, .inl (fun _ => 0))) :: (q13, .inl (cy.1, 6, .inl (fun _ => 0))) :: (q12, .inl (cy.1, 6, .inl (fun _ => 0))) :: (q11, .inl (cy.1, 6, .inl (fun _ => 0))) :: (q10, .inl (cy.1, 1890, .inl (fun _ => 0))) :: (q9, .inl (cy.2.1, 2, .inl (fun _ => 0))) :: (q8, .inl (cy.1, 378, .inl (fun _ => 0))) :: (q7, .inl (cy.1, 189, .inl (fun _ => 0))) :: (q6, .inl (cy.1, 48, .inl (fun _ => 0))) :: (q5, .inl (cy.1, 36, .inl (fun _ => 0))) :: (q4, .inl (cy.1, 8, .inl (fun _ => 0))) :: (q3, .inl (cy.1, 12, .inl (upd (upd (upd (upd (fun _ => 0) 0 (Int32.ofInt 9)) 1 (Int32.ofInt 9)) 2 (Int32.ofInt 9)) 3 (Int32.ofInt 9)))) :: (q2, .inl (cy.1, 12, .inl (upd (upd (upd (upd (fun _ => 0) 0 (Int32.ofInt 1)) 1 (Int32.ofInt 1)) 2 (Int32.ofInt 1)) 3 (Int32.ofInt 1)))) :: (q1, .inl (cy.1, 200, .inl (fun _ => 0))) :: (a, .inr (8, [vi (0), vl (0), .ref q1, vi (0), vi (0), vi (0), vi (0), vi (0), vi (0), .ref q2, .ref q3, .ref q4, .ref q5, vi (3), vi (0), vi (0), vi (0), .ref q6, .ref q7, .ref q8, .ref q9, .ref q10, vi (0), .ref q11, .ref q12, vi (0), .ref q13, .ref q14, .ref q15, .ref q16])) :: r cy) (fun _ => rfl) ?_
  refine k_iinc (L' := [(0, .ref a), (1, vi ((((0 + 1) + 1) + 1) + 1))]) dX8_init_163 (Nat.le_of_ble_eq_true rfl) rfl rfl ?_
  refine k_goto (tgt := 142) dX8_init_166 (by decide) ?_
  refine k_iload dX8_init_142 rfl ?_
  refine k_bipush dX8_init_143 (by decide) ?_
  refine k_geF (tgt := 169) dX8_init_145 (by decide) (by decide) ?_
  refine k_aload dX8_init_148 rfl ?_
  refine k_get (q0 := 16) (v := .ref q2) dX8_init_149 fg_X8_13 (fun _ => rfl) rfl ?_
  refine k_iload dX8_init_152 rfl ?_
  refine k_iconst dX8_init_153 ?_
  refine k_iast (q0 := 14) dX8_init_154 (fun _ => rfl) (vi_in (by decide) (by decide) (by decide)) ?_
  refine k_world (w' := fun cy => (q16, .inl (cy.1, 6, .inl (fun _ => 0))) :: (q15, .inl (cy.1, 6, .inl (fun _ => 0))) :: (q14, .inl (cy.1, 6, .inl (fun _ => 0))) :: (q13, .inl (cy.1, 6, .inl (fun _ => 0))) :: (q12, .inl (cy.1, 6, .inl (fun _ => 0))) :: (q11, .inl (cy.1, 6, .inl (fun _ => 0))) :: (q10, .inl (cy.1, 1890, .inl (fun _ => 0))) :: (q9, .inl (cy.2.1, 2, .inl (fun _ => 0))) :: (q8, .inl (cy.1, 378, .inl (fun _ => 0))) :: (q7, .inl (cy.1, 189, .inl (fun _ => 0))) :: (q6, .inl (cy.1, 48, .inl (fun _ => 0))) :: (q5, .inl (cy.1, 36, .inl (fun _ => 0))) :: (q4, .inl (cy.1, 8, .inl (fun _ => 0))) :: (q3, .inl (cy.1, 12, .inl (upd (upd (upd (upd (fun _ => 0) 0 (Int32.ofInt 9)) 1 (Int32.ofInt 9)) 2 (Int32.ofInt 9)) 3 (Int32.ofInt 9)))) :: (q2, .inl (cy.1, 12, .inl (upd (upd (upd (upd (upd (fun _ => 0) 0 (Int32.ofInt 1)) 1 (Int32.ofInt 1)) 2 (Int32.ofInt 1)) 3 (Int32.ofInt 1)) 4 (Int32.ofInt 1)))) :: (q1, .inl (cy.1, 200, .inl (fun _ => 0))) :: (a, .inr (8, [vi (0), vl (0), .ref q1, vi (0), vi (0), vi (0), vi (0), vi (0), vi (0), .ref q2, .ref q3, .ref q4, .ref q5, vi (3), vi (0), vi (0), vi (0), .ref q6, .ref q7, .ref q8, .ref q9, .ref q10, vi (0), .ref q11, .ref q12, vi (0), .ref q13, .ref q14, .ref q15, .ref q16])) :: r cy) (fun _ => rfl) ?_
  refine k_aload dX8_init_155 rfl ?_
  refine k_get (q0 := 16) (v := .ref q3) dX8_init_156 fg_X8_16 (fun _ => rfl) rfl ?_
  refine k_iload dX8_init_159 rfl ?_
  refine k_bipush dX8_init_160 (by decide) ?_
  refine k_iast (q0 := 13) dX8_init_162 (fun _ => rfl) (vi_in (by decide) (by decide) (by decide)) ?_
  refine k_world (w' := fun cy => (q16, .inl (cy.1, 6, .inl (fun _ => 0))) :: (q15, .inl (cy.1, 6, .inl (fun _ => 0))) :: (q14, .inl (cy.1, 6, .inl (fun _ => 0))) :: (q13, .inl (cy.1, 6, .inl (fun _ => 0))) :: (q12, .inl (cy.1, 6, .inl (fun _ => 0))) :: (q11, .inl (cy.1, 6, .inl (fun _ => 0))) :: (q10, .inl (cy.1, 1890, .inl (fun _ => 0))) :: (q9, .inl (cy.2.1, 2, .inl (fun _ => 0))) :: (q8, .inl (cy.1, 378, .inl (fun _ => 0))) :: (q7, .inl (cy.1, 189, .inl (fun _ => 0))) :: (q6, .inl (cy.1, 48, .inl (fun _ => 0))) :: (q5, .inl (cy.1, 36, .inl (fun _ => 0))) :: (q4, .inl (cy.1, 8, .inl (fun _ => 0))) :: (q3, .inl (cy.1, 12, .inl (upd (upd (upd (upd (upd (fun _ => 0) 0 (Int32.ofInt 9)) 1 (Int32.ofInt 9)) 2 (Int32.ofInt 9)) 3 (Int32.ofInt 9)) 4 (Int32.ofInt 9)))) :: (q2, .inl (cy.1, 12, .inl (upd (upd (upd (upd (upd (fun _ => 0) 0 (Int32.ofInt 1)) 1 (Int32.ofInt 1)) 2 (Int32.ofInt 1)) 3 (Int32.ofInt 1)) 4 (Int32.ofInt 1)))) :: (q1, .inl (cy.1, 200, .inl (fun _ => 0))) :: (a, .inr (8, [vi (0), vl (0), .ref q1, vi (0), vi (0), vi (0), vi (0), vi (0), vi (0), .ref q2, .ref q3, .ref q4, .ref q5, vi (3), vi (0), vi (0), vi (0), .ref q6, .ref q7, .ref q8, .ref q9, .ref q10, vi (0), .ref q11, .ref q12, vi (0), .ref q13, .ref q14, .ref q15, .ref q16])) :: r cy) (fun _ => rfl) ?_
  refine k_iinc (L' := [(0, .ref a), (1, vi (((((0 + 1) + 1) + 1) + 1) + 1))]) dX8_init_163 (Nat.le_of_ble_eq_true rfl) rfl rfl ?_
  refine k_goto (tgt := 142) dX8_init_166 (by decide) ?_
  refine k_iload dX8_init_142 rfl ?_
  refine k_bipush dX8_init_143 (by decide) ?_
  refine k_geF (tgt := 169) dX8_init_145 (by decide) (by decide) ?_
  refine k_aload dX8_init_148 rfl ?_
  refine k_get (q0 := 16) (v := .ref q2) dX8_init_149 fg_X8_13 (fun _ => rfl) rfl ?_
  refine k_iload dX8_init_152 rfl ?_
  refine k_iconst dX8_init_153 ?_
  refine k_iast (q0 := 14) dX8_init_154 (fun _ => rfl) (vi_in (by decide) (by decide) (by decide)) ?_
  refine k_world (w' := fun cy => (q16, .inl (cy.1, 6, .inl (fun _ => 0))) :: (q15, .inl (cy.1, 6, .inl (fun _ => 0))) :: (q14, .inl (cy.1, 6, .inl (fun _ => 0))) :: (q13, .inl (cy.1, 6, .inl (fun _ => 0))) :: (q12, .inl (cy.1, 6, .inl (fun _ => 0))) :: (q11, .inl (cy.1, 6, .inl (fun _ => 0))) :: (q10, .inl (cy.1, 1890, .inl (fun _ => 0))) :: (q9, .inl (cy.2.1, 2, .inl (fun _ => 0))) :: (q8, .inl (cy.1, 378, .inl (fun _ => 0))) :: (q7, .inl (cy.1, 189, .inl (fun _ => 0))) :: (q6, .inl (cy.1, 48, .inl (fun _ => 0))) :: (q5, .inl (cy.1, 36, .inl (fun _ => 0))) :: (q4, .inl (cy.1, 8, .inl (fun _ => 0))) :: (q3, .inl (cy.1, 12, .inl (upd (upd (upd (upd (upd (fun _ => 0) 0 (Int32.ofInt 9)) 1 (Int32.ofInt 9)) 2 (Int32.ofInt 9)) 3 (Int32.ofInt 9)) 4 (Int32.ofInt 9)))) :: (q2, .inl (cy.1, 12, .inl (upd (upd (upd (upd (upd (upd (fun _ => 0) 0 (Int32.ofInt 1)) 1 (Int32.ofInt 1)) 2 (Int32.ofInt 1)) 3 (Int32.ofInt 1)) 4 (Int32.ofInt 1)) 5 (Int32.ofInt 1)))) :: (q1, .inl (cy.1, 200, .inl (fun _ => 0))) :: (a, .inr (8, [vi (0), vl (0), .ref q1, vi (0), vi (0), vi (0), vi (0), vi (0), vi (0), .ref q2, .ref q3, .ref q4, .ref q5, vi (3), vi (0), vi (0), vi (0), .ref q6, .ref q7, .ref q8, .ref q9, .ref q10, vi (0), .ref q11, .ref q12, vi (0), .ref q13, .ref q14, .ref q15, .ref q16])) :: r cy) (fun _ => rfl) ?_
  refine k_aload dX8_init_155 rfl ?_
  refine k_get (q0 := 16) (v := .ref q3) dX8_init_156 fg_X8_16 (fun _ => rfl) rfl ?_
  refine k_iload dX8_init_159 rfl ?_
  refine k_bipush dX8_init_160 (by decide) ?_
  refine k_iast (q0 := 13) dX8_init_162 (fun _ => rfl) (vi_in (by decide) (by decide) (by decide)) ?_
  refine k_world (w' := fun cy => (q16, .inl (cy.1, 6, .inl (fun _ => 0))) :: (q15, .inl (cy.1, 6, .inl (fun _ => 0))) :: (q14, .inl (cy.1, 6, .inl (fun _ => 0))) :: (q13, .inl (cy.1, 6, .inl (fun _ => 0))) :: (q12, .inl (cy.1, 6, .inl (fun _ => 0))) :: (q11, .inl (cy.1, 6, .inl (fun _ => 0))) :: (q10, .inl (cy.1, 1890, .inl (fun _ => 0))) :: (q9, .inl (cy.2.1, 2, .inl (fun _ => 0))) :: (q8, .inl (cy.1, 378, .inl (fun _ => 0))) :: (q7, .inl (cy.1, 189, .inl (fun _ => 0))) :: (q6, .inl (cy.1, 48, .inl (fun _ => 0))) :: (q5, .inl (cy.1, 36, .inl (fun _ => 0))) :: (q4, .inl (cy.1, 8, .inl (fun _ => 0))) :: (q3, .inl (cy.1, 12, .inl (upd (upd (upd (upd (upd (upd (fun _ => 0) 0 (Int32.ofInt 9)) 1 (Int32.ofInt 9)) 2 (Int32.ofInt 9)) 3 (Int32.ofInt 9)) 4 (Int32.ofInt 9)) 5 (Int32.ofInt 9)))) :: (q2, .inl (cy.1, 12, .inl (upd (upd (upd (upd (upd (upd (fun _ => 0) 0 (Int32.ofInt 1)) 1 (Int32.ofInt 1)) 2 (Int32.ofInt 1)) 3 (Int32.ofInt 1)) 4 (Int32.ofInt 1)) 5 (Int32.ofInt 1)))) :: (q1, .inl (cy.1, 200, .inl (fun _ => 0))) :: (a, .inr (8, [vi (0), vl (0), .ref q1, vi (0), vi (0), vi (0), vi (0), vi (0), vi (0), .ref q2, .ref q3, .ref q4, .ref q5, vi (3), vi (0), vi (0), vi (0), .ref q6, .ref q7, .ref q8, .ref q9, .ref q10, vi (0), .ref q11, .ref q12, vi (0), .ref q13, .ref q14, .ref q15, .ref q16])) :: r cy) (fun _ => rfl) ?_
  refine k_iinc (L' := [(0, .ref a), (1, vi ((((((0 + 1) + 1) + 1) + 1) + 1) + 1))]) dX8_init_163 (Nat.le_of_ble_eq_true rfl) rfl rfl ?_
  refine k_goto (tgt := 142) dX8_init_166 (by decide) ?_
  refine k_iload dX8_init_142 rfl ?_
  refine k_bipush dX8_init_143 (by decide) ?_
  refine k_geT (tgt := 169) dX8_init_145 (by decide) (by decide) ?_
  refine k_world (w' := fun cy => (q16, .inl (cy.1, 6, .inl (fun _ => 0))) :: (q15, .inl (cy.1, 6, .inl (fun _ => 0))) :: (q14, .inl (cy.1, 6, .inl (fun _ => 0))) :: (q13, .inl (cy.1, 6, .inl (fun _ => 0))) :: (q12, .inl (cy.1, 6, .inl (fun _ => 0))) :: (q11, .inl (cy.1, 6, .inl (fun _ => 0))) :: (q10, .inl (cy.1, 1890, .inl (fun _ => 0))) :: (q9, .inl (cy.2.1, 2, .inl (fun _ => 0))) :: (q8, .inl (cy.1, 378, .inl (fun _ => 0))) :: (q7, .inl (cy.1, 189, .inl (fun _ => 0))) :: (q6, .inl (cy.1, 48, .inl (fun _ => 0))) :: (q5, .inl (cy.1, 36, .inl (fun _ => 0))) :: (q4, .inl (cy.1, 8, .inl (fun _ => 0))) :: (q3, .inl (cy.1, 12, .inl (upd (upd (upd (upd (upd (upd (fun _ => 0) 0 (Int32.ofInt 9)) 1 (Int32.ofInt 9)) 2 (Int32.ofInt 9)) 3 (Int32.ofInt 9)) 4 (Int32.ofInt 9)) 5 (Int32.ofInt 9)))) :: (q2, .inl (cy.1, 12, .inl (upd (upd (upd (upd (upd (upd (fun _ => 0) 0 (Int32.ofInt 1)) 1 (Int32.ofInt 1)) 2 (Int32.ofInt 1)) 3 (Int32.ofInt 1)) 4 (Int32.ofInt 1)) 5 (Int32.ofInt 1)))) :: (q1, .inl (cy.1, 200, .inl (fun _ => 0))) :: (a, .inr (8, [vi (0), vl (0), .ref q1, vi (0), vi (0), vi (0), vi (0), vi (0), vi (0), .ref q2, .ref q3, .ref q4, .ref q5, vi (3), vi (0), vi (0), vi (0), .ref q6, .ref q7, .ref q8, .ref q9, .ref q10, vi (0), .ref q11, .ref q12, vi (0), .ref q13, .ref q14, .ref q15, .ref q16])) :: r cy) (fun _ => rfl) ?_
  exact k_ret dX8_init_169 rfl rfl ⟨q1, q2, q3, q4, q5, q6, q7, q8, q9, q10, q11, q12, q13, q14, q15, q16, (by rw [upd6 (Int32.ofInt 1) 1 rfl, upd6 (Int32.ofInt 9) 9 rfl]; rfl)⟩
