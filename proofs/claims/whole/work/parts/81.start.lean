theorem kl_L_7 : (Cond.classLink RL 7 RX7) ∈ lw_good := (mg (w := .classLink RL 7 RX7) 13 (by decide +kernel) (by decide +kernel))
theorem ml_L_9 : MLk RL 9 yX7_init := Or.inl (mg (w := .methodLink RL 9 yX7_init) 15 (by decide +kernel) (by decide +kernel))
theorem ki_X7_init : (Cond.instanceMethod yX7_init) ∈ lw_good := (mg (w := .instanceMethod yX7_init) 16 (by decide +kernel) (by decide +kernel))
theorem kl_L_10 : (Cond.classLink RL 10 RX8) ∈ lw_good := (mg (w := .classLink RL 10 RX8) 751 (by decide +kernel) (by decide +kernel))
theorem ml_L_12 : MLk RL 12 yX8_init := Or.inl (mg (w := .methodLink RL 12 yX8_init) 753 (by decide +kernel) (by decide +kernel))
theorem ki_X8_init : (Cond.instanceMethod yX8_init) ∈ lw_good := (mg (w := .instanceMethod yX8_init) 754 (by decide +kernel) (by decide +kernel))
set_option maxRecDepth 100000 in
set_option maxHeartbeats 40000000 in
theorem law_start {n b : Nat} {xs : Nat → Int32} (hn : n ≤ 320) : KJ mL_law (LXK b n xs) 135 6362 0 [(0, .ref b)] [] (fun _ => []) 0 0 := by
  refine k_new (ci := 7) (N := 14) (C := RX7) (fs := dfX7) dL_law_0 kl_L_7 nw_X7 ⟨_, _, rfl⟩ (Nat.le_of_ble_eq_true rfl) (Nat.le_of_ble_eq_true rfl) (fun q1 => ?_)
  refine k_dup dL_law_3 rfl ?_
  refine k_callI (As := []) (rest := [.ref q1]) (k_X7_init q1 _) cm_X7_init ki_X7_init rfl rfl ml_L_9 rfl (Nat.le_of_ble_eq_true rfl) (Nat.le_of_ble_eq_true rfl) dL_law_4 (Nat.le_of_ble_eq_true rfl) (Nat.le_of_ble_eq_true rfl) (fun u118 hu118 => ?_)
  obtain ⟨q2, hu118⟩ := hu118
  obtain ⟨q3, hu118⟩ := hu118
  obtain ⟨q4, hu118⟩ := hu118
  obtain ⟨q5, hu118⟩ := hu118
  obtain ⟨q6, hu118⟩ := hu118
  obtain ⟨q7, hu118⟩ := hu118
  obtain ⟨q8, hu118⟩ := hu118
  obtain ⟨q9, hu118⟩ := hu118
  obtain ⟨q10, hu118⟩ := hu118
  obtain ⟨q11, hu118⟩ := hu118
  obtain ⟨q12, hu118⟩ := hu118
  obtain ⟨q13, hu118⟩ := hu118
  obtain ⟨q14, hu118⟩ := hu118
  obtain ⟨q15, hu118⟩ := hu118
  obtain ⟨q16, hu118⟩ := hu118
  obtain ⟨q17, hu118⟩ := hu118
  obtain ⟨q18, hu118⟩ := hu118
  obtain ⟨q19, hu118⟩ := hu118
  obtain ⟨q20, hu118⟩ := hu118
  obtain ⟨q21, hu118⟩ := hu118
  obtain ⟨q22, hu118⟩ := hu118
  obtain ⟨q23, hu118⟩ := hu118
  obtain ⟨q24, hu118⟩ := hu118
  obtain ⟨q25, hu118⟩ := hu118
  obtain ⟨q26, hu118⟩ := hu118
  obtain ⟨q27, hu118⟩ := hu118
  obtain ⟨q28, hu118⟩ := hu118
  obtain ⟨q29, hu118⟩ := hu118
  obtain ⟨q30, hu118⟩ := hu118
  obtain ⟨q31, hu118⟩ := hu118
  obtain ⟨q32, hu118⟩ := hu118
  obtain ⟨q33, hu118⟩ := hu118
  obtain ⟨q34, hu118⟩ := hu118
  obtain ⟨q35, hu118⟩ := hu118
  obtain ⟨q36, hu118⟩ := hu118
  obtain ⟨q37, hu118⟩ := hu118
  obtain ⟨q38, hu118⟩ := hu118
  obtain ⟨q39, hu118⟩ := hu118
  obtain ⟨q40, hu118⟩ := hu118
  obtain ⟨q41, hu118⟩ := hu118
  obtain ⟨q42, hu118⟩ := hu118
  obtain ⟨q43, hu118⟩ := hu118
  obtain ⟨q44, hu118⟩ := hu118
  obtain ⟨q45, hu118⟩ := hu118
  obtain ⟨q46, hu118⟩ := hu118
  obtain ⟨q47, hu118⟩ := hu118
  obtain ⟨q48, hu118⟩ := hu118
  obtain ⟨q49, hu118⟩ := hu118
  obtain ⟨q50, hu118⟩ := hu118
  obtain ⟨q51, hu118⟩ := hu118
  obtain ⟨q52, hu118⟩ := hu118
  obtain ⟨q53, hu118⟩ := hu118
  obtain ⟨q54, hu118⟩ := hu118
  obtain ⟨q55, hu118⟩ := hu118
  obtain ⟨q56, hu118⟩ := hu118
  obtain ⟨q57, hu118⟩ := hu118
  obtain ⟨q58, hu118⟩ := hu118
  obtain ⟨q59, hu118⟩ := hu118
  obtain ⟨q60, hu118⟩ := hu118
  obtain ⟨q61, hu118⟩ := hu118
  obtain ⟨q62, hu118⟩ := hu118
  obtain ⟨q63, hu118⟩ := hu118
  obtain ⟨q64, hu118⟩ := hu118
  obtain ⟨q65, hu118⟩ := hu118
  obtain ⟨q66, hu118⟩ := hu118
  obtain ⟨q67, hu118⟩ := hu118
  obtain ⟨q68, hu118⟩ := hu118
  obtain ⟨q69, hu118⟩ := hu118
  obtain ⟨q70, hu118⟩ := hu118
  obtain ⟨q71, hu118⟩ := hu118
  obtain ⟨q72, hu118⟩ := hu118
  obtain ⟨q73, hu118⟩ := hu118
  obtain ⟨q74, hu118⟩ := hu118
  obtain ⟨q75, hu118⟩ := hu118
  obtain ⟨q76, hu118⟩ := hu118
  obtain ⟨q77, hu118⟩ := hu118
  obtain ⟨q78, hu118⟩ := hu118
  obtain ⟨q79, hu118⟩ := hu118
  obtain ⟨q80, hu118⟩ := hu118
  obtain ⟨q81, hu118⟩ := hu118
  obtain ⟨q82, hu118⟩ := hu118
  obtain ⟨q83, hu118⟩ := hu118
  obtain ⟨q84, hu118⟩ := hu118
  obtain ⟨q85, hu118⟩ := hu118
  obtain ⟨q86, hu118⟩ := hu118
  obtain ⟨q87, hu118⟩ := hu118
  obtain ⟨q88, hu118⟩ := hu118
  obtain ⟨q89, hu118⟩ := hu118
  obtain ⟨q90, hu118⟩ := hu118
  obtain ⟨q91, hu118⟩ := hu118
  obtain ⟨q92, hu118⟩ := hu118
  obtain ⟨q93, hu118⟩ := hu118
  obtain ⟨q94, hu118⟩ := hu118
  obtain ⟨q95, hu118⟩ := hu118
  obtain ⟨q96, hu118⟩ := hu118
  obtain ⟨q97, hu118⟩ := hu118
  obtain ⟨q98, hu118⟩ := hu118
  obtain ⟨q99, hu118⟩ := hu118
  obtain ⟨q100, hu118⟩ := hu118
  obtain ⟨q101, hu118⟩ := hu118
  obtain ⟨q102, hu118⟩ := hu118
  obtain ⟨q103, hu118⟩ := hu118
  obtain ⟨q104, hu118⟩ := hu118
  obtain ⟨q105, hu118⟩ := hu118
  obtain ⟨q106, hu118⟩ := hu118
  obtain ⟨q107, hu118⟩ := hu118
  obtain ⟨q108, hu118⟩ := hu118
  obtain ⟨q109, hu118⟩ := hu118
  obtain ⟨q110, hu118⟩ := hu118
  obtain ⟨q111, hu118⟩ := hu118
  obtain ⟨q112, hu118⟩ := hu118
  obtain ⟨q113, hu118⟩ := hu118
  obtain ⟨q114, hu118⟩ := hu118
  obtain ⟨q115, hu118⟩ := hu118
  obtain ⟨q116, hu118⟩ := hu118
  obtain ⟨q117, hu118⟩ := hu118
  obtain ⟨q118, hu118⟩ := hu118
  subst hu118
  refine k_astore (L' := [(0, .ref b), (1, .ref q1)]) dL_law_7 (Nat.le_of_ble_eq_true rfl) rfl ?_
  refine k_new (ci := 8) (N := 30) (C := RX8) (fs := dfX8) dL_law_8 kl_L_10 nw_X8 ⟨_, _, rfl⟩ (Nat.le_of_ble_eq_true rfl) (Nat.le_of_ble_eq_true rfl) (fun q119 => ?_)
  refine k_dup dL_law_11 rfl ?_
  refine k_callI (As := []) (rest := [.ref q119]) (k_X8_init q119 _) cm_X8_init ki_X8_init rfl rfl ml_L_12 rfl (Nat.le_of_ble_eq_true rfl) (Nat.le_of_ble_eq_true rfl) dL_law_12 (Nat.le_of_ble_eq_true rfl) (Nat.le_of_ble_eq_true rfl) (fun u135 hu135 => ?_)
  obtain ⟨q120, hu135⟩ := hu135
  obtain ⟨q121, hu135⟩ := hu135
  obtain ⟨q122, hu135⟩ := hu135
  obtain ⟨q123, hu135⟩ := hu135
  obtain ⟨q124, hu135⟩ := hu135
  obtain ⟨q125, hu135⟩ := hu135
  obtain ⟨q126, hu135⟩ := hu135
  obtain ⟨q127, hu135⟩ := hu135
  obtain ⟨q128, hu135⟩ := hu135
  obtain ⟨q129, hu135⟩ := hu135
  obtain ⟨q130, hu135⟩ := hu135
  obtain ⟨q131, hu135⟩ := hu135
  obtain ⟨q132, hu135⟩ := hu135
  obtain ⟨q133, hu135⟩ := hu135
  obtain ⟨q134, hu135⟩ := hu135
  obtain ⟨q135, hu135⟩ := hu135
  subst hu135
  refine k_astore (L' := [(0, .ref b), (1, .ref q1), (2, .ref q119)]) dL_law_15 (Nat.le_of_ble_eq_true rfl) rfl ?_
  refine k_iconst dL_law_16 ?_
  refine k_istore (L' := [(0, .ref b), (1, .ref q1), (2, .ref q119), (3, vi (0))]) dL_law_17 (Nat.le_of_ble_eq_true rfl) rfl ?_
  exact law_enter q1 q2 q3 q4 q5 q6 q7 q8 q9 q10 q11 q12 q13 q14 q15 q16 q17 q18 q19 q20 q21 q22 q23 q24 q25 q26 q27 q28 q29 q30 q31 q32 q33 q34 q35 q36 q37 q38 q39 q40 q41 q42 q43 q44 q45 q46 q47 q48 q49 q50 q51 q52 q53 q54 q55 q56 q57 q58 q59 q60 q61 q62 q63 q64 q65 q66 q67 q68 q69 q70 q71 q72 q73 q74 q75 q76 q77 q78 q79 q80 q81 q82 q83 q84 q85 q86 q87 q88 q89 q90 q91 q92 q93 q94 q95 q96 q97 q98 q99 q100 q101 q102 q103 q104 q105 q106 q107 q108 q109 q110 q111 q112 q113 q114 q115 q116 q117 q118 q119 q120 q121 q122 q123 q124 q125 q126 q127 q128 q129 q130 q131 q132 q133 q134 q135 hn
