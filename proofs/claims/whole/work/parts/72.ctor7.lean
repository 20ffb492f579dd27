theorem ko_X7 : (Cond.methodLink RX7 1 Lib.objectInit) ∈ lw_good := (mg (w := .methodLink RX7 1 Lib.objectInit) 18 (by decide +kernel) (by decide +kernel))
theorem kl_X7_7 : (Cond.classLink RX7 7 RX5) ∈ lw_good := (mg (w := .classLink RX7 7 RX5) 21 (by decide +kernel) (by decide +kernel))
theorem ml_X7_9 : MLk RX7 9 yX5_init := Or.inr ⟨_, mn (w := .methodLinkNest RX7 9 yX5_init "WhoseShip") 23 (by decide +kernel) (by decide +kernel)⟩
theorem kf_X7_10 : ∃ C T N, vwCl[7]? = some (C, T, N) ∧ C = RX7 ∧ (Cond.fieldLink RX7 10 C (T 0).2.1 (T 0).2.2.1) ∈ lw_good := ⟨_, _, _, rfl, rfl, mg 260 (by decide +kernel) (by decide +kernel)⟩
theorem ftf_7_0 : FTF 7 0 (.object "WhoseShip$Plan") := ⟨_, _, _, rfl, rfl, by decide +kernel⟩
theorem kl_X7_16 : (Cond.classLink RX7 16 RX1) ∈ lw_good := (mg (w := .classLink RX7 16 RX1) 54 (by decide +kernel) (by decide +kernel))
theorem ml_X7_18 : MLk RX7 18 yX1_init := Or.inr ⟨_, mn (w := .methodLinkNest RX7 18 yX1_init "WhoseShip") 56 (by decide +kernel) (by decide +kernel)⟩
theorem kf_X7_19 : ∃ C T N, vwCl[7]? = some (C, T, N) ∧ C = RX7 ∧ (Cond.fieldLink RX7 19 C (T 1).2.1 (T 1).2.2.1) ∈ lw_good := ⟨_, _, _, rfl, rfl, mg 261 (by decide +kernel) (by decide +kernel)⟩
theorem ftf_7_1 : FTF 7 1 (.object "WhoseShip$Fleet") := ⟨_, _, _, rfl, rfl, by decide +kernel⟩
theorem kl_X7_23 : (Cond.classLink RX7 23 RX2) ∈ lw_good := (mg (w := .classLink RX7 23 RX2) 104 (by decide +kernel) (by decide +kernel))
theorem ml_X7_25 : MLk RX7 25 yX2_init := Or.inr ⟨_, mn (w := .methodLinkNest RX7 25 yX2_init "WhoseShip") 106 (by decide +kernel) (by decide +kernel)⟩
theorem ki_X2_init : (Cond.instanceMethod yX2_init) ∈ lw_good := (mg (w := .instanceMethod yX2_init) 107 (by decide +kernel) (by decide +kernel))
theorem kf_X7_28 : ∃ C T N, vwCl[7]? = some (C, T, N) ∧ C = RX7 ∧ (Cond.fieldLink RX7 28 C (T 2).2.1 (T 2).2.2.1) ∈ lw_good := ⟨_, _, _, rfl, rfl, mg 262 (by decide +kernel) (by decide +kernel)⟩
theorem ftf_7_2 : FTF 7 2 (.object "WhoseShip$Hull") := ⟨_, _, _, rfl, rfl, by decide +kernel⟩
theorem kl_X7_32 : (Cond.classLink RX7 32 RX0) ∈ lw_good := (mg (w := .classLink RX7 32 RX0) 127 (by decide +kernel) (by decide +kernel))
theorem ml_X7_34 : MLk RX7 34 yX0_init := Or.inr ⟨_, mn (w := .methodLinkNest RX7 34 yX0_init "WhoseShip") 129 (by decide +kernel) (by decide +kernel)⟩
theorem ki_X0_init : (Cond.instanceMethod yX0_init) ∈ lw_good := (mg (w := .instanceMethod yX0_init) 130 (by decide +kernel) (by decide +kernel))
theorem kf_X7_37 : ∃ C T N, vwCl[7]? = some (C, T, N) ∧ C = RX7 ∧ (Cond.fieldLink RX7 37 C (T 3).2.1 (T 3).2.2.1) ∈ lw_good := ⟨_, _, _, rfl, rfl, mg 263 (by decide +kernel) (by decide +kernel)⟩
theorem ftf_7_3 : FTF 7 3 (.object "WhoseShip$Change") := ⟨_, _, _, rfl, rfl, by decide +kernel⟩
theorem kl_X7_41 : (Cond.classLink RX7 41 RX4) ∈ lw_good := (mg (w := .classLink RX7 41 RX4) 167 (by decide +kernel) (by decide +kernel))
theorem ml_X7_43 : MLk RX7 43 yX4_init := Or.inr ⟨_, mn (w := .methodLinkNest RX7 43 yX4_init "WhoseShip") 169 (by decide +kernel) (by decide +kernel)⟩
theorem ki_X4_init : (Cond.instanceMethod yX4_init) ∈ lw_good := (mg (w := .instanceMethod yX4_init) 170 (by decide +kernel) (by decide +kernel))
theorem kf_X7_44 : ∃ C T N, vwCl[7]? = some (C, T, N) ∧ C = RX7 ∧ (Cond.fieldLink RX7 44 C (T 4).2.1 (T 4).2.2.1) ∈ lw_good := ⟨_, _, _, rfl, rfl, mg 264 (by decide +kernel) (by decide +kernel)⟩
theorem ftf_7_4 : FTF 7 4 (.object "WhoseShip$Past") := ⟨_, _, _, rfl, rfl, by decide +kernel⟩
theorem kl_X7_48 : (Cond.classLink RX7 48 RX3) ∈ lw_good := (mg (w := .classLink RX7 48 RX3) 187 (by decide +kernel) (by decide +kernel))
theorem ml_X7_50 : MLk RX7 50 yX3_init := Or.inr ⟨_, mn (w := .methodLinkNest RX7 50 yX3_init "WhoseShip") 189 (by decide +kernel) (by decide +kernel)⟩
theorem ki_X3_init : (Cond.instanceMethod yX3_init) ∈ lw_good := (mg (w := .instanceMethod yX3_init) 190 (by decide +kernel) (by decide +kernel))
theorem kf_X7_51 : ∃ C T N, vwCl[7]? = some (C, T, N) ∧ C = RX7 ∧ (Cond.fieldLink RX7 51 C (T 5).2.1 (T 5).2.2.1) ∈ lw_good := ⟨_, _, _, rfl, rfl, mg 265 (by decide +kernel) (by decide +kernel)⟩
theorem ftf_7_5 : FTF 7 5 (.object "WhoseShip$Kinds") := ⟨_, _, _, rfl, rfl, by decide +kernel⟩
theorem kf_X7_55 : ∃ C T N, vwCl[7]? = some (C, T, N) ∧ C = RX7 ∧ (Cond.fieldLink RX7 55 C (T 6).2.1 (T 6).2.2.1) ∈ lw_good := ⟨_, _, _, rfl, rfl, mg 266 (by decide +kernel) (by decide +kernel)⟩
theorem ftf_7_6 : FTF 7 6 (.array (.object "WhoseShip$Fleet")) := ⟨_, _, _, rfl, rfl, by decide +kernel⟩
theorem kf_X7_59 : ∃ C T N, vwCl[7]? = some (C, T, N) ∧ C = RX7 ∧ (Cond.fieldLink RX7 59 C (T 7).2.1 (T 7).2.2.1) ∈ lw_good := ⟨_, _, _, rfl, rfl, mg 267 (by decide +kernel) (by decide +kernel)⟩
theorem ftf_7_7 : FTF 7 7 (.array .boolean) := ⟨_, _, _, rfl, rfl, by decide +kernel⟩
theorem kf_X7_63 : ∃ C T N, vwCl[7]? = some (C, T, N) ∧ C = RX7 ∧ (Cond.fieldLink RX7 63 C (T 8).2.1 (T 8).2.2.1) ∈ lw_good := ⟨_, _, _, rfl, rfl, mg 268 (by decide +kernel) (by decide +kernel)⟩
theorem ftf_7_8 : FTF 7 8 (.array .int) := ⟨_, _, _, rfl, rfl, by decide +kernel⟩
theorem kl_X7_67 : (Cond.classLink RX7 67 RX6) ∈ lw_good := (mg (w := .classLink RX7 67 RX6) 204 (by decide +kernel) (by decide +kernel))
theorem ml_X7_69 : MLk RX7 69 yX6_init := Or.inr ⟨_, mn (w := .methodLinkNest RX7 69 yX6_init "WhoseShip") 206 (by decide +kernel) (by decide +kernel)⟩
theorem ki_X6_init : (Cond.instanceMethod yX6_init) ∈ lw_good := (mg (w := .instanceMethod yX6_init) 207 (by decide +kernel) (by decide +kernel))
theorem kf_X7_72 : ∃ C T N, vwCl[7]? = some (C, T, N) ∧ C = RX7 ∧ (Cond.fieldLink RX7 72 C (T 9).2.1 (T 9).2.2.1) ∈ lw_good := ⟨_, _, _, rfl, rfl, mg 269 (by decide +kernel) (by decide +kernel)⟩
theorem ftf_7_9 : FTF 7 9 (.object "WhoseShip$Reader") := ⟨_, _, _, rfl, rfl, by decide +kernel⟩
theorem kf_X7_76 : ∃ C T N, vwCl[7]? = some (C, T, N) ∧ C = RX7 ∧ (Cond.fieldLink RX7 76 C (T 10).2.1 (T 10).2.2.1) ∈ lw_good := ⟨_, _, _, rfl, rfl, mg 270 (by decide +kernel) (by decide +kernel)⟩
theorem ftf_7_10 : FTF 7 10 (.array .int) := ⟨_, _, _, rfl, rfl, by decide +kernel⟩
theorem kf_X7_79 : ∃ C T N, vwCl[7]? = some (C, T, N) ∧ C = RX7 ∧ (Cond.fieldLink RX7 79 C (T 11).2.1 (T 11).2.2.1) ∈ lw_good := ⟨_, _, _, rfl, rfl, mg 271 (by decide +kernel) (by decide +kernel)⟩
theorem ftf_7_11 : FTF 7 11 (.array .int) := ⟨_, _, _, rfl, rfl, by decide +kernel⟩
set_option maxRecDepth 100000 in
set_option maxHeartbeats 4000000 in
theorem k_X7_init (a : Nat) (r : KW) : EK mX7_init [.ref a] (fun cy => (a, .inr (7, dfX7)) :: r cy) (fun u => ∃ q1 q2 q3 q4 q5 q6 q7 q8 q9 q10 q11 q12 q13 q14 q15 q16 q17 q18 q19 q20 q21 q22 q23 q24 q25 q26 q27 q28 q29 q30 q31 q32 q33 q34 q35 q36 q37 q38 q39 q40 q41 q42 q43 q44 q45 q46 q47 q48 q49 q50 q51 q52 q53 q54 q55 q56 q57 q58 q59 q60 q61 q62 q63 q64 q65 q66 q67 q68 q69 q70 q71 q72 q73 q74 q75 q76 q77 q78 q79 q80 q81 q82 q83 q84 q85 q86 q87 q88 q89 q90 q91 q92 q93 q94 q95 q96 q97 q98 q99 q100 q101 q102 q103 q104 q105 q106 q107 q108 q109 q110 q111 q112 q113 q114 q115 q116 q117 : Nat, u = fun cy => (q117, .inl (cy.1, 36, .inl (fun _ => 0))) :: (q116, .inl (cy.1, 6, .inl (fun _ => 0))) :: (q115, .inl (cy.1, 48, .inl (fun _ => 0))) :: (q114, .inl (cy.1, 48, .inl (fun _ => 0))) :: (q113, .inl (cy.1, 48, .inl (fun _ => 0))) :: (q112, .inl (cy.1, 48, .inl (fun _ => 0))) :: (q111, .inr (1, [vi (0), vi (0), vi (0), .ref q112, .ref q113, .ref q114, .ref q115, .ref q116, .ref q117])) :: (q110, .inl (cy.1, 36, .inl (fun _ => 0))) :: (q109, .inl (cy.1, 6, .inl (fun _ => 0))) :: (q108, .inl (cy.1, 48, .inl (fun _ => 0))) :: (q107, .inl (cy.1, 48, .inl (fun _ => 0))) :: (q106, .inl (cy.1, 48, .inl (fun _ => 0))) :: (q105, .inl (cy.1, 48, .inl (fun _ => 0))) :: (q104, .inr (1, [vi (0), vi (0), vi (0), .ref q105, .ref q106, .ref q107, .ref q108, .ref q109, .ref q110])) :: (q103, .inl (cy.1, 6, .inl (fun _ => 0))) :: (q102, .inl (cy.1, 6, .inl (fun _ => 0))) :: (q101, .inl (cy.1, 6, .inl (fun _ => 0))) :: (q100, .inl (cy.1, 6, .inl (fun _ => 0))) :: (q99, .inl (cy.1, 6, .inl (fun _ => 0))) :: (q98, .inl (cy.1, 4, .inl (fun _ => 0))) :: (q97, .inl (cy.1, 6, .inl (fun j => Int32.ofInt (pl9 j)))) :: (q96, .inl (cy.1, 6, .inl (fun j => Int32.ofInt (pl1 j)))) :: (q95, .inr (5, [vi (3), .ref q96, .ref q97])) :: (q94, .inr (6, [.ref q93, .ref q95, .ref q98, .ref q99, .ref q100, .ref q101, vi (0), vi (0), vi (0), vi (0), vi (-1), vi (0), vi (-1), vi (0), vi (0)])) :: (q93, .inl (cy.1, 200, .inl (fun _ => 0))) :: (q92, .inl (cy.2.1, 2, .inl (fun _ => 0))) :: (q91, .inl (cy.2.2, 2, .inr (.inr (.inr (.inr (va_up (va_up (fun _ => none) (Int32.ofInt (0)).toNatClampNeg (some q104)) (Int32.ofInt (0 + 1)).toNatClampNeg (some q111))))))) :: (q90, .inr (3, [.ref q1, .ref q4, vl (0)])) :: (q89, .inl (cy.1, 36, .inl (fun _ => 0))) :: (q88, .inl (cy.1, 6, .inl (fun _ => 0))) :: (q87, .inl (cy.1, 48, .inl (fun _ => 0))) :: (q86, .inl (cy.1, 48, .inl (fun _ => 0))) :: (q85, .inl (cy.1, 48, .inl (fun _ => 0))) :: (q84, .inl (cy.1, 48, .inl (fun _ => 0))) :: (q83, .inr (1, [vi (0), vi (0), vi (0), .ref q84, .ref q85, .ref q86, .ref q87, .ref q88, .ref q89])) :: (q82, .inl (cy.1, 36, .inl (fun _ => 0))) :: (q81, .inl (cy.1, 6, .inl (fun _ => 0))) :: (q80, .inl (cy.1, 48, .inl (fun _ => 0))) :: (q79, .inl (cy.1, 48, .inl (fun _ => 0))) :: (q78, .inl (cy.1, 48, .inl (fun _ => 0))) :: (q77, .inl (cy.1, 48, .inl (fun _ => 0))) :: (q76, .inr (1, [vi (0), vi (0), vi (0), .ref q77, .ref q78, .ref q79, .ref q80, .ref q81, .ref q82])) :: (q75, .inl (cy.1, 36, .inl (fun _ => 0))) :: (q74, .inl (cy.1, 6, .inl (fun _ => 0))) :: (q73, .inl (cy.1, 48, .inl (fun _ => 0))) :: (q72, .inl (cy.1, 48, .inl (fun _ => 0))) :: (q71, .inl (cy.1, 48, .inl (fun _ => 0))) :: (q70, .inl (cy.1, 48, .inl (fun _ => 0))) :: (q69, .inr (1, [vi (0), vi (0), vi (0), .ref q70, .ref q71, .ref q72, .ref q73, .ref q74, .ref q75])) :: (q68, .inl (cy.1, 36, .inl (fun _ => 0))) :: (q67, .inl (cy.1, 6, .inl (fun _ => 0))) :: (q66, .inl (cy.1, 48, .inl (fun _ => 0))) :: (q65, .inl (cy.1, 48, .inl (fun _ => 0))) :: (q64, .inl (cy.1, 48, .inl (fun _ => 0))) :: (q63, .inl (cy.1, 48, .inl (fun _ => 0))) :: (q62, .inr (1, [vi (0), vi (0), vi (0), .ref q63, .ref q64, .ref q65, .ref q66, .ref q67, .ref q68])) :: (q61, .inl (cy.1, 36, .inl (fun _ => 0))) :: (q60, .inl (cy.1, 6, .inl (fun _ => 0))) :: (q59, .inl (cy.1, 48, .inl (fun _ => 0))) :: (q58, .inl (cy.1, 48, .inl (fun _ => 0))) :: (q57, .inl (cy.1, 48, .inl (fun _ => 0))) :: (q56, .inl (cy.1, 48, .inl (fun _ => 0))) :: (q55, .inr (1, [vi (0), vi (0), vi (0), .ref q56, .ref q57, .ref q58, .ref q59, .ref q60, .ref q61])) :: (q54, .inl (cy.1, 36, .inl (fun _ => 0))) :: (q53, .inl (cy.1, 6, .inl (fun _ => 0))) :: (q52, .inl (cy.1, 48, .inl (fun _ => 0))) :: (q51, .inl (cy.1, 48, .inl (fun _ => 0))) :: (q50, .inl (cy.1, 48, .inl (fun _ => 0))) :: (q49, .inl (cy.1, 48, .inl (fun _ => 0))) :: (q48, .inr (1, [vi (0), vi (0), vi (0), .ref q49, .ref q50, .ref q51, .ref q52, .ref q53, .ref q54])) :: (q47, .inl (cy.1, 36, .inl (fun _ => 0))) :: (q46, .inl (cy.1, 6, .inl (fun _ => 0))) :: (q45, .inl (cy.1, 48, .inl (fun _ => 0))) :: (q44, .inl (cy.1, 48, .inl (fun _ => 0))) :: (q43, .inl (cy.1, 48, .inl (fun _ => 0))) :: (q42, .inl (cy.1, 48, .inl (fun _ => 0))) :: (q41, .inr (1, [vi (0), vi (0), vi (0), .ref q42, .ref q43, .ref q44, .ref q45, .ref q46, .ref q47])) :: (q40, .inl (cy.1, 36, .inl (fun _ => 0))) :: (q39, .inl (cy.1, 6, .inl (fun _ => 0))) :: (q38, .inl (cy.1, 48, .inl (fun _ => 0))) :: (q37, .inl (cy.1, 48, .inl (fun _ => 0))) :: (q36, .inl (cy.1, 48, .inl (fun _ => 0))) :: (q35, .inl (cy.1, 48, .inl (fun _ => 0))) :: (q34, .inr (1, [vi (0), vi (0), vi (0), .ref q35, .ref q36, .ref q37, .ref q38, .ref q39, .ref q40])) :: (q33, .inl (cy.1, 36, .inl (fun _ => 0))) :: (q32, .inl (cy.1, 6, .inl (fun _ => 0))) :: (q31, .inl (cy.1, 48, .inl (fun _ => 0))) :: (q30, .inl (cy.1, 48, .inl (fun _ => 0))) :: (q29, .inl (cy.1, 48, .inl (fun _ => 0))) :: (q28, .inl (cy.1, 48, .inl (fun _ => 0))) :: (q27, .inr (1, [vi (0), vi (0), vi (0), .ref q28, .ref q29, .ref q30, .ref q31, .ref q32, .ref q33])) :: (q26, .inl (cy.1, 36, .inl (fun _ => 0))) :: (q25, .inl (cy.1, 6, .inl (fun _ => 0))) :: (q24, .inl (cy.1, 48, .inl (fun _ => 0))) :: (q23, .inl (cy.1, 48, .inl (fun _ => 0))) :: (q22, .inl (cy.1, 48, .inl (fun _ => 0))) :: (q21, .inl (cy.1, 48, .inl (fun _ => 0))) :: (q20, .inr (1, [vi (0), vi (0), vi (0), .ref q21, .ref q22, .ref q23, .ref q24, .ref q25, .ref q26])) :: (q19, .inl (cy.2.2, 10, .inr (.inr (.inr (.inr (va_up (va_up (va_up (va_up (va_up (va_up (va_up (va_up (va_up (va_up (fun _ => none) (Int32.ofInt (0)).toNatClampNeg (some q20)) (Int32.ofInt (0 + 1)).toNatClampNeg (some q27)) (Int32.ofInt ((0 + 1) + 1)).toNatClampNeg (some q34)) (Int32.ofInt (((0 + 1) + 1) + 1)).toNatClampNeg (some q41)) (Int32.ofInt ((((0 + 1) + 1) + 1) + 1)).toNatClampNeg (some q48)) (Int32.ofInt (((((0 + 1) + 1) + 1) + 1) + 1)).toNatClampNeg (some q55)) (Int32.ofInt ((((((0 + 1) + 1) + 1) + 1) + 1) + 1)).toNatClampNeg (some q62)) (Int32.ofInt (((((((0 + 1) + 1) + 1) + 1) + 1) + 1) + 1)).toNatClampNeg (some q69)) (Int32.ofInt ((((((((0 + 1) + 1) + 1) + 1) + 1) + 1) + 1) + 1)).toNatClampNeg (some q76)) (Int32.ofInt (((((((((0 + 1) + 1) + 1) + 1) + 1) + 1) + 1) + 1) + 1)).toNatClampNeg (some q83))))))) :: (q18, .inr (4, [.ref q19, vi (0), vi (0)])) :: (q17, .inl (cy.1, 6, .inl (fun _ => 0))) :: (q16, .inl (cy.1, 6, .inl (fun _ => 0))) :: (q15, .inr (0, [.ref q1, .ref q4, .ref q11, .ref q16, .ref q17, vi (0), vi (0), vi (0), vi (0), vi (0)])) :: (q14, .inl (cy.1, 10, .inl (fun _ => 0))) :: (q13, .inl (cy.1, 6, .inl (fun _ => 0))) :: (q12, .inl (cy.1, 6, .inl (fun _ => 0))) :: (q11, .inr (2, [.ref q1, .ref q4, .ref q12, .ref q13, .ref q14])) :: (q10, .inl (cy.1, 36, .inl (fun _ => 0))) :: (q9, .inl (cy.1, 6, .inl (fun _ => 0))) :: (q8, .inl (cy.1, 48, .inl (fun _ => 0))) :: (q7, .inl (cy.1, 48, .inl (fun _ => 0))) :: (q6, .inl (cy.1, 48, .inl (fun _ => 0))) :: (q5, .inl (cy.1, 48, .inl (fun _ => 0))) :: (q4, .inr (1, [vi (0), vi (0), vi (0), .ref q5, .ref q6, .ref q7, .ref q8, .ref q9, .ref q10])) :: (q3, .inl (cy.1, 6, .inl (fun j => Int32.ofInt (pl9 j)))) :: (q2, .inl (cy.1, 6, .inl (fun j => Int32.ofInt (pl1 j)))) :: (q1, .inr (5, [vi (3), .ref q2, .ref q3])) :: (a, .inr (7, [.ref q1, .ref q4, .ref q11, .ref q15, .ref q18, .ref q90, .ref q91, .ref q92, .ref q93, .ref q94, .ref q102, .ref q103, vi (0), vi (0)])) :: r cy) 117 3507 := by
  refine EK.of (L := [(0, .ref a)]) rfl rfl (Nat.le_of_ble_eq_true rfl) rfl ?_
  refine k_aload dX7_init_0 rfl ?_
  refine k_obj dX7_init_1 ko_X7 (Nat.le_of_ble_eq_true rfl) (Nat.le_of_ble_eq_true rfl) ?_
  refine k_aload dX7_init_4 rfl ?_
  refine k_new (ci := 5) (N := 3) (C := RX5) (fs := dfX5) dX7_init_5 kl_X7_7 nw_X5 ⟨_, _, rfl⟩ (Nat.le_of_ble_eq_true rfl) (Nat.le_of_ble_eq_true rfl) (fun q1 => ?_)
  refine k_dup dX7_init_8 rfl ?_
  refine k_callI (As := []) (rest := [.ref q1, .ref a]) (k_X5_init q1 _) cm_X5_init ki_X5_init rfl rfl ml_X7_9 rfl (Nat.le_of_ble_eq_true rfl) (Nat.le_of_ble_eq_true rfl) dX7_init_9 (Nat.le_of_ble_eq_true rfl) (Nat.le_of_ble_eq_true rfl) (fun u3 hu3 => ?_)
  obtain ⟨q2, q3, rfl⟩ := hu3
  refine k_putF (q0 := 3) dX7_init_12 fg_X7_10 kf_X7_10 ftf_7_0 rfl (fun _ => rfl) rfl rfl (Nat.le_of_ble_eq_true rfl) ?_
  refine k_aload dX7_init_15 rfl ?_
  refine k_new (ci := 1) (N := 9) (C := RX1) (fs := dfX1) dX7_init_16 kl_X7_16 nw_X1 ⟨_, _, rfl⟩ (Nat.le_of_ble_eq_true rfl) (Nat.le_of_ble_eq_true rfl) (fun q4 => ?_)
  refine k_dup dX7_init_19 rfl ?_
  refine k_callI (As := []) (rest := [.ref q4, .ref a]) (k_X1_init q4 _) cm_X1_init ki_X1_init rfl rfl ml_X7_18 rfl (Nat.le_of_ble_eq_true rfl) (Nat.le_of_ble_eq_true rfl) dX7_init_20 (Nat.le_of_ble_eq_true rfl) (Nat.le_of_ble_eq_true rfl) (fun u10 hu10 => ?_)
  obtain ⟨q5, q6, q7, q8, q9, q10, rfl⟩ := hu10
  refine k_putF (q0 := 10) dX7_init_23 fg_X7_19 kf_X7_19 ftf_7_1 rfl (fun _ => rfl) rfl rfl (Nat.le_of_ble_eq_true rfl) ?_
  refine k_aload dX7_init_26 rfl ?_
  refine k_new (ci := 2) (N := 5) (C := RX2) (fs := dfX2) dX7_init_27 kl_X7_23 nw_X2 ⟨_, _, rfl⟩ (Nat.le_of_ble_eq_true rfl) (Nat.le_of_ble_eq_true rfl) (fun q11 => ?_)
  refine k_dup dX7_init_30 rfl ?_
  refine k_aload dX7_init_31 rfl ?_
  refine k_get (q0 := 11) (v := .ref q1) dX7_init_32 fg_X7_10 (fun _ => rfl) rfl ?_
  refine k_aload dX7_init_35 rfl ?_
  refine k_get (q0 := 11) (v := .ref q4) dX7_init_36 fg_X7_19 (fun _ => rfl) rfl ?_
  refine k_callI (As := [.ref q1, .ref q4]) (rest := [.ref q11, .ref a]) (k_X2_init q11 q1 q4 _) cm_X2_init ki_X2_init rfl rfl ml_X7_25 rfl (Nat.le_of_ble_eq_true rfl) (Nat.le_of_ble_eq_true rfl) dX7_init_39 (Nat.le_of_ble_eq_true rfl) (Nat.le_of_ble_eq_true rfl) (fun u14 hu14 => ?_)
  obtain ⟨q12, q13, q14, rfl⟩ := hu14
  refine k_putF (q0 := 14) dX7_init_42 fg_X7_28 kf_X7_28 ftf_7_2 rfl (fun _ => rfl) rfl rfl (Nat.le_of_ble_eq_true rfl) ?_
  refine k_aload dX7_init_45 rfl ?_
  refine k_new (ci := 0) (N := 10) (C := RX0) (fs := dfX0) dX7_init_46 kl_X7_32 nw_X0 ⟨_, _, rfl⟩ (Nat.le_of_ble_eq_true rfl) (Nat.le_of_ble_eq_true rfl) (fun q15 => ?_)
  refine k_dup dX7_init_49 rfl ?_
  refine k_aload dX7_init_50 rfl ?_
  refine k_get (q0 := 15) (v := .ref q1) dX7_init_51 fg_X7_10 (fun _ => rfl) rfl ?_
  refine k_aload dX7_init_54 rfl ?_
  refine k_get (q0 := 15) (v := .ref q4) dX7_init_55 fg_X7_19 (fun _ => rfl) rfl ?_
  refine k_aload dX7_init_58 rfl ?_
  refine k_get (q0 := 15) (v := .ref q11) dX7_init_59 fg_X7_28 (fun _ => rfl) rfl ?_
  refine k_callI (As := [.ref q1, .ref q4, .ref q11]) (rest := [.ref q15, .ref a]) (k_X0_init q15 q1 q4 q11 _) cm_X0_init ki_X0_init rfl rfl ml_X7_34 rfl (Nat.le_of_ble_eq_true rfl) (Nat.le_of_ble_eq_true rfl) dX7_init_62 (Nat.le_of_ble_eq_true rfl) (Nat.le_of_ble_eq_true rfl) (fun u17 hu17 => ?_)
  obtain ⟨q16, q17, rfl⟩ := hu17
  refine k_putF (q0 := 17) dX7_init_65 fg_X7_37 kf_X7_37 ftf_7_3 rfl (fun _ => rfl) rfl rfl (Nat.le_of_ble_eq_true rfl) ?_
  refine k_aload dX7_init_68 rfl ?_
  refine k_new (ci := 4) (N := 3) (C := RX4) (fs := dfX4) dX7_init_69 kl_X7_41 nw_X4 ⟨_, _, rfl⟩ (Nat.le_of_ble_eq_true rfl) (Nat.le_of_ble_eq_true rfl) (fun q18 => ?_)
  refine k_dup dX7_init_72 rfl ?_
  refine k_callI (As := []) (rest := [.ref q18, .ref a]) (k_X4_init q18 _) cm_X4_init ki_X4_init rfl rfl ml_X7_43 rfl (Nat.le_of_ble_eq_true rfl) (Nat.le_of_ble_eq_true rfl) dX7_init_73 (Nat.le_of_ble_eq_true rfl) (Nat.le_of_ble_eq_true rfl) (fun u89 hu89 => ?_)
  obtain ⟨q19, q20, q21, q22, q23, q24, q25, q26, q27, q28, q29, q30, q31, q32, q33, q34, q35, q36, q37, q38, q39, q40, q41, q42, q43, q44, q45, q46, q47, q48, q49, q50, q51, q52, q53, q54, q55, q56, q57, q58, q59, q60, q61, q62, q63, q64, q65, q66, q67, q68, q69, q70, q71, q72, q73, q74, q75, q76, q77, q78, q79, q80, q81, q82, q83, q84, q85, q86, q87, q88, q89, rfl⟩ := hu89
  refine k_putF (q0 := 89) dX7_init_76 fg_X7_44 kf_X7_44 ftf_7_4 rfl (fun _ => rfl) rfl rfl (Nat.le_of_ble_eq_true rfl) ?_
  refine k_aload dX7_init_79 rfl ?_
  refine k_new (ci := 3) (N := 3) (C := RX3) (fs := dfX3) dX7_init_80 kl_X7_48 nw_X3 ⟨_, _, rfl⟩ (Nat.le_of_ble_eq_true rfl) (Nat.le_of_ble_eq_true rfl) (fun q90 => ?_)
  refine k_dup dX7_init_83 rfl ?_
  refine k_aload dX7_init_84 rfl ?_
  refine k_get (q0 := 90) (v := .ref q1) dX7_init_85 fg_X7_10 (fun _ => rfl) rfl ?_
  refine k_aload dX7_init_88 rfl ?_
  refine k_get (q0 := 90) (v := .ref q4) dX7_init_89 fg_X7_19 (fun _ => rfl) rfl ?_
  refine k_callI (As := [.ref q1, .ref q4]) (rest := [.ref q90, .ref a]) (k_X3_init q90 q1 q4 _) cm_X3_init ki_X3_init rfl rfl ml_X7_50 rfl (Nat.le_of_ble_eq_true rfl) (Nat.le_of_ble_eq_true rfl) dX7_init_92 (Nat.le_of_ble_eq_true rfl) (Nat.le_of_ble_eq_true rfl) (fun u90 hu90 => ?_)
  obtain ⟨rfl⟩ := hu90
  refine k_putF (q0 := 90) dX7_init_95 fg_X7_51 kf_X7_51 ftf_7_5 rfl (fun _ => rfl) rfl rfl (Nat.le_of_ble_eq_true rfl) ?_
  refine k_aload dX7_init_98 rfl ?_
  refine k_iconst dX7_init_99 ?_
  refine k_newq (N := 2) dX7_init_100 kl_X7_16 (by decide) (by decide) (by decide) (Nat.le_of_ble_eq_true rfl) (Nat.le_of_ble_eq_true rfl) (fun q91 => ?_)
  refine k_putF (q0 := 91) dX7_init_103 fg_X7_55 kf_X7_55 ftf_7_6 rfl (fun _ => rfl) rfl rfl (Nat.le_of_ble_eq_true rfl) ?_
  refine k_aload dX7_init_106 rfl ?_
  refine k_iconst dX7_init_107 ?_
  refine k_newz (N := 2) dX7_init_108 (by decide) (by decide) (by decide) (Nat.le_of_ble_eq_true rfl) (Nat.le_of_ble_eq_true rfl) (fun q92 => ?_)
  refine k_putF (q0 := 92) dX7_init_110 fg_X7_59 kf_X7_59 ftf_7_7 rfl (fun _ => rfl) rfl rfl (Nat.le_of_ble_eq_true rfl) ?_
  refine k_aload dX7_init_113 rfl ?_
  refine k_sipush dX7_init_114 (by decide) ?_
  refine k_newi (N := 200) dX7_init_117 (by decide) (by decide) (by decide) (Nat.le_of_ble_eq_true rfl) (Nat.le_of_ble_eq_true rfl) (fun q93 => ?_)
  refine k_putF (q0 := 93) dX7_init_119 fg_X7_63 kf_X7_63 ftf_7_8 rfl (fun _ => rfl) rfl rfl (Nat.le_of_ble_eq_true rfl) ?_
  refine k_aload dX7_init_122 rfl ?_
  refine k_new (ci := 6) (N := 15) (C := RX6) (fs := dfX6) dX7_init_123 kl_X7_67 nw_X6 ⟨_, _, rfl⟩ (Nat.le_of_ble_eq_true rfl) (Nat.le_of_ble_eq_true rfl) (fun q94 => ?_)
  refine k_dup dX7_init_126 rfl ?_
  refine k_aload dX7_init_127 rfl ?_
  refine k_get (q0 := 94) (v := .ref q93) dX7_init_128 fg_X7_63 (fun _ => rfl) rfl ?_
  refine k_callI (As := [.ref q93]) (rest := [.ref q94, .ref a]) (k_X6_init q94 q93 _) cm_X6_init ki_X6_init rfl rfl ml_X7_69 rfl (Nat.le_of_ble_eq_true rfl) (Nat.le_of_ble_eq_true rfl) dX7_init_131 (Nat.le_of_ble_eq_true rfl) (Nat.le_of_ble_eq_true rfl) (fun u101 hu101 => ?_)
  obtain ⟨q95, q96, q97, q98, q99, q100, q101, rfl⟩ := hu101
  refine k_putF (q0 := 101) dX7_init_134 fg_X7_72 kf_X7_72 ftf_7_9 rfl (fun _ => rfl) rfl rfl (Nat.le_of_ble_eq_true rfl) ?_
  refine k_aload dX7_init_137 rfl ?_
  refine k_bipush dX7_init_138 (by decide) ?_
  refine k_newi (N := 6) dX7_init_140 (by decide) (by decide) (by decide) (Nat.le_of_ble_eq_true rfl) (Nat.le_of_ble_eq_true rfl) (fun q102 => ?_)
  refine k_putF (q0 := 102) dX7_init_142 fg_X7_76 kf_X7_76 ftf_7_10 rfl (fun _ => rfl) rfl rfl (Nat.le_of_ble_eq_true rfl) ?_
  refine k_aload dX7_init_145 rfl ?_
  refine k_bipush dX7_init_146 (by decide) ?_
  refine k_newi (N := 6) dX7_init_148 (by decide) (by decide) (by decide) (Nat.le_of_ble_eq_true rfl) (Nat.le_of_ble_eq_true rfl) (fun q103 => ?_)
  refine k_putF (q0 := 103) dX7_init_150 fg_X7_79 kf_X7_79 ftf_7_11 rfl (fun _ => rfl) rfl rfl (Nat.le_of_ble_eq_true rfl) ?_
  refine k_aload dX7_init_153 rfl ?_
  refine k_iconst dX7_init_154 ?_
  refine k_put (q0 := 103) dX7_init_155 fg_X7_82 ft_7_12 (fun _ => rfl) rfl rfl (Nat.le_of_ble_eq_true rfl) ?_
  refine k_aload dX7_init_158 rfl ?_
  refine k_iconst dX7_init_159 ?_
  refine k_put (q0 := 103) dX7_init_160 fg_X7_86 ft_7_13 (fun _ => rfl) rfl rfl (Nat.le_of_ble_eq_true rfl) ?_
  refine k_iconst dX7_init_163 ?_
  refine k_istore (L' := [(0, .ref a), (1, vi (0))]) dX7_init_164 (Nat.le_of_ble_eq_true rfl) rfl ?_
  refine k_iload dX7_init_165 rfl ?_
  refine k_iconst dX7_init_166 ?_
  refine k_geF (tgt := 189) dX7_init_167 (by decide) (by decide) ?_
  refine k_aload dX7_init_170 rfl ?_
  refine k_get (q0 := 103) (v := .ref q91) dX7_init_171 fg_X7_55 (fun _ => rfl) rfl ?_
  refine k_iload dX7_init_174 rfl ?_
  refine k_new (ci := 1) (N := 9) (C := RX1) (fs := dfX1) dX7_init_175 kl_X7_16 nw_X1 ⟨_, _, rfl⟩ (Nat.le_of_ble_eq_true rfl) (Nat.le_of_ble_eq_true rfl) (fun q104 => ?_)
  refine k_dup dX7_init_178 rfl ?_
  refine k_callI (As := []) (rest := [.ref q104, vi (0), .ref q91]) (k_X1_init q104 _) cm_X1_init ki_X1_init rfl rfl ml_X7_18 rfl (Nat.le_of_ble_eq_true rfl) (Nat.le_of_ble_eq_true rfl) dX7_init_179 (Nat.le_of_ble_eq_true rfl) (Nat.le_of_ble_eq_true rfl) (fun u110 hu110 => ?_)
  obtain ⟨q105, q106, q107, q108, q109, q110, rfl⟩ := hu110
  refine k_astq (q0 := 19) (qk := 6) dX7_init_182 (fun _ => rfl) (fun _ => rfl) (vi_in (by decide) (by decide) (by decide)) ?_
  refine k_iinc (L' := [(0, .ref a), (1, vi (0 + 1))]) dX7_init_183 (Nat.le_of_ble_eq_true rfl) rfl rfl ?_
  refine k_goto (tgt := 165) dX7_init_186 (by decide) ?_
  refine k_iload dX7_init_165 rfl ?_
  refine k_iconst dX7_init_166 ?_
  refine k_geF (tgt := 189) dX7_init_167 (by decide) (by decide) ?_
  refine k_aload dX7_init_170 rfl ?_
  refine k_get (q0 := 110) (v := .ref q91) dX7_init_171 fg_X7_55 (fun _ => rfl) rfl ?_
  refine k_iload dX7_init_174 rfl ?_
  refine k_new (ci := 1) (N := 9) (C := RX1) (fs := dfX1) dX7_init_175 kl_X7_16 nw_X1 ⟨_, _, rfl⟩ (Nat.le_of_ble_eq_true rfl) (Nat.le_of_ble_eq_true rfl) (fun q111 => ?_)
  refine k_dup dX7_init_178 rfl ?_
  refine k_callI (As := []) (rest := [.ref q111, vi (0 + 1), .ref q91]) (k_X1_init q111 _) cm_X1_init ki_X1_init rfl rfl ml_X7_18 rfl (Nat.le_of_ble_eq_true rfl) (Nat.le_of_ble_eq_true rfl) dX7_init_179 (Nat.le_of_ble_eq_true rfl) (Nat.le_of_ble_eq_true rfl) (fun u117 hu117 => ?_)
  obtain ⟨q112, q113, q114, q115, q116, q117, rfl⟩ := hu117
  refine k_astq (q0 := 26) (qk := 6) dX7_init_182 (fun _ => rfl) (fun _ => rfl) (vi_in (by decide) (by decide) (by decide)) ?_
  refine k_iinc (L' := [(0, .ref a), (1, vi ((0 + 1) + 1))]) dX7_init_183 (Nat.le_of_ble_eq_true rfl) rfl rfl ?_
  refine k_goto (tgt := 165) dX7_init_186 (by decide) ?_
  refine k_iload dX7_init_165 rfl ?_
  refine k_iconst dX7_init_166 ?_
  refine k_geT (tgt := 189) dX7_init_167 (by decide) (by decide) ?_
  exact k_ret dX7_init_189 rfl rfl ⟨q1, q2, q3, q4, q5, q6, q7, q8, q9, q10, q11, q12, q13, q14, q15, q16, q17, q18, q19, q20, q21, q22, q23, q24, q25, q26, q27, q28, q29, q30, q31, q32, q33, q34, q35, q36, q37, q38, q39, q40, q41, q42, q43, q44, q45, q46, q47, q48, q49, q50, q51, q52, q53, q54, q55, q56, q57, q58, q59, q60, q61, q62, q63, q64, q65, q66, q67, q68, q69, q70, q71, q72, q73, q74, q75, q76, q77, q78, q79, q80, q81, q82, q83, q84, q85, q86, q87, q88, q89, q90, q91, q92, q93, q94, q95, q96, q97, q98, q99, q100, q101, q102, q103, q104, q105, q106, q107, q108, q109, q110, q111, q112, q113, q114, q115, q116, q117, rfl⟩
