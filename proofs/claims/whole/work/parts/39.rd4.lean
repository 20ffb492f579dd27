theorem y3row {x : Int → Int} {t a b : Int} {d : St} (ha : a = numV x t 0 (d 0 3 - 1) d) (hb : b = numV x t 0 9 (itY1 x t d)) (h5 : itY1 x t d 0 5 = d 0 5) : up (numD x t 0 9 (itY1 x t d)) 5 (d 0 5) (numV x t 0 9 (itY1 x t d)) 4 (d 0 5) = a ∧ up (numD x t 0 9 (itY1 x t d)) 5 (d 0 5) (numV x t 0 9 (itY1 x t d)) 5 (d 0 5) = b ∧ up (numD x t 0 9 (itY1 x t d)) 5 (d 0 5) (numV x t 0 9 (itY1 x t d)) 0 5 = d 0 5 := by
  have k := numD_k (x := x) (t := t) (lo := 0) (hi := 9) (itY1 x t d)
  refine ⟨?_, ?_, ?_⟩
  · rw [up_c (by decide), k.2 4 (by decide)]
    show up _ 4 _ _ 4 _ = _
    rw [up_s]; exact ha.symm
  · rw [up_s]; exact hb.symm
  · rw [up_c (by decide), k.1 5 (by decide) (by decide)]; exact h5
theorem y2row {x : Int → Int} {t a b : Int} {d : St} (_hf : itY1 x t d 0 1 = -1) (ha : a = numV x t 0 (d 0 3 - 1) d) (hb : b = numV x t 0 9 (itY1 x t d)) (h5 : itY1 x t d 0 5 = d 0 5) {s : Int} : refD (up (numD x t 0 9 (itY1 x t d)) 5 (d 0 5) (numV x t 0 9 (itY1 x t d))) s 4 (d 0 5) = a ∧ refD (up (numD x t 0 9 (itY1 x t d)) 5 (d 0 5) (numV x t 0 9 (itY1 x t d))) s 5 (d 0 5) = b ∧ refD (up (numD x t 0 9 (itY1 x t d)) 5 (d 0 5) (numV x t 0 9 (itY1 x t d))) s 0 5 = d 0 5 := by
  have h := y3row ha hb h5
  generalize up (numD x t 0 9 (itY1 x t d)) 5 (d 0 5) (numV x t 0 9 (itY1 x t d)) = e at h ⊢
  unfold refD
  by_cases q : e 0 1 = -1
  · rw [if_pos q, up_c (by decide), up_c (by decide), up_i (by decide)]; exact h
  · rw [if_neg q]; exact h
set_option maxRecDepth 100000 in
set_option maxHeartbeats 4000000 in
theorem t_X6_readSpare (S d : St) (hC : RC S d) (hde : d 0 1 = -1) (h13 : 0 ≤ S 17 13 ∧ S 17 13 ≤ 200)  : EX mX6_readSpare [.ref 17] S (fun r S' => RC S' (itY (S 16) (S 17 6) d (S 17 13)) ∧ Same [17, 18, 19, 20, 21, 22, 23, 24] S S' ∧ S' 17 6 = S 17 6 ∧ S' 17 9 = S 17 9) := by
  suffices hh : ∀ P : Int → St → Prop, (∀ r S', (RC S' (itY (S 16) (S 17 6) d (S 17 13)) ∧ Same [17, 18, 19, 20, 21, 22, 23, 24] S S' ∧ S' 17 6 = S 17 6 ∧ S' 17 9 = S 17 9) → P r S') → EX mX6_readSpare [.ref 17] S P from hh _ (fun _ _ h => h)
  intro P hP
  refine EX.of (L := [(0, .ref 17)]) rfl rfl (Nat.le_of_ble_eq_true rfl) rfl ?_
  obtain ⟨⟨hR, hpl, hsh, hsp, hfb⟩, hfd, hce⟩ := id hC
  obtain ⟨e11, e9, e18, e7, e8, eW, eO, eY⟩ := hce hde
  refine j_aload_n dX6_readSpare_0 rfl ?_
  refine j_getI (x := S 17 8) dX6_readSpare_1 fg_X6_38 fq_17_8 rfl (fun hi1 => ?_)
  refine j_bipush dX6_readSpare_4 (by decide) ?_
  refine j_icmp_lt (tgt := 14) dX6_readSpare_6 (by decide) (by omega) (by omega) (fun h6 => ?_) (fun h6 => ?_)
  · refine j_aload_n dX6_readSpare_14 rfl ?_
    refine j_getR dX6_readSpare_15 fg_X6_22 fq_17_3 ?_
    refine j_aload_n dX6_readSpare_18 rfl ?_
    refine j_getI (x := S 17 8) dX6_readSpare_19 fg_X6_38 fq_17_8 rfl (fun hi19 => ?_)
    refine j_aload_n dX6_readSpare_22 rfl ?_
    refine j_iconst dX6_readSpare_23 ?_
    refine j_aload_n dX6_readSpare_24 rfl ?_
    refine j_getR dX6_readSpare_25 fg_X6_12 fq_17_1 ?_
    refine j_getI (x := S 18 0) dX6_readSpare_28 fg_X6_96 fq_18_0 rfl (fun hi28 => ?_)
    refine j_iconst dX6_readSpare_31 ?_
    refine j_isub dX6_readSpare_32 ?_
    refine j_callVi (As := [vi 0, vi ((S 18 0) - 1)]) (rest := [vi (S 17 8), .ref 22]) (t_X6_readNumber _ d 0 (S 18 0 - 1) hC (by omega) (by omega)) rfl cm_X6_readNumber ci_X6_readNumber ml_X6_92 oq_17 rfl (Nat.le_of_ble_eq_true rfl) (Nat.le_of_ble_eq_true rfl) dX6_readSpare_33 (fun r33 S33 hp33 => ?_)
    obtain ⟨hr33, hC33, hs33, hi33, hT33⟩ := hp33
    rw [e18] at hr33 hC33
    have hb33 := numV_bd (x := S 16) (t := S 17 6) (lo := 0) (hi := d 0 3 - 1) (by omega) d
    rw [← hr33] at hb33
    have h833 : S33 17 8 = S 17 8 := hi33 8 (by decide)
    have hk33 := numD_k (x := S 16) (t := S 17 6) (lo := 0) (hi := d 0 3 - 1) d
    have hC36 : RC (up S33 22 (S 17 8) r33) (itY1 (S 16) (S 17 6) d) := by
      have := hC33.putY (n := S 17 8) (v := r33) (c := 22) (e := 4) (fun _ => by rw [hk33.1 5 (by decide) (by decide)]; exact e8.symm) (Or.inl ⟨rfl, rfl⟩)
      rw [hr33, e8] at this
      rw [hr33, e8]
      exact this
    have hd5 : (itY1 (S 16) (S 17 6) d) 0 5 = d 0 5 := by
      show numD (S 16) (S 17 6) 0 (d 0 3 - 1) d 0 5 = _
      exact hk33.1 5 (by decide) (by decide)
    refine j_iast dX6_readSpare_36 aq_22 (by omega) (by omega) (by omega) ?_
    refine j_aload_n dX6_readSpare_37 rfl ?_
    refine j_getR dX6_readSpare_38 fg_X6_25 fq_17_4 ?_
    refine j_aload_n dX6_readSpare_41 rfl ?_
    refine j_getI (x := S 17 8) dX6_readSpare_42 fg_X6_38 fq_17_8 ((up_c (by decide)).trans h833) (fun hi42 => ?_)
    refine j_aload_n dX6_readSpare_45 rfl ?_
    refine j_iconst dX6_readSpare_46 ?_
    refine j_bipush dX6_readSpare_47 (by decide) ?_
    refine j_callVi (As := [vi 0, vi 9]) (rest := [vi (S 17 8), .ref 23]) (t_X6_readNumber _ (itY1 (S 16) (S 17 6) d) 0 9 hC36 (by omega) (by omega)) rfl cm_X6_readNumber ci_X6_readNumber ml_X6_92 oq_17 rfl (Nat.le_of_ble_eq_true rfl) (Nat.le_of_ble_eq_true rfl) dX6_readSpare_49 (fun r49 S49 hp49 => ?_)
    obtain ⟨hr49, hC49, hs49, hi49, hT49⟩ := hp49
    have ex : (up S33 22 (S 17 8) r33) 16 = S 16 := (up_row (by decide)).trans (hs33 16 (by decide))
    have et : (up S33 22 (S 17 8) r33) 17 6 = S 17 6 := (up_c (by decide)).trans (hi33 6 (by decide))
    rw [ex, et] at hr49 hC49 hT49
    have hb49 := numV_bd (x := S 16) (t := S 17 6) (lo := 0) (hi := 9) (by omega) (itY1 (S 16) (S 17 6) d)
    rw [← hr49] at hb49
    have h849 : S49 17 8 = S 17 8 := (hi49 8 (by decide)).trans ((up_c (by decide)).trans h833)
    have hk49 := numD_k (x := S 16) (t := S 17 6) (lo := 0) (hi := 9) (itY1 (S 16) (S 17 6) d)
    have hC52 : RC (up S49 23 (S 17 8) r49) (up (numD (S 16) (S 17 6) 0 9 (itY1 (S 16) (S 17 6) d)) 5 (d 0 5) (numV (S 16) (S 17 6) 0 9 (itY1 (S 16) (S 17 6) d))) := by
      have := hC49.putY (n := S 17 8) (v := r49) (c := 23) (e := 5) (fun _ => by rw [hk49.1 5 (by decide) (by decide), hd5]; exact e8.symm) (Or.inr (Or.inl ⟨rfl, rfl⟩))
      rw [hr49, e8] at this
      rw [hr49, e8]
      exact this
    have h22 : S49 22 (S 17 8) = r33 := by rw [hs49 22 (by decide), up_s]
    refine j_iast dX6_readSpare_52 aq_23 (by omega) (by omega) (by omega) ?_
    refine j_aload_n dX6_readSpare_53 rfl ?_
    refine j_getR dX6_readSpare_54 fg_X6_25 fq_17_4 ?_
    refine j_aload_n dX6_readSpare_57 rfl ?_
    refine j_getI (x := S 17 8) dX6_readSpare_58 fg_X6_38 fq_17_8 ((up_c (by decide)).trans h849) (fun hi58 => ?_)
    refine j_iald (x := r49) dX6_readSpare_61 aq_23 (by omega) (by omega) (by rw [up_s]) (fun hi61 => ?_)
    refine j_callSi (As := [vi r49]) (rest := []) (t_X7_isMake _ r49 (by omega)) rfl cm_X7_isMake cs_X7_isMake ml_X6_105 rfl (Nat.le_of_ble_eq_true rfl) (Nat.le_of_ble_eq_true rfl) dX6_readSpare_62 (fun r62 S62 hp62 => ?_)
    obtain ⟨⟨rfl, hc62⟩ | ⟨rfl, hc62⟩, he62⟩ := hp62
    · rw [he62]
      refine j_if_ne (tgt := 72) dX6_readSpare_65 (by decide) (by omega)  (fun _ => ?_) (fun h => absurd h (by decide))
      refine j_st (fun V eV => ?_)
      have hC72 : RC V (itY2 (S 16) (S 17 6) d) := by rw [eV]; unfold itY2; (try simp only []); rw [if_pos (by rw [← hr49]; exact hc62)]; exact hC52
      have h8x : V 17 8 = S 17 8 := by rw [eV]; exact (up_c (by decide)).trans h849
      have hxx : V 16 = S 16 := by rw [eV]; exact (up_row (by decide)).trans ((hs49 16 (by decide)).trans ex)
      have htx : V 17 6 = S 17 6 := by rw [eV]; exact (up_c (by decide)).trans ((hi49 6 (by decide)).trans et)
      have h9x : V 17 9 = S 17 9 := by rw [eV]; exact (up_c (by decide)).trans ((hi49 9 (by decide)).trans ((up_c (by decide)).trans (hi33 9 (by decide))))
      have hsmx : Same [17, 18, 19, 20, 21, 22, 23, 24] S V := by rw [eV]; exact same_up ((same_up (hs33.mono (by decide)) (by decide)).tr (hs49.mono (by decide))) (by decide)
      have h22x : V 22 (S 17 8) = r33 := by rw [eV, up_c (by decide)]; exact h22
      have h23x : V 23 (S 17 8) = r49 := by rw [eV, up_s]
      have hrow : (itY2 (S 16) (S 17 6) d) 4 (d 0 5) = r33 ∧ (itY2 (S 16) (S 17 6) d) 5 (d 0 5) = r49 ∧ (itY2 (S 16) (S 17 6) d) 0 5 = d 0 5 := by unfold itY2; (try simp only []); rw [if_pos (by rw [← hr49]; exact hc62)]; exact y3row hr33 hr49 hd5
      refine j_aload_n dX6_readSpare_72 rfl ?_
      refine j_getR dX6_readSpare_73 fg_X6_28 fq_17_5 ?_
      refine j_aload_n dX6_readSpare_76 rfl ?_
      refine j_getI (x := S 17 8) dX6_readSpare_77 fg_X6_38 fq_17_8 h8x (fun hi77 => ?_)
      refine j_aload_n dX6_readSpare_80 rfl ?_
      refine j_iconst dX6_readSpare_81 ?_
      refine j_bipush dX6_readSpare_82 (by decide) ?_
      refine j_callVi (As := [vi 0, vi 30]) (rest := [vi (S 17 8), .ref 24]) (t_X6_readNumber _ (itY2 (S 16) (S 17 6) d) 0 30 hC72 (by omega) (by omega)) rfl cm_X6_readNumber ci_X6_readNumber ml_X6_92 oq_17 rfl (Nat.le_of_ble_eq_true rfl) (Nat.le_of_ble_eq_true rfl) dX6_readSpare_84 (fun r84 S84 hp84 => ?_)
      obtain ⟨hr84, hC84, hs84, hi84, hT84⟩ := hp84
      rw [hxx, htx] at hr84 hC84
      have hb84 := numV_bd (x := S 16) (t := S 17 6) (lo := 0) (hi := 30) (by omega) (itY2 (S 16) (S 17 6) d)
      rw [← hr84] at hb84
      have hk84 := numD_k (x := S 16) (t := S 17 6) (lo := 0) (hi := 30) (itY2 (S 16) (S 17 6) d)
      have h884 : S84 17 8 = S 17 8 := (hi84 8 (by decide)).trans h8x
      have hC87 := hC84.putY (n := S 17 8) (v := r84) (c := 24) (e := 6) (fun _ => by rw [hk84.1 5 (by decide) (by decide), hrow.2.2]; exact e8.symm) (Or.inr (Or.inr ⟨rfl, rfl⟩))
      have hC98 := hC87.putN (n := S 17 8) ((up_c (by decide)).trans h884) (by omega) (fun _ => by rw [up_c (by decide), hk84.1 5 (by decide) (by decide), hrow.2.2]; exact e8.symm) (fun _ => by
        rw [up_c (by decide), up_c (by decide), up_s, up_c (by decide), up_c (by decide), up_s, hk84.2 4 (by decide), hk84.2 5 (by decide), hs84 22 (by decide), hs84 23 (by decide), h22x, h23x, e8]
        exact ⟨hrow.1.symm, hrow.2.1.symm, rfl⟩)
      refine j_iast dX6_readSpare_87 aq_24 (by omega) (by omega) (by omega) ?_
      refine j_aload_n dX6_readSpare_88 rfl ?_
      refine j_dup dX6_readSpare_89 rfl ?_
      refine j_getI (x := S 17 8) dX6_readSpare_90 fg_X6_38 fq_17_8 ((up_c (by decide)).trans h884) (fun hi90 => ?_)
      refine j_iconst dX6_readSpare_93 ?_
      refine j_iadd dX6_readSpare_94 ?_
      refine j_putI (i := 8) dX6_readSpare_95 fg_X6_38 ft_6_8 fq_17_8 rfl (by omega) ?_
      exact j_vret rfl dX6_readSpare_98 (fun h => by cases h) (hP _ _ ⟨by unfold itY; simp only []; rw [if_neg (by omega), ← hr84, ← e8]; exact hC98, same_up (same_up (hsmx.tr (hs84.mono (by decide))) (by decide)) (by decide), by rw [up_i (by decide), up_c (by decide), hi84 6 (by decide), htx], by rw [up_i (by decide), up_c (by decide), hi84 9 (by decide), h9x]⟩)
    · rw [he62]
      refine j_if_ne (tgt := 72) dX6_readSpare_65 (by decide) (by omega)  (fun h => absurd h (by decide)) (fun _ => ?_)
      have hf2 : (itY1 (S 16) (S 17 6) d) 0 1 = -1 := by apply Classical.byContradiction; intro z; exact hc62 (by rw [hr49, numV_f z]; omega)
      have hT13 := hT49 hf2
      have htl := hC36.1.1
      have hpos : (up S33 22 (S 17 8) r33) 17 11 = (itY1 (S 16) (S 17 6) d) 0 0 := (hC36.2.2 hf2).1
      have hsb := kTs_bd (x := S 16) (t := S 17 6) (p := (itY1 (S 16) (S 17 6) d) 0 0) (by rw [← hpos, ← et]; exact htl.2.1.2)
      have htl1 := htl.1; rw [et] at htl1
      have htl2 := htl.2.1; rw [hpos] at htl2
      refine j_aload_n dX6_readSpare_68 rfl ?_
      refine j_callVv (As := []) (rest := []) (t_X6_refuse _ (up (numD (S 16) (S 17 6) 0 9 (itY1 (S 16) (S 17 6) d)) 5 (d 0 5) (numV (S 16) (S 17 6) 0 9 (itY1 (S 16) (S 17 6) d))) hC52 (by rw [up_c (by decide), hT13]; omega)) rfl cm_X6_refuse ci_X6_refuse ml_X6_84 oq_17 rfl (Nat.le_of_ble_eq_true rfl) (Nat.le_of_ble_eq_true rfl) dX6_readSpare_69 (fun r69 S69 hp69 => ?_)
      obtain ⟨hC69, hs69, hi69⟩ := hp69
      rw [show (up S49 23 (S 17 8) r49) 17 13 = kTs (S 16) (S 17 6) ((itY1 (S 16) (S 17 6) d) 0 0) from (up_c (by decide)).trans hT13] at hC69
      have hC72 : RC S69 (itY2 (S 16) (S 17 6) d) := by unfold itY2; (try simp only []); rw [if_neg (by rw [← hr49]; exact hc62)]; exact hC69
      have h8x : S69 17 8 = S 17 8 := (hi69 8 (by decide)).trans ((up_c (by decide)).trans h849)
      have hxx : S69 16 = S 16 := (hs69 16 (by decide)).trans ((up_row (by decide)).trans ((hs49 16 (by decide)).trans ex))
      have htx : S69 17 6 = S 17 6 := (hi69 6 (by decide)).trans ((up_c (by decide)).trans ((hi49 6 (by decide)).trans et))
      have h9x : S69 17 9 = S 17 9 := (hi69 9 (by decide)).trans ((up_c (by decide)).trans ((hi49 9 (by decide)).trans ((up_c (by decide)).trans (hi33 9 (by decide)))))
      have hsmx : Same [17, 18, 19, 20, 21, 22, 23, 24] S S69 := (same_up ((same_up (hs33.mono (by decide)) (by decide)).tr (hs49.mono (by decide))) (by decide)).tr (hs69.mono (by decide))
      have h22x : S69 22 (S 17 8) = r33 := by rw [hs69 22 (by decide), up_c (by decide)]; exact h22
      have h23x : S69 23 (S 17 8) = r49 := by rw [hs69 23 (by decide), up_s]
      have hrow : (itY2 (S 16) (S 17 6) d) 4 (d 0 5) = r33 ∧ (itY2 (S 16) (S 17 6) d) 5 (d 0 5) = r49 ∧ (itY2 (S 16) (S 17 6) d) 0 5 = d 0 5 := by unfold itY2; (try simp only []); rw [if_neg (by rw [← hr49]; exact hc62)]; exact y2row hf2 hr33 hr49 hd5
      refine j_aload_n dX6_readSpare_72 rfl ?_
      refine j_getR dX6_readSpare_73 fg_X6_28 fq_17_5 ?_
      refine j_aload_n dX6_readSpare_76 rfl ?_
      refine j_getI (x := S 17 8) dX6_readSpare_77 fg_X6_38 fq_17_8 h8x (fun hi77 => ?_)
      refine j_aload_n dX6_readSpare_80 rfl ?_
      refine j_iconst dX6_readSpare_81 ?_
      refine j_bipush dX6_readSpare_82 (by decide) ?_
      refine j_callVi (As := [vi 0, vi 30]) (rest := [vi (S 17 8), .ref 24]) (t_X6_readNumber _ (itY2 (S 16) (S 17 6) d) 0 30 hC72 (by omega) (by omega)) rfl cm_X6_readNumber ci_X6_readNumber ml_X6_92 oq_17 rfl (Nat.le_of_ble_eq_true rfl) (Nat.le_of_ble_eq_true rfl) dX6_readSpare_84 (fun r84 S84 hp84 => ?_)
      obtain ⟨hr84, hC84, hs84, hi84, hT84⟩ := hp84
      rw [hxx, htx] at hr84 hC84
      have hb84 := numV_bd (x := S 16) (t := S 17 6) (lo := 0) (hi := 30) (by omega) (itY2 (S 16) (S 17 6) d)
      rw [← hr84] at hb84
      have hk84 := numD_k (x := S 16) (t := S 17 6) (lo := 0) (hi := 30) (itY2 (S 16) (S 17 6) d)
      have h884 : S84 17 8 = S 17 8 := (hi84 8 (by decide)).trans h8x
      have hC87 := hC84.putY (n := S 17 8) (v := r84) (c := 24) (e := 6) (fun _ => by rw [hk84.1 5 (by decide) (by decide), hrow.2.2]; exact e8.symm) (Or.inr (Or.inr ⟨rfl, rfl⟩))
      have hC98 := hC87.putN (n := S 17 8) ((up_c (by decide)).trans h884) (by omega) (fun _ => by rw [up_c (by decide), hk84.1 5 (by decide) (by decide), hrow.2.2]; exact e8.symm) (fun _ => by
        rw [up_c (by decide), up_c (by decide), up_s, up_c (by decide), up_c (by decide), up_s, hk84.2 4 (by decide), hk84.2 5 (by decide), hs84 22 (by decide), hs84 23 (by decide), h22x, h23x, e8]
        exact ⟨hrow.1.symm, hrow.2.1.symm, rfl⟩)
      refine j_iast dX6_readSpare_87 aq_24 (by omega) (by omega) (by omega) ?_
      refine j_aload_n dX6_readSpare_88 rfl ?_
      refine j_dup dX6_readSpare_89 rfl ?_
      refine j_getI (x := S 17 8) dX6_readSpare_90 fg_X6_38 fq_17_8 ((up_c (by decide)).trans h884) (fun hi90 => ?_)
      refine j_iconst dX6_readSpare_93 ?_
      refine j_iadd dX6_readSpare_94 ?_
      refine j_putI (i := 8) dX6_readSpare_95 fg_X6_38 ft_6_8 fq_17_8 rfl (by omega) ?_
      exact j_vret rfl dX6_readSpare_98 (fun h => by cases h) (hP _ _ ⟨by unfold itY; simp only []; rw [if_neg (by omega), ← hr84, ← e8]; exact hC98, same_up (same_up (hsmx.tr (hs84.mono (by decide))) (by decide)) (by decide), by rw [up_i (by decide), up_c (by decide), hi84 6 (by decide), htx], by rw [up_i (by decide), up_c (by decide), hi84 9 (by decide), h9x]⟩)
  · refine j_aload_n dX6_readSpare_9 rfl ?_
    refine j_callVv (As := []) (rest := []) (t_X6_refuse _ d hC (by omega)) rfl cm_X6_refuse ci_X6_refuse ml_X6_84 oq_17 rfl (Nat.le_of_ble_eq_true rfl) (Nat.le_of_ble_eq_true rfl) dX6_readSpare_10 (fun r10 S10 hp10 => ?_)
    obtain ⟨hC10, hs10, hi10⟩ := hp10
    exact j_vret rfl dX6_readSpare_13 (fun h => by cases h) (hP _ _ ⟨by unfold itY; rw [if_pos (by omega)]; exact hC10, hs10.mono (by decide), hi10 6 (by decide), hi10 9 (by decide)⟩)
theorem sa_rc {S S4 : St} {t : Int} (h0 : 0 ≤ t) (h1 : t ≤ 200) (hl : ∀ i, 0 ≤ i → i < t → 0 ≤ S 16 i ∧ S 16 i ≤ 255) (hs : Same [18, 19, 20] S S4) (ha : S4 18 0 = 3) (hb : ∀ k, 0 ≤ k → k < 6 → S4 19 k = 1 ∧ S4 20 k = 9) : RC (up (up (up (up (up (up S4 17 6 t) 17 7 0) 17 8 0) 17 9 0) 17 10 (-1)) 17 11 0) d0S := by
  have e16 := hs 16 (by decide)
  refine ⟨⟨⟨⟨h0, h1⟩, ⟨Int.le_refl _, h0⟩, ?_⟩, ?_, ⟨Int.le_refl _, (by decide : (0 : Int) ≤ 4)⟩, ⟨Int.le_refl _, (by decide : (0 : Int) ≤ 6)⟩, ⟨Int.le_refl _, (by decide : (-1 : Int) ≤ 200)⟩⟩, rfl, fun _ => ?_⟩
  · show ∀ i, 0 ≤ i → i < t → 0 ≤ S4 16 i ∧ S4 16 i ≤ 255
    rw [e16]; exact hl
  · show 2 ≤ S4 18 0 ∧ S4 18 0 ≤ 6
    omega
  · refine ⟨rfl, rfl, ha, rfl, rfl, fun i a b => ?_, fun i a b => ?_, fun i a b => ?_⟩
    · exact hb i a b
    · have : i < 0 := b
      omega
    · have : i < 0 := b
      omega
set_option maxRecDepth 100000 in
set_option maxHeartbeats 4000000 in
theorem t_X6_startAnew (S : St) (t : Int) (h0 : 0 ≤ t) (h1 : t ≤ 200) (hl : ∀ i, 0 ≤ i → i < t → 0 ≤ S 16 i ∧ S 16 i ≤ 255) : EX mX6_startAnew [.ref 17, vi t] S (fun r S' => RC S' d0S ∧ Same [17, 18, 19, 20, 21, 22, 23, 24] S S' ∧ S' 17 6 = t ∧ S' 17 9 = 0) := by
  suffices hh : ∀ P : Int → St → Prop, (∀ r S', (RC S' d0S ∧ Same [17, 18, 19, 20, 21, 22, 23, 24] S S' ∧ S' 17 6 = t ∧ S' 17 9 = 0) → P r S') → EX mX6_startAnew [.ref 17, vi t] S P from hh _ (fun _ _ h => h)
  intro P hP
  refine EX.of (L := [(0, .ref 17), (1, vi t)]) rfl rfl (Nat.le_of_ble_eq_true rfl) rfl ?_
  refine j_aload_n dX6_startAnew_0 rfl ?_
  refine j_getR dX6_startAnew_1 fg_X6_12 fq_17_1 ?_
  refine j_callVv (As := []) (rest := []) (t_X5_startAnew _) rfl cm_X5_startAnew ci_X5_startAnew ml_X6_90 oq_18 rfl (Nat.le_of_ble_eq_true rfl) (Nat.le_of_ble_eq_true rfl) dX6_startAnew_4 (fun r4 S4 hp4 => ?_)
  obtain ⟨hs4, hp4a, hp4b⟩ := hp4
  refine j_aload_n dX6_startAnew_7 rfl ?_
  refine j_iload_n dX6_startAnew_8 rfl ?_
  refine j_putI (i := 6) dX6_startAnew_9 fg_X6_31 ft_6_6 fq_17_6 rfl (by omega) ?_
  refine j_aload_n dX6_startAnew_12 rfl ?_
  refine j_iconst dX6_startAnew_13 ?_
  refine j_putI (i := 7) dX6_startAnew_14 fg_X6_35 ft_6_7 fq_17_7 rfl (by omega) ?_
  refine j_aload_n dX6_startAnew_17 rfl ?_
  refine j_iconst dX6_startAnew_18 ?_
  refine j_putI (i := 8) dX6_startAnew_19 fg_X6_38 ft_6_8 fq_17_8 rfl (by omega) ?_
  refine j_aload_n dX6_startAnew_22 rfl ?_
  refine j_iconst dX6_startAnew_23 ?_
  refine j_putI (i := 9) dX6_startAnew_24 fg_X6_41 ft_6_9 fq_17_9 rfl (by omega) ?_
  refine j_aload_n dX6_startAnew_27 rfl ?_
  refine j_iconst dX6_startAnew_28 ?_
  refine j_putI (i := 10) dX6_startAnew_29 fg_X6_44 ft_6_10 fq_17_10 rfl (by omega) ?_
  refine j_aload_n dX6_startAnew_32 rfl ?_
  refine j_iconst dX6_startAnew_33 ?_
  refine j_putI (i := 11) dX6_startAnew_34 fg_X6_47 ft_6_11 fq_17_11 rfl (by omega) ?_
  exact j_vret rfl dX6_startAnew_37 (fun h => by cases h) (hP _ _ ⟨sa_rc h0 h1 hl hs4 hp4a hp4b, same_up (same_up (same_up (same_up (same_up (same_up (hs4.mono (by decide)) (by decide)) (by decide)) (by decide)) (by decide)) (by decide)) (by decide), rfl, rfl⟩)
theorem up_self (S : St) (c : Nat) (i : Int) : up S c i (S c i) = S := by
  funext c' i'
  unfold up
  split
  · rename_i h
    subst h
    split
    · rename_i h
      rw [h]
    · rfl
  · rfl
theorem prs_go {x : Int → Int} {t : Int} {d : St} {n : Int} (hn : 0 < n) (h : d 0 1 = -1) (hk : kTk x t (d 0 0) ≠ -1) : prs x t n.toNat d = prs x t (n + -1).toNat (itE x t (itB x t d)) := by
  have e : n.toNat = (n + -1).toNat + 1 := by omega
  rw [e]
  show (@ite St _ (Classical.propDecidable _) _ _) = _
  rw [if_pos ⟨h, hk⟩]
theorem prs_end {x : Int → Int} {t : Int} {d : St} {n : Nat} (h : ¬ (d 0 1 = -1 ∧ kTk x t (d 0 0) ≠ -1)) : prs x t n d = d := by
  cases n with
  | zero => rfl
  | succ n =>
    show (@ite St _ (Classical.propDecidable _) _ _) = _
    rw [if_neg h]
theorem prs_end2 {x : Int → Int} {t : Int} {d : St} {n : Int} (h : n ≤ 0 ∨ d 0 1 ≠ -1) : prs x t n.toNat d = d := by
  rcases h with h | h
  · have e : n.toNat = 0 := by omega
    rw [e]
    rfl
  · exact prs_end (fun z => h z.1)
set_option maxRecDepth 100000 in
set_option maxHeartbeats 4000000 in
theorem t_X6_readAll (S : St) (t : Int) (h0 : 0 ≤ t) (h1 : t ≤ 200) (hl : ∀ i, 0 ≤ i → i < t → 0 ≤ S 16 i ∧ S 16 i ≤ 255) : EX mX6_readAll [.ref 17, vi t] S (fun r S' => r = prs (S 16) t t.toNat d0S 0 1 ∧ (∃ p, RC S' (up (prs (S 16) t t.toNat d0S) 0 0 p)) ∧ Same [17, 18, 19, 20, 21, 22, 23, 24] S S') := by
  suffices hh : ∀ P : Int → St → Prop, (∀ r S', (r = prs (S 16) t t.toNat d0S 0 1 ∧ (∃ p, RC S' (up (prs (S 16) t t.toNat d0S) 0 0 p)) ∧ Same [17, 18, 19, 20, 21, 22, 23, 24] S S') → P r S') → EX mX6_readAll [.ref 17, vi t] S P from hh _ (fun _ _ h => h)
  intro P hP
  refine EX.of (L := [(0, .ref 17), (1, vi t)]) rfl rfl (Nat.le_of_ble_eq_true rfl) rfl ?_
  refine j_aload_n dX6_readAll_0 rfl ?_
  refine j_iload_n dX6_readAll_1 rfl ?_
  refine j_callVv (As := [vi t]) (rest := []) (t_X6_startAnew _ t h0 h1 hl) rfl cm_X6_startAnew ci_X6_startAnew ml_X6_62 oq_17 rfl (Nat.le_of_ble_eq_true rfl) (Nat.le_of_ble_eq_true rfl) dX6_readAll_2 (fun r2 S2 hp2 => ?_)
  obtain ⟨hC2, hs2, h62, h92⟩ := hp2
  refine j_aload_n dX6_readAll_5 rfl ?_
  refine j_getI (x := t) dX6_readAll_6 fg_X6_31 fq_17_6 h62 (fun hi6 => ?_)
  refine j_istore_n (L' := [(0, .ref 17), (1, vi t), (2, vi t)]) dX6_readAll_9 (Nat.le_of_ble_eq_true rfl) rfl ?_
  have lp10 : ∀ (n : Nat) (le : Int) (T : St), le.toNat < n → (∃ d, (0 ≤ le ∧ le ≤ t) ∧ RC T d ∧ Same [17, 18, 19, 20, 21, 22, 23, 24] S T ∧ T 17 6 = t ∧ (0 ≤ T 17 9 ∧ T 17 9 + le ≤ t) ∧ prs (S 16) t le.toNat d = prs (S 16) t t.toNat d0S) → JJ mX6_readAll (RX mX6_readAll P) 10 [(0, .ref 17), (1, vi t), (2, vi le)] [] T := by
    intro n
    induction n with
    | zero => intro le T hm; exact absurd hm (Nat.not_lt_zero _)
    | succ n ih10 =>
      intro le T hm10 hv10
      obtain ⟨d, hv1, hC, hv3, hv4, hv5, hv6⟩ := hv10
      have eT_16 : T 16 = S 16 := hv3 16 (by decide)
      have hfd := hC.2.1
      have hfb := hC.1.2.2.2.2
      refine j_iload_n dX6_readAll_10 rfl ?_
      refine j_if_le (tgt := 142) dX6_readAll_11 (by decide) (by omega)  (fun h11 => ?_) (fun h11 => ?_)
      · refine j_aload_n dX6_readAll_142 rfl ?_
        refine j_getI (x := T 17 10) dX6_readAll_143 fg_X6_44 fq_17_10 rfl (fun hi143 => ?_)
        exact j_iret rfl dX6_readAll_146 (fun h => by cases h) (hP _ _ ⟨by rw [← hv6, prs_end2 (by first | omega | exact Or.inr (by omega))]; exact hfd, ⟨d 0 0, by rw [← hv6, prs_end2 (by first | omega | exact Or.inr (by omega)), up_self]; exact hC⟩, hv3⟩)
      · refine j_aload_n dX6_readAll_14 rfl ?_
        refine j_getI (x := T 17 10) dX6_readAll_15 fg_X6_44 fq_17_10 rfl (fun hi15 => ?_)
        refine j_iconst dX6_readAll_18 ?_
        refine j_icmp_ne (tgt := 142) dX6_readAll_19 (by decide) (by omega) (by omega) (fun h19 => ?_) (fun h19 => ?_)
        · refine j_aload_n dX6_readAll_142 rfl ?_
          refine j_getI (x := T 17 10) dX6_readAll_143 fg_X6_44 fq_17_10 rfl (fun hi143 => ?_)
          exact j_iret rfl dX6_readAll_146 (fun h => by cases h) (hP _ _ ⟨by rw [← hv6, prs_end2 (by first | omega | exact Or.inr (by omega))]; exact hfd, ⟨d 0 0, by rw [← hv6, prs_end2 (by first | omega | exact Or.inr (by omega)), up_self]; exact hC⟩, hv3⟩)
        · refine j_aload_n dX6_readAll_22 rfl ?_
          refine j_callVv (As := []) (rest := []) (t_X6_step _ hC.1.1) rfl cm_X6_step ci_X6_step ml_X6_66 oq_17 rfl (Nat.le_of_ble_eq_true rfl) (Nat.le_of_ble_eq_true rfl) dX6_readAll_23 (fun r23 S23 hp23 => ?_)
          obtain ⟨hk23, hs23, he23, ht23, hv23⟩ := hp23
          have hde : d 0 1 = -1 := by omega
          obtain ⟨e11, e9, e18, e7, e8, eW, eO, eY⟩ := hC.2.2 hde
          have hr10 : ∀ i, i < 11 → S23 17 i = T 17 i := hk23.2
          rw [eT_16, hv4, e11] at hs23 he23 ht23
          have hR := hC.1.1
          have hp1 := hR.2.1
          rw [hv4, e11] at hp1
          have hkb := kTe_bd (x := S 16) (t := t) (p := d 0 0) hp1.2
          have hsb := kTs_bd (x := S 16) (t := t) (p := d 0 0) hp1.2
          have hC23 : RC S23 (up d 0 0 (kTe (S 16) t (d 0 0))) := hC.move hk23.1 (fun i h => hr10 i (by omega)) (by rw [he23, hv4]; omega) (by rw [hr10 10 (by decide)]; exact hfb) (by rw [hr10 10 (by decide), up_i (by decide)]; exact hfd) (fun _ => ⟨by rw [up_s]; exact he23, hde⟩) ⟨fun i a b => up_i a, fun c hc => up_row hc⟩
          have hd1 : (up d 0 0 (kTe (S 16) t (d 0 0))) 0 1 = -1 := (up_i (by decide)).trans hde
          have h13b : 0 ≤ S23 17 13 ∧ S23 17 13 ≤ 200 := by rw [hs23]; omega
          have x23 : S23 16 = S 16 := (hk23.1 16 (by decide)).trans eT_16
          have t23 : S23 17 6 = t := (hr10 6 (by decide)).trans hv4
          have n23 : S23 17 9 = T 17 9 := hr10 9 (by decide)
          have m23 : Same [17, 18, 19, 20, 21, 22, 23, 24] S S23 := hv3.tr (hk23.1.mono (by decide))
          refine j_aload_n dX6_readAll_26 rfl ?_
          refine j_getI (x := kTk (S 16) t (d 0 0)) dX6_readAll_27 fg_X6_50 fq_17_12 ht23 (fun hi27 => ?_)
          rcases (by omega : (kTk (S 16) t (d 0 0) ≠ -1 ∧ kTk (S 16) t (d 0 0) ≠ 108 ∧ kTk (S 16) t (d 0 0) ≠ 110 ∧ kTk (S 16) t (d 0 0) ≠ 115 ∧ kTk (S 16) t (d 0 0) ≠ 119 ∧ kTk (S 16) t (d 0 0) ≠ 121) ∨ kTk (S 16) t (d 0 0) = -1 ∨ kTk (S 16) t (d 0 0) = 108 ∨ kTk (S 16) t (d 0 0) = 110 ∨ kTk (S 16) t (d 0 0) = 115 ∨ kTk (S 16) t (d 0 0) = 119 ∨ kTk (S 16) t (d 0 0) = 121) with hs30 | hs30 | hs30 | hs30 | hs30 | hs30 | hs30
          · refine j_lookup (off := 98) (tgt := 128) dX6_readAll_30 (by decide) (by rw [← ht23]; omega) (by show Op.lookupswitch.offset [(-1, 58), (108, 77), (110, 63), (115, 84), (119, 70), (121, 91)] (98) (kTk (S 16) t (d 0 0)) = _; rw [Op.lookupswitch.offset_cons, if_neg (by omega), Op.lookupswitch.offset_cons, if_neg (by omega), Op.lookupswitch.offset_cons, if_neg (by omega), Op.lookupswitch.offset_cons, if_neg (by omega), Op.lookupswitch.offset_cons, if_neg (by omega), Op.lookupswitch.offset_cons, if_neg (by omega)]; rfl) (by decide) ?_
            refine j_aload_n dX6_readAll_128 rfl ?_
            refine j_callVv (As := []) (rest := []) (t_X6_refuse _ _ hC23 h13b) rfl cm_X6_refuse ci_X6_refuse ml_X6_84 oq_17 rfl (Nat.le_of_ble_eq_true rfl) (Nat.le_of_ble_eq_true rfl) dX6_readAll_129 (fun r129 S129 hp129 => ?_)
            obtain ⟨hCi, hsi0, hi129⟩ := hp129
            rw [hs23] at hCi
            have hne : kTk (S 16) t (d 0 0) ≠ -1 := by omega
            have hb : itB (S 16) t d = refD (up d 0 0 (kTe (S 16) t (d 0 0))) (kTs (S 16) t (d 0 0)) := by unfold itB; simp only []; rw [if_neg (by omega), if_neg (by omega), if_neg (by omega), if_neg (by omega), if_neg (by omega)]
            rw [← hb] at hCi
            have h6i : S129 17 6 = S23 17 6 := hi129 6 (by decide)
            have h9i : S129 17 9 = S23 17 9 := hi129 9 (by decide)
            have mi : Same [17, 18, 19, 20, 21, 22, 23, 24] S S129 := m23.tr (hsi0.mono (by decide))
            refine j_aload_n dX6_readAll_132 rfl ?_
            refine j_callVv (As := []) (rest := []) (t_X6_readEnd _ _ hCi (by omega)) rfl cm_X6_readEnd ci_X6_readEnd ml_X6_87 oq_17 rfl (Nat.le_of_ble_eq_true rfl) (Nat.le_of_ble_eq_true rfl) dX6_readAll_133 (fun r133 S133 hp133 => ?_)
            obtain ⟨hCe, hse0, h6e0, h9a, h9b⟩ := hp133
            have xi : S129 16 = S 16 := mi 16 (by decide)
            have ti : S129 17 6 = t := h6i.trans t23
            rw [xi, ti] at hCe
            have hse : Same [17, 18, 19, 20, 21, 22, 23, 24] S S133 := mi.tr hse0
            have h6e : S133 17 6 = t := h6e0.trans ti
            refine j_iinc (L' := [(0, .ref 17), (1, vi t), (2, vi (le + (-1)))]) dX6_readAll_136 (Nat.le_of_ble_eq_true rfl) rfl rfl ?_
            refine j_goto (tgt := 10) dX6_readAll_139 (by decide) ?_
            exact ih10 (le + (-1)) S133 (by omega) ⟨_, by omega, hCe, hse, h6e, by omega, by rw [← hv6, prs_go (by omega) hde hne]⟩
          · refine j_lookup (off := 58) (tgt := 88) dX6_readAll_30 (by decide) (by rw [← ht23]; omega) (by rw [hs30]; decide) (by decide) ?_
            refine j_aload_n dX6_readAll_88 rfl ?_
            refine j_getI (x := T 17 10) dX6_readAll_89 fg_X6_44 fq_17_10 (hr10 10 (by decide)) (fun hi89 => ?_)
            exact j_iret rfl dX6_readAll_92 (fun h => by cases h) (hP _ _ ⟨by rw [← hv6, prs_end (fun z => z.2 hs30)]; exact hfd, ⟨_, by rw [← hv6, prs_end (fun z => z.2 hs30)]; exact hC23⟩, m23⟩)
          · refine j_lookup (off := 77) (tgt := 107) dX6_readAll_30 (by decide) (by rw [← ht23]; omega) (by rw [hs30]; decide) (by decide) ?_
            refine j_aload_n dX6_readAll_107 rfl ?_
            refine j_callVv (As := []) (rest := []) (t_X6_readLife _ _ hC23 hd1 h13b) rfl cm_X6_readLife ci_X6_readLife ml_X6_75 oq_17 rfl (Nat.le_of_ble_eq_true rfl) (Nat.le_of_ble_eq_true rfl) dX6_readAll_108 (fun r108 S108 hp108 => ?_)
            obtain ⟨hCi, hsi, h6i, h9i⟩ := hp108
            rw [x23, t23] at hCi
            have hb : itB (S 16) t d = itW (S 16) t 30 2 (up d 0 0 (kTe (S 16) t (d 0 0))) := by unfold itB; simp [hs30]
            rw [← hb] at hCi
            have hne : kTk (S 16) t (d 0 0) ≠ -1 := by omega
            have mi : Same [17, 18, 19, 20, 21, 22, 23, 24] S S108 := m23.tr hsi
            refine j_goto (tgt := 132) dX6_readAll_111 (by decide) ?_
            refine j_aload_n dX6_readAll_132 rfl ?_
            refine j_callVv (As := []) (rest := []) (t_X6_readEnd _ _ hCi (by omega)) rfl cm_X6_readEnd ci_X6_readEnd ml_X6_87 oq_17 rfl (Nat.le_of_ble_eq_true rfl) (Nat.le_of_ble_eq_true rfl) dX6_readAll_133 (fun r133 S133 hp133 => ?_)
            obtain ⟨hCe, hse0, h6e0, h9a, h9b⟩ := hp133
            have xi : S108 16 = S 16 := mi 16 (by decide)
            have ti : S108 17 6 = t := h6i.trans t23
            rw [xi, ti] at hCe
            have hse : Same [17, 18, 19, 20, 21, 22, 23, 24] S S133 := mi.tr hse0
            have h6e : S133 17 6 = t := h6e0.trans ti
            refine j_iinc (L' := [(0, .ref 17), (1, vi t), (2, vi (le + (-1)))]) dX6_readAll_136 (Nat.le_of_ble_eq_true rfl) rfl rfl ?_
            refine j_goto (tgt := 10) dX6_readAll_139 (by decide) ?_
            exact ih10 (le + (-1)) S133 (by omega) ⟨_, by omega, hCe, hse, h6e, by omega, by rw [← hv6, prs_go (by omega) hde hne]⟩
          · refine j_lookup (off := 63) (tgt := 93) dX6_readAll_30 (by decide) (by rw [← ht23]; omega) (by rw [hs30]; decide) (by decide) ?_
            refine j_aload_n dX6_readAll_93 rfl ?_
            refine j_callVv (As := []) (rest := []) (t_X6_readPlaces _ _ hC23 hd1 h13b) rfl cm_X6_readPlaces ci_X6_readPlaces ml_X6_69 oq_17 rfl (Nat.le_of_ble_eq_true rfl) (Nat.le_of_ble_eq_true rfl) dX6_readAll_94 (fun r94 S94 hp94 => ?_)
            obtain ⟨hCi, hsi, h6i, h9i⟩ := hp94
            rw [x23, t23, hs23] at hCi
            have hb : itB (S 16) t d = itN (S 16) t (up d 0 0 (kTe (S 16) t (d 0 0))) (kTs (S 16) t (d 0 0)) := by unfold itB; simp [hs30]
            rw [← hb] at hCi
            have hne : kTk (S 16) t (d 0 0) ≠ -1 := by omega
            have mi : Same [17, 18, 19, 20, 21, 22, 23, 24] S S94 := m23.tr hsi
            refine j_goto (tgt := 132) dX6_readAll_97 (by decide) ?_
            refine j_aload_n dX6_readAll_132 rfl ?_
            refine j_callVv (As := []) (rest := []) (t_X6_readEnd _ _ hCi (by omega)) rfl cm_X6_readEnd ci_X6_readEnd ml_X6_87 oq_17 rfl (Nat.le_of_ble_eq_true rfl) (Nat.le_of_ble_eq_true rfl) dX6_readAll_133 (fun r133 S133 hp133 => ?_)
            obtain ⟨hCe, hse0, h6e0, h9a, h9b⟩ := hp133
            have xi : S94 16 = S 16 := mi 16 (by decide)
            have ti : S94 17 6 = t := h6i.trans t23
            rw [xi, ti] at hCe
            have hse : Same [17, 18, 19, 20, 21, 22, 23, 24] S S133 := mi.tr hse0
            have h6e : S133 17 6 = t := h6e0.trans ti
            refine j_iinc (L' := [(0, .ref 17), (1, vi t), (2, vi (le + (-1)))]) dX6_readAll_136 (Nat.le_of_ble_eq_true rfl) rfl rfl ?_
            refine j_goto (tgt := 10) dX6_readAll_139 (by decide) ?_
            exact ih10 (le + (-1)) S133 (by omega) ⟨_, by omega, hCe, hse, h6e, by omega, by rw [← hv6, prs_go (by omega) hde hne]⟩
          · refine j_lookup (off := 84) (tgt := 114) dX6_readAll_30 (by decide) (by rw [← ht23]; omega) (by rw [hs30]; decide) (by decide) ?_
            refine j_aload_n dX6_readAll_114 rfl ?_
            refine j_callVv (As := []) (rest := []) (t_X6_readShip _ _ hC23 hd1 h13b) rfl cm_X6_readShip ci_X6_readShip ml_X6_78 oq_17 rfl (Nat.le_of_ble_eq_true rfl) (Nat.le_of_ble_eq_true rfl) dX6_readAll_115 (fun r115 S115 hp115 => ?_)
            obtain ⟨hCi, hsi, h6i, h9i⟩ := hp115
            rw [x23, t23, hs23] at hCi
            have hb : itB (S 16) t d = itS (S 16) t (up d 0 0 (kTe (S 16) t (d 0 0))) (kTs (S 16) t (d 0 0)) := by unfold itB; simp [hs30]
            rw [← hb] at hCi
            have hne : kTk (S 16) t (d 0 0) ≠ -1 := by omega
            have mi : Same [17, 18, 19, 20, 21, 22, 23, 24] S S115 := m23.tr hsi
            refine j_goto (tgt := 132) dX6_readAll_118 (by decide) ?_
            refine j_aload_n dX6_readAll_132 rfl ?_
            refine j_callVv (As := []) (rest := []) (t_X6_readEnd _ _ hCi (by omega)) rfl cm_X6_readEnd ci_X6_readEnd ml_X6_87 oq_17 rfl (Nat.le_of_ble_eq_true rfl) (Nat.le_of_ble_eq_true rfl) dX6_readAll_133 (fun r133 S133 hp133 => ?_)
            obtain ⟨hCe, hse0, h6e0, h9a, h9b⟩ := hp133
            have xi : S115 16 = S 16 := mi 16 (by decide)
            have ti : S115 17 6 = t := h6i.trans t23
            rw [xi, ti] at hCe
            have hse : Same [17, 18, 19, 20, 21, 22, 23, 24] S S133 := mi.tr hse0
            have h6e : S133 17 6 = t := h6e0.trans ti
            refine j_iinc (L' := [(0, .ref 17), (1, vi t), (2, vi (le + (-1)))]) dX6_readAll_136 (Nat.le_of_ble_eq_true rfl) rfl rfl ?_
            refine j_goto (tgt := 10) dX6_readAll_139 (by decide) ?_
            exact ih10 (le + (-1)) S133 (by omega) ⟨_, by omega, hCe, hse, h6e, by omega, by rw [← hv6, prs_go (by omega) hde hne]⟩
          · refine j_lookup (off := 70) (tgt := 100) dX6_readAll_30 (by decide) (by rw [← ht23]; omega) (by rw [hs30]; decide) (by decide) ?_
            refine j_aload_n dX6_readAll_100 rfl ?_
            refine j_callVv (As := []) (rest := []) (t_X6_readWeight _ _ hC23 hd1 h13b) rfl cm_X6_readWeight ci_X6_readWeight ml_X6_72 oq_17 rfl (Nat.le_of_ble_eq_true rfl) (Nat.le_of_ble_eq_true rfl) dX6_readAll_101 (fun r101 S101 hp101 => ?_)
            obtain ⟨hCi, hsi, h6i, h9i⟩ := hp101
            rw [x23, t23] at hCi
            have hb : itB (S 16) t d = itW (S 16) t 9 1 (up d 0 0 (kTe (S 16) t (d 0 0))) := by unfold itB; simp [hs30]
            rw [← hb] at hCi
            have hne : kTk (S 16) t (d 0 0) ≠ -1 := by omega
            have mi : Same [17, 18, 19, 20, 21, 22, 23, 24] S S101 := m23.tr hsi
            refine j_goto (tgt := 132) dX6_readAll_104 (by decide) ?_
            refine j_aload_n dX6_readAll_132 rfl ?_
            refine j_callVv (As := []) (rest := []) (t_X6_readEnd _ _ hCi (by omega)) rfl cm_X6_readEnd ci_X6_readEnd ml_X6_87 oq_17 rfl (Nat.le_of_ble_eq_true rfl) (Nat.le_of_ble_eq_true rfl) dX6_readAll_133 (fun r133 S133 hp133 => ?_)
            obtain ⟨hCe, hse0, h6e0, h9a, h9b⟩ := hp133
            have xi : S101 16 = S 16 := mi 16 (by decide)
            have ti : S101 17 6 = t := h6i.trans t23
            rw [xi, ti] at hCe
            have hse : Same [17, 18, 19, 20, 21, 22, 23, 24] S S133 := mi.tr hse0
            have h6e : S133 17 6 = t := h6e0.trans ti
            refine j_iinc (L' := [(0, .ref 17), (1, vi t), (2, vi (le + (-1)))]) dX6_readAll_136 (Nat.le_of_ble_eq_true rfl) rfl rfl ?_
            refine j_goto (tgt := 10) dX6_readAll_139 (by decide) ?_
            exact ih10 (le + (-1)) S133 (by omega) ⟨_, by omega, hCe, hse, h6e, by omega, by rw [← hv6, prs_go (by omega) hde hne]⟩
          · refine j_lookup (off := 91) (tgt := 121) dX6_readAll_30 (by decide) (by rw [← ht23]; omega) (by rw [hs30]; decide) (by decide) ?_
            refine j_aload_n dX6_readAll_121 rfl ?_
            refine j_callVv (As := []) (rest := []) (t_X6_readSpare _ _ hC23 hd1 h13b) rfl cm_X6_readSpare ci_X6_readSpare ml_X6_81 oq_17 rfl (Nat.le_of_ble_eq_true rfl) (Nat.le_of_ble_eq_true rfl) dX6_readAll_122 (fun r122 S122 hp122 => ?_)
            obtain ⟨hCi, hsi, h6i, h9i⟩ := hp122
            rw [x23, t23, hs23] at hCi
            have hb : itB (S 16) t d = itY (S 16) t (up d 0 0 (kTe (S 16) t (d 0 0))) (kTs (S 16) t (d 0 0)) := by unfold itB; simp [hs30]
            rw [← hb] at hCi
            have hne : kTk (S 16) t (d 0 0) ≠ -1 := by omega
            have mi : Same [17, 18, 19, 20, 21, 22, 23, 24] S S122 := m23.tr hsi
            refine j_goto (tgt := 132) dX6_readAll_125 (by decide) ?_
            refine j_aload_n dX6_readAll_132 rfl ?_
            refine j_callVv (As := []) (rest := []) (t_X6_readEnd _ _ hCi (by omega)) rfl cm_X6_readEnd ci_X6_readEnd ml_X6_87 oq_17 rfl (Nat.le_of_ble_eq_true rfl) (Nat.le_of_ble_eq_true rfl) dX6_readAll_133 (fun r133 S133 hp133 => ?_)
            obtain ⟨hCe, hse0, h6e0, h9a, h9b⟩ := hp133
            have xi : S122 16 = S 16 := mi 16 (by decide)
            have ti : S122 17 6 = t := h6i.trans t23
            rw [xi, ti] at hCe
            have hse : Same [17, 18, 19, 20, 21, 22, 23, 24] S S133 := mi.tr hse0
            have h6e : S133 17 6 = t := h6e0.trans ti
            refine j_iinc (L' := [(0, .ref 17), (1, vi t), (2, vi (le + (-1)))]) dX6_readAll_136 (Nat.le_of_ble_eq_true rfl) rfl rfl ?_
            refine j_goto (tgt := 10) dX6_readAll_139 (by decide) ?_
            exact ih10 (le + (-1)) S133 (by omega) ⟨_, by omega, hCe, hse, h6e, by omega, by rw [← hv6, prs_go (by omega) hde hne]⟩
  exact lp10 _ t S2 (Nat.lt_succ_self _) ⟨d0S, by omega, hC2, hs2, h62, by omega, rfl⟩
