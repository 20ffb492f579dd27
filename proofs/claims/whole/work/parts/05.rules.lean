def lk : List (Nat × Value) → Nat → Option Value
  | [], _ => none
  | q :: r, i => match Nat.beq q.1 i with
    | true => some q.2
    | false => lk r i
theorem lk_mem : ∀ {L : List (Nat × Value)} {i : Nat} {v : Value}, lk L i = some v → (i, v) ∈ L
  | [], i, v, h => by simp [lk] at h
  | q :: r, i, v, h => by
    unfold lk at h
    split at h
    · rename_i h1
      have := Nat.eq_of_beq_eq_true h1
      cases h
      rw [← this]
      exact List.mem_cons_self
    · exact List.mem_cons_of_mem _ (lk_mem h)
theorem lk_has {ls : Array Slot} {nL : Nat} {ad : Nat → Nat} {L : List (Nat × Value)} {i : Nat} {v : Value} (hl : lv_has ls nL (imL ad L)) (h : lk L i = some v) : ls[i]? = some (.val (im ad v)) :=
  hl.2.2 (i, im ad v) (List.mem_map.mpr ⟨(i, v), lk_mem h, rfl⟩)
def kp1 (i : Nat) (q : Nat × Value) : Bool := !(q.1 == i) && !(q.1 + 1 == i && q.2.category == 2)
def kp2 (i : Nat) (q : Nat × Value) : Bool := !(q.1 == i) && (!(q.1 == i + 1) && !(q.1 + 1 == i && q.2.category == 2))
def ins (i : Nat) (v : Value) : List (Nat × Value) → List (Nat × Value)
  | [] => [(i, v)]
  | q :: r => match Nat.ble i q.1 with
    | true => (i, v) :: q :: r
    | false => q :: ins i v r
theorem mem_ins {i : Nat} {v : Value} : ∀ {l : List (Nat × Value)} {q : Nat × Value}, q ∈ ins i v l → q ∈ (i, v) :: l
  | [], q, h => h
  | x :: r, q, h => by
    unfold ins at h
    split at h
    · exact h
    · rcases List.mem_cons.mp h with h | h
      · subst h
        exact List.mem_cons_of_mem _ List.mem_cons_self
      · rcases List.mem_cons.mp (mem_ins h) with h | h
        · subst h
          exact List.mem_cons_self
        · exact List.mem_cons_of_mem _ (List.mem_cons_of_mem _ h)
theorem imL_f1 (ad : Nat → Nat) (i : Nat) (L : List (Nat × Value)) : (imL ad L).filter (kp1 i) = imL ad (L.filter (kp1 i)) := by
  unfold imL
  rw [List.filter_map]
  congr 1
  apply List.filter_congr
  intro q _
  simp [kp1, im_cat]
theorem imL_f2 (ad : Nat → Nat) (i : Nat) (L : List (Nat × Value)) : (imL ad L).filter (kp2 i) = imL ad (L.filter (kp2 i)) := by
  unfold imL
  rw [List.filter_map]
  congr 1
  apply List.filter_congr
  intro q _
  simp [kp2, im_cat]
theorem has_sub {ls : Array Slot} {n : Nat} {l l' : List (Nat × Value)} (h : lv_has ls n l) (hs : ∀ q ∈ l', q ∈ l) : lv_has ls n l' := ⟨h.1, h.2.1, fun q hq => h.2.2 q (hs q hq)⟩
theorem has_ins {ls : Array Slot} {n i : Nat} {ad : Nat → Nat} {v w : Value} {l l' : List (Nat × Value)} (hw : im ad v = w) (h : lv_has ls n ((i, w) :: imL ad l)) (he : ins i v l = l') : lv_has ls n (imL ad l') := by
  refine has_sub h fun q hq => ?_
  obtain ⟨q0, h0, rfl⟩ := List.mem_map.mp hq
  rw [← he] at h0
  rcases List.mem_cons.mp (mem_ins h0) with h1 | h1
  · subst h1
    rw [hw]
    exact List.mem_cons_self
  · exact List.mem_cons_of_mem _ (List.mem_map.mpr ⟨q0, h1, rfl⟩)
theorem has_im {ls : Array Slot} {n : Nat} {ad : Nat → Nat} {l l' : List (Nat × Value)} (h : lv_has ls n (imL ad l)) (hs : ∀ q ∈ l', q ∈ l) : lv_has ls n (imL ad l') :=
  has_sub h fun q hq => by
    obtain ⟨q0, h0, rfl⟩ := List.mem_map.mp hq
    exact List.mem_map.mpr ⟨q0, hs q0 h0, rfl⟩
/-- a field's class and code; an array's kind and length -/
def fdq (c k : Nat) : Option (Nat × Nat) := match ds c with
  | (0, ci, l) => l[k]?.map (fun t => (ci, t))
  | _ => none
def arq (c : Nat) : Option (Nat × Nat) := match ds c with
  | (n + 1, m, _) => some (n + 1, m)
  | _ => none
theorem ds_big {c : Nat} (h : ¬ c < 135) : ds c = (0, 0, []) := by
  unfold ds
  rw [List.getD_eq_getElem?_getD, List.getElem?_eq_none]
  · rfl
  · have : TB.length = 135 := by decide +kernel
    omega
theorem fdq_get {c k ci t : Nat} (h : fdq c k = some (ci, t)) : c < 135 ∧ ∃ l, ds c = (0, ci, l) ∧ l[k]? = some t := by
  have hc : c < 135 := by
    apply Classical.byContradiction
    intro hn
    rw [fdq, ds_big hn] at h
    simp at h
  refine ⟨hc, ?_⟩
  unfold fdq at h
  split at h
  · rename_i ci' l hd
    cases hl : l[k]? with
    | none => rw [hl] at h; cases h
    | some t' =>
      rw [hl] at h
      cases h
      exact ⟨l, hd, hl⟩
  · cases h
theorem arq_get {c n m : Nat} (h : arq c = some (n, m)) : c < 135 ∧ ∃ l, ds c = (n, m, l) := by
  have hc : c < 135 := by
    apply Classical.byContradiction
    intro hn
    rw [arq, ds_big hn] at h
    simp at h
  refine ⟨hc, ?_⟩
  unfold arq at h
  split at h
  · rename_i n' m' l hd
    cases h
    exact ⟨l, hd⟩
  · cases h
theorem fdq_nl {c k ci : Nat} (h : fdq c k = some (ci, 0)) : ¬ lngAt c (k : Int) := by
  intro hl
  rcases hl with ⟨h1, h2⟩ | ⟨h1, h2⟩
  · subst h1
    have : k = 2 := by omega
    subst this
    rw [(by decide +kernel : fdq 13 2 = some (3, 1))] at h
    cases h
  · subst h1
    have : k = 1 := by omega
    subst this
    rw [(by decide +kernel : fdq 118 1 = some (8, 1))] at h
    cases h
theorem arq_nl {c n m : Nat} {i : Int} (h : arq c = some (n, m)) : ¬ lngAt c i := by
  intro hl
  rcases hl with ⟨h1, h2⟩ | ⟨h1, h2⟩ <;> subst h1
  · rw [(by decide +kernel : arq 13 = none)] at h
    cases h
  · rw [(by decide +kernel : arq 118 = none)] at h
    cases h
theorem arq_small {c n m : Nat} (h : arq c = some (n, m)) : m < 2147483648 := by
  obtain ⟨hc, l, hd⟩ := arq_get h
  have : ∀ c, c < 135 → (ds c).2.1 < 2147483648 := by decide +kernel
  have := this c hc
  rw [hd] at this
  exact this
/-- the links -/
def FG (own : String) (idx ci k : Nat) : Prop := ∃ (C : String) (T : u_T) (N : Nat), vwCl[ci]? = some (C, T, N) ∧ k < N ∧ (T k).1 = C ∧ ((Cond.fieldLink own idx C (T k).2.1 (T k).2.2.1) ∈ lw_good ∨ ∃ host, (Cond.fieldLinkNest own idx C (T k).2.1 (T k).2.2.1 host) ∈ lw_nest)
def FT (ci k : Nat) (ty : FieldType) : Prop := ∃ (C : String) (T : u_T) (N : Nat), vwCl[ci]? = some (C, T, N) ∧ (T k).2.2.2 = false ∧ parseFieldDescriptor (T k).2.2.1 = some ty
theorem uin_0 : ∀ w ∈ u_ws RX0 TX0 10, w ∈ lw_good := fun w h => mt ((by decide +kernel : ∀ w ∈ u_ws RX0 TX0 10, w ∈ lw_tbl) w h) ((by decide +kernel : ∀ w ∈ u_ws RX0 TX0 10, goodWord w = true) w h)
theorem uin_1 : ∀ w ∈ u_ws RX1 TX1 9, w ∈ lw_good := fun w h => mt ((by decide +kernel : ∀ w ∈ u_ws RX1 TX1 9, w ∈ lw_tbl) w h) ((by decide +kernel : ∀ w ∈ u_ws RX1 TX1 9, goodWord w = true) w h)
theorem uin_2 : ∀ w ∈ u_ws RX2 TX2 5, w ∈ lw_good := fun w h => mt ((by decide +kernel : ∀ w ∈ u_ws RX2 TX2 5, w ∈ lw_tbl) w h) ((by decide +kernel : ∀ w ∈ u_ws RX2 TX2 5, goodWord w = true) w h)
theorem uin_3 : ∀ w ∈ u_ws RX3 TX3 3, w ∈ lw_good := fun w h => mt ((by decide +kernel : ∀ w ∈ u_ws RX3 TX3 3, w ∈ lw_tbl) w h) ((by decide +kernel : ∀ w ∈ u_ws RX3 TX3 3, goodWord w = true) w h)
theorem uin_4 : ∀ w ∈ u_ws RX4 TX4 3, w ∈ lw_good := fun w h => mt ((by decide +kernel : ∀ w ∈ u_ws RX4 TX4 3, w ∈ lw_tbl) w h) ((by decide +kernel : ∀ w ∈ u_ws RX4 TX4 3, goodWord w = true) w h)
theorem uin_5 : ∀ w ∈ u_ws RX5 TX5 3, w ∈ lw_good := fun w h => mt ((by decide +kernel : ∀ w ∈ u_ws RX5 TX5 3, w ∈ lw_tbl) w h) ((by decide +kernel : ∀ w ∈ u_ws RX5 TX5 3, goodWord w = true) w h)
theorem uin_6 : ∀ w ∈ u_ws RX6 TX6 15, w ∈ lw_good := fun w h => mt ((by decide +kernel : ∀ w ∈ u_ws RX6 TX6 15, w ∈ lw_tbl) w h) ((by decide +kernel : ∀ w ∈ u_ws RX6 TX6 15, goodWord w = true) w h)
theorem uin_7 : ∀ w ∈ u_ws RX7 TX7 14, w ∈ lw_good := fun w h => mt ((by decide +kernel : ∀ w ∈ u_ws RX7 TX7 14, w ∈ lw_tbl) w h) ((by decide +kernel : ∀ w ∈ u_ws RX7 TX7 14, goodWord w = true) w h)
theorem uin_8 : ∀ w ∈ u_ws RX8 TX8 30, w ∈ lw_good := fun w h => mt ((by decide +kernel : ∀ w ∈ u_ws RX8 TX8 30, w ∈ lw_tbl) w h) ((by decide +kernel : ∀ w ∈ u_ws RX8 TX8 30, goodWord w = true) w h)
theorem vw_in {ci : Nat} {C : String} {T : u_T} {N : Nat} (h : vwCl[ci]? = some (C, T, N)) : (∀ w ∈ u_ws C T N, w ∈ lw_good) ∧ (∃ ty0 : Nat → FieldType, ∀ k, k < N → parseFieldDescriptor (T k).2.2.1 = some (ty0 k)) ∧ ∀ a, a < N → ∀ b, b < N → a ≠ b → (T a).2.1 ≠ (T b).2.1 := by
  match ci, h with
  | 0, h => cases h; exact ⟨uin_0, ⟨tyX0, tyX0_ok⟩, nmX0⟩
  | 1, h => cases h; exact ⟨uin_1, ⟨tyX1, tyX1_ok⟩, nmX1⟩
  | 2, h => cases h; exact ⟨uin_2, ⟨tyX2, tyX2_ok⟩, nmX2⟩
  | 3, h => cases h; exact ⟨uin_3, ⟨tyX3, tyX3_ok⟩, nmX3⟩
  | 4, h => cases h; exact ⟨uin_4, ⟨tyX4, tyX4_ok⟩, nmX4⟩
  | 5, h => cases h; exact ⟨uin_5, ⟨tyX5, tyX5_ok⟩, nmX5⟩
  | 6, h => cases h; exact ⟨uin_6, ⟨tyX6, tyX6_ok⟩, nmX6⟩
  | 7, h => cases h; exact ⟨uin_7, ⟨tyX7, tyX7_ok⟩, nmX7⟩
  | 8, h => cases h; exact ⟨uin_8, ⟨tyX8, tyX8_ok⟩, nmX8⟩
  | ci + 9, h => simp [vwCl] at h
section RR
variable {M : MT} {X : CtxT} {pc : Nat} {L L' : List (Nat × Value)} {st : List Value} {S : St}
theorem j_iconst {n : Int} (hd : decode M.2.1 pc = .ok (.iconst n, 1)) (k : JJ M X (pc + 1) L (vi n :: st) S) : JJ M X pc L st S := by
  intro p l e R s m args below meth c0 D cy ad A cells slots Q hB hX H locs ls hW hP hD hS hl
  exact lv_iconst hB.1 hB.2.1 hd rfl (k p l e R s m args below meth c0 D cy ad A cells slots Q hB hX H locs ls hW hP hD hS hl)
theorem j_bipush {n : Int} (hd : decode M.2.1 pc = .ok (.bipush n, 2)) (hn : (Int8.ofInt n).toInt32 = Int32.ofInt n) (k : JJ M X (pc + 2) L (vi n :: st) S) : JJ M X pc L st S := by
  intro p l e R s m args below meth c0 D cy ad A cells slots Q hB hX H locs ls hW hP hD hS hl
  exact lv_bipush hB.1 hB.2.1 hd hn (k p l e R s m args below meth c0 D cy ad A cells slots Q hB hX H locs ls hW hP hD hS hl)
theorem j_sipush {n : Int} (hd : decode M.2.1 pc = .ok (.sipush n, 3)) (hn : (Int16.ofInt n).toInt32 = Int32.ofInt n) (k : JJ M X (pc + 3) L (vi n :: st) S) : JJ M X pc L st S := by
  intro p l e R s m args below meth c0 D cy ad A cells slots Q hB hX H locs ls hW hP hD hS hl
  exact lv_sipush hB.1 hB.2.1 hd hn (k p l e R s m args below meth c0 D cy ad A cells slots Q hB hX H locs ls hW hP hD hS hl)
theorem j_lconst {n : Fin 2} {x : Int} (hd : decode M.2.1 pc = .ok (.lconst n, 1)) (hn : Int64.ofNat (n : Nat) = Int64.ofInt x) (k : JJ M X (pc + 1) L (vl x :: st) S) : JJ M X pc L st S := by
  intro p l e R s m args below meth c0 D cy ad A cells slots Q hB hX H locs ls hW hP hD hS hl
  exact lv_lconst hB.1 hB.2.1 hd hn (k p l e R s m args below meth c0 D cy ad A cells slots Q hB hX H locs ls hW hP hD hS hl)
theorem j_ldc {idx : Nat} {x : Int} (hd : decode M.2.1 pc = .ok (.ldc idx, 2)) (hw : (Cond.constant M.1.cls idx (Int32.ofInt x)) ∈ lw_good) (k : JJ M X (pc + 2) L (vi x :: st) S) : JJ M X pc L st S := by
  intro p l e R s m args below meth c0 D cy ad A cells slots Q hB hX H locs ls hW hP hD hS hl
  exact lv_ldc hB.1 hB.2.1 hB.2.2.2.2.1 (hB.2.2.2.2.2.1 _ hw) hd (k p l e R s m args below meth c0 D cy ad A cells slots Q hB hX H locs ls hW hP hD hS hl)
theorem j_ldcw {idx : Nat} {x : Int} (hd : decode M.2.1 pc = .ok (.ldc_w idx, 3)) (hw : (Cond.constant M.1.cls idx (Int32.ofInt x)) ∈ lw_good) (k : JJ M X (pc + 3) L (vi x :: st) S) : JJ M X pc L st S := by
  intro p l e R s m args below meth c0 D cy ad A cells slots Q hB hX H locs ls hW hP hD hS hl
  exact lv_ldcw hB.1 hB.2.1 hB.2.2.2.2.1 (hB.2.2.2.2.2.1 _ hw) hd (k p l e R s m args below meth c0 D cy ad A cells slots Q hB hX H locs ls hW hP hD hS hl)
theorem j_ldc2 {idx : Nat} {x : Int} (hd : decode M.2.1 pc = .ok (.ldc2_w idx, 3)) (hw : (Cond.constantLong M.1.cls idx (Int64.ofInt x)) ∈ lw_good) (k : JJ M X (pc + 3) L (vl x :: st) S) : JJ M X pc L st S := by
  intro p l e R s m args below meth c0 D cy ad A cells slots Q hB hX H locs ls hW hP hD hS hl
  exact lv_ldc2 hB.1 hB.2.1 hB.2.2.2.2.1 (hB.2.2.2.2.2.1 _ hw) hd (k p l e R s m args below meth c0 D cy ad A cells slots Q hB hX H locs ls hW hP hD hS hl)
theorem j_iload_n {n : Fin 4} {x : Int} (hd : decode M.2.1 pc = .ok (.iload_n n, 1)) (h : lk L n = some (vi x)) (k : JJ M X (pc + 1) L (vi x :: st) S) : JJ M X pc L st S := by
  intro p l e R s m args below meth c0 D cy ad A cells slots Q hB hX H locs ls hW hP hD hS hl
  exact lv_iload_n hB.1 hB.2.1 hd rfl (lk_has hl h) (k p l e R s m args below meth c0 D cy ad A cells slots Q hB hX H locs ls hW hP hD hS hl)
theorem j_iload {n : Nat} {x : Int} (hd : decode M.2.1 pc = .ok (.iload n, 2)) (h : lk L n = some (vi x)) (k : JJ M X (pc + 2) L (vi x :: st) S) : JJ M X pc L st S := by
  intro p l e R s m args below meth c0 D cy ad A cells slots Q hB hX H locs ls hW hP hD hS hl
  exact lv_iload hB.1 hB.2.1 hd (lk_has hl h) (k p l e R s m args below meth c0 D cy ad A cells slots Q hB hX H locs ls hW hP hD hS hl)
theorem j_lload_n {n : Fin 4} {x : Int} (hd : decode M.2.1 pc = .ok (.lload_n n, 1)) (h : lk L n = some (vl x)) (k : JJ M X (pc + 1) L (vl x :: st) S) : JJ M X pc L st S := by
  intro p l e R s m args below meth c0 D cy ad A cells slots Q hB hX H locs ls hW hP hD hS hl
  exact lv_lload_n hB.1 hB.2.1 hd rfl (lk_has hl h) (k p l e R s m args below meth c0 D cy ad A cells slots Q hB hX H locs ls hW hP hD hS hl)
theorem j_lload {n : Nat} {x : Int} (hd : decode M.2.1 pc = .ok (.lload n, 2)) (h : lk L n = some (vl x)) (k : JJ M X (pc + 2) L (vl x :: st) S) : JJ M X pc L st S := by
  intro p l e R s m args below meth c0 D cy ad A cells slots Q hB hX H locs ls hW hP hD hS hl
  exact lv_lload hB.1 hB.2.1 hd (lk_has hl h) (k p l e R s m args below meth c0 D cy ad A cells slots Q hB hX H locs ls hW hP hD hS hl)
theorem j_aload_n {n : Fin 4} {x : Nat} (hd : decode M.2.1 pc = .ok (.aload_n n, 1)) (h : lk L n = some (.ref x)) (k : JJ M X (pc + 1) L (.ref x :: st) S) : JJ M X pc L st S := by
  intro p l e R s m args below meth c0 D cy ad A cells slots Q hB hX H locs ls hW hP hD hS hl
  exact lv_aload_n hB.1 hB.2.1 hd rfl (lk_has hl h) (k p l e R s m args below meth c0 D cy ad A cells slots Q hB hX H locs ls hW hP hD hS hl)
theorem j_aload {n : Nat} {x : Nat} (hd : decode M.2.1 pc = .ok (.aload n, 2)) (h : lk L n = some (.ref x)) (k : JJ M X (pc + 2) L (.ref x :: st) S) : JJ M X pc L st S := by
  intro p l e R s m args below meth c0 D cy ad A cells slots Q hB hX H locs ls hW hP hD hS hl
  exact lv_aload hB.1 hB.2.1 hd (lk_has hl h) (k p l e R s m args below meth c0 D cy ad A cells slots Q hB hX H locs ls hW hP hD hS hl)
theorem j_istore_n {n : Fin 4} {x : Int} (hd : decode M.2.1 pc = .ok (.istore_n n, 1)) (hn : (n : Nat) < M.2.2.1) (hL : ins n (vi x) (L.filter (kp1 n)) = L') (k : JJ M X (pc + 1) L' st S) : JJ M X pc L (vi x :: st) S := by
  intro p l e R s m args below meth c0 D cy ad A cells slots Q hB hX H locs ls hW hP hD hS hl
  refine lv_istore_n hB.1 hB.2.1 hd rfl hl hn rfl (fun ls2 hl2 => ?_)
  have hl3 := hl2
  change lv_has ls2 _ ((_, _) :: (imL ad L).filter (kp1 n)) at hl3
  rw [imL_f1] at hl3
  exact k p l e R s m args below meth c0 D cy ad A cells slots Q hB hX H locs ls2 hW hP hD hS (has_ins rfl hl3 hL)
theorem j_istore {n : Nat} {x : Int} (hd : decode M.2.1 pc = .ok (.istore n, 2)) (hn : n < M.2.2.1) (hL : ins n (vi x) (L.filter (kp1 n)) = L') (k : JJ M X (pc + 2) L' st S) : JJ M X pc L (vi x :: st) S := by
  intro p l e R s m args below meth c0 D cy ad A cells slots Q hB hX H locs ls hW hP hD hS hl
  refine lv_istore hB.1 hB.2.1 hd hl hn rfl (fun ls2 hl2 => ?_)
  have hl3 := hl2
  change lv_has ls2 _ ((_, _) :: (imL ad L).filter (kp1 n)) at hl3
  rw [imL_f1] at hl3
  exact k p l e R s m args below meth c0 D cy ad A cells slots Q hB hX H locs ls2 hW hP hD hS (has_ins rfl hl3 hL)
theorem j_lstore_n {n : Fin 4} {x : Int} (hd : decode M.2.1 pc = .ok (.lstore_n n, 1)) (hn : (n : Nat) + 1 < M.2.2.1) (hL : ins n (vl x) (L.filter (kp2 n)) = L') (k : JJ M X (pc + 1) L' st S) : JJ M X pc L (vl x :: st) S := by
  intro p l e R s m args below meth c0 D cy ad A cells slots Q hB hX H locs ls hW hP hD hS hl
  refine lv_lstore_n hB.1 hB.2.1 hd rfl hl hn rfl (fun ls2 hl2 => ?_)
  have hl3 := hl2
  change lv_has ls2 _ ((_, _) :: (imL ad L).filter (kp2 n)) at hl3
  rw [imL_f2] at hl3
  exact k p l e R s m args below meth c0 D cy ad A cells slots Q hB hX H locs ls2 hW hP hD hS (has_ins rfl hl3 hL)
theorem j_lstore {n : Nat} {x : Int} (hd : decode M.2.1 pc = .ok (.lstore n, 2)) (hn : n + 1 < M.2.2.1) (hL : ins n (vl x) (L.filter (kp2 n)) = L') (k : JJ M X (pc + 2) L' st S) : JJ M X pc L (vl x :: st) S := by
  intro p l e R s m args below meth c0 D cy ad A cells slots Q hB hX H locs ls hW hP hD hS hl
  refine lv_lstore hB.1 hB.2.1 hd hl hn rfl (fun ls2 hl2 => ?_)
  have hl3 := hl2
  change lv_has ls2 _ ((_, _) :: (imL ad L).filter (kp2 n)) at hl3
  rw [imL_f2] at hl3
  exact k p l e R s m args below meth c0 D cy ad A cells slots Q hB hX H locs ls2 hW hP hD hS (has_ins rfl hl3 hL)
theorem j_astore_n {n : Fin 4} {x : Nat} (hd : decode M.2.1 pc = .ok (.astore_n n, 1)) (hn : (n : Nat) < M.2.2.1) (hL : ins n (.ref x) (L.filter (kp1 n)) = L') (k : JJ M X (pc + 1) L' st S) : JJ M X pc L (.ref x :: st) S := by
  intro p l e R s m args below meth c0 D cy ad A cells slots Q hB hX H locs ls hW hP hD hS hl
  refine lv_astore_n hB.1 hB.2.1 hd rfl hl hn rfl (fun ls2 hl2 => ?_)
  have hl3 := hl2
  change lv_has ls2 _ ((_, _) :: (imL ad L).filter (kp1 n)) at hl3
  rw [imL_f1] at hl3
  exact k p l e R s m args below meth c0 D cy ad A cells slots Q hB hX H locs ls2 hW hP hD hS (has_ins rfl hl3 hL)
theorem j_astore {n : Nat} {x : Nat} (hd : decode M.2.1 pc = .ok (.astore n, 2)) (hn : n < M.2.2.1) (hL : ins n (.ref x) (L.filter (kp1 n)) = L') (k : JJ M X (pc + 2) L' st S) : JJ M X pc L (.ref x :: st) S := by
  intro p l e R s m args below meth c0 D cy ad A cells slots Q hB hX H locs ls hW hP hD hS hl
  refine lv_astore hB.1 hB.2.1 hd hl hn rfl (fun ls2 hl2 => ?_)
  have hl3 := hl2
  change lv_has ls2 _ ((_, _) :: (imL ad L).filter (kp1 n)) at hl3
  rw [imL_f1] at hl3
  exact k p l e R s m args below meth c0 D cy ad A cells slots Q hB hX H locs ls2 hW hP hD hS (has_ins rfl hl3 hL)
theorem j_iinc {n : Nat} {d x : Int} (hd : decode M.2.1 pc = .ok (.iinc n d, 3)) (hn : n < M.2.2.1) (h : lk L n = some (vi x)) (hL : ins n (vi (x + d)) (L.filter (kp1 n)) = L') (k : JJ M X (pc + 3) L' st S) : JJ M X pc L st S := by
  intro p l e R s m args below meth c0 D cy ad A cells slots Q hB hX H locs ls hW hP hD hS hl
  have hm : (n, vi x) ∈ imL ad L := List.mem_map.mpr ⟨(n, vi x), lk_mem h, rfl⟩
  obtain ⟨j, hj⟩ := List.getElem?_of_mem hm
  refine lv_iinc hB.1 hB.2.1 hd hl hj (v := Int32.ofInt (x + d)) (by rw [Int32.ofInt_add]) hn rfl (fun ls2 hl2 => ?_)
  have hl3 := hl2
  change lv_has ls2 _ ((_, _) :: (imL ad L).filter (kp1 n)) at hl3
  rw [imL_f1] at hl3
  exact k p l e R s m args below meth c0 D cy ad A cells slots Q hB hX H locs ls2 hW hP hD hS (has_ins rfl hl3 hL)
theorem j_iadd {x y : Int} (hd : decode M.2.1 pc = .ok (.iadd, 1)) (k : JJ M X (pc + 1) L (vi (x + y) :: st) S) : JJ M X pc L (vi y :: vi x :: st) S := by
  intro p l e R s m args below meth c0 D cy ad A cells slots Q hB hX H locs ls hW hP hD hS hl
  refine lv_iadd hB.1 hB.2.1 hd ?_
  have h1 := k p l e R s m args below meth c0 D cy ad A cells slots Q hB hX H locs ls hW hP hD hS hl
  change W p l e R s m args below meth c0 H locs cells slots Q (F0 m (pc + 1) ls (vi (x + y) :: _)) at h1
  rw [vi, Int32.ofInt_add] at h1
  exact h1
theorem j_isub {x y : Int} (hd : decode M.2.1 pc = .ok (.isub, 1)) (k : JJ M X (pc + 1) L (vi (x - y) :: st) S) : JJ M X pc L (vi y :: vi x :: st) S := by
  intro p l e R s m args below meth c0 D cy ad A cells slots Q hB hX H locs ls hW hP hD hS hl
  refine lv_isub hB.1 hB.2.1 hd ?_
  have h1 := k p l e R s m args below meth c0 D cy ad A cells slots Q hB hX H locs ls hW hP hD hS hl
  change W p l e R s m args below meth c0 H locs cells slots Q (F0 m (pc + 1) ls (vi (x - y) :: _)) at h1
  rw [vi, Int32.ofInt_sub] at h1
  exact h1
theorem j_imul {x y : Int} (hd : decode M.2.1 pc = .ok (.imul, 1)) (k : JJ M X (pc + 1) L (vi (x * y) :: st) S) : JJ M X pc L (vi y :: vi x :: st) S := by
  intro p l e R s m args below meth c0 D cy ad A cells slots Q hB hX H locs ls hW hP hD hS hl
  refine lv_imul hB.1 hB.2.1 hd ?_
  have h1 := k p l e R s m args below meth c0 D cy ad A cells slots Q hB hX H locs ls hW hP hD hS hl
  change W p l e R s m args below meth c0 H locs cells slots Q (F0 m (pc + 1) ls (vi (x * y) :: _)) at h1
  rw [vi, Int32.ofInt_mul] at h1
  exact h1
theorem j_ladd {x y : Int} (hd : decode M.2.1 pc = .ok (.ladd, 1)) (k : JJ M X (pc + 1) L (vl (x + y) :: st) S) : JJ M X pc L (vl y :: vl x :: st) S := by
  intro p l e R s m args below meth c0 D cy ad A cells slots Q hB hX H locs ls hW hP hD hS hl
  refine lv_ladd hB.1 hB.2.1 hd ?_
  have h1 := k p l e R s m args below meth c0 D cy ad A cells slots Q hB hX H locs ls hW hP hD hS hl
  change W p l e R s m args below meth c0 H locs cells slots Q (F0 m (pc + 1) ls (vl (x + y) :: _)) at h1
  rw [vl, Int64.ofInt_add] at h1
  exact h1
theorem j_lmul {x y : Int} (hd : decode M.2.1 pc = .ok (.lmul, 1)) (k : JJ M X (pc + 1) L (vl (x * y) :: st) S) : JJ M X pc L (vl y :: vl x :: st) S := by
  intro p l e R s m args below meth c0 D cy ad A cells slots Q hB hX H locs ls hW hP hD hS hl
  refine lv_lmul hB.1 hB.2.1 hd ?_
  have h1 := k p l e R s m args below meth c0 D cy ad A cells slots Q hB hX H locs ls hW hP hD hS hl
  change W p l e R s m args below meth c0 H locs cells slots Q (F0 m (pc + 1) ls (vl (x * y) :: _)) at h1
  rw [vl, Int64.ofInt_mul] at h1
  exact h1
theorem j_dup {v : Value} (hd : decode M.2.1 pc = .ok (.dup, 1)) (hc : v.category = 1) (k : JJ M X (pc + 1) L (v :: v :: st) S) : JJ M X pc L (v :: st) S := by
  intro p l e R s m args below meth c0 D cy ad A cells slots Q hB hX H locs ls hW hP hD hS hl
  exact lv_dup hB.1 hB.2.1 hd ((im_cat ad v).trans hc) (k p l e R s m args below meth c0 D cy ad A cells slots Q hB hX H locs ls hW hP hD hS hl)
theorem j_pop {v : Value} (hd : decode M.2.1 pc = .ok (.pop, 1)) (hc : v.category = 1) (k : JJ M X (pc + 1) L st S) : JJ M X pc L (v :: st) S := by
  intro p l e R s m args below meth c0 D cy ad A cells slots Q hB hX H locs ls hW hP hD hS hl
  exact lv_pop hB.1 hB.2.1 hd ((im_cat ad v).trans hc) (k p l e R s m args below meth c0 D cy ad A cells slots Q hB hX H locs ls hW hP hD hS hl)
theorem j_dup2 {v u : Value} (hd : decode M.2.1 pc = .ok (.dup2, 1)) (hc : v.category = 1) (hc2 : u.category = 1) (k : JJ M X (pc + 1) L (v :: u :: v :: u :: st) S) : JJ M X pc L (v :: u :: st) S := by
  intro p l e R s m args below meth c0 D cy ad A cells slots Q hB hX H locs ls hW hP hD hS hl
  exact lv_dup2_11 hB.1 hB.2.1 hd ((im_cat ad v).trans hc) ((im_cat ad u).trans hc2) (k p l e R s m args below meth c0 D cy ad A cells slots Q hB hX H locs ls hW hP hD hS hl)
end RR
