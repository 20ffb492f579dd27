theorem vi_nI {x : Int} (h : 0 ≤ x) : Int32.ofInt x = nI x.toNat := by
  obtain ⟨n, rfl⟩ := Int.eq_ofNat_of_zero_le h
  rfl
theorem vl_lN {x : Int} (h : 0 ≤ x) : Int64.ofInt x = lN x.toNat := by
  obtain ⟨n, rfl⟩ := Int.eq_ofNat_of_zero_le h
  rfl
theorem vi_div {x y : Int} (hx : 0 ≤ x) (hx2 : x < 2147483648) (hy : 0 < y) (hy2 : y < 2147483648) : Int32.ofInt x / Int32.ofInt y = Int32.ofInt (x / y) := by
  rw [vi_nI hx, vi_nI (by omega), pk_div (by omega) (by omega) (by omega), vi_nI (Int.ediv_nonneg hx (by omega))]
  congr 1
  obtain ⟨n, rfl⟩ := Int.eq_ofNat_of_zero_le hx
  obtain ⟨k, rfl⟩ := Int.eq_ofNat_of_zero_le (Int.le_of_lt hy)
  rfl
theorem vi_rem {x y : Int} (hx : 0 ≤ x) (hx2 : x < 2147483648) (hy : 0 < y) (hy2 : y < 2147483648) : Int32.ofInt x - Int32.ofInt x / Int32.ofInt y * Int32.ofInt y = Int32.ofInt (x % y) := by
  rw [vi_nI hx, vi_nI (x := y) (by omega), pk_rem (by omega) (by omega) (by omega), vi_nI (Int.emod_nonneg x (by omega))]
  congr 1
  obtain ⟨n, rfl⟩ := Int.eq_ofNat_of_zero_le hx
  obtain ⟨k, rfl⟩ := Int.eq_ofNat_of_zero_le (Int.le_of_lt hy)
  rfl
theorem vl_div {x y : Int} (hx : 0 ≤ x) (hx2 : x < 9223372036854775808) (hy : 0 < y) (hy2 : y < 9223372036854775808) : Int64.ofInt x / Int64.ofInt y = Int64.ofInt (x / y) := by
  rw [vl_lN hx, vl_lN (by omega), pk_lDiv (by omega) (by omega) (by omega), vl_lN (Int.ediv_nonneg hx (by omega))]
  congr 1
  obtain ⟨n, rfl⟩ := Int.eq_ofNat_of_zero_le hx
  obtain ⟨k, rfl⟩ := Int.eq_ofNat_of_zero_le (Int.le_of_lt hy)
  rfl
theorem vl_rem {x y : Int} (hx : 0 ≤ x) (hx2 : x < 9223372036854775808) (hy : 0 < y) (hy2 : y < 9223372036854775808) : Int64.ofInt x - Int64.ofInt x / Int64.ofInt y * Int64.ofInt y = Int64.ofInt (x % y) := by
  rw [vl_lN hx, vl_lN (x := y) (by omega), pk_lRem (by omega) (by omega) (by omega), vl_lN (Int.emod_nonneg x (by omega))]
  congr 1
  obtain ⟨n, rfl⟩ := Int.eq_ofNat_of_zero_le hx
  obtain ⟨k, rfl⟩ := Int.eq_ofNat_of_zero_le (Int.le_of_lt hy)
  rfl
theorem vl_eq {x y : Int} (hx : InL x) (hy : InL y) : Int64.ofInt x = Int64.ofInt y ↔ x = y := by
  constructor
  · intro h
    have := congrArg Int64.toInt h
    rwa [vl_toInt hx, vl_toInt hy] at this
  · intro h
    rw [h]
theorem vl_lt {x y : Int} (hx : InL x) (hy : InL y) : Int64.ofInt x < Int64.ofInt y ↔ x < y := by
  rw [Int64.lt_iff_toInt_lt, vl_toInt hx, vl_toInt hy]
def sg (x y : Int) : Int := if y < x then 1 else if x = y then 0 else -1
theorem sg_cmp {x y : Int} (hx : InL x) (hy : InL y) : lg_cmp (Int64.ofInt x) (Int64.ofInt y) = Int32.ofInt (sg x y) := by
  unfold lg_cmp sg
  by_cases h1 : y < x
  · rw [if_pos ((vl_lt hy hx).mpr h1), if_pos h1]; rfl
  · rw [if_neg (fun z => h1 ((vl_lt hy hx).mp z)), if_neg h1]
    by_cases h2 : x = y
    · rw [if_pos ((vl_eq hx hy).mpr h2), if_pos h2]; rfl
    · rw [if_neg (fun z => h2 ((vl_eq hx hy).mp z)), if_neg h2]; rfl
theorem shl1_all : ∀ k : Fin 31, (Int32.ofInt 1) <<< (Int32.ofInt (k.val : Int) &&& 31) = Int32.ofInt ((2 ^ k.val : Nat) : Int) := by decide +kernel
theorem shl1 {k : Int} (h0 : 0 ≤ k) (h : k < 31) : (Int32.ofInt 1) <<< (Int32.ofInt k &&& 31) = Int32.ofInt ((2 ^ k.toNat : Nat) : Int) := by
  obtain ⟨n, rfl⟩ := Int.eq_ofNat_of_zero_le h0
  exact shl1_all ⟨n, by omega⟩
theorem shr_all : ∀ k : Fin 31, ((Int32.ofInt (k.val : Int) &&& 31).toBitVec.smod 32).toNat = k.val := by decide +kernel
theorem shrk {x k : Int} (hx : 0 ≤ x) (hx2 : x < 2147483648) (h0 : 0 ≤ k) (h : k < 31) : Int32.ofInt x >>> (Int32.ofInt k &&& 31) = Int32.ofInt ((x.toNat / 2 ^ k.toNat : Nat) : Int) := by
  obtain ⟨n, rfl⟩ := Int.eq_ofNat_of_zero_le h0
  rw [vi_nI hx, pk_shrN (by omega) _ n (shr_all ⟨n, by omega⟩)]
  rfl
theorem and_nn {x y : Int} (hx : 0 ≤ x) (hy : 0 ≤ y) : Int32.ofInt x &&& Int32.ofInt y = Int32.ofInt ((x.toNat &&& y.toNat : Nat) : Int) := by
  rw [vi_nI hx, vi_nI hy]
  apply Int32.toBitVec_inj.mp
  show BitVec.ofNat 32 _ &&& BitVec.ofNat 32 _ = BitVec.ofNat 32 _
  rw [BitVec.ofNat_and]
theorem or_nn {x y : Int} (hx : 0 ≤ x) (hy : 0 ≤ y) : Int32.ofInt x ||| Int32.ofInt y = Int32.ofInt ((x.toNat ||| y.toNat : Nat) : Int) := by
  rw [vi_nI hx, vi_nI hy]
  apply Int32.toBitVec_inj.mp
  show BitVec.ofNat 32 _ ||| BitVec.ofNat 32 _ = BitVec.ofNat 32 _
  rw [BitVec.ofNat_or]
theorem i2l_eq {x : Int} (h : InR x) : (Int32.ofInt x).toInt64 = Int64.ofInt x := by
  apply Int64.toInt_inj.mp
  rw [Int32.toInt_toInt64, vi_toInt h, vl_toInt ⟨by omega, by omega⟩]
theorem l2i_eq {x : Int} (h : InR x) : (Int64.ofInt x).toInt32 = Int32.ofInt x := by
  rw [← i2l_eq h, Int32.toInt32_toInt64]
section R2
variable {M : MT} {X : CtxT} {pc : Nat} {L L' : List (Nat × Value)} {st : List Value} {S : St}
theorem j_icmp_eq {x y off : Int} {tgt : Nat} (hd : decode M.2.1 pc = .ok (.if_icmp .eq off, 3)) (ht : (pc : Int) + off = (tgt : Int)) (hx : InR x) (hy : InR y) (kt : x = y → JJ M X tgt L st S) (kf : ¬ x = y → JJ M X (pc + 3) L st S) : JJ M X pc L (vi y :: vi x :: st) S := by
  intro p l e R s m args below meth c0 D cy ad A cells slots Q hB hX H locs ls hW hP hD hS hl
  exact lv_icmp_eq hB.1 hB.2.1 hd ht (fun q => kt ((vi_eq hx hy).mp q) p l e R s m args below meth c0 D cy ad A cells slots Q hB hX H locs ls hW hP hD hS hl) (fun q => kf (fun z => q ((vi_eq hx hy).mpr z)) p l e R s m args below meth c0 D cy ad A cells slots Q hB hX H locs ls hW hP hD hS hl)
theorem j_if_eq {x off : Int} {tgt : Nat} (hd : decode M.2.1 pc = .ok (.ifCond .eq off, 3)) (ht : (pc : Int) + off = (tgt : Int)) (hx : InR x) (kt : x = 0 → JJ M X tgt L st S) (kf : ¬ x = 0 → JJ M X (pc + 3) L st S) : JJ M X pc L (vi x :: st) S := by
  intro p l e R s m args below meth c0 D cy ad A cells slots Q hB hX H locs ls hW hP hD hS hl
  have hy : InR 0 := ⟨by decide, by decide⟩
  exact lv_if_eq hB.1 hB.2.1 hd ht (fun q => kt ((vi_eq hx hy).mp q) p l e R s m args below meth c0 D cy ad A cells slots Q hB hX H locs ls hW hP hD hS hl) (fun q => kf (fun z => q ((vi_eq hx hy).mpr z)) p l e R s m args below meth c0 D cy ad A cells slots Q hB hX H locs ls hW hP hD hS hl)
theorem j_icmp_ne {x y off : Int} {tgt : Nat} (hd : decode M.2.1 pc = .ok (.if_icmp .ne off, 3)) (ht : (pc : Int) + off = (tgt : Int)) (hx : InR x) (hy : InR y) (kt : ¬ x = y → JJ M X tgt L st S) (kf : x = y → JJ M X (pc + 3) L st S) : JJ M X pc L (vi y :: vi x :: st) S := by
  intro p l e R s m args below meth c0 D cy ad A cells slots Q hB hX H locs ls hW hP hD hS hl
  exact lv_icmp_ne hB.1 hB.2.1 hd ht (fun q => kt (fun z => q ((vi_eq hx hy).mpr z)) p l e R s m args below meth c0 D cy ad A cells slots Q hB hX H locs ls hW hP hD hS hl) (fun q => kf ((vi_eq hx hy).mp q) p l e R s m args below meth c0 D cy ad A cells slots Q hB hX H locs ls hW hP hD hS hl)
theorem j_if_ne {x off : Int} {tgt : Nat} (hd : decode M.2.1 pc = .ok (.ifCond .ne off, 3)) (ht : (pc : Int) + off = (tgt : Int)) (hx : InR x) (kt : ¬ x = 0 → JJ M X tgt L st S) (kf : x = 0 → JJ M X (pc + 3) L st S) : JJ M X pc L (vi x :: st) S := by
  intro p l e R s m args below meth c0 D cy ad A cells slots Q hB hX H locs ls hW hP hD hS hl
  have hy : InR 0 := ⟨by decide, by decide⟩
  exact lv_if_ne hB.1 hB.2.1 hd ht (fun q => kt (fun z => q ((vi_eq hx hy).mpr z)) p l e R s m args below meth c0 D cy ad A cells slots Q hB hX H locs ls hW hP hD hS hl) (fun q => kf ((vi_eq hx hy).mp q) p l e R s m args below meth c0 D cy ad A cells slots Q hB hX H locs ls hW hP hD hS hl)
theorem j_icmp_lt {x y off : Int} {tgt : Nat} (hd : decode M.2.1 pc = .ok (.if_icmp .lt off, 3)) (ht : (pc : Int) + off = (tgt : Int)) (hx : InR x) (hy : InR y) (kt : x < y → JJ M X tgt L st S) (kf : y ≤ x → JJ M X (pc + 3) L st S) : JJ M X pc L (vi y :: vi x :: st) S := by
  intro p l e R s m args below meth c0 D cy ad A cells slots Q hB hX H locs ls hW hP hD hS hl
  exact lv_icmp_lt hB.1 hB.2.1 hd ht (fun q => kt ((vi_lt hx hy).mp q) p l e R s m args below meth c0 D cy ad A cells slots Q hB hX H locs ls hW hP hD hS hl) (fun q => kf (Int.not_lt.mp (fun z => q ((vi_lt hx hy).mpr z))) p l e R s m args below meth c0 D cy ad A cells slots Q hB hX H locs ls hW hP hD hS hl)
theorem j_if_lt {x off : Int} {tgt : Nat} (hd : decode M.2.1 pc = .ok (.ifCond .lt off, 3)) (ht : (pc : Int) + off = (tgt : Int)) (hx : InR x) (kt : x < 0 → JJ M X tgt L st S) (kf : 0 ≤ x → JJ M X (pc + 3) L st S) : JJ M X pc L (vi x :: st) S := by
  intro p l e R s m args below meth c0 D cy ad A cells slots Q hB hX H locs ls hW hP hD hS hl
  have hy : InR 0 := ⟨by decide, by decide⟩
  exact lv_if_lt hB.1 hB.2.1 hd ht (fun q => kt ((vi_lt hx hy).mp q) p l e R s m args below meth c0 D cy ad A cells slots Q hB hX H locs ls hW hP hD hS hl) (fun q => kf (Int.not_lt.mp (fun z => q ((vi_lt hx hy).mpr z))) p l e R s m args below meth c0 D cy ad A cells slots Q hB hX H locs ls hW hP hD hS hl)
theorem j_icmp_ge {x y off : Int} {tgt : Nat} (hd : decode M.2.1 pc = .ok (.if_icmp .ge off, 3)) (ht : (pc : Int) + off = (tgt : Int)) (hx : InR x) (hy : InR y) (kt : y ≤ x → JJ M X tgt L st S) (kf : x < y → JJ M X (pc + 3) L st S) : JJ M X pc L (vi y :: vi x :: st) S := by
  intro p l e R s m args below meth c0 D cy ad A cells slots Q hB hX H locs ls hW hP hD hS hl
  exact lv_icmp_ge hB.1 hB.2.1 hd ht (fun q => kt ((vi_le hy hx).mp q) p l e R s m args below meth c0 D cy ad A cells slots Q hB hX H locs ls hW hP hD hS hl) (fun q => kf (Int.not_le.mp (fun z => q ((vi_le hy hx).mpr z))) p l e R s m args below meth c0 D cy ad A cells slots Q hB hX H locs ls hW hP hD hS hl)
theorem j_if_ge {x off : Int} {tgt : Nat} (hd : decode M.2.1 pc = .ok (.ifCond .ge off, 3)) (ht : (pc : Int) + off = (tgt : Int)) (hx : InR x) (kt : 0 ≤ x → JJ M X tgt L st S) (kf : x < 0 → JJ M X (pc + 3) L st S) : JJ M X pc L (vi x :: st) S := by
  intro p l e R s m args below meth c0 D cy ad A cells slots Q hB hX H locs ls hW hP hD hS hl
  have hy : InR 0 := ⟨by decide, by decide⟩
  exact lv_if_ge hB.1 hB.2.1 hd ht (fun q => kt ((vi_le hy hx).mp q) p l e R s m args below meth c0 D cy ad A cells slots Q hB hX H locs ls hW hP hD hS hl) (fun q => kf (Int.not_le.mp (fun z => q ((vi_le hy hx).mpr z))) p l e R s m args below meth c0 D cy ad A cells slots Q hB hX H locs ls hW hP hD hS hl)
theorem j_icmp_gt {x y off : Int} {tgt : Nat} (hd : decode M.2.1 pc = .ok (.if_icmp .gt off, 3)) (ht : (pc : Int) + off = (tgt : Int)) (hx : InR x) (hy : InR y) (kt : y < x → JJ M X tgt L st S) (kf : x ≤ y → JJ M X (pc + 3) L st S) : JJ M X pc L (vi y :: vi x :: st) S := by
  intro p l e R s m args below meth c0 D cy ad A cells slots Q hB hX H locs ls hW hP hD hS hl
  exact lv_icmp_gt hB.1 hB.2.1 hd ht (fun q => kt ((vi_lt hy hx).mp q) p l e R s m args below meth c0 D cy ad A cells slots Q hB hX H locs ls hW hP hD hS hl) (fun q => kf (Int.not_lt.mp (fun z => q ((vi_lt hy hx).mpr z))) p l e R s m args below meth c0 D cy ad A cells slots Q hB hX H locs ls hW hP hD hS hl)
theorem j_if_gt {x off : Int} {tgt : Nat} (hd : decode M.2.1 pc = .ok (.ifCond .gt off, 3)) (ht : (pc : Int) + off = (tgt : Int)) (hx : InR x) (kt : 0 < x → JJ M X tgt L st S) (kf : x ≤ 0 → JJ M X (pc + 3) L st S) : JJ M X pc L (vi x :: st) S := by
  intro p l e R s m args below meth c0 D cy ad A cells slots Q hB hX H locs ls hW hP hD hS hl
  have hy : InR 0 := ⟨by decide, by decide⟩
  exact lv_if_gt hB.1 hB.2.1 hd ht (fun q => kt ((vi_lt hy hx).mp q) p l e R s m args below meth c0 D cy ad A cells slots Q hB hX H locs ls hW hP hD hS hl) (fun q => kf (Int.not_lt.mp (fun z => q ((vi_lt hy hx).mpr z))) p l e R s m args below meth c0 D cy ad A cells slots Q hB hX H locs ls hW hP hD hS hl)
theorem j_icmp_le {x y off : Int} {tgt : Nat} (hd : decode M.2.1 pc = .ok (.if_icmp .le off, 3)) (ht : (pc : Int) + off = (tgt : Int)) (hx : InR x) (hy : InR y) (kt : x ≤ y → JJ M X tgt L st S) (kf : y < x → JJ M X (pc + 3) L st S) : JJ M X pc L (vi y :: vi x :: st) S := by
  intro p l e R s m args below meth c0 D cy ad A cells slots Q hB hX H locs ls hW hP hD hS hl
  exact lv_icmp_le hB.1 hB.2.1 hd ht (fun q => kt ((vi_le hx hy).mp q) p l e R s m args below meth c0 D cy ad A cells slots Q hB hX H locs ls hW hP hD hS hl) (fun q => kf (Int.not_le.mp (fun z => q ((vi_le hx hy).mpr z))) p l e R s m args below meth c0 D cy ad A cells slots Q hB hX H locs ls hW hP hD hS hl)
theorem j_if_le {x off : Int} {tgt : Nat} (hd : decode M.2.1 pc = .ok (.ifCond .le off, 3)) (ht : (pc : Int) + off = (tgt : Int)) (hx : InR x) (kt : x ≤ 0 → JJ M X tgt L st S) (kf : 0 < x → JJ M X (pc + 3) L st S) : JJ M X pc L (vi x :: st) S := by
  intro p l e R s m args below meth c0 D cy ad A cells slots Q hB hX H locs ls hW hP hD hS hl
  have hy : InR 0 := ⟨by decide, by decide⟩
  exact lv_if_le hB.1 hB.2.1 hd ht (fun q => kt ((vi_le hx hy).mp q) p l e R s m args below meth c0 D cy ad A cells slots Q hB hX H locs ls hW hP hD hS hl) (fun q => kf (Int.not_le.mp (fun z => q ((vi_le hx hy).mpr z))) p l e R s m args below meth c0 D cy ad A cells slots Q hB hX H locs ls hW hP hD hS hl)
theorem j_goto {off : Int} {tgt : Nat} (hd : decode M.2.1 pc = .ok (.goto off, 3)) (ht : (pc : Int) + off = (tgt : Int)) (k : JJ M X tgt L st S) : JJ M X pc L st S := by
  intro p l e R s m args below meth c0 D cy ad A cells slots Q hB hX H locs ls hW hP hD hS hl
  exact lv_goto hB.1 hB.2.1 hd ht (k p l e R s m args below meth c0 D cy ad A cells slots Q hB hX H locs ls hW hP hD hS hl)
theorem j_tblIn {dflt lo hi x : Int} {offs : Array Int} {len : Nat} {off : Int} {tgt : Nat} (hd : decode M.2.1 pc = .ok (.tableswitch dflt lo hi offs, len)) (hx : InR x) (h1 : lo ≤ x) (h2 : x ≤ hi) (ho : offs[(x - lo).toNat]? = some off) (ht : (pc : Int) + off = (tgt : Int)) (k : JJ M X tgt L st S) : JJ M X pc L (vi x :: st) S := by
  intro p l e R s m args below meth c0 D cy ad A cells slots Q hB hX H locs ls hW hP hD hS hl
  exact lv_tableIn hB.1 hB.2.1 hd (by rw [vi_toInt hx]; omega) (by rw [vi_toInt hx]; omega) (by rw [vi_toInt hx]; exact ho) ht (k p l e R s m args below meth c0 D cy ad A cells slots Q hB hX H locs ls hW hP hD hS hl)
theorem j_tblOut {dflt lo hi x : Int} {offs : Array Int} {len : Nat} {tgt : Nat} (hd : decode M.2.1 pc = .ok (.tableswitch dflt lo hi offs, len)) (hx : InR x) (h : x < lo ∨ hi < x) (ht : (pc : Int) + dflt = (tgt : Int)) (k : JJ M X tgt L st S) : JJ M X pc L (vi x :: st) S := by
  intro p l e R s m args below meth c0 D cy ad A cells slots Q hB hX H locs ls hW hP hD hS hl
  exact lv_tableOut hB.1 hB.2.1 hd (by rw [vi_toInt hx]; exact h) ht (k p l e R s m args below meth c0 D cy ad A cells slots Q hB hX H locs ls hW hP hD hS hl)
theorem j_lookup {dflt x : Int} {ps : Array (Int × Int)} {len : Nat} {off : Int} {tgt : Nat} (hd : decode M.2.1 pc = .ok (.lookupswitch dflt ps, len)) (hp : (ps.toList.zip (ps.toList.drop 1)).all (fun (a, next) => a.1 < next.1) = true) (hx : InR x) (ho : Op.lookupswitch.offset ps.toList dflt x = off) (ht : (pc : Int) + off = (tgt : Int)) (k : JJ M X tgt L st S) : JJ M X pc L (vi x :: st) S := by
  intro p l e R s m args below meth c0 D cy ad A cells slots Q hB hX H locs ls hW hP hD hS hl
  exact lv_lookup hB.1 hB.2.1 hd hp (by rw [vi_toInt hx]; exact ho) ht (k p l e R s m args below meth c0 D cy ad A cells slots Q hB hX H locs ls hW hP hD hS hl)
theorem j_idiv {x y : Int} (hd : decode M.2.1 pc = .ok (.idiv, 1)) (hx : 0 ≤ x) (hx2 : x < 2147483648) (hy : 0 < y) (hy2 : y < 2147483648) (k : JJ M X (pc + 1) L (vi (x / y) :: st) S) : JJ M X pc L (vi y :: vi x :: st) S := by
  intro p l e R s m args below meth c0 D cy ad A cells slots Q hB hX H locs ls hW hP hD hS hl
  have h1 := k p l e R s m args below meth c0 D cy ad A cells slots Q hB hX H locs ls hW hP hD hS hl
  change W p l e R s m args below meth c0 H locs cells slots Q (F0 m (pc + 1) ls (vi (x / y) :: _)) at h1
  rw [vi, ← vi_div hx hx2 hy hy2] at h1
  exact lv_idiv hB.1 hB.2.1 hd (fun z => by have := (vi_eq (y := 0) ⟨by omega, by omega⟩ ⟨by decide, by decide⟩).mp z; omega) h1
theorem j_irem {x y : Int} (hd : decode M.2.1 pc = .ok (.irem, 1)) (hx : 0 ≤ x) (hx2 : x < 2147483648) (hy : 0 < y) (hy2 : y < 2147483648) (k : JJ M X (pc + 1) L (vi (x % y) :: st) S) : JJ M X pc L (vi y :: vi x :: st) S := by
  intro p l e R s m args below meth c0 D cy ad A cells slots Q hB hX H locs ls hW hP hD hS hl
  have h1 := k p l e R s m args below meth c0 D cy ad A cells slots Q hB hX H locs ls hW hP hD hS hl
  change W p l e R s m args below meth c0 H locs cells slots Q (F0 m (pc + 1) ls (vi (x % y) :: _)) at h1
  rw [vi, ← vi_rem hx hx2 hy hy2] at h1
  exact lv_irem hB.1 hB.2.1 hd (fun z => by have := (vi_eq (y := 0) ⟨by omega, by omega⟩ ⟨by decide, by decide⟩).mp z; omega) h1
theorem j_ldiv {x y : Int} (hd : decode M.2.1 pc = .ok (.ldiv, 1)) (hx : 0 ≤ x) (hx2 : x < 9223372036854775808) (hy : 0 < y) (hy2 : y < 9223372036854775808) (k : JJ M X (pc + 1) L (vl (x / y) :: st) S) : JJ M X pc L (vl y :: vl x :: st) S := by
  intro p l e R s m args below meth c0 D cy ad A cells slots Q hB hX H locs ls hW hP hD hS hl
  have h1 := k p l e R s m args below meth c0 D cy ad A cells slots Q hB hX H locs ls hW hP hD hS hl
  change W p l e R s m args below meth c0 H locs cells slots Q (F0 m (pc + 1) ls (vl (x / y) :: _)) at h1
  rw [vl, ← vl_div hx hx2 hy hy2] at h1
  exact lv_ldiv hB.1 hB.2.1 hd (fun z => by have := (vl_eq (y := 0) ⟨by omega, by omega⟩ ⟨by decide, by decide⟩).mp z; omega) h1
theorem j_lrem {x y : Int} (hd : decode M.2.1 pc = .ok (.lrem, 1)) (hx : 0 ≤ x) (hx2 : x < 9223372036854775808) (hy : 0 < y) (hy2 : y < 9223372036854775808) (k : JJ M X (pc + 1) L (vl (x % y) :: st) S) : JJ M X pc L (vl y :: vl x :: st) S := by
  intro p l e R s m args below meth c0 D cy ad A cells slots Q hB hX H locs ls hW hP hD hS hl
  have h1 := k p l e R s m args below meth c0 D cy ad A cells slots Q hB hX H locs ls hW hP hD hS hl
  change W p l e R s m args below meth c0 H locs cells slots Q (F0 m (pc + 1) ls (vl (x % y) :: _)) at h1
  rw [vl, ← vl_rem hx hx2 hy hy2] at h1
  exact lv_lrem hB.1 hB.2.1 hd (fun z => by have := (vl_eq (y := 0) ⟨by omega, by omega⟩ ⟨by decide, by decide⟩).mp z; omega) h1
theorem j_iand {x y : Int} (hd : decode M.2.1 pc = .ok (.iand, 1)) (hx : 0 ≤ x) (hy : 0 ≤ y) (k : JJ M X (pc + 1) L (vi (((x.toNat &&& y.toNat : Nat) : Int)) :: st) S) : JJ M X pc L (vi y :: vi x :: st) S := by
  intro p l e R s m args below meth c0 D cy ad A cells slots Q hB hX H locs ls hW hP hD hS hl
  have h1 := k p l e R s m args below meth c0 D cy ad A cells slots Q hB hX H locs ls hW hP hD hS hl
  change W p l e R s m args below meth c0 H locs cells slots Q (F0 m (pc + 1) ls (vi (((x.toNat &&& y.toNat : Nat) : Int)) :: _)) at h1
  rw [vi, ← and_nn hx hy] at h1
  exact lv_iand hB.1 hB.2.1 hd h1
theorem j_ior {x y : Int} (hd : decode M.2.1 pc = .ok (.ior, 1)) (hx : 0 ≤ x) (hy : 0 ≤ y) (k : JJ M X (pc + 1) L (vi (((x.toNat ||| y.toNat : Nat) : Int)) :: st) S) : JJ M X pc L (vi y :: vi x :: st) S := by
  intro p l e R s m args below meth c0 D cy ad A cells slots Q hB hX H locs ls hW hP hD hS hl
  have h1 := k p l e R s m args below meth c0 D cy ad A cells slots Q hB hX H locs ls hW hP hD hS hl
  change W p l e R s m args below meth c0 H locs cells slots Q (F0 m (pc + 1) ls (vi (((x.toNat ||| y.toNat : Nat) : Int)) :: _)) at h1
  rw [vi, ← or_nn hx hy] at h1
  exact lv_ior hB.1 hB.2.1 hd h1
theorem j_shl {k0 : Int} (hd : decode M.2.1 pc = .ok (.ishl, 1)) (h0 : 0 ≤ k0) (h1 : k0 < 31) (k : JJ M X (pc + 1) L (vi ((2 ^ k0.toNat : Nat) : Int) :: st) S) : JJ M X pc L (vi k0 :: vi 1 :: st) S := by
  intro p l e R s m args below meth c0 D cy ad A cells slots Q hB hX H locs ls hW hP hD hS hl
  have hh := k p l e R s m args below meth c0 D cy ad A cells slots Q hB hX H locs ls hW hP hD hS hl
  change W p l e R s m args below meth c0 H locs cells slots Q (F0 m (pc + 1) ls (vi ((2 ^ k0.toNat : Nat) : Int) :: _)) at hh
  rw [vi, ← shl1 h0 h1] at hh
  exact lv_ishl hB.1 hB.2.1 hd hh
theorem j_shr {x k0 : Int} (hd : decode M.2.1 pc = .ok (.ishr, 1)) (hx : 0 ≤ x) (hx2 : x < 2147483648) (h0 : 0 ≤ k0) (h1 : k0 < 31) (k : JJ M X (pc + 1) L (vi ((x.toNat / 2 ^ k0.toNat : Nat) : Int) :: st) S) : JJ M X pc L (vi k0 :: vi x :: st) S := by
  intro p l e R s m args below meth c0 D cy ad A cells slots Q hB hX H locs ls hW hP hD hS hl
  have hh := k p l e R s m args below meth c0 D cy ad A cells slots Q hB hX H locs ls hW hP hD hS hl
  change W p l e R s m args below meth c0 H locs cells slots Q (F0 m (pc + 1) ls (vi ((x.toNat / 2 ^ k0.toNat : Nat) : Int) :: _)) at hh
  rw [vi, ← shrk hx hx2 h0 h1] at hh
  exact lv_ishr hB.1 hB.2.1 hd hh
theorem j_i2l {x : Int} (hd : decode M.2.1 pc = .ok (.i2l, 1)) (hx : InR x) (k : JJ M X (pc + 1) L (vl x :: st) S) : JJ M X pc L (vi x :: st) S := by
  intro p l e R s m args below meth c0 D cy ad A cells slots Q hB hX H locs ls hW hP hD hS hl
  exact lv_i2l hB.1 hB.2.1 hd (i2l_eq hx) (k p l e R s m args below meth c0 D cy ad A cells slots Q hB hX H locs ls hW hP hD hS hl)
theorem j_l2i {x : Int} (hd : decode M.2.1 pc = .ok (.l2i, 1)) (hx : InR x) (k : JJ M X (pc + 1) L (vi x :: st) S) : JJ M X pc L (vl x :: st) S := by
  intro p l e R s m args below meth c0 D cy ad A cells slots Q hB hX H locs ls hW hP hD hS hl
  exact lv_l2i hB.1 hB.2.1 hd (l2i_eq hx) (k p l e R s m args below meth c0 D cy ad A cells slots Q hB hX H locs ls hW hP hD hS hl)
theorem j_lcmp {x y : Int} (hd : decode M.2.1 pc = .ok (.lcmp, 1)) (hx : InL x) (hy : InL y) (k : JJ M X (pc + 1) L (vi (sg x y) :: st) S) : JJ M X pc L (vl y :: vl x :: st) S := by
  intro p l e R s m args below meth c0 D cy ad A cells slots Q hB hX H locs ls hW hP hD hS hl
  have hh := k p l e R s m args below meth c0 D cy ad A cells slots Q hB hX H locs ls hW hP hD hS hl
  change W p l e R s m args below meth c0 H locs cells slots Q (F0 m (pc + 1) ls (vi (sg x y) :: _)) at hh
  rw [vi, ← sg_cmp hx hy] at hh
  exact W.lcmp hB.1 hB.2.1 hd hh
theorem j_lcmpE {x : Int} (hd : decode M.2.1 pc = .ok (.lcmp, 1)) (k : JJ M X (pc + 1) L (vi 0 :: st) S) : JJ M X pc L (vl x :: vl x :: st) S := by
  intro p l e R s m args below meth c0 D cy ad A cells slots Q hB hX H locs ls hW hP hD hS hl
  have hh := k p l e R s m args below meth c0 D cy ad A cells slots Q hB hX H locs ls hW hP hD hS hl
  change W p l e R s m args below meth c0 H locs cells slots Q (F0 m (pc + 1) ls (vi 0 :: _)) at hh
  have e0 : lg_cmp (Int64.ofInt x) (Int64.ofInt x) = Int32.ofInt 0 := by
    unfold lg_cmp
    rw [if_neg (by rw [GT.gt, Int64.lt_iff_toInt_lt]; omega), if_pos rfl]
    rfl
  rw [vi, ← e0] at hh
  exact W.lcmp hB.1 hB.2.1 hd hh
theorem j_top {x : Int} (k : ∀ y, y = x → JJ M X pc L (vi y :: st) S) : JJ M X pc L (vi x :: st) S := k x rfl
theorem j_sub (hs : ∀ q ∈ L', q ∈ L) (k : JJ M X pc L' st S) : JJ M X pc L st S := by
  intro p l e R s m args below meth c0 D cy ad A cells slots Q hB hX H locs ls hW hP hD hS hl
  exact k p l e R s m args below meth c0 D cy ad A cells slots Q hB hX H locs ls hW hP hD hS (has_im hl hs)
theorem j_wf (k : WF S → JJ M X pc L st S) : JJ M X pc L st S := by
  intro p l e R s m args below meth c0 D cy ad A cells slots Q hB hX H locs ls hW hP hD hS hl
  exact k hW p l e R s m args below meth c0 D cy ad A cells slots Q hB hX H locs ls hW hP hD hS hl
theorem j_iret {P : Int → St → Prop} {r : Int} (hk : rk M.2.2.2.1 = 1) (hd : decode M.2.1 pc = .ok (.ireturn, 1)) (ho : okr M.2.2.2.1 r) (h : P r S) : JJ M (RX M P) pc L [vi r] S := by
  intro p l e R s m args below meth c0 D cy ad A cells slots Q hB hX H locs ls hW hP hD hS hl
  have := hX r S pc H locs ls h ho (by rw [hk]; exact hd) hW hP hD hS
  rw [hk] at this
  exact this
theorem j_lret {P : Int → St → Prop} {r : Int} (hk : rk M.2.2.2.1 = 2) (hd : decode M.2.1 pc = .ok (.lreturn, 1)) (ho : okr M.2.2.2.1 r) (h : P r S) : JJ M (RX M P) pc L [vl r] S := by
  intro p l e R s m args below meth c0 D cy ad A cells slots Q hB hX H locs ls hW hP hD hS hl
  have := hX r S pc H locs ls h ho (by rw [hk]; exact hd) hW hP hD hS
  rw [hk] at this
  exact this
theorem j_vret {P : Int → St → Prop} (hk : rk M.2.2.2.1 = 0) (hd : decode M.2.1 pc = .ok (.return_, 1)) (ho : okr M.2.2.2.1 0) (h : P 0 S) : JJ M (RX M P) pc L [] S := by
  intro p l e R s m args below meth c0 D cy ad A cells slots Q hB hX H locs ls hW hP hD hS hl
  have := hX 0 S pc H locs ls h ho (by rw [hk]; exact hd) hW hP hD hS
  rw [hk] at this
  exact this
end R2
