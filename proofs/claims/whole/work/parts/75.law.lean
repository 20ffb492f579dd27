/-! the law: its script, its loop -/
def LX (n : Nat) (xs : Nat → Int32) : CtxT := fun p l e R s m args below meth c D cy ad A cells slots Q => va_X (ad 135) n xs s s.heap ∧ ad 135 < s.heap.size ∧ (A = fun q => s.heap.size ≤ q) ∧ R = room_1 ∧ args = #[.ref (ad 135)] ∧ cells ≤ 600000 ∧ slots ≤ 7302250 ∧ Q = lw_Z below args s
section LW
variable {n : Nat} {xs : Nat → Int32} {pc : Nat} {L : List (Nat × Value)} {st : List Value} {S : St}
theorem j_slen (hd : decode mL_law.2.1 pc = .ok (.arraylength, 1)) (k : JJ mL_law (LX n xs) (pc + 1) L (vi (n : Int) :: st) S) : JJ mL_law (LX n xs) pc L (.ref 135 :: st) S := by
  intro p l e R s m args below meth c0 D cy ad A cells slots Q hB hX H locs ls hW hP hD hS hl
  have h1 := k p l e R s m args below meth c0 D cy ad A cells slots Q hB hX H locs ls hW hP hD hS hl
  obtain ⟨x1, x2, x3, -⟩ := hX
  refine va_slen (b := ad 135) (L := n) (xs := xs) hB.1 hB.2.1 x1 x2 (by rw [x3]; omega) hS hd ?_
  have e : (Int32.ofNat n) = Int32.ofInt (n : Int) := by
    apply Int32.toBitVec_inj.mp
    show BitVec.ofNat 32 n = BitVec.ofInt 32 (n : Int)
    rw [BitVec.ofInt_natCast]
  rw [e]
  exact h1
theorem j_sld {i : Int} (hd : decode mL_law.2.1 pc = .ok (.iaload, 1)) (h0 : 0 ≤ i) (h1 : i < n) (hn : n ≤ 320) (k : JJ mL_law (LX n xs) (pc + 1) L (vi (xs i.toNat).toInt :: st) S) : JJ mL_law (LX n xs) pc L (vi i :: .ref 135 :: st) S := by
  intro p l e R s m args below meth c0 D cy ad A cells slots Q hB hX H locs ls hW hP hD hS hl
  have h2 := k p l e R s m args below meth c0 D cy ad A cells slots Q hB hX H locs ls hW hP hD hS hl
  obtain ⟨x1, x2, x3, -⟩ := hX
  refine va_sld (b := ad 135) (L := n) (xs := xs) hB.1 hB.2.1 x1 x2 (by rw [x3]; omega) hS (vi_in h0 h1 (by omega)) hd ?_
  rw [vi_cl h0 (by omega)]
  change W p l e R s m args below meth c0 H locs cells slots Q (F0 m (pc + 1) ls (vi (xs i.toNat).toInt :: _)) at h2
  rw [vi, vi_of] at h2
  exact h2
theorem and31 (v : Int32) : 0 ≤ (v &&& 31).toInt ∧ (v &&& 31).toInt < 32 := by
  have h : (v &&& 31).toBitVec.toNat ≤ 31 := by
    show (v.toBitVec &&& 31#32).toNat ≤ 31
    rw [BitVec.toNat_and]
    exact Nat.and_le_right
  have e : (v &&& 31).toInt = ((v &&& 31).toBitVec.toNat : Int) := by
    show (v &&& 31).toBitVec.toInt = _
    exact BitVec.toInt_eq_toNat_of_lt (by omega)
  omega
theorem j_and31 {M : MT} {X : CtxT} {x : Int} (hd : decode M.2.1 pc = .ok (.iand, 1)) (k : ∀ y : Int, 0 ≤ y → y < 32 → JJ M X (pc + 1) L (vi y :: st) S) : JJ M X pc L (vi 31 :: vi x :: st) S := by
  intro p l e R s m args below meth c0 D cy ad A cells slots Q hB hX H locs ls hW hP hD hS hl
  have hb := and31 (Int32.ofInt x)
  have h1 := k _ hb.1 hb.2 p l e R s m args below meth c0 D cy ad A cells slots Q hB hX H locs ls hW hP hD hS hl
  change W p l e R s m args below meth c0 H locs cells slots Q (F0 m (pc + 1) ls (vi (Int32.ofInt x &&& 31).toInt :: _)) at h1
  rw [vi, vi_of] at h1
  exact lv_iand hB.1 hB.2.1 hd h1
theorem j_eqE {M : MT} {X : CtxT} {x off : Int} {tgt : Nat} (hd : decode M.2.1 pc = .ok (.if_icmp .eq off, 3)) (ht : (pc : Int) + off = (tgt : Int)) (k : JJ M X tgt L st S) : JJ M X pc L (vi x :: vi x :: st) S := by
  intro p l e R s m args below meth c0 D cy ad A cells slots Q hB hX H locs ls hW hP hD hS hl
  exact lv_icmp_eq hB.1 hB.2.1 hd ht (fun _ => k p l e R s m args below meth c0 D cy ad A cells slots Q hB hX H locs ls hW hP hD hS hl) (fun q => absurd rfl q)
theorem j_lawret (hd : decode mL_law.2.1 pc = .ok (.ireturn, 1)) : JJ mL_law (LX n xs) pc L [vi 1] S := by
  intro p l e R s m args below meth c0 D cy ad A cells slots Q hB hX H locs ls hW hP hD hS hl
  obtain ⟨x1, x2, x3, x4, x5, x6, x7, x8⟩ := hX
  subst x3
  subst x4
  subst x5
  subst x8
  refine va_forget (fun q hq => hS.2.2 q hq) ?_
  refine W.widen x6 x7 ?_
  exact lw_ret hB.1 hB.2.1 hB.2.2.2.1 hB.2.2.2.2.2.2.2.2.2.2.2.2.1 hd
end LW
/-- both sides hold the same state -/
def Rl (S : St) : Prop := ∃ b, Rel S S b
theorem lowS {l : List Nat} {S S' : St} (h : Same l S S') (hl : ∀ c ∈ l, c < 118) : ∀ c, 118 ≤ c → S' c = S c := fun c hc => h c (fun z => by have := hl c z; omega)
theorem Rel.toB {S S' : St} {b : Int} (h : Rel S S b) (hl : ∀ c, 118 ≤ c → S' c = S c) : Rel S S' b := h.fr KA.rf ⟨fun c x _ => hl c (by omega), fun i _ => by rw [hl 118 (by decide)], fun i _ => by rw [hl 120 (by decide), hl 121 (by decide)]; exact ⟨rfl, rfl⟩⟩
theorem Rel.toA {S S' : St} {b : Int} (h : Rel S S' b) (hl : ∀ c, c < 118 → S' c = S c) : Rel S' S' b := h.fr (fun c x _ => hl c x) KB.rf
theorem Rls.toA {S S' : St} {r r' : Int} (h : Rls S S' r r') (hl : ∀ c, c < 118 → S' c = S c) : r = r' ∧ Rl S' := by
  obtain ⟨h1, b, h2⟩ := h
  exact ⟨h1, b, h2.toA hl⟩
theorem highS {l : List Nat} {S S' : St} (h : Same l S S') (hl : ∀ c ∈ l, 118 ≤ c) : ∀ c, c < 118 → S' c = S c := fun c hc => h c (fun z => by have := hl c z; omega)
theorem Rmb.high {S S' : St} (h : Rmb S S') (h1 : 0 ≤ S 11 1 ∧ S 11 1 < 10) : ∀ c, 118 ≤ c → S' c = S c := by
  obtain ⟨S1, g, rfl⟩ := h
  intro c hc
  rw [up_row (by omega), up_row (by omega)]
  exact g.2.2.2.2.2.2 c (Or.inr (by omega))
