theorem cw_nat : Cond.native arraycopyName ∈ lw_good := mg 383 (by decide +kernel) (by decide +kernel)
theorem cw_stat : Cond.static arraycopyName ∈ lw_good := mg 382 (by decide +kernel) (by decide +kernel)
theorem cw_ini : Cond.initialized "java/lang/System" ∈ lw_good := mg 11 (by decide +kernel) (by decide +kernel)
theorem cw_X0_91 : Cond.methodLink RX0 91 arraycopyName ∈ lw_good := mg 602 (by decide +kernel) (by decide +kernel)
theorem cw_X1_40 : Cond.methodLink RX1 40 arraycopyName ∈ lw_good := mg 539 (by decide +kernel) (by decide +kernel)
theorem cw_X5_25 : Cond.methodLink RX5 25 arraycopyName ∈ lw_good := mg 381 (by decide +kernel) (by decide +kernel)
/-! System.arraycopy from the start of one row to the start of another -/
def cpy (S : St) (a b : Nat) (n : Int) : St := fun c i => if c = b then (if 0 ≤ i ∧ i < n then S a i else S c i) else S c i
theorem cpy_c {S : St} {a b c : Nat} {n : Int} (h : c ≠ b) : cpy S a b n c = S c := by
  funext i
  simp [cpy, h]
theorem cpy_in {S : St} {a b : Nat} {n i : Int} (h0 : 0 ≤ i) (h1 : i < n) : cpy S a b n b i = S a i := by simp [cpy, h0, h1]
theorem cpy_out {S : St} {a b : Nat} {n i : Int} (h1 : i < 0 ∨ n ≤ i) : cpy S a b n b i = S b i := by
  simp only [cpy, if_true]
  rw [if_neg (by omega)]
theorem j_copy {M : MT} {X : CtxT} {pc idx a b na nb : Nat} {L : List (Nat × Value)} {rest : List Value} {S : St} {n : Int} (hd : decode M.2.1 pc = .ok (.invokestatic idx, 3)) (hml : (Cond.methodLink M.1.cls idx arraycopyName) ∈ lw_good) (ha : arq a = some (1, na)) (hb : arq b = some (1, nb)) (h0 : 0 ≤ n) (h1 : n ≤ na) (h2 : n ≤ nb) (hdp : 1 ≤ M.2.2.2.2) (hcat : cts rest ≤ 8) (kk : JJ M X (pc + 3) L rest (cpy S a b n)) : JJ M X pc L (vi n :: vi 0 :: .ref b :: vi 0 :: .ref a :: rest) S := by
  intro p l e R s m args below meth c0 D cy ad A cells slots Q hB hX H locs ls hW hP hD hS hl
  obtain ⟨hca, l0, hda⟩ := arq_get ha
  obtain ⟨hcb, l1, hdb⟩ := arq_get hb
  have hsa := arq_small ha
  have hsb := arq_small hb
  have ea : (ws cy ad S)[a]? = some (ad a, .inl (cy.1, na, .inl (fun j => Int32.ofInt (S a j)))) := by
    rw [ws_get hca, wsf, hda]
    rfl
  have eb : (ws cy ad S)[b]? = some (ad b, .inl (cy.1, nb, .inl (fun j => Int32.ofInt (S b j)))) := by
    rw [ws_get hcb, wsf, hdb]
    rfl
  have hts := hB.2.2.2.2.2.1
  have hf := hB.2.2.2.2.2.2.2.2.1
  have hlo := hB.2.2.2.2.2.2.2.2.2.1
  have e0 : (Int32.ofInt 0).toNatClampNeg = 0 := rfl
  have en : (Int32.ofInt n).toNatClampNeg = n.toNat := vi_cl h0 (by omega)
  have hnn : ¬ Int32.ofInt n < 0 := fun z => by
    have := (vi_lt (x := n) (y := 0) ⟨by omega, by omega⟩ ⟨by decide, by decide⟩).mp z
    omega
  refine va_copyi (own := M.1.cls) (index := idx) (ty := .int) hB.1 hB.2.1 (hB.2.2.1.trans hl.1.symm) hB.2.2.2.2.1 (hts _ hml) (hts _ cw_nat) (hts _ cw_stat) (hts _ cw_ini) hB.2.2.2.2.2.2.2.1 hP hD hS a b 0 0 ea eb rfl rfl rfl (by decide) (by decide) hnn (by rw [e0, en]; omega) (by rw [e0, en]; omega) (fun i _ => rfl) (by omega) ?_ hd (fun H1 locs1 hP1 hD1 hS1 => ?_)
  · show ((rest.map (im ad)).map fun v => v.category).sum + (nativeFrameWords "java/lang/System" "arraycopy" 5 + 11) ≤ R.locals
    rw [cts_im]
    have : nativeFrameWords "java/lang/System" "arraycopy" 5 ≤ 20 := by decide +kernel
    omega
  · have hset : (ws cy ad S).set b (ad b, .inl (cy.1, nb, .inl (va_cpy (fun j => Int32.ofInt (S a j)) (fun j => Int32.ofInt (S b j)) (Int32.ofInt 0).toNatClampNeg (Int32.ofInt 0).toNatClampNeg (Int32.ofInt n).toNatClampNeg))) = ws cy ad (cpy S a b n) := by
      refine ws_set hcb ?_ (fun c' h => cpy_c h)
      rw [hdb, e0, en]
      show Sum.inl _ = Sum.inl _
      congr 3
      congr 1
      funext j
      unfold va_cpy
      by_cases hj : (j : Int) < n
      · rw [cpy_in (by omega) hj, if_pos (by omega)]
        simp
      · rw [cpy_out (by omega), if_neg (by omega)]
    rw [hset] at hP1 hD1
    refine kk p l e R s m args below meth c0 D cy ad A cells slots Q hB hX H1 locs1 ls ?_ hP1 hD1 hS1 hl
    intro c' i' hl'
    by_cases hc' : c' = b
    · subst hc'
      by_cases hi : 0 ≤ i' ∧ i' < n
      · rw [cpy_in hi.1 hi.2]
        exact hW _ _ (arq_nl ha)
      · rw [cpy_out (by omega)]
        exact hW _ _ hl'
    · rw [cpy_c hc']
      exact hW _ _ hl'
/-- rows that stay -/
def Same (l : List Nat) (S S' : St) : Prop := ∀ c, c ∉ l → S' c = S c
theorem Same.rf {l : List Nat} {S : St} : Same l S S := fun _ _ => rfl
theorem Same.tr {l : List Nat} {S S1 S2 : St} (h1 : Same l S S1) (h2 : Same l S1 S2) : Same l S S2 := fun c h => (h2 c h).trans (h1 c h)
theorem same_up {l : List Nat} {S S1 : St} {c : Nat} {i v : Int} (h1 : Same l S S1) (hc : c ∈ l) : Same l S (up S1 c i v) := fun c' h => (up_row (fun z => h (by rw [z]; exact hc))).trans (h1 c' h)
theorem Same.mono {l l' : List Nat} {S S1 : St} (h1 : Same l S S1) (hl : ∀ c ∈ l, c ∈ l') : Same l' S S1 := fun c h => h1 c (fun z => h (hl c z))
