section R3
variable {M : MT} {X : CtxT} {pc : Nat} {L L' : List (Nat × Value)} {st : List Value} {S : St}
theorem j_get {idx ci k c t : Nat} {v : Value} (hd : decode M.2.1 pc = .ok (.getfield idx, 3)) (hf : FG M.1.cls idx ci k) (hq : fdq c k = some (ci, t)) (hv : ∀ ad, fv ad (S c (k : Int)) t = im ad v) (kk : JJ M X (pc + 3) L (v :: st) S) : JJ M X pc L (.ref c :: st) S := by
  intro p l e R s m args below meth c0 D cy ad A cells slots Q hB hX H locs ls hW hP hD hS hl
  obtain ⟨hc, l0, hds, ht⟩ := fdq_get hq
  obtain ⟨C, T, N, hvw, hk, hT, hlink⟩ := hf
  obtain ⟨hin, -, -⟩ := vw_in hvw
  have he : (ws cy ad S)[c]? = some (ad c, .inr (ci, fls ad (S c) 0 l0)) := by
    rw [ws_get hc, wsf, hds]
    rfl
  have hg := fls_get ad (S c) l0 0 k t ht
  rw [Nat.zero_add, hv ad] at hg
  rcases hlink with h | ⟨host, h⟩
  · exact va_get (own := M.1.cls) (ref := C) hB.1 hB.2.1 hB.2.2.2.2.2.1 hin hB.2.2.2.2.1 hB.2.2.2.2.2.2.2.1 hP c he hvw k hk (hB.2.2.2.2.2.1 _ h) (fun _ z => by rw [hT] at z; exact z) hg hd (kk p l e R s m args below meth c0 D cy ad A cells slots Q hB hX H locs ls hW hP hD hS hl)
  · exact va_getN (own := M.1.cls) (ref := C) (host := host) hB.1 hB.2.1 hB.2.2.2.2.2.1 hin hB.2.2.2.2.1 hB.2.2.2.2.2.2.2.1 hP c he hvw k hk (va_Nw.use rfl (hB.2.2.2.2.2.2.1 _ h)) (fun _ z => by rw [hT] at z; exact z) hg hd (kk p l e R s m args below meth c0 D cy ad A cells slots Q hB hX H locs ls hW hP hD hS hl)
theorem j_getI {idx ci k c : Nat} {x : Int} (hd : decode M.2.1 pc = .ok (.getfield idx, 3)) (hf : FG M.1.cls idx ci k) (hq : fdq c k = some (ci, 0)) (hx : S c (k : Int) = x) (kk : InR x → JJ M X (pc + 3) L (vi x :: st) S) : JJ M X pc L (.ref c :: st) S :=
  j_wf fun hw => j_get hd hf hq (fun ad => by rw [hx]; rfl) (kk (by rw [← hx]; exact hw _ _ (fdq_nl hq)))
theorem j_getL {idx ci k c : Nat} {x : Int} (hd : decode M.2.1 pc = .ok (.getfield idx, 3)) (hf : FG M.1.cls idx ci k) (hq : fdq c k = some (ci, 1)) (hx : S c (k : Int) = x) (kk : JJ M X (pc + 3) L (vl x :: st) S) : JJ M X pc L (.ref c :: st) S :=
  j_get hd hf hq (fun ad => by rw [hx]; rfl) kk
theorem j_getR {idx ci k c d : Nat} (hd : decode M.2.1 pc = .ok (.getfield idx, 3)) (hf : FG M.1.cls idx ci k) (hq : fdq c k = some (ci, d + 2)) (kk : JJ M X (pc + 3) L (.ref d :: st) S) : JJ M X pc L (.ref c :: st) S :=
  j_get hd hf hq (fun ad => rfl) kk
theorem j_put {idx ci k c t : Nat} {ty : FieldType} {i x : Int} {v : Value} (hd : decode M.2.1 pc = .ok (.putfield idx, 3)) (hf : FG M.1.cls idx ci k) (hft : FT ci k ty) (hq : fdq c k = some (ci, t)) (hi : (k : Int) = i) (hv : ∀ ad, fv ad x t = im ad v) (hn : ∀ ad, narrow ty (im ad v) = im ad v) (hfit : ∀ ad, fits ty (im ad v) = true) (hr : ¬ lngAt c i → InR x) (kk : JJ M X (pc + 3) L st (up S c i x)) : JJ M X pc L (v :: .ref c :: st) S := by
  intro p l e R s m args below meth c0 D cy ad A cells slots Q hB hX H locs ls hW hP hD hS hl
  subst hi
  obtain ⟨hc, l0, hds, ht⟩ := fdq_get hq
  obtain ⟨C, T, N, hvw, hk, hT, hlink⟩ := hf
  obtain ⟨C', T', N', hvw', hfin, hpd⟩ := hft
  rw [hvw] at hvw'
  cases hvw'
  obtain ⟨hin, ⟨ty0, hty⟩, hnm⟩ := vw_in hvw
  have he : (ws cy ad S)[c]? = some (ad c, .inr (ci, fls ad (S c) 0 l0)) := by
    rw [ws_get hc, wsf, hds]
    rfl
  have hlen : k < (fls ad (S c) 0 l0).length := by
    rw [fls_len]
    exact (List.getElem?_eq_some_iff.mp ht).1
  have hset : (ws cy ad S).set c (ad c, .inr (ci, (fls ad (S c) 0 l0).set k (im ad v))) = ws cy ad (up S c (k : Int) x) := by
    refine ws_set hc ?_ (fun c' h => up_row h)
    rw [hds]
    have h1 := fls_set ad (S c) (up S c (k : Int) x c) l0 0 k t ht (fun j hj => up_i (by simpa using hj))
    rw [Nat.zero_add, up_s, hv ad] at h1
    rw [h1]
    rfl
  have cont : ∀ (H1 : Heap) (locs1 : List Loc), va_P D vwCl ((ws cy ad S).set c (ad c, .inr (ci, (fls ad (S c) 0 l0).set k (im ad v)))) H1 → va_D A ((ws cy ad S).set c (ad c, .inr (ci, (fls ad (S c) 0 l0).set k (im ad v)))) → va_S A s.heap H1 locs1 → W p l e R s m args below meth c0 H1 locs1 cells slots Q (F0 m (pc + 3) ls (st.map (im ad))) := by
    intro H1 locs1 hP1 hD1 hS1
    rw [hset] at hP1 hD1
    exact kk p l e R s m args below meth c0 D cy ad A cells slots Q hB hX H1 locs1 ls (wf_up hW hr) hP1 hD1 hS1 hl
  rcases hlink with h | ⟨host, h⟩
  · exact va_put (own := M.1.cls) (ref := C) hB.1 hB.2.1 hB.2.2.2.2.2.1 hin ty0 hty hnm hB.2.2.2.2.1 hB.2.2.2.2.2.2.2.1 hP hD hS c he hvw k hk (hB.2.2.2.2.2.1 _ h) (fun _ z => by rw [hT] at z; exact z) hfin hpd (hn ad) (hfit ad) hlen hd cont
  · exact va_putN (own := M.1.cls) (ref := C) (host := host) hB.1 hB.2.1 hB.2.2.2.2.2.1 hin ty0 hty hnm hB.2.2.2.2.1 hB.2.2.2.2.2.2.2.1 hP hD hS c he hvw k hk (va_Nw.use rfl (hB.2.2.2.2.2.2.1 _ h)) (fun _ z => by rw [hT] at z; exact z) hfin hpd (hn ad) (hfit ad) hlen hd cont
theorem j_putI {idx ci k c : Nat} {i x : Int} (hd : decode M.2.1 pc = .ok (.putfield idx, 3)) (hf : FG M.1.cls idx ci k) (hft : FT ci k .int) (hq : fdq c k = some (ci, 0)) (hi : (k : Int) = i) (hr : InR x) (kk : JJ M X (pc + 3) L st (up S c i x)) : JJ M X pc L (vi x :: .ref c :: st) S :=
  j_put hd hf hft hq hi (fun ad => rfl) (fun ad => rfl) (fun ad => rfl) (fun _ => hr) kk
theorem j_putZ {idx ci k c : Nat} {i x : Int} (hd : decode M.2.1 pc = .ok (.putfield idx, 3)) (hf : FG M.1.cls idx ci k) (hft : FT ci k .boolean) (hq : fdq c k = some (ci, 0)) (hi : (k : Int) = i) (hr : x = 0 ∨ x = 1) (kk : JJ M X (pc + 3) L st (up S c i x)) : JJ M X pc L (vi x :: .ref c :: st) S :=
  j_put hd hf hft hq hi (fun ad => rfl) (fun ad => by rcases hr with h | h <;> subst h <;> rfl) (fun ad => by rcases hr with h | h <;> subst h <;> rfl) (fun _ => by omega) kk
theorem j_putL {idx ci k c : Nat} {i x : Int} (hd : decode M.2.1 pc = .ok (.putfield idx, 3)) (hf : FG M.1.cls idx ci k) (hft : FT ci k .long) (hq : fdq c k = some (ci, 1)) (hi : (k : Int) = i) (hl : lngAt c i) (kk : JJ M X (pc + 3) L st (up S c i x)) : JJ M X pc L (vl x :: .ref c :: st) S :=
  j_put hd hf hft hq hi (fun ad => rfl) (fun ad => rfl) (fun ad => rfl) (fun h => absurd hl h) kk
theorem j_iald {c n : Nat} {i x : Int} (hd : decode M.2.1 pc = .ok (.iaload, 1)) (hq : arq c = some (1, n)) (h0 : 0 ≤ i) (h1 : i < n) (hx : S c i = x) (kk : InR x → JJ M X (pc + 1) L (vi x :: st) S) : JJ M X pc L (vi i :: .ref c :: st) S := by
  intro p l e R s m args below meth c0 D cy ad A cells slots Q hB hX H locs ls hW hP hD hS hl
  obtain ⟨hc, l0, hds⟩ := arq_get hq
  have hsm := arq_small hq
  have he : (ws cy ad S)[c]? = some (ad c, .inl (cy.1, n, .inl (fun j => Int32.ofInt (S c j)))) := by
    rw [ws_get hc, wsf, hds]
    rfl
  have hk := kk (by rw [← hx]; exact hW _ _ (arq_nl hq)) p l e R s m args below meth c0 D cy ad A cells slots Q hB hX H locs ls hW hP hD hS hl
  refine va_iald hB.1 hB.2.1 hB.2.2.2.2.2.2.2.1 hP c 0 he rfl (vi_in h0 h1 hsm) hd ?_
  rw [vi_cl h0 (by omega), Int.toNat_of_nonneg h0, hx]
  exact hk
theorem j_zald {c n : Nat} {i x : Int} (hd : decode M.2.1 pc = .ok (.baload, 1)) (hq : arq c = some (2, n)) (h0 : 0 ≤ i) (h1 : i < n) (hx : S c i = x) (kk : InR x → JJ M X (pc + 1) L (vi x :: st) S) : JJ M X pc L (vi i :: .ref c :: st) S := by
  intro p l e R s m args below meth c0 D cy ad A cells slots Q hB hX H locs ls hW hP hD hS hl
  obtain ⟨hc, l0, hds⟩ := arq_get hq
  have hsm := arq_small hq
  have he : (ws cy ad S)[c]? = some (ad c, .inl (cy.2.1, n, .inl (fun j => Int32.ofInt (S c j)))) := by
    rw [ws_get hc, wsf, hds]
    rfl
  have hk := kk (by rw [← hx]; exact hW _ _ (arq_nl hq)) p l e R s m args below meth c0 D cy ad A cells slots Q hB hX H locs ls hW hP hD hS hl
  refine va_zald hB.1 hB.2.1 hB.2.2.2.2.2.2.2.1 hP c 1 he rfl (vi_in h0 h1 hsm) hd ?_
  rw [vi_cl h0 (by omega), Int.toNat_of_nonneg h0, hx]
  exact hk
theorem j_iast {c n : Nat} {i x : Int} (hd : decode M.2.1 pc = .ok (.iastore, 1)) (hq : arq c = some (1, n)) (h0 : 0 ≤ i) (h1 : i < n) (hr : InR x) (kk : JJ M X (pc + 1) L st (up S c i x)) : JJ M X pc L (vi x :: vi i :: .ref c :: st) S := by
  intro p l e R s m args below meth c0 D cy ad A cells slots Q hB hX H locs ls hW hP hD hS hl
  obtain ⟨hc, l0, hds⟩ := arq_get hq
  have hsm := arq_small hq
  have he : (ws cy ad S)[c]? = some (ad c, .inl (cy.1, n, .inl (fun j => Int32.ofInt (S c j)))) := by
    rw [ws_get hc, wsf, hds]
    rfl
  refine va_iast hB.1 hB.2.1 hB.2.2.2.2.2.2.2.1 hP hD hS c 0 he rfl (vi_in h0 h1 hsm) hd (fun H1 locs1 hP1 hD1 hS1 => ?_)
  have hnar : Int32.ofInt x = Int32.ofInt x := by rfl
  have hset : (ws cy ad S).set c (ad c, .inl (cy.1, n, .inl (upd (fun j => Int32.ofInt (S c j)) (Int32.ofInt i).toNatClampNeg (Int32.ofInt x)))) = ws cy ad (up S c i x) := by
    refine ws_set hc ?_ (fun c' h => up_row h)
    rw [hds, hnar, vi_cl h0 (by omega)]
    show Sum.inl _ = Sum.inl _
    congr 3
    congr 1
    funext j
    by_cases hj : j = i.toNat
    · subst hj
      rw [Int.toNat_of_nonneg h0, up_s]
      simp [upd]
    · rw [up_i (by omega)]
      simp [upd, hj]
  rw [hset] at hP1 hD1
  exact kk p l e R s m args below meth c0 D cy ad A cells slots Q hB hX H1 locs1 ls (wf_up hW (fun _ => by omega)) hP1 hD1 hS1 hl
theorem j_zast {c n : Nat} {i x : Int} (hd : decode M.2.1 pc = .ok (.bastore, 1)) (hq : arq c = some (2, n)) (h0 : 0 ≤ i) (h1 : i < n) (hr : x = 0 ∨ x = 1) (kk : JJ M X (pc + 1) L st (up S c i x)) : JJ M X pc L (vi x :: vi i :: .ref c :: st) S := by
  intro p l e R s m args below meth c0 D cy ad A cells slots Q hB hX H locs ls hW hP hD hS hl
  obtain ⟨hc, l0, hds⟩ := arq_get hq
  have hsm := arq_small hq
  have he : (ws cy ad S)[c]? = some (ad c, .inl (cy.2.1, n, .inl (fun j => Int32.ofInt (S c j)))) := by
    rw [ws_get hc, wsf, hds]
    rfl
  refine va_zast hB.1 hB.2.1 hB.2.2.2.2.2.2.2.1 hP hD hS c 1 he rfl (vi_in h0 h1 hsm) hd (fun H1 locs1 hP1 hD1 hS1 => ?_)
  have hnar : vp_nar .boolean (Int32.ofInt x) = Int32.ofInt x := by rcases hr with h | h <;> subst h <;> rfl
  have hset : (ws cy ad S).set c (ad c, .inl (cy.2.1, n, .inl (upd (fun j => Int32.ofInt (S c j)) (Int32.ofInt i).toNatClampNeg (vp_nar .boolean (Int32.ofInt x))))) = ws cy ad (up S c i x) := by
    refine ws_set hc ?_ (fun c' h => up_row h)
    rw [hds, hnar, vi_cl h0 (by omega)]
    show Sum.inl _ = Sum.inl _
    congr 3
    congr 1
    funext j
    by_cases hj : j = i.toNat
    · subst hj
      rw [Int.toNat_of_nonneg h0, up_s]
      simp [upd]
    · rw [up_i (by omega)]
      simp [upd, hj]
  rw [hset] at hP1 hD1
  exact kk p l e R s m args below meth c0 D cy ad A cells slots Q hB hX H1 locs1 ls (wf_up hW (fun _ => by omega)) hP1 hD1 hS1 hl
theorem j_aald {c n d : Nat} {i : Int} {l0 : List Nat} (hd : decode M.2.1 pc = .ok (.aaload, 1)) (hds : ds c = (3, n, l0)) (hc : c < 135) (h0 : 0 ≤ i) (h1 : i < n) (hn : n < 100) (hx : l0.getD i.toNat 0 = d) (kk : JJ M X (pc + 1) L (.ref d :: st) S) : JJ M X pc L (vi i :: .ref c :: st) S := by
  intro p l e R s m args below meth c0 D cy ad A cells slots Q hB hX H locs ls hW hP hD hS hl
  have he : (ws cy ad S)[c]? = some (ad c, .inl (cy.2.2, n, .inr (.inr (.inr (.inr (fun j => some (ad (l0.getD j 0)))))))) := by
    rw [ws_get hc, wsf, hds]
    rfl
  have hk := kk p l e R s m args below meth c0 D cy ad A cells slots Q hB hX H locs ls hW hP hD hS hl
  refine va_aldq (C := RX1) hB.1 hB.2.1 hB.2.2.2.2.2.2.2.1 hP c 2 he rfl (vi_in h0 h1 (by omega)) hd ?_
  rw [vi_cl h0 (by omega), hx]
  exact hk
end R3
