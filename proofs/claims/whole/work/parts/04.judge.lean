/-! a method: its name, bytes, locals, result, depth of calls -/
abbrev MT : Type := MethodName × ByteArray × Nat × Option FieldType × Nat
abbrev CtxT : Type := Program → Launch → Env → Room → State → MethodId → Array Value → List Frame → Method → Code → va_G → Cy → (Nat → Nat) → (Nat → Prop) → Nat → Nat → (State → Prop) → Prop
def Base (M : MT) (p : Program) (R : Room) (s : State) (m : MethodId) (args : Array Value) (meth : Method) (c : Code) (D : va_G) (cy : Cy) (A : Nat → Prop) (cells slots : Nat) : Prop :=
  p.tables.exec = Jvm.exec ∧ c.code = M.2.1 ∧ c.maxLocals = M.2.2.1 ∧ meth.sig.returnType = M.2.2.2.1 ∧ s.vm.findClass M.1.cls = some m.cls ∧ (∀ w ∈ lw_good, w.before args s = true) ∧ Nst s ∧ va_K D vwCl (tys cy) s ∧ M.2.2.2.2 ≤ R.frames ∧ 40 * M.2.2.2.2 ≤ R.locals ∧ cells ≤ R.cells ∧ slots ≤ R.slots ∧ meth.locks = false ∧ ∀ q, s.heap.size ≤ q → A q
/-- the frame at pc with locals L and stack st over the store S comes to its end, in every context that X names -/
def JJ (M : MT) (X : CtxT) (pc : Nat) (L : List (Nat × Value)) (st : List Value) (S : St) : Prop :=
  ∀ (p : Program) (l : Launch) (e : Env) (R : Room) (s : State) (m : MethodId) (args : Array Value) (below : List Frame) (meth : Method) (c : Code) (D : va_G) (cy : Cy) (ad : Nat → Nat) (A : Nat → Prop) (cells slots : Nat) (Q : State → Prop),
    Base M p R s m args meth c D cy A cells slots → X p l e R s m args below meth c D cy ad A cells slots Q →
    ∀ (H : Heap) (locs : List Loc) (ls : Array Slot), WF S → va_P D vwCl (ws cy ad S) H → va_D A (ws cy ad S) → va_S A s.heap H locs → lv_has ls M.2.2.1 (imL ad L) → W p l e R s m args below meth c H locs cells slots Q (F0 m pc ls (st.map (im ad)))
def rk : Option FieldType → Nat
  | none => 0
  | some .long => 2
  | some _ => 1
def rvs (k : Nat) (r : Int) : List Value := match k with
  | 0 => []
  | 2 => [vl r]
  | _ => [vi r]
def rins (k : Nat) : Instr := match k with
  | 0 => .return_
  | 2 => .lreturn
  | _ => .ireturn
def okT : Option FieldType → Bool
  | none => true
  | some .long => true
  | some .int => true
  | some .boolean => true
  | _ => false
def okr (t : Option FieldType) (r : Int) : Prop := t = some .boolean → r = 0 ∨ r = 1
/-- the contexts of a method whose end is P -/
def RX (M : MT) (P : Int → St → Prop) : CtxT := fun p l e R s m args below meth c D cy ad A cells slots Q =>
  ∀ (r : Int) (S : St) (pc : Nat) (H : Heap) (locs : List Loc) (ls : Array Slot), P r S → okr M.2.2.2.1 r → decode M.2.1 pc = .ok (rins (rk M.2.2.2.1), 1) → WF S → va_P D vwCl (ws cy ad S) H → va_D A (ws cy ad S) → va_S A s.heap H locs → W p l e R s m args below meth c H locs cells slots Q (F0 m pc ls (rvs (rk M.2.2.2.1) r))
def Bf (D : va_G) (cy : Cy) (ad : Nat → Nat) (sz : Nat) (S : St) (U : State) : Prop := U.heap.size = sz ∧ Nst U ∧ va_P D vwCl (ws cy ad S) U.heap ∧ va_K D vwCl (tys cy) U ∧ va_D (fun _ => True) (ws cy ad S) ∧ WF S
def Ef (D : va_G) (cy : Cy) (ad : Nat → Nat) (u : Int × St) (t : State) : Prop := va_P D vwCl (ws cy ad u.2) t.heap ∧ WF u.2
def adA (ad : Nat → Nat) (sz : Nat) : Nat → Prop := fun q => (∃ c, c < 135 ∧ q = ad c) ∨ sz ≤ q
def QX (k : Nat) (P : Int → St → Prop) (D : va_G) (cy : Cy) (ad : Nat → Nat) (sz : Nat) : Array Value → State → Outcome → State → Prop := match k with
  | 0 => va_Qv (fun u : Int × St => P u.1 u.2) (Ef D cy ad) (adA ad sz)
  | 2 => va_Ql (fun (x : Int64) (u : Int × St) => x = Int64.ofInt u.1 ∧ P u.1 u.2) (Ef D cy ad) (adA ad sz)
  | _ => va_Qi (fun (x : Int32) (u : Int × St) => x = Int32.ofInt u.1 ∧ P u.1 u.2) (Ef D cy ad) (adA ad sz)
def wsM (M : MT) : List Cond := .code M.1 M.2.1 M.2.2.1 M.2.2.2.1 :: lw_good
def rmM (M : MT) : Room := { frames := M.2.2.2.2, cells := 0, slots := 0, locals := 40 * M.2.2.2.2 }
/-- the contract: called with 'as' over the store S, the method returns r and leaves S', with P r S' -/
def EX (M : MT) (as : List Value) (S : St) (P : Int → St → Prop) : Prop :=
  ∀ (l : Launch) (D : va_G) (cy : Cy) (ad : Nat → Nat) (sz : Nat), Met l M.1 (wsM M) (rmM M) (va_Pc (as.map (im ad)) (Bf D cy ad sz S)) (QX (rk M.2.2.2.1) P D cy ad sz) 0 0 (adA ad sz)
theorem lv_args_im (ad : Nat → Nat) : ∀ (as : List Value) (i : Nat), lv_args i (as.map (im ad)) = imL ad (lv_args i as)
  | [], i => rfl
  | v :: vs, i => by
    simp only [List.map_cons, lv_args, imL, im_cat]
    congr 1
    exact lv_args_im ad vs _
theorem lg_sl_im (ad : Nat → Nat) : ∀ (as : List Value), (lg_sl (as.map (im ad))).length = (lg_sl as).length
  | [] => rfl
  | v :: vs => by
    have := lg_sl_im ad vs
    simp only [lg_sl, List.map_cons, List.flatMap_cons, List.length_append, im_cat] at this ⊢
    rw [this]
    congr 1
    split <;> rfl
theorem adA_D {cy : Cy} {ad : Nat → Nat} {sz : Nat} {S : St} {A : Nat → Prop} (h : va_D A (ws cy ad S)) : va_D (adA ad sz) (ws cy ad S) :=
  ⟨h.1, fun k q hk => Or.inl ⟨k, (ws_at hk).1, (ws_at hk).2⟩⟩
theorem rx_mk {M : MT} {P : Int → St → Prop} {p : Program} {l : Launch} {e : Env} {R : Room} {s : State} {m : MethodId} {args : Array Value} {below : List Frame} {meth : Method} {c : Code} {D : va_G} {cy : Cy} {ad : Nat → Nat} (hok0 : okT M.2.2.2.1 = true) (hB : Base M p R s m args meth c D cy (adA ad s.heap.size) 0 0) :
    RX M P p l e R s m args below meth c D cy ad (adA ad s.heap.size) 0 0 (MQ below (QX (rk M.2.2.2.1) P D cy ad s.heap.size) args s 0 0 (adA ad s.heap.size)) := by
  obtain ⟨hx, hb, hml, hr, hown, hts, hn, hK, hf1, hf2, hf3, hf4, hlk, hA⟩ := hB
  intro r S pc H locs ls hPr hok hd hW hP hD hS
  have key : ∀ v : Option FieldType, M.2.2.2.1 = v → okT v = true → W p l e R s m args below meth c H locs 0 0 (MQ below (QX (rk v) P D cy ad s.heap.size) args s 0 0 (adA ad s.heap.size)) (F0 m pc ls (rvs (rk v) r)) := by
    intro v hv hokv
    rw [hv] at hr hd hok
    match v, hr, hd, hok, hokv with
    | none, hr, hd, hok, _ => exact W.vret hx hb hr (fun t ht hWt => ⟨⟨(r, S), rfl, hPr, by rw [ht]; exact hP, hW⟩, hS.F ht⟩) hS.2.2 hd
    | some .long, hr, hd, hok, _ => exact W.lret (v := Int64.ofInt r) hx hb hr (fun t ht hWt => ⟨⟨Int64.ofInt r, (r, S), rfl, ⟨rfl, hPr⟩, by rw [ht]; exact hP, hW⟩, hS.F ht⟩) hS.2.2 hd
    | some .int, hr, hd, hok, _ => exact W.iret (v := Int32.ofInt r) hx hb hr (fun t ht hWt => ⟨⟨Int32.ofInt r, (r, S), rfl, ⟨rfl, hPr⟩, by rw [ht]; exact hP, hW⟩, hS.F ht⟩) hS.2.2 hd
    | some .boolean, hr, hd, hok, _ =>
      have hn : narrow .boolean (.int (Int32.ofInt r)) = .int (Int32.ofInt r) := by
        rcases hok rfl with h | h <;> subst h <;> rfl
      exact W.zret (v := Int32.ofInt r) hx hb hr hn (fun t ht hWt => ⟨⟨Int32.ofInt r, (r, S), rfl, ⟨rfl, hPr⟩, by rw [ht]; exact hP, hW⟩, hS.F ht⟩) hS.2.2 hd
  exact key _ rfl hok0
/-- a contract out of its walk -/
theorem EX.of {M : MT} {as : List Value} {S : St} {P : Int → St → Prop} {L : List (Nat × Value)} (hy : plainName M.1.cls = true) (hok : okT M.2.2.2.1 = true) (hlen : (lg_sl as).length ≤ M.2.2.1) (hL : lv_args 0 as = L) (k : JJ M (RX M P) 0 L [] S) : EX M as S P := by
  intro l D cy ad sz
  refine Met.ofW (cc := M.2.1) (maxL := M.2.2.1) (ret := M.2.2.2.1) hy rfl ?_
  intro p e s m args below meth c s₁ B hml hv
  obtain ⟨rfl, hsz, hn, hP, hK, hD0, hW⟩ := hv
  subst hsz
  have hts := atoms_spec (ws := wsM M) B.pre
  have hB : Base M p (rmM M) s m (as.map (im ad)).toArray meth c D cy (adA ad s.heap.size) 0 0 :=
    ⟨B.exec, B.bytes, hml, B.returns, findClass_of_methodNamed B.named, fun w h => hts w (List.mem_cons_of_mem _ h), hn, hK, Nat.le_refl _, Nat.le_refl _, Nat.le_refl _, Nat.le_refl _, B.notSynchronized, fun q h => Or.inr h⟩
  have hl := lv_entry (as.map (im ad)) (n := M.2.2.1) (by rw [lg_sl_im]; exact hlen)
  rw [lv_args_im, hL] at hl
  rw [lg_entry_eq]
  exact k p l e (rmM M) s m _ below meth c D cy ad (adA ad s.heap.size) 0 0 _ hB (rx_mk hok hB) s.heap [] _ hW hP (adA_D hD0) va_S.rf hl
