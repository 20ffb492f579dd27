theorem kw_int : (Cond.arrayClass (newarray.typeOf .int)) ∈ lw_good := mg 53 (by decide +kernel) (by decide +kernel)
theorem kw_bool : (Cond.arrayClass (newarray.typeOf .boolean)) ∈ lw_good := mg 259 (by decide +kernel) (by decide +kernel)
theorem kw_oi : (Cond.instanceMethod Lib.objectInit) ∈ lw_good := mg 19 (by decide +kernel) (by decide +kernel)
theorem kw_oc : (Cond.code Lib.objectInit ⟨#[0xb1]⟩ 1 none) ∈ lw_good := mg 20 (by decide +kernel) (by decide +kernel)
/-! constructors: worlds that grow. A world is a list of cells at their addresses, the newest first -/
abbrev KW : Type := Cy → va_W
abbrev idn : Nat → Nat := fun a => a
abbrev CtxK : Type := Program → Launch → Env → Room → State → MethodId → Array Value → List Frame → Method → Code → va_G → Cy → (Nat → Prop) → (State → Prop) → Prop
def BaseK (M : MT) (mc ms : Nat) (p : Program) (R : Room) (s : State) (m : MethodId) (args : Array Value) (meth : Method) (c : Code) (D : va_G) (cy : Cy) (A : Nat → Prop) : Prop :=
  p.tables.exec = Jvm.exec ∧ c.code = M.2.1 ∧ c.maxLocals = M.2.2.1 ∧ meth.sig.returnType = M.2.2.2.1 ∧ s.vm.findClass M.1.cls = some m.cls ∧ (∀ w ∈ lw_good, w.before args s = true) ∧ Nst s ∧ va_K D vwCl (tys cy) s ∧ M.2.2.2.2 ≤ R.frames ∧ 40 * M.2.2.2.2 ≤ R.locals ∧ mc ≤ R.cells ∧ ms ≤ R.slots ∧ meth.locks = false ∧ (∀ q, s.heap.size ≤ q → A q) ∧ (M.1.name = "<init>" → meth.name = "<init>") ∧ va_AO RX1 s
def KJ (M : MT) (X : CtxK) (mc ms pc : Nat) (L : List (Nat × Value)) (st : List Value) (w : KW) (k n : Nat) : Prop :=
  ∀ (p : Program) (l : Launch) (e : Env) (R : Room) (s : State) (m : MethodId) (args : Array Value) (below : List Frame) (meth : Method) (c : Code) (D : va_G) (cy : Cy) (A : Nat → Prop) (Q : State → Prop),
    BaseK M mc ms p R s m args meth c D cy A → X p l e R s m args below meth c D cy A Q →
    ∀ (H : Heap) (locs : List Loc) (ls : Array Slot), va_P D vwCl (w cy) H → va_D A (w cy) → va_S A s.heap H locs → lv_has ls M.2.2.1 (imL idn L) → W p l e R s m args below meth c H locs k n Q (F0 m pc ls (st.map (im idn)))
def RK (M : MT) (P : KW → Prop) (mc ms : Nat) : CtxK := fun p l e R s m args below meth c D cy A Q =>
  ∀ (u : KW) (pc : Nat) (H : Heap) (locs : List Loc) (ls : Array Slot), P u → decode M.2.1 pc = .ok (.return_, 1) → va_P D vwCl (u cy) H → va_D A (u cy) → va_S A s.heap H locs → W p l e R s m args below meth c H locs mc ms Q (F0 m pc ls [])
def BfK (D : va_G) (cy : Cy) (sz : Nat) (w : KW) (U : State) : Prop := U.heap.size = sz ∧ Nst U ∧ va_P D vwCl (w cy) U.heap ∧ va_K D vwCl (tys cy) U ∧ va_D (fun _ => True) (w cy) ∧ va_AO RX1 U
def EfK (D : va_G) (cy : Cy) (sz : Nat) (w u : KW) (t : State) : Prop := va_P D vwCl (u cy) t.heap ∧ va_D (va_A (w cy) sz) (u cy)
def rmK (M : MT) (mc ms : Nat) : Room := { frames := M.2.2.2.2, cells := mc, slots := ms, locals := 40 * M.2.2.2.2 }
def EK (M : MT) (as : List Value) (w : KW) (P : KW → Prop) (mc ms : Nat) : Prop :=
  ∀ (l : Launch) (D : va_G) (cy : Cy) (sz : Nat), Met l M.1 (wsM M) (rmK M mc ms) (va_Pc as (BfK D cy sz w)) (va_Qv (fun u : KW => P u) (EfK D cy sz w) (va_A (w cy) sz)) mc ms (va_A (w cy) sz)
theorem im_idn (v : Value) : im idn v = v := by cases v <;> rfl
theorem map_idn : ∀ st : List Value, st.map (im idn) = st
  | [] => rfl
  | v :: st => by rw [List.map_cons, im_idn, map_idn st]
theorem EK.of {M : MT} {as : List Value} {w : KW} {P : KW → Prop} {mc ms : Nat} {L : List (Nat × Value)} (hy : plainName M.1.cls = true) (hr : M.2.2.2.1 = none) (hlen : (lg_sl as).length ≤ M.2.2.1) (hL : lv_args 0 as = L) (k : KJ M (RK M P mc ms) mc ms 0 L [] w 0 0) : EK M as w P mc ms := by
  intro l D cy sz
  refine Met.ofW (cc := M.2.1) (maxL := M.2.2.1) (ret := M.2.2.2.1) hy rfl ?_
  intro p e s m args below meth c s₁ B hml hv
  obtain ⟨rfl, hsz, hn, hP, hK, hD0, hAO⟩ := hv
  subst hsz
  have hts := atoms_spec (ws := wsM M) B.pre
  have hB : BaseK M mc ms p (rmK M mc ms) s m as.toArray meth c D cy (va_A (w cy) s.heap.size) :=
    ⟨B.exec, B.bytes, hml, B.returns, findClass_of_methodNamed B.named, fun w h => hts w (List.mem_cons_of_mem _ h), hn, hK, Nat.le_refl _, Nat.le_refl _, Nat.le_refl _, Nat.le_refl _, B.notSynchronized, fun q h => Or.inr h, fun z => (name_of_methodNamed B.named B.method).1.trans z, hAO⟩
  have hl := lv_entry as (n := M.2.2.1) hlen
  rw [hL] at hl
  rw [lg_entry_eq]
  have hl2 : ∀ ls, lv_has ls M.2.2.1 L → lv_has ls M.2.2.1 (imL idn L) := by
    intro ls h
    have : imL idn L = L := by
      unfold imL
      rw [show (fun q : Nat × Value => (q.1, im idn q.2)) = id from funext fun q => by rw [im_idn]; rfl, List.map_id]
    rw [this]
    exact h
  refine k p l e (rmK M mc ms) s m _ below meth c D cy (va_A (w cy) s.heap.size) _ hB ?_ s.heap [] _ hP (hD0.self) va_S.rf (hl2 _ hl)
  intro u pc H locs ls hPu hd hP1 hD1 hS1
  exact W.vret B.exec B.bytes (B.returns.trans hr) (fun t ht hWt => ⟨⟨u, rfl, hPu, by rw [ht]; exact hP1, hD1⟩, hS1.F ht⟩) hS1.2.2 hd
theorem va_P.rot {D : va_G} {cl : List vw_C} {w : va_W} {x : Nat × va_E} {H : Heap} (h : va_P D cl (w ++ [x]) H) : va_P D cl (x :: w) H := by
  intro k q hk
  have hm : q ∈ w ++ [x] := by
    have := List.mem_of_getElem? hk
    rcases List.mem_cons.mp this with z | z
    · exact List.mem_append_right _ (by rw [z]; exact List.mem_singleton_self _)
    · exact List.mem_append_left _ z
  obtain ⟨i, hi⟩ := List.getElem?_of_mem hm
  exact h i q hi
theorem rot_at {w : va_W} {x q : Nat × va_E} {k : Nat} (h : (x :: w)[k]? = some q) : (w ++ [x])[if k = 0 then w.length else k - 1]? = some q := by
  cases k with
  | zero =>
    rw [if_pos rfl, List.getElem?_append_right (Nat.le_refl _), Nat.sub_self]
    exact h
  | succ k =>
    rw [if_neg (by omega)]
    have hk : w[k]? = some q := h
    have hl := (List.getElem?_eq_some_iff.mp hk).1
    rw [Nat.add_sub_cancel, List.getElem?_append_left hl]
    exact hk
theorem va_D.rot {A : Nat → Prop} {w : va_W} {x : Nat × va_E} (h : va_D A (w ++ [x])) : va_D A (x :: w) := by
  refine ⟨fun i j p q hi hj e => ?_, fun k q hk => h.2 _ q (rot_at hk)⟩
  have hh := h.1 _ _ p q (rot_at hi) (rot_at hj) e
  have li := (List.getElem?_eq_some_iff.mp hi).1
  have lj := (List.getElem?_eq_some_iff.mp hj).1
  rw [List.length_cons] at li lj
  split at hh <;> split at hh <;> omega
def FTF (ci k : Nat) (ty : FieldType) : Prop := ∃ (C : String) (T : u_T) (N : Nat), vwCl[ci]? = some (C, T, N) ∧ (T k).2.2.2 = true ∧ parseFieldDescriptor (T k).2.2.1 = some ty
def NWc (ci N : Nat) (fs : List Value) : Prop := ∃ (C : String) (T : u_T) (ty : Nat → FieldType), vwCl[ci]? = some (C, T, N) ∧ (∀ k, k < N → parseFieldDescriptor (T k).2.2.1 = some (ty k)) ∧ (∀ j, j < N → defaultValue (ty j) = vp_V fs j) ∧ (Cond.instantiable C N) ∈ lw_good ∧ (Cond.initialized C) ∈ lw_good
section KR
variable {M : MT} {X : CtxK} {mc ms pc k n : Nat} {L L' : List (Nat × Value)} {st : List Value} {w : KW}
theorem k_iconst {x : Int} (hd : decode M.2.1 pc = .ok (.iconst x, 1)) (kk : KJ M X mc ms (pc + 1) L (vi x :: st) w k n) : KJ M X mc ms pc L st w k n := by
  intro p l e R s m args below meth c0 D cy A Q hB hX H locs ls hP hD hS hl
  exact lv_iconst hB.1 hB.2.1 hd rfl (kk p l e R s m args below meth c0 D cy A Q hB hX H locs ls hP hD hS hl)
theorem k_bipush {x : Int} (hd : decode M.2.1 pc = .ok (.bipush x, 2)) (hn : (Int8.ofInt x).toInt32 = Int32.ofInt x) (kk : KJ M X mc ms (pc + 2) L (vi x :: st) w k n) : KJ M X mc ms pc L st w k n := by
  intro p l e R s m args below meth c0 D cy A Q hB hX H locs ls hP hD hS hl
  exact lv_bipush hB.1 hB.2.1 hd hn (kk p l e R s m args below meth c0 D cy A Q hB hX H locs ls hP hD hS hl)
theorem k_sipush {x : Int} (hd : decode M.2.1 pc = .ok (.sipush x, 3)) (hn : (Int16.ofInt x).toInt32 = Int32.ofInt x) (kk : KJ M X mc ms (pc + 3) L (vi x :: st) w k n) : KJ M X mc ms pc L st w k n := by
  intro p l e R s m args below meth c0 D cy A Q hB hX H locs ls hP hD hS hl
  exact lv_sipush hB.1 hB.2.1 hd hn (kk p l e R s m args below meth c0 D cy A Q hB hX H locs ls hP hD hS hl)
theorem k_lconst {i : Fin 2} {x : Int} (hd : decode M.2.1 pc = .ok (.lconst i, 1)) (hn : Int64.ofNat (i : Nat) = Int64.ofInt x) (kk : KJ M X mc ms (pc + 1) L (vl x :: st) w k n) : KJ M X mc ms pc L st w k n := by
  intro p l e R s m args below meth c0 D cy A Q hB hX H locs ls hP hD hS hl
  exact lv_lconst hB.1 hB.2.1 hd hn (kk p l e R s m args below meth c0 D cy A Q hB hX H locs ls hP hD hS hl)
theorem k_aload {i : Fin 4} {x : Nat} (hd : decode M.2.1 pc = .ok (.aload_n i, 1)) (h : lk L i = some (.ref x)) (kk : KJ M X mc ms (pc + 1) L (.ref x :: st) w k n) : KJ M X mc ms pc L st w k n := by
  intro p l e R s m args below meth c0 D cy A Q hB hX H locs ls hP hD hS hl
  exact lv_aload_n hB.1 hB.2.1 hd rfl (lk_has hl h) (kk p l e R s m args below meth c0 D cy A Q hB hX H locs ls hP hD hS hl)
theorem k_iload {i : Fin 4} {x : Int} (hd : decode M.2.1 pc = .ok (.iload_n i, 1)) (h : lk L i = some (vi x)) (kk : KJ M X mc ms (pc + 1) L (vi x :: st) w k n) : KJ M X mc ms pc L st w k n := by
  intro p l e R s m args below meth c0 D cy A Q hB hX H locs ls hP hD hS hl
  exact lv_iload_n hB.1 hB.2.1 hd rfl (lk_has hl h) (kk p l e R s m args below meth c0 D cy A Q hB hX H locs ls hP hD hS hl)
theorem k_istore {i : Fin 4} {x : Int} (hd : decode M.2.1 pc = .ok (.istore_n i, 1)) (hn : (i : Nat) < M.2.2.1) (hL : ins i (vi x) (L.filter (kp1 i)) = L') (kk : KJ M X mc ms (pc + 1) L' st w k n) : KJ M X mc ms pc L (vi x :: st) w k n := by
  intro p l e R s m args below meth c0 D cy A Q hB hX H locs ls hP hD hS hl
  refine lv_istore_n hB.1 hB.2.1 hd rfl hl hn rfl (fun ls2 hl2 => ?_)
  have hl3 := hl2
  change lv_has ls2 _ ((_, _) :: (imL idn L).filter (kp1 i)) at hl3
  rw [imL_f1] at hl3
  exact kk p l e R s m args below meth c0 D cy A Q hB hX H locs ls2 hP hD hS (has_ins rfl hl3 hL)
theorem k_astore {i : Fin 4} {x : Nat} (hd : decode M.2.1 pc = .ok (.astore_n i, 1)) (hn : (i : Nat) < M.2.2.1) (hL : ins i (.ref x) (L.filter (kp1 i)) = L') (kk : KJ M X mc ms (pc + 1) L' st w k n) : KJ M X mc ms pc L (.ref x :: st) w k n := by
  intro p l e R s m args below meth c0 D cy A Q hB hX H locs ls hP hD hS hl
  refine lv_astore_n hB.1 hB.2.1 hd rfl hl hn rfl (fun ls2 hl2 => ?_)
  have hl3 := hl2
  change lv_has ls2 _ ((_, _) :: (imL idn L).filter (kp1 i)) at hl3
  rw [imL_f1] at hl3
  exact kk p l e R s m args below meth c0 D cy A Q hB hX H locs ls2 hP hD hS (has_ins rfl hl3 hL)
theorem k_iinc {i : Nat} {d x : Int} (hd : decode M.2.1 pc = .ok (.iinc i d, 3)) (hn : i < M.2.2.1) (h : lk L i = some (vi x)) (hL : ins i (vi (x + d)) (L.filter (kp1 i)) = L') (kk : KJ M X mc ms (pc + 3) L' st w k n) : KJ M X mc ms pc L st w k n := by
  intro p l e R s m args below meth c0 D cy A Q hB hX H locs ls hP hD hS hl
  have hm : (i, vi x) ∈ imL idn L := List.mem_map.mpr ⟨(i, vi x), lk_mem h, rfl⟩
  obtain ⟨j, hj⟩ := List.getElem?_of_mem hm
  refine lv_iinc hB.1 hB.2.1 hd hl hj (v := Int32.ofInt (x + d)) (by rw [Int32.ofInt_add]) hn rfl (fun ls2 hl2 => ?_)
  have hl3 := hl2
  change lv_has ls2 _ ((_, _) :: (imL idn L).filter (kp1 i)) at hl3
  rw [imL_f1] at hl3
  exact kk p l e R s m args below meth c0 D cy A Q hB hX H locs ls2 hP hD hS (has_ins rfl hl3 hL)
theorem k_geT {x y off : Int} {tgt : Nat} (hd : decode M.2.1 pc = .ok (.if_icmp .ge off, 3)) (ht : (pc : Int) + off = (tgt : Int)) (h : Int32.ofInt y ≤ Int32.ofInt x) (kk : KJ M X mc ms tgt L st w k n) : KJ M X mc ms pc L (vi y :: vi x :: st) w k n := by
  intro p l e R s m args below meth c0 D cy A Q hB hX H locs ls hP hD hS hl
  exact lv_icmp_ge hB.1 hB.2.1 hd ht (fun _ => kk p l e R s m args below meth c0 D cy A Q hB hX H locs ls hP hD hS hl) (fun q => absurd h q)
theorem k_geF {x y off : Int} {tgt : Nat} (hd : decode M.2.1 pc = .ok (.if_icmp .ge off, 3)) (ht : (pc : Int) + off = (tgt : Int)) (h : ¬ Int32.ofInt y ≤ Int32.ofInt x) (kk : KJ M X mc ms (pc + 3) L st w k n) : KJ M X mc ms pc L (vi y :: vi x :: st) w k n := by
  intro p l e R s m args below meth c0 D cy A Q hB hX H locs ls hP hD hS hl
  exact lv_icmp_ge hB.1 hB.2.1 hd ht (fun q => absurd q h) (fun _ => kk p l e R s m args below meth c0 D cy A Q hB hX H locs ls hP hD hS hl)
theorem k_goto {off : Int} {tgt : Nat} (hd : decode M.2.1 pc = .ok (.goto off, 3)) (ht : (pc : Int) + off = (tgt : Int)) (kk : KJ M X mc ms tgt L st w k n) : KJ M X mc ms pc L st w k n := by
  intro p l e R s m args below meth c0 D cy A Q hB hX H locs ls hP hD hS hl
  exact lv_goto hB.1 hB.2.1 hd ht (kk p l e R s m args below meth c0 D cy A Q hB hX H locs ls hP hD hS hl)
theorem k_dup {v : Value} (hd : decode M.2.1 pc = .ok (.dup, 1)) (hc : v.category = 1) (kk : KJ M X mc ms (pc + 1) L (v :: v :: st) w k n) : KJ M X mc ms pc L (v :: st) w k n := by
  intro p l e R s m args below meth c0 D cy A Q hB hX H locs ls hP hD hS hl
  exact lv_dup hB.1 hB.2.1 hd (by rw [im_cat]; exact hc) (kk p l e R s m args below meth c0 D cy A Q hB hX H locs ls hP hD hS hl)
theorem k_ret {P : KW → Prop} (hd : decode M.2.1 pc = .ok (.return_, 1)) (hk : k = mc) (hn : n = ms) (h : P w) : KJ M (RK M P mc ms) mc ms pc L [] w k n := by
  intro p l e R s m args below meth c0 D cy A Q hB hX H locs ls hP hD hS hl
  subst hk
  subst hn
  exact hX w pc H locs ls h hd hP hD hS
theorem k_world {w' : KW} (h : ∀ cy, w cy = w' cy) (kk : KJ M X mc ms pc L st w' k n) : KJ M X mc ms pc L st w k n := by
  have e : w = w' := funext h
  rw [e]
  exact kk
theorem k_get {idx ci j q0 a : Nat} {v : Value} {fs : List Value} (hd : decode M.2.1 pc = .ok (.getfield idx, 3)) (hf : FG M.1.cls idx ci j) (he : ∀ cy, (w cy)[q0]? = some (a, .inr (ci, fs))) (hv : fs[j]? = some v) (kk : KJ M X mc ms (pc + 3) L (v :: st) w k n) : KJ M X mc ms pc L (.ref a :: st) w k n := by
  intro p l e R s m args below meth c0 D cy A Q hB hX H locs ls hP hD hS hl
  obtain ⟨C, T, N, hvw, hk, hT, hlink⟩ := hf
  obtain ⟨hin, -, -⟩ := vw_in hvw
  have h1 := kk p l e R s m args below meth c0 D cy A Q hB hX H locs ls hP hD hS hl
  rw [List.map_cons, im_idn] at h1
  rcases hlink with h | ⟨host, h⟩
  · exact va_get (own := M.1.cls) (ref := C) hB.1 hB.2.1 hB.2.2.2.2.2.1 hin hB.2.2.2.2.1 hB.2.2.2.2.2.2.2.1 hP q0 (he cy) hvw j hk (hB.2.2.2.2.2.1 _ h) (fun _ z => by rw [hT] at z; exact z) hv hd h1
  · exact va_getN (own := M.1.cls) (ref := C) (host := host) hB.1 hB.2.1 hB.2.2.2.2.2.1 hin hB.2.2.2.2.1 hB.2.2.2.2.2.2.2.1 hP q0 (he cy) hvw j hk (va_Nw.use rfl (hB.2.2.2.2.2.2.1 _ h)) (fun _ z => by rw [hT] at z; exact z) hv hd h1
theorem k_putF {idx ci j q0 a : Nat} {ty : FieldType} {v : Value} {fs : List Value} (hd : decode M.2.1 pc = .ok (.putfield idx, 3)) (hf : FG M.1.cls idx ci j) (hl0 : ∃ C T N, vwCl[ci]? = some (C, T, N) ∧ C = M.1.cls ∧ (Cond.fieldLink M.1.cls idx C (T j).2.1 (T j).2.2.1) ∈ lw_good) (hft : FTF ci j ty) (hi : M.1.name = "<init>") (he : ∀ cy, (w cy)[q0]? = some (a, .inr (ci, fs))) (hn : narrow ty v = v) (hfit : fits ty v = true) (hlen : j < fs.length) (kk : KJ M X mc ms (pc + 3) L st (fun cy => (w cy).set q0 (a, .inr (ci, fs.set j v))) k n) : KJ M X mc ms pc L (v :: .ref a :: st) w k n := by
  intro p l e R s m args below meth c0 D cy A Q hB hX H locs ls hP hD hS hl
  obtain ⟨C, T, N, hvw, hk, hT, -⟩ := hf
  obtain ⟨C1, T1, N1, hvw1, hC1, hlink⟩ := hl0
  obtain ⟨C2, T2, N2, hvw2, hfin, hpd⟩ := hft
  rw [hvw] at hvw1 hvw2
  cases hvw1
  cases hvw2
  obtain ⟨hin, ⟨ty0, hty⟩, hnm⟩ := vw_in hvw
  have hh := va_putF (own := M.1.cls) (ref := C) (l := l) (e := e) (R := R) (below := below) (cells := k) (slots := n) (Q := Q) (ls := ls) (rest := st.map (im idn)) hB.1 hB.2.1 hB.2.2.2.2.2.1 hin ty0 hty hnm hB.2.2.2.2.1 hB.2.2.2.2.2.2.2.1 hP hD hS q0 (he cy) hvw j hk (hB.2.2.2.2.2.1 _ hlink) (fun _ z => by rw [hT] at z; exact z) hfin (hB.2.2.2.2.2.2.2.2.2.2.2.2.2.2.1 hi) (hT.trans hC1) hpd hn hfit hlen hd (fun H1 locs1 hP1 hD1 hS1 => kk p l e R s m args below meth c0 D cy A Q hB hX H1 locs1 ls hP1 hD1 hS1 hl)
  rw [List.map_cons, im_idn]
  exact hh
theorem k_put {idx ci j q0 a : Nat} {ty : FieldType} {v : Value} {fs : List Value} (hd : decode M.2.1 pc = .ok (.putfield idx, 3)) (hf : FG M.1.cls idx ci j) (hft : FT ci j ty) (he : ∀ cy, (w cy)[q0]? = some (a, .inr (ci, fs))) (hn : narrow ty v = v) (hfit : fits ty v = true) (hlen : j < fs.length) (kk : KJ M X mc ms (pc + 3) L st (fun cy => (w cy).set q0 (a, .inr (ci, fs.set j v))) k n) : KJ M X mc ms pc L (v :: .ref a :: st) w k n := by
  intro p l e R s m args below meth c0 D cy A Q hB hX H locs ls hP hD hS hl
  obtain ⟨C, T, N, hvw, hk, hT, hlink⟩ := hf
  obtain ⟨C2, T2, N2, hvw2, hfin, hpd⟩ := hft
  rw [hvw] at hvw2
  cases hvw2
  obtain ⟨hin, ⟨ty0, hty⟩, hnm⟩ := vw_in hvw
  rw [List.map_cons, im_idn]
  rcases hlink with h | ⟨host, h⟩
  · exact va_put (own := M.1.cls) (ref := C) hB.1 hB.2.1 hB.2.2.2.2.2.1 hin ty0 hty hnm hB.2.2.2.2.1 hB.2.2.2.2.2.2.2.1 hP hD hS q0 (he cy) hvw j hk (hB.2.2.2.2.2.1 _ h) (fun _ z => by rw [hT] at z; exact z) hfin hpd hn hfit hlen hd (fun H1 locs1 hP1 hD1 hS1 => kk p l e R s m args below meth c0 D cy A Q hB hX H1 locs1 ls hP1 hD1 hS1 hl)
  · exact va_putN (own := M.1.cls) (ref := C) (host := host) hB.1 hB.2.1 hB.2.2.2.2.2.1 hin ty0 hty hnm hB.2.2.2.2.1 hB.2.2.2.2.2.2.2.1 hP hD hS q0 (he cy) hvw j hk (va_Nw.use rfl (hB.2.2.2.2.2.2.1 _ h)) (fun _ z => by rw [hT] at z; exact z) hfin hpd hn hfit hlen hd (fun H1 locs1 hP1 hD1 hS1 => kk p l e R s m args below meth c0 D cy A Q hB hX H1 locs1 ls hP1 hD1 hS1 hl)
theorem k_iast {q0 a N : Nat} {i x : Int} {f : Nat → Int32} (hd : decode M.2.1 pc = .ok (.iastore, 1)) (he : ∀ cy : Cy, (w cy)[q0]? = some (a, .inl (cy.1, N, .inl f))) (hin : vp_in (Int32.ofInt i) N) (kk : KJ M X mc ms (pc + 1) L st (fun cy => (w cy).set q0 (a, .inl (cy.1, N, .inl (upd f (Int32.ofInt i).toNatClampNeg (Int32.ofInt x))))) k n) : KJ M X mc ms pc L (vi x :: vi i :: .ref a :: st) w k n := by
  intro p l e R s m args below meth c0 D cy A Q hB hX H locs ls hP hD hS hl
  exact va_iast hB.1 hB.2.1 hB.2.2.2.2.2.2.2.1 hP hD hS q0 0 (he cy) rfl hin hd (fun H1 locs1 hP1 hD1 hS1 => kk p l e R s m args below meth c0 D cy A Q hB hX H1 locs1 ls hP1 hD1 hS1 hl)
theorem k_astq {q0 qk a v N : Nat} {i : Int} {vs : List Value} {f : Nat → Option Nat} (hd : decode M.2.1 pc = .ok (.aastore, 1)) (he : ∀ cy : Cy, (w cy)[q0]? = some (a, .inl (cy.2.2, N, .inr (.inr (.inr (.inr f)))))) (hv : ∀ cy, (w cy)[qk]? = some (v, .inr (1, vs))) (hin : vp_in (Int32.ofInt i) N) (kk : KJ M X mc ms (pc + 1) L st (fun cy => (w cy).set q0 (a, .inl (cy.2.2, N, .inr (.inr (.inr (.inr (va_up f (Int32.ofInt i).toNatClampNeg (some v)))))))) k n) : KJ M X mc ms pc L (.ref v :: vi i :: .ref a :: st) w k n := by
  intro p l e R s m args below meth c0 D cy A Q hB hX H locs ls hP hD hS hl
  exact va_astq (r := (RX1, TX1, 9)) hB.1 hB.2.1 hB.2.2.2.2.2.2.2.1 hP hD hS q0 2 qk 1 (he cy) rfl (hv cy) rfl hin hd (fun H1 locs1 hP1 hD1 hS1 => kk p l e R s m args below meth c0 D cy A Q hB hX H1 locs1 ls hP1 hD1 hS1 hl)
theorem k_new {idx ci N : Nat} {C : String} {fs : List Value} (hd : decode M.2.1 pc = .ok (.new idx, 3)) (hcl : (Cond.classLink M.1.cls idx C) ∈ lw_good) (hnw : NWc ci N fs) (hC : ∃ T N, vwCl[ci]? = some (C, T, N)) (h1 : k + 1 ≤ mc) (h2 : n + N ≤ ms) (kk : ∀ q, KJ M X mc ms (pc + 3) L (.ref q :: st) (fun cy => (q, .inr (ci, fs)) :: w cy) (k + 1) (n + N)) : KJ M X mc ms pc L st w k n := by
  intro p l e R s m args below meth c0 D cy A Q hB hX H locs ls hP hD hS hl
  obtain ⟨C0, T, ty, hvw, hty, hfs, hi1, hi2⟩ := hnw
  obtain ⟨T1, N1, hvw1⟩ := hC
  rw [hvw] at hvw1
  cases hvw1
  obtain ⟨hin, -, -⟩ := vw_in hvw
  have hc := hB.2.2.2.2.2.2.2.2.2.2
  exact va_new (own := M.1.cls) hB.1 hB.2.1 hB.2.2.2.2.2.1 hin ty hty hB.2.2.2.2.1 (hB.2.2.2.2.2.1 _ hcl) (hB.2.2.2.2.2.1 _ hi1) (hB.2.2.2.2.2.1 _ hi2) hB.2.2.2.2.2.2.2.1 hP hD hS hc.2.2.2.1 hvw hfs (Nat.le_trans h1 hc.1) (Nat.le_trans h2 hc.2.1) hd (fun q H1 hP1 hD1 hS1 => kk q p l e R s m args below meth c0 D cy A Q hB hX H1 locs ls hP1.rot hD1.rot hS1 hl)
theorem RA_one {U : State} {a b : ClassId} {ty : FieldType} (h1 : va_RA U a ty) (h2 : va_RA U b ty) : a = b := by
  cases ty <;> first | (obtain ⟨_, _, _, _, _, x⟩ := h1; obtain ⟨_, _, _, _, _, y⟩ := h2; exact Option.some.inj (x.symm.trans y)) | exact Option.some.inj (Eq.symm h1 |>.trans h2)
theorem k_newi {N : Nat} {x : Int} (hd : decode M.2.1 pc = .ok (.newarray .int, 2)) (hn : ¬ Int32.ofInt x < 0) (hN : (Int32.ofInt x).toNatClampNeg = N) (hb : N ≤ 2000) (h1 : k + 1 ≤ mc) (h2 : n + N ≤ ms) (kk : ∀ q, KJ M X mc ms (pc + 2) L (.ref q :: st) (fun cy => (q, .inl (cy.1, N, .inl (fun _ => 0))) :: w cy) (k + 1) (n + N)) : KJ M X mc ms pc L (vi x :: st) w k n := by
  intro p l e R s m args below meth c0 D cy A Q hB hX H locs ls hP hD hS hl
  have hc := hB.2.2.2.2.2.2.2.2.2.2
  refine va_newa (ty := .int) (a0 := (N, .inl (fun _ => 0))) hB.1 hB.2.1 (hB.2.2.2.2.2.1 _ kw_int) rfl hB.2.2.2.2.2.2.2.1 hP hD hS hc.2.2.2.1 (fun _ => rfl) hn hN (show N * 4 ≤ _ by omega) (Nat.le_trans h1 hc.1) (Nat.le_trans h2 hc.2.1) hd (fun q cA H1 hK1 hP1 hD1 hS1 => ?_)
  have e : cA = cy.1 := RA_one ((hK1.2 3 _ rfl).2) ((hB.2.2.2.2.2.2.2.1.2 0 _ rfl).2)
  subst e
  exact kk q p l e R s m args below meth c0 D cy A Q hB hX H1 locs ls hP1.rot hD1.rot hS1 hl
theorem k_newz {N : Nat} {x : Int} (hd : decode M.2.1 pc = .ok (.newarray .boolean, 2)) (hn : ¬ Int32.ofInt x < 0) (hN : (Int32.ofInt x).toNatClampNeg = N) (hb : N ≤ 2000) (h1 : k + 1 ≤ mc) (h2 : n + N ≤ ms) (kk : ∀ q, KJ M X mc ms (pc + 2) L (.ref q :: st) (fun cy => (q, .inl (cy.2.1, N, .inl (fun _ => 0))) :: w cy) (k + 1) (n + N)) : KJ M X mc ms pc L (vi x :: st) w k n := by
  intro p l e R s m args below meth c0 D cy A Q hB hX H locs ls hP hD hS hl
  have hc := hB.2.2.2.2.2.2.2.2.2.2
  refine va_newa (ty := .boolean) (a0 := (N, .inl (fun _ => 0))) hB.1 hB.2.1 (hB.2.2.2.2.2.1 _ kw_bool) rfl hB.2.2.2.2.2.2.2.1 hP hD hS hc.2.2.2.1 (fun _ => rfl) hn hN (show N * 1 ≤ _ by omega) (Nat.le_trans h1 hc.1) (Nat.le_trans h2 hc.2.1) hd (fun q cA H1 hK1 hP1 hD1 hS1 => ?_)
  have e : cA = cy.2.1 := RA_one ((hK1.2 3 _ rfl).2) ((hB.2.2.2.2.2.2.2.1.2 1 _ rfl).2)
  subst e
  exact kk q p l e R s m args below meth c0 D cy A Q hB hX H1 locs ls hP1.rot hD1.rot hS1 hl
theorem k_newq {idx N : Nat} {x : Int} (hd : decode M.2.1 pc = .ok (.anewarray idx, 3)) (hcl : (Cond.classLink M.1.cls idx RX1) ∈ lw_good) (hn : ¬ Int32.ofInt x < 0) (hN : (Int32.ofInt x).toNatClampNeg = N) (hb : N ≤ 2000) (h1 : k + 1 ≤ mc) (h2 : n + N ≤ ms) (kk : ∀ q, KJ M X mc ms (pc + 3) L (.ref q :: st) (fun cy => (q, .inl (cy.2.2, N, .inr (.inr (.inr (.inr (fun _ => none)))))) :: w cy) (k + 1) (n + N)) : KJ M X mc ms pc L (vi x :: st) w k n := by
  intro p l e R s m args below meth c0 D cy A Q hB hX H locs ls hP hD hS hl
  have hc := hB.2.2.2.2.2.2.2.2.2.2
  refine va_newq (own := M.1.cls) (C := RX1) hB.1 hB.2.1 hB.2.2.2.2.1 (hB.2.2.2.2.2.1 _ hcl) hB.2.2.2.2.2.2.2.2.2.2.2.2.2.2.2 hB.2.2.2.2.2.2.2.1 hP hD hS hc.2.2.2.1 hn hN (show N * 4 ≤ _ by omega) (Nat.le_trans h1 hc.1) (Nat.le_trans h2 hc.2.1) hd (fun q cA H1 hK1 hP1 hD1 hS1 => ?_)
  have e : cA = cy.2.2 := RA_one ((hK1.2 3 _ rfl).2) ((hB.2.2.2.2.2.2.2.1.2 2 _ rfl).2)
  subst e
  exact kk q p l e R s m args below meth c0 D cy A Q hB hX H1 locs ls hP1.rot hD1.rot hS1 hl
theorem k_obj {idx a : Nat} (hd : decode M.2.1 pc = .ok (.invokespecial idx, 3)) (hlk : (Cond.methodLink M.1.cls idx Lib.objectInit) ∈ lw_good) (hf : 1 ≤ M.2.2.2.2) (hcat : cts st ≤ 8) (kk : KJ M X mc ms (pc + 3) L st w k n) : KJ M X mc ms pc L (.ref a :: st) w k n := by
  intro p l e R s m args below meth c0 D cy A Q hB hX H locs ls hP hD hS hl
  have hts := hB.2.2.2.2.2.1
  have hf1 := hB.2.2.2.2.2.2.2.2.1
  have hf2 := hB.2.2.2.2.2.2.2.2.2.1
  refine W.objInit hB.1 hB.2.1 hB.2.2.2.2.1 (hts _ hlk) (hts _ kw_oi) (hts _ kw_oc) rfl (by rw [hB.2.2.1]; exact hl.1) rfl hd (Nat.le_trans hf hf1) ?_ ?_
  · have h8 : 2 * (F0 m pc ls ((Value.ref a :: st).map (im idn))).monitorRoom + ((st.map (im idn)).map fun v => v.category).sum ≤ 8 := lv_room (by rw [cts_im]; exact hcat)
    show 2 * (F0 m pc ls ((Value.ref a :: st).map (im idn))).monitorRoom + ((st.map (im idn)).map fun v => v.category).sum + 12 ≤ R.locals
    omega
  · exact W.eq (g2 := F0 m (pc + 3) ls (st.map (im idn))) rfl (kk p l e R s m args below meth c0 D cy A Q hB hX H locs ls hP hD hS hl)
end KR
