/-! the layer of this claim: a store of whole numbers by cells, values, locals, the world of all cells, the judgement JJ (a frame of a method over a store) and contracts EX -/
abbrev St : Type := Nat → Int → Int
def vi (x : Int) : Value := .int (Int32.ofInt x)
def vl (x : Int) : Value := .long (Int64.ofInt x)
abbrev InR (x : Int) : Prop := -2147483648 ≤ x ∧ x < 2147483648
abbrev InL (x : Int) : Prop := -9223372036854775808 ≤ x ∧ x < 9223372036854775808
def im (ad : Nat → Nat) : Value → Value
  | .ref a => .ref (ad a)
  | v => v
def imL (ad : Nat → Nat) (L : List (Nat × Value)) : List (Nat × Value) := L.map (fun q => (q.1, im ad q.2))
theorem im_cat (ad : Nat → Nat) (v : Value) : (im ad v).category = v.category := by cases v <;> rfl
theorem vi_toInt {x : Int} (h : InR x) : (Int32.ofInt x).toInt = x := by
  rw [Int32.toInt_ofInt]
  have e : ((Int32.size : Nat) : Int) = 4294967296 := rfl
  exact Int.bmod_eq_of_le (by omega) (by omega)
theorem vl_toInt {x : Int} (h : InL x) : (Int64.ofInt x).toInt = x := by
  rw [Int64.toInt_ofInt]
  have e : ((Int64.size : Nat) : Int) = 18446744073709551616 := rfl
  exact Int.bmod_eq_of_le (by omega) (by omega)
theorem vi_eq {x y : Int} (hx : InR x) (hy : InR y) : Int32.ofInt x = Int32.ofInt y ↔ x = y := by
  constructor
  · intro h
    have := congrArg Int32.toInt h
    rwa [vi_toInt hx, vi_toInt hy] at this
  · intro h
    rw [h]
theorem vi_lt {x y : Int} (hx : InR x) (hy : InR y) : Int32.ofInt x < Int32.ofInt y ↔ x < y := by
  rw [Int32.lt_iff_toInt_lt, vi_toInt hx, vi_toInt hy]
theorem vi_le {x y : Int} (hx : InR x) (hy : InR y) : Int32.ofInt x ≤ Int32.ofInt y ↔ x ≤ y := by
  rw [Int32.le_iff_toInt_le, vi_toInt hx, vi_toInt hy]
theorem vi_cl {x : Int} (h0 : 0 ≤ x) (h : x < 2147483648) : (Int32.ofInt x).toNatClampNeg = x.toNat := by
  rw [← Int32.toNat_toInt, vi_toInt ⟨by omega, h⟩]
theorem vi_in {x : Int} {n : Nat} (h0 : 0 ≤ x) (h : x < n) (hn : n < 2147483648) : vp_in (Int32.ofInt x) n := by
  rw [vp_in_iff, vi_toInt ⟨by omega, by omega⟩]
  exact ⟨h0, h⟩
theorem vi_of (x : Int32) : Int32.ofInt x.toInt = x := by
  apply Int32.toInt_inj.mp
  rw [vi_toInt ⟨Int32.le_toInt x, Int32.toInt_lt x⟩]
/-! the words -/
def isNest : Cond → Bool
  | .fieldLinkNest .. => true
  | .methodLinkNest .. => true
  | _ => false
def lw_good : List Cond := lw_tbl.filter goodWord
def lw_nest : List Cond := tables_1.filter isNest
theorem mg (i : Nat) {w : Cond} (h : tables_1[i]? = some w) (g : goodWord w = true) : w ∈ lw_good := List.mem_filter.mpr ⟨List.mem_append_right _ (List.mem_of_getElem? h), g⟩
theorem mn (i : Nat) {w : Cond} (h : tables_1[i]? = some w) (g : isNest w = true) : w ∈ lw_nest := List.mem_filter.mpr ⟨List.mem_of_getElem? h, g⟩
theorem mt {w : Cond} (h : w ∈ lw_tbl) (g : goodWord w = true) : w ∈ lw_good := List.mem_filter.mpr ⟨h, g⟩
theorem good_in : GoodIn lw_good lw_good := fun w h => ⟨h, good_of_word (List.mem_filter.mp h).2⟩
def Nst (U : State) : Prop := ∀ w ∈ lw_nest, va_Nw w U
theorem nest_on {w : Cond} (h : isNest w = true) : w.onTables = true := by
  cases w <;> first | rfl | cases h
theorem Nst.same {u U : State} (h : u.vm = U.vm) (n : Nst u) : Nst U := fun w hw => va_Nw.same (nest_on (List.mem_filter.mp hw).2) h (n w hw)
theorem Nst.warm {s U : State} (hW : s.WarmedH U.vm) (n : Nst s) : Nst U := by
  intro w hw
  have h1 := n w hw
  have h2 := (List.mem_filter.mp hw).2
  cases w <;> first | exact va_Nw.warmF hW h1 | exact va_Nw.warmM hW h1 | cases h2
/-! the store and the world: 135 cells. kind 0: an object of class ci, its fields by codes (0 int, 1 long, n + 2 a reference to cell n); 1: ints; 2: booleans; 3: references -/
abbrev Ds : Type := Nat × Nat × List Nat
def TB : List Ds := [(0, 7, [3, 29, 6, 10, 13, 15, 16, 17, 18, 19, 27, 28, 0, 0]), (0, 5, [0, 4, 5]), (1, 6, []), (1, 6, []), (0, 2, [3, 29, 7, 8, 9]), (1, 6, []), (1, 6, []), (1, 10, []), (0, 0, [3, 29, 6, 11, 12, 0, 0, 0, 0, 0]), (1, 6, []), (1, 6, []), (0, 4, [14, 0, 0]), (3, 10, [48, 55, 62, 69, 76, 83, 90, 97, 104, 111]), (0, 3, [3, 29, 1]), (3, 2, [34, 41]), (2, 2, []), (1, 200, []), (0, 6, [18, 20, 23, 24, 25, 26, 0, 0, 0, 0, 0, 0, 0, 0, 0]), (0, 5, [0, 21, 22]), (1, 6, []), (1, 6, []), (1, 4, []), (1, 6, []), (1, 6, []), (1, 6, []), (1, 6, []), (1, 6, []), (0, 1, [0, 0, 0, 30, 31, 32, 33, 34, 35]), (1, 48, []), (1, 48, []), (1, 48, []), (1, 48, []), (1, 6, []), (1, 36, []), (0, 1, [0, 0, 0, 37, 38, 39, 40, 41, 42]), (1, 48, []), (1, 48, []), (1, 48, []), (1, 48, []), (1, 6, []), (1, 36, []), (0, 1, [0, 0, 0, 44, 45, 46, 47, 48, 49]), (1, 48, []), (1, 48, []), (1, 48, []), (1, 48, []), (1, 6, []), (1, 36, []), (0, 1, [0, 0, 0, 51, 52, 53, 54, 55, 56]), (1, 48, []), (1, 48, []), (1, 48, []), (1, 48, []), (1, 6, []), (1, 36, []), (0, 1, [0, 0, 0, 58, 59, 60, 61, 62, 63]), (1, 48, []), (1, 48, []), (1, 48, []), (1, 48, []), (1, 6, []), (1, 36, []), (0, 1, [0, 0, 0, 65, 66, 67, 68, 69, 70]), (1, 48, []), (1, 48, []), (1, 48, []), (1, 48, []), (1, 6, []), (1, 36, []), (0, 1, [0, 0, 0, 72, 73, 74, 75, 76, 77]), (1, 48, []), (1, 48, []), (1, 48, []), (1, 48, []), (1, 6, []), (1, 36, []), (0, 1, [0, 0, 0, 79, 80, 81, 82, 83, 84]), (1, 48, []), (1, 48, []), (1, 48, []), (1, 48, []), (1, 6, []), (1, 36, []), (0, 1, [0, 0, 0, 86, 87, 88, 89, 90, 91]), (1, 48, []), (1, 48, []), (1, 48, []), (1, 48, []), (1, 6, []), (1, 36, []), (0, 1, [0, 0, 0, 93, 94, 95, 96, 97, 98]), (1, 48, []), (1, 48, []), (1, 48, []), (1, 48, []), (1, 6, []), (1, 36, []), (0, 1, [0, 0, 0, 100, 101, 102, 103, 104, 105]), (1, 48, []), (1, 48, []), (1, 48, []), (1, 48, []), (1, 6, []), (1, 36, []), (0, 1, [0, 0, 0, 107, 108, 109, 110, 111, 112]), (1, 48, []), (1, 48, []), (1, 48, []), (1, 48, []), (1, 6, []), (1, 36, []), (0, 1, [0, 0, 0, 114, 115, 116, 117, 118, 119]), (1, 48, []), (1, 48, []), (1, 48, []), (1, 48, []), (1, 6, []), (1, 36, []), (0, 8, [0, 1, 121, 0, 0, 0, 0, 0, 0, 122, 123, 124, 125, 0, 0, 0, 0, 126, 127, 128, 129, 130, 0, 131, 132, 0, 133, 134, 135, 136]), (1, 200, []), (1, 12, []), (1, 12, []), (1, 8, []), (1, 36, []), (1, 48, []), (1, 189, []), (1, 378, []), (2, 2, []), (1, 1890, []), (1, 6, []), (1, 6, []), (1, 6, []), (1, 6, []), (1, 6, []), (1, 6, [])]
abbrev Cy : Type := ClassId × ClassId × ClassId
def lngAt (c : Nat) (i : Int) : Prop := (c = 13 ∧ i = 2) ∨ (c = 118 ∧ i = 1)
def WF (S : St) : Prop := ∀ c i, ¬ lngAt c i → InR (S c i)
def fv (ad : Nat → Nat) (x : Int) : Nat → Value
  | 0 => vi x
  | 1 => vl x
  | n + 2 => .ref (ad n)
def fls (ad : Nat → Nat) (g : Int → Int) : Nat → List Nat → List Value
  | _, [] => []
  | k, t :: ts => fv ad (g k) t :: fls ad g (k + 1) ts
def enD (cy : Cy) (ad : Nat → Nat) (g : Int → Int) (d : Ds) : va_E := match d.1 with
  | 0 => .inr (d.2.1, fls ad g 0 d.2.2)
  | 1 => .inl (cy.1, d.2.1, .inl (fun j => Int32.ofInt (g j)))
  | 2 => .inl (cy.2.1, d.2.1, .inl (fun j => Int32.ofInt (g j)))
  | _ => .inl (cy.2.2, d.2.1, .inr (.inr (.inr (.inr (fun j => some (ad (d.2.2.getD j 0)))))))
def ds (c : Nat) : Ds := TB.getD c (0, 0, [])
def wsf (cy : Cy) (ad : Nat → Nat) (S : St) (c : Nat) : Nat × va_E := (ad c, enD cy ad (S c) (ds c))
def ws (cy : Cy) (ad : Nat → Nat) (S : St) : va_W := (List.range 135).map (wsf cy ad S)
def tys (cy : Cy) : List (ClassId × FieldType) := [(cy.1, .int), (cy.2.1, .boolean), (cy.2.2, .object RX1)]
def up (S : St) (c : Nat) (i v : Int) : St := fun c' i' => if c' = c then (if i' = i then v else S c' i') else S c' i'
theorem up_s (S : St) (c : Nat) (i v : Int) : up S c i v c i = v := by simp [up]
theorem up_c {S : St} {c c' : Nat} {i v j : Int} (h : c' ≠ c) : up S c i v c' j = S c' j := by simp [up, h]
theorem up_i {S : St} {c : Nat} {i v j : Int} (h : j ≠ i) : up S c i v c j = S c j := by simp [up, h]
theorem up_row {S : St} {c c' : Nat} {i v : Int} (h : c' ≠ c) : up S c i v c' = S c' := funext fun j => up_c h
theorem wf_up {S : St} {c : Nat} {i v : Int} (h : WF S) (hv : ¬ lngAt c i → InR v) : WF (up S c i v) := by
  intro c' i' hl
  unfold up
  split
  · rename_i h1
    subst h1
    split
    · rename_i h2
      subst h2
      exact hv hl
    · exact h _ _ hl
  · exact h _ _ hl
theorem ws_get {cy : Cy} {ad : Nat → Nat} {S : St} {c : Nat} (h : c < 135) : (ws cy ad S)[c]? = some (wsf cy ad S c) := by
  simp [ws, h]
theorem ws_len (cy : Cy) (ad : Nat → Nat) (S : St) : (ws cy ad S).length = 135 := by simp [ws]
theorem ws_set {cy : Cy} {ad : Nat → Nat} {S S' : St} {c : Nat} {e : va_E} (h : c < 135) (he : enD cy ad (S' c) (ds c) = e) (ho : ∀ c', c' ≠ c → S' c' = S c') : (ws cy ad S).set c (ad c, e) = ws cy ad S' := by
  apply List.ext_getElem?
  intro k
  by_cases hk : k = c
  · subst hk
    rw [List.getElem?_set_self (by rw [ws_len]; exact h), ws_get h, wsf, he]
  · rw [List.getElem?_set_ne (fun z => hk z.symm)]
    by_cases hl : k < 135
    · rw [ws_get hl, ws_get hl, wsf, wsf, ho k hk]
    · rw [List.getElem?_eq_none (by rw [ws_len]; omega), List.getElem?_eq_none (by rw [ws_len]; omega)]
theorem ws_at {cy : Cy} {ad : Nat → Nat} {S : St} {k : Nat} {q : Nat × va_E} (h : (ws cy ad S)[k]? = some q) : k < 135 ∧ q.1 = ad k := by
  have hk : k < 135 := by have := (List.getElem?_eq_some_iff.mp h).1; rwa [ws_len] at this
  rw [ws_get hk] at h
  cases h
  exact ⟨hk, rfl⟩
theorem ws_D {cy : Cy} {ad : Nat → Nat} {S S' : St} {A : Nat → Prop} (h : va_D A (ws cy ad S)) : va_D A (ws cy ad S') := by
  refine ⟨fun i j p q hi hj e => ?_, fun k q hk => ?_⟩
  · obtain ⟨h1, e1⟩ := ws_at hi
    obtain ⟨h2, e2⟩ := ws_at hj
    exact h.1 i j _ _ (ws_get h1) (ws_get h2) (by show ad i = ad j; rw [← e1, ← e2]; exact e)
  · obtain ⟨h1, e1⟩ := ws_at hk
    rw [e1]
    exact h.2 k _ (ws_get h1)
theorem fls_get (ad : Nat → Nat) (g : Int → Int) : ∀ (l : List Nat) (b k t : Nat), l[k]? = some t → (fls ad g b l)[k]? = some (fv ad (g ((b + k : Nat) : Int)) t)
  | [], b, k, t, h => by simp at h
  | a :: l, b, 0, t, h => by
    simp at h
    subst h
    simp [fls]
  | a :: l, b, k + 1, t, h => by
    simp only [List.getElem?_cons_succ] at h
    have := fls_get ad g l (b + 1) k t h
    simp only [fls, List.getElem?_cons_succ]
    rw [this]
    congr 3
    omega
theorem fls_len (ad : Nat → Nat) (g : Int → Int) : ∀ (l : List Nat) (b : Nat), (fls ad g b l).length = l.length
  | [], b => rfl
  | a :: l, b => by simp [fls, fls_len ad g l (b + 1)]
theorem fls_set (ad : Nat → Nat) (g g' : Int → Int) : ∀ (l : List Nat) (b k t : Nat), l[k]? = some t → (∀ j : Int, j ≠ ((b + k : Nat) : Int) → g' j = g j) → (fls ad g b l).set k (fv ad (g' ((b + k : Nat) : Int)) t) = fls ad g' b l
  | [], b, k, t, h, _ => by simp at h
  | a :: l, b, 0, t, h, ho => by
    simp at h
    subst h
    simp only [fls, List.set_cons_zero]
    congr 1
    have : ∀ (l : List Nat) (c : Nat), b < c → fls ad g c l = fls ad g' c l := by
      intro l
      induction l with
      | nil => intro c _; rfl
      | cons x l ih =>
        intro c hc
        simp only [fls]
        rw [ih (c + 1) (by omega), ho c (by omega)]
    exact this l (b + 1) (by omega)
  | a :: l, b, k + 1, t, h, ho => by
    simp only [List.getElem?_cons_succ] at h
    have := fls_set ad g g' l (b + 1) k t h (fun j hj => ho j (by omega))
    simp only [fls, List.set_cons_succ]
    rw [ho b (by omega)]
    congr 1
    rw [← this]
    congr 3
    omega
