def CM (M : MT) (n : Nat) : Prop := (Cond.code M.1 M.2.1 M.2.2.1 M.2.2.2.1) ∈ lw_good ∧ (Cond.initialized M.1.cls) ∈ lw_good ∧ (M.1.cls ≠ "java/lang/invoke/MethodHandle" ∧ M.1.cls ≠ "java/lang/invoke/VarHandle" ∧ (parseMethodDescriptor M.1.desc).map (fun d => d.parameters.length) = some n) ∧ M.2.2.1 ≤ 21
def CI (M : MT) (ci : Nat) : Prop := (Cond.instanceMethod M.1) ∈ lw_good ∧ (Cond.selects M.1.cls M.1 M.1) ∈ lw_good ∧ ∃ (T : u_T) (N : Nat), vwCl[ci]? = some (M.1.cls, T, N)
def CS (M : MT) : Prop := (Cond.static M.1) ∈ lw_good
def MLk (own : String) (idx : Nat) (y : MethodName) : Prop := (Cond.methodLink own idx y) ∈ lw_good ∨ ∃ host, (Cond.methodLinkNest own idx y host) ∈ lw_nest
def cts (st : List Value) : Nat := (st.map fun v => v.category).sum
theorem cts_im (ad : Nat → Nat) : ∀ st : List Value, ((st.map (im ad)).map fun v => v.category).sum = cts st
  | [] => rfl
  | v :: st => by
    have := cts_im ad st
    simp only [cts, List.map_cons, List.sum_cons, im_cat] at this ⊢
    rw [this]
theorem wsM_good {M : MT} {n : Nat} (h : CM M n) : GoodIn lw_good (wsM M) := by
  intro w hw
  rcases List.mem_cons.mp hw with h1 | h1
  · subst h1
    exact good_in _ h.1
  · exact good_in _ h1
theorem bf_blind {D : va_G} {cy : Cy} {ad : Nat → Nat} {sz : Nat} {S : St} {av : List Value} : FrameBlind (va_Pc av (Bf D cy ad sz S)) := by
  intro a U g mk q
  obtain ⟨q0, q1, q2, qP, qK, qD, qW⟩ := q
  exact ⟨q0, q1, Nst.same (u := U) (U := U.calling g mk a) rfl q2, qP, va_K.moved (u := U) (U := U.calling g mk a) (Vm.Alike.refl U.vm) qK, qD, qW⟩
section R4
variable {p : Program} {l : Launch} {e : Env} {R : Room} {s : State} {m : MethodId} {args : Array Value} {below : List Frame} {meth : Method} {c0 : Code} {D : va_G} {cy : Cy} {ad : Nat → Nat} {A : Nat → Prop} {cells slots : Nat} {H : Heap} {locs : List Loc} {M Mc : MT} {S : St} {P : Int → St → Prop}
theorem bf_pre {as : List Value} (hB : Base M p R s m args meth c0 D cy A cells slots) (hW : WF S) (hP : va_P D vwCl (ws cy ad S) H) (hD : va_D A (ws cy ad S)) : ∀ U : State, U.heap = H → s.WarmedH U.vm → va_Pc (as.map (im ad)) (Bf D cy ad H.size S) (as.map (im ad)).toArray U := by
  intro U hU hWU
  exact ⟨rfl, by rw [hU], Nst.warm hWU hB.2.2.2.2.2.2.1, by rw [hU]; exact hP, va_K.moved hWU.alike hB.2.2.2.2.2.2.2.1, hD.weaken (fun _ _ _ _ => trivial), hW⟩
theorem ad_free (hB : Base M p R s m args meth c0 D cy A cells slots) (hD : va_D A (ws cy ad S)) (hS : va_S A s.heap H locs) : ∀ q, adA ad H.size q → A q := by
  intro q h
  rcases h with ⟨c, hc, rfl⟩ | h
  · exact hD.2 c _ (ws_get hc)
  · exact hB.2.2.2.2.2.2.2.2.2.2.2.2.2 q (Nat.le_trans hS.1 h)
theorem run_V {ci c idx n pc : Nat} {ls : Array Slot} {As rest : List Value} (hB : Base M p R s m args meth c0 D cy A cells slots) (hW : WF S) (hP : va_P D vwCl (ws cy ad S) H) (hD : va_D A (ws cy ad S)) (hls : ls.size = M.2.2.1)
    (hex : EX Mc (.ref c :: As) S P) (hcm : CM Mc n) (hci : CI Mc ci) (hml : MLk M.1.cls idx Mc.1) (hq : (fdq c 0).map (fun q => q.1) = some ci) (hn : As.length = n) (hdep : Mc.2.2.2.2 + 1 ≤ M.2.2.2.2) (hcat : cts rest ≤ 8) (hd : decode M.2.1 pc = .ok (.invokevirtual idx, 3)) :
    va_Run p l e R s m args below meth c0 H locs cells slots 0 0 (F0 m pc ls ((As.reverse ++ .ref c :: rest).map (im ad))) (rest.map (im ad)) (QX (rk Mc.2.2.2.1) P D cy ad H.size ((Value.ref (ad c) :: As.map (im ad))).toArray) (adA ad H.size) := by
  obtain ⟨hci1, hci2, T, N, hvw⟩ := hci
  have hm := hcm.2.2.2
  have hroom : (rmM Mc).frames + 1 ≤ R.frames ∧ 8 + (Mc.2.2.1 + 11) + (rmM Mc).locals ≤ R.locals := by
    have h1 := hB.2.2.2.2.2.2.2.2.1
    have h2 := hB.2.2.2.2.2.2.2.2.2.1
    constructor
    · show Mc.2.2.2.2 + 1 ≤ _
      omega
    · show 8 + (Mc.2.2.1 + 11) + 40 * Mc.2.2.2.2 ≤ _
      omega
  have hrec : ∃ cellB : Cell, H[ad c]? = some cellB ∧ cellB.vm.isStatics = false ∧ s.vm.findClass Mc.1.cls = some cellB.cls := by
    cases hqq : fdq c 0 with
    | none => rw [hqq] at hq; cases hq
    | some q =>
      obtain ⟨ci', t⟩ := q
      rw [hqq] at hq
      obtain rfl : ci' = ci := Option.some.inj hq
      obtain ⟨hc, l0, hds, -⟩ := fdq_get hqq
      have he : (ws cy ad S)[c]? = some (ad c, .inr (ci', fls ad (S c) 0 l0)) := by
        rw [ws_get hc, wsf, hds]
        rfl
      exact va_recv hB.2.2.2.2.2.2.2.1 hP hvw he
  have hpre : PreV s H Mc.1.cls (ad c) (va_Pc ((Value.ref c :: As).map (im ad)) (Bf D cy ad H.size S)) (As.map (im ad)) := ⟨bf_blind, hrec, fun U hU hWU => bf_pre (as := .ref c :: As) hB hW hP hD U hU hWU⟩
  have hfix : CallFix p m c0 M.2.1 M.2.2.1 s args lw_good M.1.cls := ⟨hB.1, hB.2.1, hB.2.2.1, hB.2.2.2.2.1, hB.2.2.2.2.2.1⟩
  have hst : ((As.reverse ++ .ref c :: rest).map (im ad)) = (As.map (im ad)).reverse ++ .ref (ad c) :: rest.map (im ad) := by
    rw [List.map_append, List.map_reverse]
    rfl
  have hlen : (As.map (im ad)).length = n := by rw [List.length_map]; exact hn
  have hcells : cells + 0 ≤ R.cells ∧ slots + 0 ≤ R.slots := ⟨hB.2.2.2.2.2.2.2.2.2.2.1, hB.2.2.2.2.2.2.2.2.2.2.2.1⟩
  have hts := hB.2.2.2.2.2.1
  have hcw : 2 * (F0 m pc ls ((As.reverse ++ .ref c :: rest).map (im ad))).monitorRoom + ((rest.map (im ad)).map fun v => v.category).sum ≤ 8 := lv_room (by rw [cts_im]; exact hcat)
  rcases hml with h | ⟨host, h⟩
  · have cb := callB_of (own := M.1.cls) (index := idx) (y := Mc.1) (bytes := Mc.2.1) (maxL := Mc.2.2.1) (ret := Mc.2.2.2.1) (ws := wsM Mc) (rm := rmM Mc) (mc := 0) (ms := 0) n hts (wsM_good hcm) rfl rfl rfl (hts _ hcm.2.1) (hts _ h) hcm.2.2.1 hroom
    exact va_runV hfix (hex l D cy ad H.size) ⟨cb, hts _ hci1, hts _ hci2⟩ hpre rfl hlen hls hst hcw hd hcells
  · have cb := va_cnB (own := M.1.cls) (index := idx) (y := Mc.1) (host := host) (bytes := Mc.2.1) (maxL := Mc.2.2.1) (ret := Mc.2.2.2.1) (ws := wsM Mc) (rm := rmM Mc) (mc := 0) (ms := 0) n hts (wsM_good hcm) rfl rfl rfl (hB.2.2.2.2.2.2.1 _ h) (hts _ hcm.2.1) hcm.2.2.1 hroom
    exact va_runVN hfix (hex l D cy ad H.size) ⟨cb, hts _ hci1, hts _ hci2⟩ hpre rfl hlen hls hst hcw hd hcells
theorem run_S {idx n pc : Nat} {ls : Array Slot} {As rest : List Value} (hB : Base M p R s m args meth c0 D cy A cells slots) (hW : WF S) (hP : va_P D vwCl (ws cy ad S) H) (hD : va_D A (ws cy ad S)) (hls : ls.size = M.2.2.1)
    (hex : EX Mc As S P) (hcm : CM Mc n) (hci : CS Mc) (hml : MLk M.1.cls idx Mc.1) (hn : As.length = n) (hdep : Mc.2.2.2.2 + 1 ≤ M.2.2.2.2) (hcat : cts rest ≤ 8) (hd : decode M.2.1 pc = .ok (.invokestatic idx, 3)) :
    va_Run p l e R s m args below meth c0 H locs cells slots 0 0 (F0 m pc ls ((As.reverse ++ rest).map (im ad))) (rest.map (im ad)) (QX (rk Mc.2.2.2.1) P D cy ad H.size (As.map (im ad)).toArray) (adA ad H.size) := by
  have hm := hcm.2.2.2
  have hroom : (rmM Mc).frames + 1 ≤ R.frames ∧ 8 + (Mc.2.2.1 + 11) + (rmM Mc).locals ≤ R.locals := by
    have h1 := hB.2.2.2.2.2.2.2.2.1
    have h2 := hB.2.2.2.2.2.2.2.2.2.1
    constructor
    · show Mc.2.2.2.2 + 1 ≤ _
      omega
    · show 8 + (Mc.2.2.1 + 11) + 40 * Mc.2.2.2.2 ≤ _
      omega
  have hpre : PreS s H (va_Pc (As.map (im ad)) (Bf D cy ad H.size S)) (As.map (im ad)) := ⟨bf_blind, fun U hU hWU => bf_pre (as := As) hB hW hP hD U hU hWU⟩
  have hfix : CallFix p m c0 M.2.1 M.2.2.1 s args lw_good M.1.cls := ⟨hB.1, hB.2.1, hB.2.2.1, hB.2.2.2.2.1, hB.2.2.2.2.2.1⟩
  have hst : ((As.reverse ++ rest).map (im ad)) = (As.map (im ad)).reverse ++ rest.map (im ad) := by
    rw [List.map_append, List.map_reverse]
  have hlen : (As.map (im ad)).length = n := by rw [List.length_map]; exact hn
  have hcells : cells + 0 ≤ R.cells ∧ slots + 0 ≤ R.slots := ⟨hB.2.2.2.2.2.2.2.2.2.2.1, hB.2.2.2.2.2.2.2.2.2.2.2.1⟩
  have hts := hB.2.2.2.2.2.1
  have hcw : 2 * (F0 m pc ls ((As.reverse ++ rest).map (im ad))).monitorRoom + ((rest.map (im ad)).map fun v => v.category).sum ≤ 8 := lv_room (by rw [cts_im]; exact hcat)
  rcases hml with h | ⟨host, h⟩
  · have cb := callB_of (own := M.1.cls) (index := idx) (y := Mc.1) (bytes := Mc.2.1) (maxL := Mc.2.2.1) (ret := Mc.2.2.2.1) (ws := wsM Mc) (rm := rmM Mc) (mc := 0) (ms := 0) n hts (wsM_good hcm) rfl rfl rfl (hts _ hcm.2.1) (hts _ h) hcm.2.2.1 hroom
    exact va_runS hfix (hex l D cy ad H.size) ⟨cb, hts _ hci⟩ hpre rfl hlen hls hst hcw hd hcells
  · have cb := va_cnB (own := M.1.cls) (index := idx) (y := Mc.1) (host := host) (bytes := Mc.2.1) (maxL := Mc.2.2.1) (ret := Mc.2.2.2.1) (ws := wsM Mc) (rm := rmM Mc) (mc := 0) (ms := 0) n hts (wsM_good hcm) rfl rfl rfl (hB.2.2.2.2.2.2.1 _ h) (hts _ hcm.2.1) hcm.2.2.1 hroom
    exact va_runSN hfix (hex l D cy ad H.size) ⟨cb, hts _ hci, trivial⟩ hpre rfl hlen hls hst hcw hd hcells
end R4
section R5
variable {M Mc : MT} {X : CtxT} {pc idx n ci : Nat} {L : List (Nat × Value)} {rest : List Value} {S : St} {P : Int → St → Prop}
theorem j_callVv {c : Nat} {As : List Value} (hex : EX Mc (.ref c :: As) S P) (hk : rk Mc.2.2.2.1 = 0) (hcm : CM Mc n) (hci : CI Mc ci) (hml : MLk M.1.cls idx Mc.1) (hq : (fdq c 0).map (fun q => q.1) = some ci) (hn : As.length = n) (hdep : Mc.2.2.2.2 + 1 ≤ M.2.2.2.2) (hcat : cts rest ≤ 8) (hd : decode M.2.1 pc = .ok (.invokevirtual idx, 3)) (kk : ∀ (r : Int) (S' : St), P r S' → JJ M X (pc + 3) L (rest) S') : JJ M X pc L (As.reverse ++ .ref c :: rest) S := by
  intro p l e R s m args below meth c0 D cy ad A cells slots Q hB hX H locs ls hW hP hD hS hl
  have hr := run_V hB hW hP hD hl.1 hex hcm hci hml hq hn hdep hcat hd (l := l) (below := below) (locs := locs) (e := e) (args := args)
  rw [hk] at hr
  have hfr := ad_free hB hD hS
  refine va_callv (a := (Value.ref (ad c) :: As.map (im ad)).toArray) hr hS (fun q _ h => hfr q h) hfr (fun u t H1 locs1 ht hvm hw hE hz1 hk1 hS1 => ?_)
  obtain ⟨r, S'⟩ := u
  obtain ⟨hP1, hW1⟩ := hE
  rw [ht] at hP1
  exact kk r S' hw p l e R s m args below meth c0 D cy ad A cells slots Q hB hX H1 locs1 ls hW1 hP1 (ws_D hD) hS1 hl
theorem j_callVi {c : Nat} {As : List Value} (hex : EX Mc (.ref c :: As) S P) (hk : rk Mc.2.2.2.1 = 1) (hcm : CM Mc n) (hci : CI Mc ci) (hml : MLk M.1.cls idx Mc.1) (hq : (fdq c 0).map (fun q => q.1) = some ci) (hn : As.length = n) (hdep : Mc.2.2.2.2 + 1 ≤ M.2.2.2.2) (hcat : cts rest ≤ 8) (hd : decode M.2.1 pc = .ok (.invokevirtual idx, 3)) (kk : ∀ (r : Int) (S' : St), P r S' → JJ M X (pc + 3) L (vi r :: rest) S') : JJ M X pc L (As.reverse ++ .ref c :: rest) S := by
  intro p l e R s m args below meth c0 D cy ad A cells slots Q hB hX H locs ls hW hP hD hS hl
  have hr := run_V hB hW hP hD hl.1 hex hcm hci hml hq hn hdep hcat hd (l := l) (below := below) (locs := locs) (e := e) (args := args)
  rw [hk] at hr
  have hfr := ad_free hB hD hS
  refine va_calli (a := (Value.ref (ad c) :: As.map (im ad)).toArray) hr hS (fun q _ h => hfr q h) hfr (fun x u t H1 locs1 ht hvm hw hE hz1 hk1 hS1 => ?_)
  obtain ⟨r, S'⟩ := u
  obtain ⟨hP1, hW1⟩ := hE
  obtain ⟨hx, hw⟩ := hw
  subst hx
  rw [ht] at hP1
  exact kk r S' hw p l e R s m args below meth c0 D cy ad A cells slots Q hB hX H1 locs1 ls hW1 hP1 (ws_D hD) hS1 hl
theorem j_callVl {c : Nat} {As : List Value} (hex : EX Mc (.ref c :: As) S P) (hk : rk Mc.2.2.2.1 = 2) (hcm : CM Mc n) (hci : CI Mc ci) (hml : MLk M.1.cls idx Mc.1) (hq : (fdq c 0).map (fun q => q.1) = some ci) (hn : As.length = n) (hdep : Mc.2.2.2.2 + 1 ≤ M.2.2.2.2) (hcat : cts rest ≤ 8) (hd : decode M.2.1 pc = .ok (.invokevirtual idx, 3)) (kk : ∀ (r : Int) (S' : St), P r S' → JJ M X (pc + 3) L (vl r :: rest) S') : JJ M X pc L (As.reverse ++ .ref c :: rest) S := by
  intro p l e R s m args below meth c0 D cy ad A cells slots Q hB hX H locs ls hW hP hD hS hl
  have hr := run_V hB hW hP hD hl.1 hex hcm hci hml hq hn hdep hcat hd (l := l) (below := below) (locs := locs) (e := e) (args := args)
  rw [hk] at hr
  have hfr := ad_free hB hD hS
  refine va_calll (a := (Value.ref (ad c) :: As.map (im ad)).toArray) hr hS (fun q _ h => hfr q h) hfr (fun x u t H1 locs1 ht hvm hw hE hz1 hk1 hS1 => ?_)
  obtain ⟨r, S'⟩ := u
  obtain ⟨hP1, hW1⟩ := hE
  obtain ⟨hx, hw⟩ := hw
  subst hx
  rw [ht] at hP1
  exact kk r S' hw p l e R s m args below meth c0 D cy ad A cells slots Q hB hX H1 locs1 ls hW1 hP1 (ws_D hD) hS1 hl
theorem j_callSv {As : List Value} (hex : EX Mc As S P) (hk : rk Mc.2.2.2.1 = 0) (hcm : CM Mc n) (hci : CS Mc) (hml : MLk M.1.cls idx Mc.1) (hn : As.length = n) (hdep : Mc.2.2.2.2 + 1 ≤ M.2.2.2.2) (hcat : cts rest ≤ 8) (hd : decode M.2.1 pc = .ok (.invokestatic idx, 3)) (kk : ∀ (r : Int) (S' : St), P r S' → JJ M X (pc + 3) L (rest) S') : JJ M X pc L (As.reverse ++ rest) S := by
  intro p l e R s m args below meth c0 D cy ad A cells slots Q hB hX H locs ls hW hP hD hS hl
  have hr := run_S hB hW hP hD hl.1 hex hcm hci hml hn hdep hcat hd (l := l) (below := below) (locs := locs) (e := e) (args := args)
  rw [hk] at hr
  have hfr := ad_free hB hD hS
  refine va_callv (a := (As.map (im ad)).toArray) hr hS (fun q _ h => hfr q h) hfr (fun u t H1 locs1 ht hvm hw hE hz1 hk1 hS1 => ?_)
  obtain ⟨r, S'⟩ := u
  obtain ⟨hP1, hW1⟩ := hE
  rw [ht] at hP1
  exact kk r S' hw p l e R s m args below meth c0 D cy ad A cells slots Q hB hX H1 locs1 ls hW1 hP1 (ws_D hD) hS1 hl
theorem j_callSi {As : List Value} (hex : EX Mc As S P) (hk : rk Mc.2.2.2.1 = 1) (hcm : CM Mc n) (hci : CS Mc) (hml : MLk M.1.cls idx Mc.1) (hn : As.length = n) (hdep : Mc.2.2.2.2 + 1 ≤ M.2.2.2.2) (hcat : cts rest ≤ 8) (hd : decode M.2.1 pc = .ok (.invokestatic idx, 3)) (kk : ∀ (r : Int) (S' : St), P r S' → JJ M X (pc + 3) L (vi r :: rest) S') : JJ M X pc L (As.reverse ++ rest) S := by
  intro p l e R s m args below meth c0 D cy ad A cells slots Q hB hX H locs ls hW hP hD hS hl
  have hr := run_S hB hW hP hD hl.1 hex hcm hci hml hn hdep hcat hd (l := l) (below := below) (locs := locs) (e := e) (args := args)
  rw [hk] at hr
  have hfr := ad_free hB hD hS
  refine va_calli (a := (As.map (im ad)).toArray) hr hS (fun q _ h => hfr q h) hfr (fun x u t H1 locs1 ht hvm hw hE hz1 hk1 hS1 => ?_)
  obtain ⟨r, S'⟩ := u
  obtain ⟨hP1, hW1⟩ := hE
  obtain ⟨hx, hw⟩ := hw
  subst hx
  rw [ht] at hP1
  exact kk r S' hw p l e R s m args below meth c0 D cy ad A cells slots Q hB hX H1 locs1 ls hW1 hP1 (ws_D hD) hS1 hl
theorem j_callSl {As : List Value} (hex : EX Mc As S P) (hk : rk Mc.2.2.2.1 = 2) (hcm : CM Mc n) (hci : CS Mc) (hml : MLk M.1.cls idx Mc.1) (hn : As.length = n) (hdep : Mc.2.2.2.2 + 1 ≤ M.2.2.2.2) (hcat : cts rest ≤ 8) (hd : decode M.2.1 pc = .ok (.invokestatic idx, 3)) (kk : ∀ (r : Int) (S' : St), P r S' → JJ M X (pc + 3) L (vl r :: rest) S') : JJ M X pc L (As.reverse ++ rest) S := by
  intro p l e R s m args below meth c0 D cy ad A cells slots Q hB hX H locs ls hW hP hD hS hl
  have hr := run_S hB hW hP hD hl.1 hex hcm hci hml hn hdep hcat hd (l := l) (below := below) (locs := locs) (e := e) (args := args)
  rw [hk] at hr
  have hfr := ad_free hB hD hS
  refine va_calll (a := (As.map (im ad)).toArray) hr hS (fun q _ h => hfr q h) hfr (fun x u t H1 locs1 ht hvm hw hE hz1 hk1 hS1 => ?_)
  obtain ⟨r, S'⟩ := u
  obtain ⟨hP1, hW1⟩ := hE
  obtain ⟨hx, hw⟩ := hw
  subst hx
  rw [ht] at hP1
  exact kk r S' hw p l e R s m args below meth c0 D cy ad A cells slots Q hB hX H1 locs1 ls hW1 hP1 (ws_D hD) hS1 hl
end R5
