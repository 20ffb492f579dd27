theorem bfk_blind {D : va_G} {cy : Cy} {sz : Nat} {w : KW} {av : List Value} : FrameBlind (va_Pc av (BfK D cy sz w)) := by
  intro a U g mk q
  obtain ⟨q0, q1, q2, qP, qK, qD, qO⟩ := q
  exact ⟨q0, q1, Nst.same (u := U) (U := U.calling g mk a) rfl q2, qP, va_K.moved (u := U) (U := U.calling g mk a) (Vm.Alike.refl U.vm) qK, qD, va_AO.moved (u := U) (U := U.calling g mk a) (Vm.Alike.refl U.vm) qO⟩
section KC
variable {M Mc : MT} {X : CtxK} {mc ms pc k n mcc msc idx nA a : Nat} {L : List (Nat × Value)} {As rest : List Value} {w : KW} {P : KW → Prop}
theorem k_callI (hex : EK Mc (.ref a :: As) w P mcc msc) (hcm : CM Mc nA) (hin : (Cond.instanceMethod Mc.1) ∈ lw_good) (hname : Mc.1.name = "<init>") (hret : Mc.2.2.2.1 = none) (hml : MLk M.1.cls idx Mc.1) (hn : As.length = nA) (hdep : Mc.2.2.2.2 + 1 ≤ M.2.2.2.2) (hcat : cts rest ≤ 8) (hd : decode M.2.1 pc = .ok (.invokespecial idx, 3)) (h1 : k + mcc ≤ mc) (h2 : n + msc ≤ ms) (kk : ∀ u, P u → KJ M X mc ms (pc + 3) L rest u (k + mcc) (n + msc)) : KJ M X mc ms pc L (As.reverse ++ .ref a :: rest) w k n := by
  intro p l e R s m args below meth c0 D cy A Q hB hX H locs ls hP hD hS hl
  have hm := hcm.2.2.2
  have hroom : (rmK Mc mcc msc).frames + 1 ≤ R.frames ∧ 8 + (Mc.2.2.1 + 11) + (rmK Mc mcc msc).locals ≤ R.locals := by
    have h1 := hB.2.2.2.2.2.2.2.2.1
    have h2 := hB.2.2.2.2.2.2.2.2.2.1
    constructor
    · show Mc.2.2.2.2 + 1 ≤ _
      omega
    · show 8 + (Mc.2.2.1 + 11) + 40 * Mc.2.2.2.2 ≤ _
      omega
  have hts := hB.2.2.2.2.2.1
  have hc := hB.2.2.2.2.2.2.2.2.2.2
  have hpre : PreS s H (va_Pc (.ref a :: As) (BfK D cy H.size w)) (.ref a :: As) := ⟨bfk_blind, fun U hU hWU => ⟨rfl, by rw [hU], Nst.warm hWU hB.2.2.2.2.2.2.1, by rw [hU]; exact hP, va_K.moved hWU.alike hB.2.2.2.2.2.2.2.1, hD.weaken (fun _ _ _ _ => trivial), va_AO.moved hWU.alike hc.2.2.2.2.2⟩⟩
  have hfix : CallFix p m c0 M.2.1 M.2.2.1 s args lw_good M.1.cls := ⟨hB.1, hB.2.1, hB.2.2.1, hB.2.2.2.2.1, hts⟩
  have hws : wsM Mc = Cond.code Mc.1 Mc.2.1 Mc.2.2.1 none :: lw_good := by unfold wsM; rw [hret]
  have hcw : 2 * (F0 m pc ls (As.reverse ++ .ref a :: rest)).monitorRoom + (rest.map fun v => v.category).sum ≤ 8 := lv_room hcat
  have hcells : k + mcc ≤ R.cells ∧ n + msc ≤ R.slots := ⟨Nat.le_trans h1 hc.1, Nat.le_trans h2 hc.2.1⟩
  have hfr : ∀ q, va_A (w cy) H.size q → A q := by
    intro q h
    rcases h with ⟨i, x, h⟩ | h
    · exact hD.2 i _ h
    · exact hc.2.2.2.1 q (Nat.le_trans hS.1 h)
  have hr : va_Run p l e R s m args below meth c0 H locs k n mcc msc (F0 m pc ls (As.reverse ++ .ref a :: rest)) rest (va_Qv (fun u : KW => P u) (EfK D cy H.size w) (va_A (w cy) H.size) (Value.ref a :: As).toArray) (va_A (w cy) H.size) := by
    rcases hml with h | ⟨host, h⟩
    · have cb := callB_of (own := M.1.cls) (index := idx) (y := Mc.1) (bytes := Mc.2.1) (maxL := Mc.2.2.1) (ret := none) (ws := wsM Mc) (rm := rmK Mc mcc msc) (mc := mcc) (ms := msc) nA hts (wsM_good hcm) hws rfl rfl (hts _ hcm.2.1) (hts _ h) hcm.2.2.1 hroom
      exact va_runI hfix (hex l D cy H.size) ⟨cb, hname, hts _ hin⟩ hpre rfl hn hl.1 rfl hcw hd hcells
    · have cb := va_cnB (own := M.1.cls) (index := idx) (y := Mc.1) (host := host) (bytes := Mc.2.1) (maxL := Mc.2.2.1) (ret := none) (ws := wsM Mc) (rm := rmK Mc mcc msc) (mc := mcc) (ms := msc) nA hts (wsM_good hcm) hws rfl rfl (hB.2.2.2.2.2.2.1 _ h) (hts _ hcm.2.1) hcm.2.2.1 hroom
      exact va_runIN hfix (hex l D cy H.size) ⟨cb, hname, hts _ hin⟩ hpre rfl hn hl.1 rfl hcw hd hcells
  rw [map_idn]
  refine va_callv (a := (Value.ref a :: As).toArray) hr hS (fun q _ h => hfr q h) hfr (fun u t H1 locs1 ht hvm hw hE hz1 hk1 hS1 => ?_)
  obtain ⟨hP1, hD1⟩ := hE
  rw [ht] at hP1
  have := kk u hw p l e R s m args below meth c0 D cy A Q hB hX H1 locs1 ls hP1 (hD1.weaken (fun _ q _ h => hfr q.1 h)) hS1 hl
  rw [map_idn] at this
  exact this
theorem k_callV {ci q0 : Nat} {fs : List Value} (hex : EK Mc (.ref a :: As) w P mcc msc) (hcm : CM Mc nA) (hci : CI Mc ci) (hret : Mc.2.2.2.1 = none) (hml : MLk M.1.cls idx Mc.1) (he : ∀ cy, (w cy)[q0]? = some (a, .inr (ci, fs))) (hn : As.length = nA) (hdep : Mc.2.2.2.2 + 1 ≤ M.2.2.2.2) (hcat : cts rest ≤ 8) (hd : decode M.2.1 pc = .ok (.invokevirtual idx, 3)) (h1 : k + mcc ≤ mc) (h2 : n + msc ≤ ms) (kk : ∀ u, P u → KJ M X mc ms (pc + 3) L rest u (k + mcc) (n + msc)) : KJ M X mc ms pc L (As.reverse ++ .ref a :: rest) w k n := by
  intro p l e R s m args below meth c0 D cy A Q hB hX H locs ls hP hD hS hl
  obtain ⟨hci1, hci2, T, N, hvw⟩ := hci
  have hm := hcm.2.2.2
  have hroom : (rmK Mc mcc msc).frames + 1 ≤ R.frames ∧ 8 + (Mc.2.2.1 + 11) + (rmK Mc mcc msc).locals ≤ R.locals := by
    have h1 := hB.2.2.2.2.2.2.2.2.1
    have h2 := hB.2.2.2.2.2.2.2.2.2.1
    constructor
    · show Mc.2.2.2.2 + 1 ≤ _
      omega
    · show 8 + (Mc.2.2.1 + 11) + 40 * Mc.2.2.2.2 ≤ _
      omega
  have hts := hB.2.2.2.2.2.1
  have hc := hB.2.2.2.2.2.2.2.2.2.2
  have hrec : ∃ cellB : Cell, H[a]? = some cellB ∧ cellB.vm.isStatics = false ∧ s.vm.findClass Mc.1.cls = some cellB.cls := va_recv hB.2.2.2.2.2.2.2.1 hP hvw (he cy)
  have hpre : PreV s H Mc.1.cls a (va_Pc (.ref a :: As) (BfK D cy H.size w)) As := ⟨bfk_blind, hrec, fun U hU hWU => ⟨rfl, by rw [hU], Nst.warm hWU hB.2.2.2.2.2.2.1, by rw [hU]; exact hP, va_K.moved hWU.alike hB.2.2.2.2.2.2.2.1, hD.weaken (fun _ _ _ _ => trivial), va_AO.moved hWU.alike hc.2.2.2.2.2⟩⟩
  have hfix : CallFix p m c0 M.2.1 M.2.2.1 s args lw_good M.1.cls := ⟨hB.1, hB.2.1, hB.2.2.1, hB.2.2.2.2.1, hts⟩
  have hcw : 2 * (F0 m pc ls (As.reverse ++ .ref a :: rest)).monitorRoom + (rest.map fun v => v.category).sum ≤ 8 := lv_room hcat
  have hcells : k + mcc ≤ R.cells ∧ n + msc ≤ R.slots := ⟨Nat.le_trans h1 hc.1, Nat.le_trans h2 hc.2.1⟩
  have hfr : ∀ q, va_A (w cy) H.size q → A q := by
    intro q h
    rcases h with ⟨i, x, h⟩ | h
    · exact hD.2 i _ h
    · exact hc.2.2.2.1 q (Nat.le_trans hS.1 h)
  have hr : va_Run p l e R s m args below meth c0 H locs k n mcc msc (F0 m pc ls (As.reverse ++ .ref a :: rest)) rest (va_Qv (fun u : KW => P u) (EfK D cy H.size w) (va_A (w cy) H.size) (Value.ref a :: As).toArray) (va_A (w cy) H.size) := by
    rcases hml with h | ⟨host, h⟩
    · have cb := callB_of (own := M.1.cls) (index := idx) (y := Mc.1) (bytes := Mc.2.1) (maxL := Mc.2.2.1) (ret := Mc.2.2.2.1) (ws := wsM Mc) (rm := rmK Mc mcc msc) (mc := mcc) (ms := msc) nA hts (wsM_good hcm) rfl rfl rfl (hts _ hcm.2.1) (hts _ h) hcm.2.2.1 hroom
      exact va_runV hfix (hex l D cy H.size) ⟨cb, hts _ hci1, hts _ hci2⟩ hpre rfl hn hl.1 rfl hcw hd hcells
    · have cb := va_cnB (own := M.1.cls) (index := idx) (y := Mc.1) (host := host) (bytes := Mc.2.1) (maxL := Mc.2.2.1) (ret := Mc.2.2.2.1) (ws := wsM Mc) (rm := rmK Mc mcc msc) (mc := mcc) (ms := msc) nA hts (wsM_good hcm) rfl rfl rfl (hB.2.2.2.2.2.2.1 _ h) (hts _ hcm.2.1) hcm.2.2.1 hroom
      exact va_runVN hfix (hex l D cy H.size) ⟨cb, hts _ hci1, hts _ hci2⟩ hpre rfl hn hl.1 rfl hcw hd hcells
  rw [map_idn]
  refine va_callv (a := (Value.ref a :: As).toArray) hr hS (fun q _ h => hfr q h) hfr (fun u t H1 locs1 ht hvm hw hE hz1 hk1 hS1 => ?_)
  obtain ⟨hP1, hD1⟩ := hE
  rw [ht] at hP1
  have := kk u hw p l e R s m args below meth c0 D cy A Q hB hX H1 locs1 ls hP1 (hD1.weaken (fun _ q _ h => hfr q.1 h)) hS1 hl
  rw [map_idn] at this
  exact this
end KC
