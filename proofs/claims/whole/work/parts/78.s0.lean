/-! the store at the start -/
def S0 : St := fun c => if c = 1 then (fun i => if i = 0 then 3 else 0) else if c = 18 then (fun i => if i = 0 then 3 else 0) else if c = 2 then pl1 else if c = 19 then pl1 else if c = 120 then pl1 else if c = 3 then pl9 else if c = 20 then pl9 else if c = 121 then pl9 else if c = 17 then (fun i => if i = 10 then -1 else if i = 12 then -1 else 0) else if c = 118 then (fun i => if i = 13 then 3 else 0) else fun _ => 0
theorem S0_wf : WF S0 := by
  intro c i _
  unfold S0 pl1 pl9
  (repeat' split)
  all_goals (try dsimp only)
  all_goals (repeat' split)
  all_goals exact ⟨by decide, by decide⟩
theorem S0_rel : Rel S0 S0 0 := by
  have z : ∀ c, c ≠ 1 → c ≠ 18 → c ≠ 2 → c ≠ 19 → c ≠ 120 → c ≠ 3 → c ≠ 20 → c ≠ 121 → c ≠ 17 → c ≠ 118 → ∀ i, S0 c i = 0 := by
    intro c h1 h2 h3 h4 h5 h6 h7 h8 h9 h10 i
    unfold S0
    rw [if_neg h1, if_neg h2, if_neg h3, if_neg h4, if_neg h5, if_neg h6, if_neg h7, if_neg h8, if_neg h9, if_neg h10]
  have z0 := z 0 (by decide) (by decide) (by decide) (by decide) (by decide) (by decide) (by decide) (by decide) (by decide) (by decide)
  have z11 := z 11 (by decide) (by decide) (by decide) (by decide) (by decide) (by decide) (by decide) (by decide) (by decide) (by decide)
  have z15 := z 15 (by decide) (by decide) (by decide) (by decide) (by decide) (by decide) (by decide) (by decide) (by decide) (by decide)
  have z27 := z 27 (by decide) (by decide) (by decide) (by decide) (by decide) (by decide) (by decide) (by decide) (by decide) (by decide)
  have z125 := z 125 (by decide) (by decide) (by decide) (by decide) (by decide) (by decide) (by decide) (by decide) (by decide) (by decide)
  have z127 := z 127 (by decide) (by decide) (by decide) (by decide) (by decide) (by decide) (by decide) (by decide) (by decide) (by decide)
  refine ⟨by omega, ⟨rfl, by decide, rfl, fun i a b => ?_⟩, ⟨rfl, by decide, fun k a b => ?_⟩, ⟨FR.z rfl rfl rfl (fun p a b => ?_) (fun s a b => ?_) (fun s k a b => ?_), ⟨by decide, by decide, by decide, fun p a b => ?_, fun s k a b => ?_⟩⟩, ⟨rfl, by decide, by decide, fun j a b => ?_⟩, fun i a b => ?_, ⟨rfl, by decide, fun i a b => ?_⟩, rfl, rfl⟩
  · rw [z0] at b; omega
  · have e2 : S0 2 k = 1 := if_pos ⟨a, b⟩
    have e3 : S0 3 k = 9 := if_pos ⟨a, b⟩
    refine ⟨⟨rfl, rfl⟩, ?_, ?_⟩
    · rw [e2]; omega
    · rw [e3]; omega
  · rw [z27] at b; omega
  · rw [z27] at b; omega
  · rw [z27] at b; omega
  · rw [z27] at b; omega
  · rw [z27] at b; omega
  · rw [z11] at b; omega
  · refine ⟨by rw [z15, z127], fun h => absurd (z15 i) h⟩
  · rw [z0] at b; omega
def LXK (b n : Nat) (xs : Nat → Int32) : CtxK := fun p l e R s m args below meth c D cy A Q => va_X b n xs s s.heap ∧ b < s.heap.size ∧ (A = fun q => s.heap.size ≤ q) ∧ R = room_1 ∧ args = #[.ref b] ∧ Q = lw_Z below args s
theorem step_all {P : Nat → Prop} {s N : Nat} (h : P s) (ht : ∀ k, s + 1 ≤ k → k < N → P k) : ∀ k, s ≤ k → k < N → P k := fun k h1 h2 => if e : s = k then e ▸ h else ht k (by omega) h2
theorem arrV_cg {c : ClassId} {N : Nat} {f g : Nat → Value} (h : ∀ j, j < N → f j = g j) : arrV c N f = arrV c N g := by
  unfold arrV
  congr 2
  funext j
  exact h j.val j.isLt
theorem at_q {D : va_G} {cl : List vw_C} {a n : Nat} {cA : ClassId} {f g : Nat → Option Nat} {H : Heap} (h : ∀ j, j < n → f j = g j) (hp : va_at D cl (a, .inl (cA, n, .inr (.inr (.inr (.inr f))))) H) : va_at D cl (a, .inl (cA, n, .inr (.inr (.inr (.inr g))))) H := by
  have hp1 : H[a]? = some (vp_cell cA (n, .inr (.inr (.inr (.inr f))))) := hp
  show H[a]? = some (vp_cell cA (n, .inr (.inr (.inr (.inr g)))))
  rw [hp1, vp_cell_q, vp_cell_q, arrV_cg (fun j hj => by rw [h j hj])]
