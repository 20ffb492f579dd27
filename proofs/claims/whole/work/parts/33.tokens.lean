/-! the text's tokens: x its letters, t how many; codes: -1 the end, -2 a number, -3 a wrong one, else the letter -/
def dig (c : Int) : Prop := 48 ≤ c ∧ c ≤ 57
def skB (x : Int → Int) (t : Int) : Nat → Int → Int
  | 0, p => p
  | n + 1, p => if p < t ∧ x p = 32 then skB x t n (p + 1) else p
def skD (x : Int → Int) (t : Int) : Nat → Int → Int
  | 0, p => p
  | n + 1, p => if p < t ∧ 48 ≤ x p ∧ x p ≤ 57 then skD x t n (p + 1) else p
def nvF (x : Int → Int) (t : Int) : Nat → Int → Int → Int
  | 0, _, v => v
  | n + 1, p, v => if p < t ∧ 48 ≤ x p ∧ x p ≤ 57 then nvF x t n (p + 1) (if v * 10 + x p - 48 < 100 then v * 10 + x p - 48 else 100) else v
def tsB (x : Int → Int) (t p : Int) : Int := skB x t (t - p).toNat p
def teD (x : Int → Int) (t p : Int) : Int := skD x t (t - p).toNat p
def tnV (x : Int → Int) (t p v : Int) : Int := nvF x t (t - p).toNat p v
theorem tsB_go {x : Int → Int} {t p : Int} (h : p < t) (hx : x p = 32) : tsB x t p = tsB x t (p + 1) := by
  unfold tsB
  have e : (t - p).toNat = (t - (p + 1)).toNat + 1 := by omega
  rw [e]
  show (if p < t ∧ x p = 32 then _ else _) = _
  rw [if_pos ⟨h, hx⟩]
theorem tsB_at {x : Int → Int} {t p : Int} (h : ¬ (p < t ∧ x p = 32)) : tsB x t p = p := by
  unfold tsB
  cases (t - p).toNat with
  | zero => rfl
  | succ n =>
    show (if p < t ∧ x p = 32 then _ else _) = _
    rw [if_neg h]
theorem teD_go {x : Int → Int} {t p : Int} (h : p < t) (hx : 48 ≤ x p ∧ x p ≤ 57) : teD x t p = teD x t (p + 1) := by
  unfold teD
  have e : (t - p).toNat = (t - (p + 1)).toNat + 1 := by omega
  rw [e]
  show (if p < t ∧ 48 ≤ x p ∧ x p ≤ 57 then _ else _) = _
  rw [if_pos ⟨h, hx⟩]
theorem teD_at {x : Int → Int} {t p : Int} (h : ¬ (p < t ∧ 48 ≤ x p ∧ x p ≤ 57)) : teD x t p = p := by
  unfold teD
  cases (t - p).toNat with
  | zero => rfl
  | succ n =>
    show (if p < t ∧ 48 ≤ x p ∧ x p ≤ 57 then _ else _) = _
    rw [if_neg h]
theorem tnV_go {x : Int → Int} {t p v : Int} (h : p < t) (hx : 48 ≤ x p ∧ x p ≤ 57) : tnV x t p v = tnV x t (p + 1) (if v * 10 + x p - 48 < 100 then v * 10 + x p - 48 else 100) := by
  unfold tnV
  have e : (t - p).toNat = (t - (p + 1)).toNat + 1 := by omega
  rw [e]
  show (if p < t ∧ 48 ≤ x p ∧ x p ≤ 57 then _ else _) = _
  rw [if_pos ⟨h, hx⟩]
theorem tnV_at {x : Int → Int} {t p v : Int} (h : ¬ (p < t ∧ 48 ≤ x p ∧ x p ≤ 57)) : tnV x t p v = v := by
  unfold tnV
  cases (t - p).toNat with
  | zero => rfl
  | succ n =>
    show (if p < t ∧ 48 ≤ x p ∧ x p ≤ 57 then _ else _) = _
    rw [if_neg h]
theorem skB_bd (x : Int → Int) (t : Int) : ∀ (n : Nat) (p : Int), p ≤ skB x t n p ∧ (skB x t n p ≤ t ∨ skB x t n p = p)
  | 0, p => by simp [skB]
  | n + 1, p => by
    have := skB_bd x t n (p + 1)
    unfold skB
    split <;> omega
theorem skD_bd (x : Int → Int) (t : Int) : ∀ (n : Nat) (p : Int), p ≤ skD x t n p ∧ (skD x t n p ≤ t ∨ skD x t n p = p)
  | 0, p => by simp [skD]
  | n + 1, p => by
    have := skD_bd x t n (p + 1)
    unfold skD
    split <;> omega
theorem tsB_bd (x : Int → Int) (t p : Int) : p ≤ tsB x t p ∧ (tsB x t p ≤ t ∨ tsB x t p = p) := skB_bd x t _ p
theorem teD_bd (x : Int → Int) (t p : Int) : p ≤ teD x t p ∧ (teD x t p ≤ t ∨ teD x t p = p) := skD_bd x t _ p
theorem nvF_bd (x : Int → Int) (t : Int) : ∀ (n : Nat) (p v : Int), 0 ≤ v → v ≤ 100 → 0 ≤ nvF x t n p v ∧ nvF x t n p v ≤ 100
  | 0, p, v, h0, h1 => ⟨h0, h1⟩
  | n + 1, p, v, h0, h1 => by
    unfold nvF
    split
    · rename_i h
      apply nvF_bd x t n (p + 1)
      · split <;> omega
      · split <;> omega
    · exact ⟨h0, h1⟩
/-- the token at (behind blanks) p: its code, start, end, number -/
def kTs (x : Int → Int) (t p : Int) : Int := tsB x t p
def kTe (x : Int → Int) (t p : Int) : Int := if t ≤ tsB x t p then tsB x t p else if 48 ≤ x (tsB x t p) ∧ x (tsB x t p) ≤ 57 then teD x t (tsB x t p) else tsB x t p + 1
def kTv (x : Int → Int) (t p : Int) : Int := tnV x t (tsB x t p) 0
def kTk (x : Int → Int) (t p : Int) : Int := if t ≤ tsB x t p then -1 else if 48 ≤ x (tsB x t p) ∧ x (tsB x t p) ≤ 57 then (if 99 < kTv x t p ∨ (x (tsB x t p) = 48 ∧ tsB x t p + 1 < kTe x t p) then -3 else -2) else x (tsB x t p)
theorem kTe_bd {x : Int → Int} {t p : Int} (h : p ≤ t) : p ≤ kTe x t p ∧ kTe x t p ≤ t ∧ (kTk x t p ≠ -1 → p < kTe x t p) := by
  have h1 := tsB_bd x t p
  have h2 := teD_bd x t (tsB x t p)
  unfold kTe kTk
  by_cases e : t ≤ tsB x t p
  · rw [if_pos e, if_pos e]; exact ⟨by omega, by omega, fun z => absurd rfl z⟩
  · rw [if_neg e]
    by_cases e2 : 48 ≤ x (tsB x t p) ∧ x (tsB x t p) ≤ 57
    · rw [if_pos e2]
      have h3 : teD x t (tsB x t p) = teD x t (tsB x t p + 1) := teD_go (by omega) e2
      have h4 := teD_bd x t (tsB x t p + 1)
      exact ⟨by omega, by omega, fun _ => by omega⟩
    · rw [if_neg e2]; exact ⟨by omega, by omega, fun _ => by omega⟩
/-! the reader's own numbers -/
def RdK (S S' : St) : Prop := Same [17] S S' ∧ ∀ i, i < 11 → S' 17 i = S 17 i
/-- what the reader's fields are while a text is read: 200 letters, its place -/
def RdI (S : St) : Prop := (0 ≤ S 17 6 ∧ S 17 6 ≤ 200) ∧ (0 ≤ S 17 11 ∧ S 17 11 ≤ S 17 6) ∧ ∀ i, 0 ≤ i → i < S 17 6 → 0 ≤ S 16 i ∧ S 16 i ≤ 255
theorem kT_end {x : Int → Int} {t p : Int} (h : t ≤ tsB x t p) : kTe x t p = tsB x t p ∧ kTk x t p = -1 := by
  unfold kTe kTk
  rw [if_pos h, if_pos h]
  exact ⟨rfl, rfl⟩
theorem kT_num {x : Int → Int} {t p : Int} (h : tsB x t p < t) (hd : 48 ≤ x (tsB x t p) ∧ x (tsB x t p) ≤ 57) : kTe x t p = teD x t (tsB x t p) ∧ kTk x t p = (if 99 < tnV x t (tsB x t p) 0 ∨ (x (tsB x t p) = 48 ∧ tsB x t p + 1 < teD x t (tsB x t p)) then -3 else -2) := by
  have e : kTe x t p = teD x t (tsB x t p) := by
    unfold kTe
    rw [if_neg (by omega), if_pos hd]
  refine ⟨e, ?_⟩
  unfold kTk
  rw [if_neg (by omega), if_pos hd, e]
  rfl
theorem kT_let {x : Int → Int} {t p : Int} (h : tsB x t p < t) (hd : ¬ (48 ≤ x (tsB x t p) ∧ x (tsB x t p) ≤ 57)) : kTe x t p = tsB x t p + 1 ∧ kTk x t p = x (tsB x t p) := by
  unfold kTe kTk
  rw [if_neg (by omega), if_neg hd, if_neg (by omega), if_neg hd]
  exact ⟨rfl, rfl⟩
