def dfX0 : List Value := [.null, .null, .null, .null, .null, .int 0, .int 0, .int 0, .int 0, .int 0]
def dfX1 : List Value := [.int 0, .int 0, .int 0, .null, .null, .null, .null, .null, .null]
def dfX2 : List Value := [.null, .null, .null, .null, .null]
def dfX3 : List Value := [.null, .null, .long 0]
def dfX4 : List Value := [.null, .int 0, .int 0]
def dfX5 : List Value := [.int 0, .null, .null]
def dfX6 : List Value := [.null, .null, .null, .null, .null, .null, .int 0, .int 0, .int 0, .int 0, .int 0, .int 0, .int 0, .int 0, .int 0]
def dfX7 : List Value := [.null, .null, .null, .null, .null, .null, .null, .null, .null, .null, .null, .null, .int 0, .int 0]
def dfX8 : List Value := [.int 0, .long 0, .null, .int 0, .int 0, .int 0, .int 0, .int 0, .int 0, .null, .null, .null, .null, .int 0, .int 0, .int 0, .int 0, .null, .null, .null, .null, .null, .int 0, .null, .null, .int 0, .null, .null, .null, .null]
theorem nw_X0 : NWc 0 10 dfX0 := ⟨RX0, TX0, tyX0, rfl, tyX0_ok, fun j hj => by
  match j, hj with
  | 0, _ => rfl
  | 1, _ => rfl
  | 2, _ => rfl
  | 3, _ => rfl
  | 4, _ => rfl
  | 5, _ => rfl
  | 6, _ => rfl
  | 7, _ => rfl
  | 8, _ => rfl
  | 9, _ => rfl
, (mg (w := .instantiable RX0 10) 128 (by decide +kernel) (by decide +kernel)), (mg (w := .initialized RX0) 5 (by decide +kernel) (by decide +kernel))⟩
theorem nw_X1 : NWc 1 9 dfX1 := ⟨RX1, TX1, tyX1, rfl, tyX1_ok, fun j hj => by
  match j, hj with
  | 0, _ => rfl
  | 1, _ => rfl
  | 2, _ => rfl
  | 3, _ => rfl
  | 4, _ => rfl
  | 5, _ => rfl
  | 6, _ => rfl
  | 7, _ => rfl
  | 8, _ => rfl
, (mg (w := .instantiable RX1 9) 55 (by decide +kernel) (by decide +kernel)), (mg (w := .initialized RX1) 3 (by decide +kernel) (by decide +kernel))⟩
theorem nw_X2 : NWc 2 5 dfX2 := ⟨RX2, TX2, tyX2, rfl, tyX2_ok, fun j hj => by
  match j, hj with
  | 0, _ => rfl
  | 1, _ => rfl
  | 2, _ => rfl
  | 3, _ => rfl
  | 4, _ => rfl
, (mg (w := .instantiable RX2 5) 105 (by decide +kernel) (by decide +kernel)), (mg (w := .initialized RX2) 4 (by decide +kernel) (by decide +kernel))⟩
theorem nw_X3 : NWc 3 3 dfX3 := ⟨RX3, TX3, tyX3, rfl, tyX3_ok, fun j hj => by
  match j, hj with
  | 0, _ => rfl
  | 1, _ => rfl
  | 2, _ => rfl
, (mg (w := .instantiable RX3 3) 188 (by decide +kernel) (by decide +kernel)), (mg (w := .initialized RX3) 7 (by decide +kernel) (by decide +kernel))⟩
theorem nw_X4 : NWc 4 3 dfX4 := ⟨RX4, TX4, tyX4, rfl, tyX4_ok, fun j hj => by
  match j, hj with
  | 0, _ => rfl
  | 1, _ => rfl
  | 2, _ => rfl
, (mg (w := .instantiable RX4 3) 168 (by decide +kernel) (by decide +kernel)), (mg (w := .initialized RX4) 6 (by decide +kernel) (by decide +kernel))⟩
theorem nw_X5 : NWc 5 3 dfX5 := ⟨RX5, TX5, tyX5, rfl, tyX5_ok, fun j hj => by
  match j, hj with
  | 0, _ => rfl
  | 1, _ => rfl
  | 2, _ => rfl
, (mg (w := .instantiable RX5 3) 22 (by decide +kernel) (by decide +kernel)), (mg (w := .initialized RX5) 2 (by decide +kernel) (by decide +kernel))⟩
theorem nw_X6 : NWc 6 15 dfX6 := ⟨RX6, TX6, tyX6, rfl, tyX6_ok, fun j hj => by
  match j, hj with
  | 0, _ => rfl
  | 1, _ => rfl
  | 2, _ => rfl
  | 3, _ => rfl
  | 4, _ => rfl
  | 5, _ => rfl
  | 6, _ => rfl
  | 7, _ => rfl
  | 8, _ => rfl
  | 9, _ => rfl
  | 10, _ => rfl
  | 11, _ => rfl
  | 12, _ => rfl
  | 13, _ => rfl
  | 14, _ => rfl
, (mg (w := .instantiable RX6 15) 205 (by decide +kernel) (by decide +kernel)), (mg (w := .initialized RX6) 8 (by decide +kernel) (by decide +kernel))⟩
theorem nw_X7 : NWc 7 14 dfX7 := ⟨RX7, TX7, tyX7, rfl, tyX7_ok, fun j hj => by
  match j, hj with
  | 0, _ => rfl
  | 1, _ => rfl
  | 2, _ => rfl
  | 3, _ => rfl
  | 4, _ => rfl
  | 5, _ => rfl
  | 6, _ => rfl
  | 7, _ => rfl
  | 8, _ => rfl
  | 9, _ => rfl
  | 10, _ => rfl
  | 11, _ => rfl
  | 12, _ => rfl
  | 13, _ => rfl
, (mg (w := .instantiable RX7 14) 14 (by decide +kernel) (by decide +kernel)), (mg (w := .initialized RX7) 1 (by decide +kernel) (by decide +kernel))⟩
theorem nw_X8 : NWc 8 30 dfX8 := ⟨RX8, TX8, tyX8, rfl, tyX8_ok, fun j hj => by
  match j, hj with
  | 0, _ => rfl
  | 1, _ => rfl
  | 2, _ => rfl
  | 3, _ => rfl
  | 4, _ => rfl
  | 5, _ => rfl
  | 6, _ => rfl
  | 7, _ => rfl
  | 8, _ => rfl
  | 9, _ => rfl
  | 10, _ => rfl
  | 11, _ => rfl
  | 12, _ => rfl
  | 13, _ => rfl
  | 14, _ => rfl
  | 15, _ => rfl
  | 16, _ => rfl
  | 17, _ => rfl
  | 18, _ => rfl
  | 19, _ => rfl
  | 20, _ => rfl
  | 21, _ => rfl
  | 22, _ => rfl
  | 23, _ => rfl
  | 24, _ => rfl
  | 25, _ => rfl
  | 26, _ => rfl
  | 27, _ => rfl
  | 28, _ => rfl
  | 29, _ => rfl
  | n + 30, h => exact absurd h (by omega)
, (mg (w := .instantiable RX8 30) 752 (by decide +kernel) (by decide +kernel)), (mg (w := .initialized RX8) 9 (by decide +kernel) (by decide +kernel))⟩
theorem ko_X1 : (Cond.methodLink RX1 3 Lib.objectInit) ∈ lw_good := (mg (w := .methodLink RX1 3 Lib.objectInit) 59 (by decide +kernel) (by decide +kernel))
theorem kf_X1_21 : ∃ C T N, vwCl[1]? = some (C, T, N) ∧ C = RX1 ∧ (Cond.fieldLink RX1 21 C (T 3).2.1 (T 3).2.2.1) ∈ lw_good := ⟨_, _, _, rfl, rfl, mg 67 (by decide +kernel) (by decide +kernel)⟩
theorem ftf_1_3 : FTF 1 3 (.array .int) := ⟨_, _, _, rfl, rfl, by decide +kernel⟩
theorem kf_X1_25 : ∃ C T N, vwCl[1]? = some (C, T, N) ∧ C = RX1 ∧ (Cond.fieldLink RX1 25 C (T 4).2.1 (T 4).2.2.1) ∈ lw_good := ⟨_, _, _, rfl, rfl, mg 70 (by decide +kernel) (by decide +kernel)⟩
theorem ftf_1_4 : FTF 1 4 (.array .int) := ⟨_, _, _, rfl, rfl, by decide +kernel⟩
theorem kf_X1_28 : ∃ C T N, vwCl[1]? = some (C, T, N) ∧ C = RX1 ∧ (Cond.fieldLink RX1 28 C (T 5).2.1 (T 5).2.2.1) ∈ lw_good := ⟨_, _, _, rfl, rfl, mg 75 (by decide +kernel) (by decide +kernel)⟩
theorem ftf_1_5 : FTF 1 5 (.array .int) := ⟨_, _, _, rfl, rfl, by decide +kernel⟩
theorem kf_X1_31 : ∃ C T N, vwCl[1]? = some (C, T, N) ∧ C = RX1 ∧ (Cond.fieldLink RX1 31 C (T 6).2.1 (T 6).2.2.1) ∈ lw_good := ⟨_, _, _, rfl, rfl, mg 80 (by decide +kernel) (by decide +kernel)⟩
theorem ftf_1_6 : FTF 1 6 (.array .int) := ⟨_, _, _, rfl, rfl, by decide +kernel⟩
theorem kf_X1_34 : ∃ C T N, vwCl[1]? = some (C, T, N) ∧ C = RX1 ∧ (Cond.fieldLink RX1 34 C (T 7).2.1 (T 7).2.2.1) ∈ lw_good := ⟨_, _, _, rfl, rfl, mg 82 (by decide +kernel) (by decide +kernel)⟩
theorem ftf_1_7 : FTF 1 7 (.array .int) := ⟨_, _, _, rfl, rfl, by decide +kernel⟩
theorem kf_X1_37 : ∃ C T N, vwCl[1]? = some (C, T, N) ∧ C = RX1 ∧ (Cond.fieldLink RX1 37 C (T 8).2.1 (T 8).2.2.1) ∈ lw_good := ⟨_, _, _, rfl, rfl, mg 84 (by decide +kernel) (by decide +kernel)⟩
theorem ftf_1_8 : FTF 1 8 (.array .int) := ⟨_, _, _, rfl, rfl, by decide +kernel⟩
def pl1 : Int → Int := fun i => if 0 ≤ i ∧ i < 6 then 1 else 0
def pl9 : Int → Int := fun i => if 0 ≤ i ∧ i < 6 then 9 else 0
theorem upd6 (v : Int32) (x : Int) (hx : Int32.ofInt x = v) : upd (upd (upd (upd (upd (upd (fun _ => 0) 0 v) 1 v) 2 v) 3 v) 4 v) 5 v = fun j : Nat => Int32.ofInt (if 0 ≤ (j : Int) ∧ (j : Int) < 6 then x else 0) := by
  funext j
  unfold upd
  by_cases h : (j : Int) < 6
  · have e0 : (if 0 ≤ (j : Int) ∧ (j : Int) < 6 then x else 0) = x := if_pos ⟨by omega, h⟩
    rw [e0, hx]
    rcases (by omega : j = 0 ∨ j = 1 ∨ j = 2 ∨ j = 3 ∨ j = 4 ∨ j = 5) with e | e | e | e | e | e <;> subst e <;> simp
  · have e0 : (if 0 ≤ (j : Int) ∧ (j : Int) < 6 then x else 0) = 0 := if_neg (by omega)
    rw [e0, if_neg (by omega), if_neg (by omega), if_neg (by omega), if_neg (by omega), if_neg (by omega), if_neg (by omega)]
    rfl
theorem kf_X5_9 : ∃ C T N, vwCl[5]? = some (C, T, N) ∧ C = RX5 ∧ (Cond.fieldLink RX5 9 C (T 1).2.1 (T 1).2.2.1) ∈ lw_good := ⟨_, _, _, rfl, rfl, mg 36 (by decide +kernel) (by decide +kernel)⟩
theorem ftf_5_1 : FTF 5 1 (.array .int) := ⟨_, _, _, rfl, rfl, by decide +kernel⟩
theorem kf_X5_15 : ∃ C T N, vwCl[5]? = some (C, T, N) ∧ C = RX5 ∧ (Cond.fieldLink RX5 15 C (T 2).2.1 (T 2).2.2.1) ∈ lw_good := ⟨_, _, _, rfl, rfl, mg 41 (by decide +kernel) (by decide +kernel)⟩
theorem ftf_5_2 : FTF 5 2 (.array .int) := ⟨_, _, _, rfl, rfl, by decide +kernel⟩
theorem ko_X5 : (Cond.methodLink RX5 3 Lib.objectInit) ∈ lw_good := (mg (w := .methodLink RX5 3 Lib.objectInit) 26 (by decide +kernel) (by decide +kernel))
theorem ko_X2 : (Cond.methodLink RX2 3 Lib.objectInit) ∈ lw_good := (mg (w := .methodLink RX2 3 Lib.objectInit) 109 (by decide +kernel) (by decide +kernel))
theorem kf_X2_9 : ∃ C T N, vwCl[2]? = some (C, T, N) ∧ C = RX2 ∧ (Cond.fieldLink RX2 9 C (T 2).2.1 (T 2).2.2.1) ∈ lw_good := ⟨_, _, _, rfl, rfl, mg 112 (by decide +kernel) (by decide +kernel)⟩
theorem ftf_2_2 : FTF 2 2 (.array .int) := ⟨_, _, _, rfl, rfl, by decide +kernel⟩
theorem kf_X2_15 : ∃ C T N, vwCl[2]? = some (C, T, N) ∧ C = RX2 ∧ (Cond.fieldLink RX2 15 C (T 3).2.1 (T 3).2.2.1) ∈ lw_good := ⟨_, _, _, rfl, rfl, mg 113 (by decide +kernel) (by decide +kernel)⟩
theorem ftf_2_3 : FTF 2 3 (.array .int) := ⟨_, _, _, rfl, rfl, by decide +kernel⟩
theorem kf_X2_18 : ∃ C T N, vwCl[2]? = some (C, T, N) ∧ C = RX2 ∧ (Cond.fieldLink RX2 18 C (T 4).2.1 (T 4).2.2.1) ∈ lw_good := ⟨_, _, _, rfl, rfl, mg 114 (by decide +kernel) (by decide +kernel)⟩
theorem ftf_2_4 : FTF 2 4 (.array .int) := ⟨_, _, _, rfl, rfl, by decide +kernel⟩
theorem kf_X2_21 : ∃ C T N, vwCl[2]? = some (C, T, N) ∧ C = RX2 ∧ (Cond.fieldLink RX2 21 C (T 0).2.1 (T 0).2.2.1) ∈ lw_good := ⟨_, _, _, rfl, rfl, mg 110 (by decide +kernel) (by decide +kernel)⟩
theorem ftf_2_0 : FTF 2 0 (.object "WhoseShip$Plan") := ⟨_, _, _, rfl, rfl, by decide +kernel⟩
theorem kf_X2_25 : ∃ C T N, vwCl[2]? = some (C, T, N) ∧ C = RX2 ∧ (Cond.fieldLink RX2 25 C (T 1).2.1 (T 1).2.2.1) ∈ lw_good := ⟨_, _, _, rfl, rfl, mg 111 (by decide +kernel) (by decide +kernel)⟩
theorem ftf_2_1 : FTF 2 1 (.object "WhoseShip$Fleet") := ⟨_, _, _, rfl, rfl, by decide +kernel⟩
theorem ko_X0 : (Cond.methodLink RX0 3 Lib.objectInit) ∈ lw_good := (mg (w := .methodLink RX0 3 Lib.objectInit) 132 (by decide +kernel) (by decide +kernel))
theorem kf_X0_9 : ∃ C T N, vwCl[0]? = some (C, T, N) ∧ C = RX0 ∧ (Cond.fieldLink RX0 9 C (T 3).2.1 (T 3).2.2.1) ∈ lw_good := ⟨_, _, _, rfl, rfl, mg 136 (by decide +kernel) (by decide +kernel)⟩
theorem ftf_0_3 : FTF 0 3 (.array .int) := ⟨_, _, _, rfl, rfl, by decide +kernel⟩
theorem kf_X0_15 : ∃ C T N, vwCl[0]? = some (C, T, N) ∧ C = RX0 ∧ (Cond.fieldLink RX0 15 C (T 4).2.1 (T 4).2.2.1) ∈ lw_good := ⟨_, _, _, rfl, rfl, mg 137 (by decide +kernel) (by decide +kernel)⟩
theorem ftf_0_4 : FTF 0 4 (.array .int) := ⟨_, _, _, rfl, rfl, by decide +kernel⟩
theorem kf_X0_35 : ∃ C T N, vwCl[0]? = some (C, T, N) ∧ C = RX0 ∧ (Cond.fieldLink RX0 35 C (T 0).2.1 (T 0).2.2.1) ∈ lw_good := ⟨_, _, _, rfl, rfl, mg 133 (by decide +kernel) (by decide +kernel)⟩
theorem ftf_0_0 : FTF 0 0 (.object "WhoseShip$Plan") := ⟨_, _, _, rfl, rfl, by decide +kernel⟩
theorem kf_X0_39 : ∃ C T N, vwCl[0]? = some (C, T, N) ∧ C = RX0 ∧ (Cond.fieldLink RX0 39 C (T 1).2.1 (T 1).2.2.1) ∈ lw_good := ⟨_, _, _, rfl, rfl, mg 134 (by decide +kernel) (by decide +kernel)⟩
theorem ftf_0_1 : FTF 0 1 (.object "WhoseShip$Fleet") := ⟨_, _, _, rfl, rfl, by decide +kernel⟩
theorem kf_X0_43 : ∃ C T N, vwCl[0]? = some (C, T, N) ∧ C = RX0 ∧ (Cond.fieldLink RX0 43 C (T 2).2.1 (T 2).2.2.1) ∈ lw_good := ⟨_, _, _, rfl, rfl, mg 135 (by decide +kernel) (by decide +kernel)⟩
theorem ftf_0_2 : FTF 0 2 (.object "WhoseShip$Hull") := ⟨_, _, _, rfl, rfl, by decide +kernel⟩
theorem ko_X3 : (Cond.methodLink RX3 3 Lib.objectInit) ∈ lw_good := (mg (w := .methodLink RX3 3 Lib.objectInit) 192 (by decide +kernel) (by decide +kernel))
theorem kf_X3_15 : ∃ C T N, vwCl[3]? = some (C, T, N) ∧ C = RX3 ∧ (Cond.fieldLink RX3 15 C (T 0).2.1 (T 0).2.2.1) ∈ lw_good := ⟨_, _, _, rfl, rfl, mg 193 (by decide +kernel) (by decide +kernel)⟩
theorem ftf_3_0 : FTF 3 0 (.object "WhoseShip$Plan") := ⟨_, _, _, rfl, rfl, by decide +kernel⟩
theorem kf_X3_19 : ∃ C T N, vwCl[3]? = some (C, T, N) ∧ C = RX3 ∧ (Cond.fieldLink RX3 19 C (T 1).2.1 (T 1).2.2.1) ∈ lw_good := ⟨_, _, _, rfl, rfl, mg 194 (by decide +kernel) (by decide +kernel)⟩
theorem ftf_3_1 : FTF 3 1 (.object "WhoseShip$Fleet") := ⟨_, _, _, rfl, rfl, by decide +kernel⟩
theorem ko_X6 : (Cond.methodLink RX6 3 Lib.objectInit) ∈ lw_good := (mg (w := .methodLink RX6 3 Lib.objectInit) 209 (by decide +kernel) (by decide +kernel))
theorem kl_X6_9 : (Cond.classLink RX6 9 RX5) ∈ lw_good := (mg (w := .classLink RX6 9 RX5) 210 (by decide +kernel) (by decide +kernel))
theorem ml_X6_11 : MLk RX6 11 yX5_init := Or.inr ⟨_, mn (w := .methodLinkNest RX6 11 yX5_init "WhoseShip") 211 (by decide +kernel) (by decide +kernel)⟩
theorem ki_X5_init : (Cond.instanceMethod yX5_init) ∈ lw_good := (mg (w := .instanceMethod yX5_init) 24 (by decide +kernel) (by decide +kernel))
theorem kf_X6_12 : ∃ C T N, vwCl[6]? = some (C, T, N) ∧ C = RX6 ∧ (Cond.fieldLink RX6 12 C (T 1).2.1 (T 1).2.2.1) ∈ lw_good := ⟨_, _, _, rfl, rfl, mg 213 (by decide +kernel) (by decide +kernel)⟩
theorem ftf_6_1 : FTF 6 1 (.object "WhoseShip$Plan") := ⟨_, _, _, rfl, rfl, by decide +kernel⟩
theorem kf_X6_18 : ∃ C T N, vwCl[6]? = some (C, T, N) ∧ C = RX6 ∧ (Cond.fieldLink RX6 18 C (T 2).2.1 (T 2).2.2.1) ∈ lw_good := ⟨_, _, _, rfl, rfl, mg 214 (by decide +kernel) (by decide +kernel)⟩
theorem ftf_6_2 : FTF 6 2 (.array .int) := ⟨_, _, _, rfl, rfl, by decide +kernel⟩
theorem kf_X6_22 : ∃ C T N, vwCl[6]? = some (C, T, N) ∧ C = RX6 ∧ (Cond.fieldLink RX6 22 C (T 3).2.1 (T 3).2.2.1) ∈ lw_good := ⟨_, _, _, rfl, rfl, mg 215 (by decide +kernel) (by decide +kernel)⟩
theorem ftf_6_3 : FTF 6 3 (.array .int) := ⟨_, _, _, rfl, rfl, by decide +kernel⟩
theorem kf_X6_25 : ∃ C T N, vwCl[6]? = some (C, T, N) ∧ C = RX6 ∧ (Cond.fieldLink RX6 25 C (T 4).2.1 (T 4).2.2.1) ∈ lw_good := ⟨_, _, _, rfl, rfl, mg 216 (by decide +kernel) (by decide +kernel)⟩
theorem ftf_6_4 : FTF 6 4 (.array .int) := ⟨_, _, _, rfl, rfl, by decide +kernel⟩
theorem kf_X6_28 : ∃ C T N, vwCl[6]? = some (C, T, N) ∧ C = RX6 ∧ (Cond.fieldLink RX6 28 C (T 5).2.1 (T 5).2.2.1) ∈ lw_good := ⟨_, _, _, rfl, rfl, mg 217 (by decide +kernel) (by decide +kernel)⟩
theorem ftf_6_5 : FTF 6 5 (.array .int) := ⟨_, _, _, rfl, rfl, by decide +kernel⟩
theorem kf_X6_59 : ∃ C T N, vwCl[6]? = some (C, T, N) ∧ C = RX6 ∧ (Cond.fieldLink RX6 59 C (T 0).2.1 (T 0).2.2.1) ∈ lw_good := ⟨_, _, _, rfl, rfl, mg 212 (by decide +kernel) (by decide +kernel)⟩
theorem ftf_6_0 : FTF 6 0 (.array .int) := ⟨_, _, _, rfl, rfl, by decide +kernel⟩
theorem ko_X4 : (Cond.methodLink RX4 3 Lib.objectInit) ∈ lw_good := (mg (w := .methodLink RX4 3 Lib.objectInit) 172 (by decide +kernel) (by decide +kernel))
theorem kl_X4_9 : (Cond.classLink RX4 9 RX1) ∈ lw_good := (mg (w := .classLink RX4 9 RX1) 173 (by decide +kernel) (by decide +kernel))
theorem kf_X4_11 : ∃ C T N, vwCl[4]? = some (C, T, N) ∧ C = RX4 ∧ (Cond.fieldLink RX4 11 C (T 0).2.1 (T 0).2.2.1) ∈ lw_good := ⟨_, _, _, rfl, rfl, mg 176 (by decide +kernel) (by decide +kernel)⟩
theorem ftf_4_0 : FTF 4 0 (.array (.object "WhoseShip$Fleet")) := ⟨_, _, _, rfl, rfl, by decide +kernel⟩
theorem ml_X4_24 : MLk RX4 24 yX1_init := Or.inr ⟨_, mn (w := .methodLinkNest RX4 24 yX1_init "WhoseShip") 175 (by decide +kernel) (by decide +kernel)⟩
theorem ki_X1_init : (Cond.instanceMethod yX1_init) ∈ lw_good := (mg (w := .instanceMethod yX1_init) 57 (by decide +kernel) (by decide +kernel))
set_option maxRecDepth 100000 in
set_option maxHeartbeats 4000000 in
theorem k_X1_init (a : Nat) (r : KW) : EK mX1_init [.ref a] (fun cy => (a, .inr (1, dfX1)) :: r cy) (fun u => ∃ x1 x2 x3 x4 x5 x6 : Nat, u = fun cy => (x6, .inl (cy.1, 36, .inl (fun _ => 0))) :: (x5, .inl (cy.1, 6, .inl (fun _ => 0))) :: (x4, .inl (cy.1, 48, .inl (fun _ => 0))) :: (x3, .inl (cy.1, 48, .inl (fun _ => 0))) :: (x2, .inl (cy.1, 48, .inl (fun _ => 0))) :: (x1, .inl (cy.1, 48, .inl (fun _ => 0))) :: (a, .inr (1, [vi (0), vi (0), vi (0), .ref x1, .ref x2, .ref x3, .ref x4, .ref x5, .ref x6])) :: r cy) 6 234 := by
  refine EK.of (L := [(0, .ref a)]) rfl rfl (Nat.le_of_ble_eq_true rfl) rfl ?_
  refine k_aload dX1_init_0 rfl ?_
  refine k_obj dX1_init_1 ko_X1 (Nat.le_of_ble_eq_true rfl) (Nat.le_of_ble_eq_true rfl) ?_
  refine k_aload dX1_init_4 rfl ?_
  refine k_iconst dX1_init_5 ?_
  refine k_put (q0 := 0) dX1_init_6 fg_X1_9 ft_1_0 (fun _ => rfl) rfl rfl (Nat.le_of_ble_eq_true rfl) ?_
  refine k_aload dX1_init_9 rfl ?_
  refine k_iconst dX1_init_10 ?_
  refine k_put (q0 := 0) dX1_init_11 fg_X1_15 ft_1_1 (fun _ => rfl) rfl rfl (Nat.le_of_ble_eq_true rfl) ?_
  refine k_aload dX1_init_14 rfl ?_
  refine k_iconst dX1_init_15 ?_
  refine k_put (q0 := 0) dX1_init_16 fg_X1_18 ft_1_2 (fun _ => rfl) rfl rfl (Nat.le_of_ble_eq_true rfl) ?_
  refine k_aload dX1_init_19 rfl ?_
  refine k_bipush dX1_init_20 (by decide) ?_
  refine k_newi (N := 48) dX1_init_22 (by decide) (by decide) (by decide) (Nat.le_of_ble_eq_true rfl) (Nat.le_of_ble_eq_true rfl) (fun q1 => ?_)
  refine k_putF (q0 := 1) dX1_init_24 fg_X1_21 kf_X1_21 ftf_1_3 rfl (fun _ => rfl) rfl rfl (Nat.le_of_ble_eq_true rfl) ?_
  refine k_aload dX1_init_27 rfl ?_
  refine k_bipush dX1_init_28 (by decide) ?_
  refine k_newi (N := 48) dX1_init_30 (by decide) (by decide) (by decide) (Nat.le_of_ble_eq_true rfl) (Nat.le_of_ble_eq_true rfl) (fun q2 => ?_)
  refine k_putF (q0 := 2) dX1_init_32 fg_X1_25 kf_X1_25 ftf_1_4 rfl (fun _ => rfl) rfl rfl (Nat.le_of_ble_eq_true rfl) ?_
  refine k_aload dX1_init_35 rfl ?_
  refine k_bipush dX1_init_36 (by decide) ?_
  refine k_newi (N := 48) dX1_init_38 (by decide) (by decide) (by decide) (Nat.le_of_ble_eq_true rfl) (Nat.le_of_ble_eq_true rfl) (fun q3 => ?_)
  refine k_putF (q0 := 3) dX1_init_40 fg_X1_28 kf_X1_28 ftf_1_5 rfl (fun _ => rfl) rfl rfl (Nat.le_of_ble_eq_true rfl) ?_
  refine k_aload dX1_init_43 rfl ?_
  refine k_bipush dX1_init_44 (by decide) ?_
  refine k_newi (N := 48) dX1_init_46 (by decide) (by decide) (by decide) (Nat.le_of_ble_eq_true rfl) (Nat.le_of_ble_eq_true rfl) (fun q4 => ?_)
  refine k_putF (q0 := 4) dX1_init_48 fg_X1_31 kf_X1_31 ftf_1_6 rfl (fun _ => rfl) rfl rfl (Nat.le_of_ble_eq_true rfl) ?_
  refine k_aload dX1_init_51 rfl ?_
  refine k_bipush dX1_init_52 (by decide) ?_
  refine k_newi (N := 6) dX1_init_54 (by decide) (by decide) (by decide) (Nat.le_of_ble_eq_true rfl) (Nat.le_of_ble_eq_true rfl) (fun q5 => ?_)
  refine k_putF (q0 := 5) dX1_init_56 fg_X1_34 kf_X1_34 ftf_1_7 rfl (fun _ => rfl) rfl rfl (Nat.le_of_ble_eq_true rfl) ?_
  refine k_aload dX1_init_59 rfl ?_
  refine k_bipush dX1_init_60 (by decide) ?_
  refine k_newi (N := 36) dX1_init_62 (by decide) (by decide) (by decide) (Nat.le_of_ble_eq_true rfl) (Nat.le_of_ble_eq_true rfl) (fun q6 => ?_)
  refine k_putF (q0 := 6) dX1_init_64 fg_X1_37 kf_X1_37 ftf_1_8 rfl (fun _ => rfl) rfl rfl (Nat.le_of_ble_eq_true rfl) ?_
  exact k_ret dX1_init_67 rfl rfl ⟨q1, q2, q3, q4, q5, q6, rfl⟩
set_option maxRecDepth 100000 in
set_option maxHeartbeats 4000000 in
theorem k_X5_startAnew (a q1 q2 : Nat) (r : KW) : EK mX5_startAnew [.ref a] (fun cy => (q2, .inl (cy.1, 6, .inl (fun _ => 0))) :: (q1, .inl (cy.1, 6, .inl (fun _ => 0))) :: (a, .inr (5, [vi (0), .ref q1, .ref q2])) :: r cy) (fun u => u = fun cy => (q2, .inl (cy.1, 6, .inl (fun j => Int32.ofInt (pl9 j)))) :: (q1, .inl (cy.1, 6, .inl (fun j => Int32.ofInt (pl1 j)))) :: (a, .inr (5, [vi (3), .ref q1, .ref q2])) :: r cy) 0 0 := by
  refine EK.of (L := [(0, .ref a)]) rfl rfl (Nat.le_of_ble_eq_true rfl) rfl ?_
  refine k_aload dX5_startAnew_0 rfl ?_
  refine k_iconst dX5_startAnew_1 ?_
  refine k_put (q0 := 2) dX5_startAnew_2 fg_X5_21 ft_5_0 (fun _ => rfl) rfl rfl (Nat.le_of_ble_eq_true rfl) ?_
  refine k_iconst dX5_startAnew_5 ?_
  refine k_istore (L' := [(0, .ref a), (1, vi (0))]) dX5_startAnew_6 (Nat.le_of_ble_eq_true rfl) rfl ?_
  refine k_iload dX5_startAnew_7 rfl ?_
  refine k_bipush dX5_startAnew_8 (by decide) ?_
  refine k_geF (tgt := 34) dX5_startAnew_10 (by decide) (by decide) ?_
  refine k_aload dX5_startAnew_13 rfl ?_
  refine k_get (q0 := 2) (v := .ref q1) dX5_startAnew_14 fg_X5_9 (fun _ => rfl) rfl ?_
  refine k_iload dX5_startAnew_17 rfl ?_
  refine k_iconst dX5_startAnew_18 ?_
  refine k_iast (q0 := 1) dX5_startAnew_19 (fun _ => rfl) (vi_in (by decide) (by decide) (by decide)) ?_
  refine k_aload dX5_startAnew_20 rfl ?_
  refine k_get (q0 := 2) (v := .ref q2) dX5_startAnew_21 fg_X5_15 (fun _ => rfl) rfl ?_
  refine k_iload dX5_startAnew_24 rfl ?_
  refine k_bipush dX5_startAnew_25 (by decide) ?_
  refine k_iast (q0 := 0) dX5_startAnew_27 (fun _ => rfl) (vi_in (by decide) (by decide) (by decide)) ?_
  refine k_iinc (L' := [(0, .ref a), (1, vi (0 + 1))]) dX5_startAnew_28 (Nat.le_of_ble_eq_true rfl) rfl rfl ?_
  refine k_goto (tgt := 7) dX5_startAnew_31 (by decide) ?_
  refine k_iload dX5_startAnew_7 rfl ?_
  refine k_bipush dX5_startAnew_8 (by decide) ?_
  refine k_geF (tgt := 34) dX5_startAnew_10 (by decide) (by decide) ?_
  refine k_aload dX5_startAnew_13 rfl ?_
  refine k_get (q0 := 2) (v := .ref q1) dX5_startAnew_14 fg_X5_9 (fun _ => rfl) rfl ?_
  refine k_iload dX5_startAnew_17 rfl ?_
  refine k_iconst dX5_startAnew_18 ?_
  refine k_iast (q0 := 1) dX5_startAnew_19 (fun _ => rfl) (vi_in (by decide) (by decide) (by decide)) ?_
  refine k_aload dX5_startAnew_20 rfl ?_
  refine k_get (q0 := 2) (v := .ref q2) dX5_startAnew_21 fg_X5_15 (fun _ => rfl) rfl ?_
  refine k_iload dX5_startAnew_24 rfl ?_
  refine k_bipush dX5_startAnew_25 (by decide) ?_
  refine k_iast (q0 := 0) dX5_startAnew_27 (fun _ => rfl) (vi_in (by decide) (by decide) (by decide)) ?_
  refine k_iinc (L' := [(0, .ref a), (1, vi ((0 + 1) + 1))]) dX5_startAnew_28 (Nat.le_of_ble_eq_true rfl) rfl rfl ?_
  refine k_goto (tgt := 7) dX5_startAnew_31 (by decide) ?_
  refine k_iload dX5_startAnew_7 rfl ?_
  refine k_bipush dX5_startAnew_8 (by decide) ?_
  refine k_geF (tgt := 34) dX5_startAnew_10 (by decide) (by decide) ?_
  refine k_aload dX5_startAnew_13 rfl ?_
  refine k_get (q0 := 2) (v := .ref q1) dX5_startAnew_14 fg_X5_9 (fun _ => rfl) rfl ?_
  refine k_iload dX5_startAnew_17 rfl ?_
  refine k_iconst dX5_startAnew_18 ?_
  refine k_iast (q0 := 1) dX5_startAnew_19 (fun _ => rfl) (vi_in (by decide) (by decide) (by decide)) ?_
  refine k_aload dX5_startAnew_20 rfl ?_
  refine k_get (q0 := 2) (v := .ref q2) dX5_startAnew_21 fg_X5_15 (fun _ => rfl) rfl ?_
  refine k_iload dX5_startAnew_24 rfl ?_
  refine k_bipush dX5_startAnew_25 (by decide) ?_
  refine k_iast (q0 := 0) dX5_startAnew_27 (fun _ => rfl) (vi_in (by decide) (by decide) (by decide)) ?_
  refine k_iinc (L' := [(0, .ref a), (1, vi (((0 + 1) + 1) + 1))]) dX5_startAnew_28 (Nat.le_of_ble_eq_true rfl) rfl rfl ?_
  refine k_goto (tgt := 7) dX5_startAnew_31 (by decide) ?_
  refine k_iload dX5_startAnew_7 rfl ?_
  refine k_bipush dX5_startAnew_8 (by decide) ?_
  refine k_geF (tgt := 34) dX5_startAnew_10 (by decide) (by decide) ?_
  refine k_aload dX5_startAnew_13 rfl ?_
  refine k_get (q0 := 2) (v := .ref q1) dX5_startAnew_14 fg_X5_9 (fun _ => rfl) rfl ?_
  refine k_iload dX5_startAnew_17 rfl ?_
  refine k_iconst dX5_startAnew_18 ?_
  refine k_iast (q0 := 1) dX5_startAnew_19 (fun _ => rfl) (vi_in (by decide) (by decide) (by decide)) ?_
  refine k_aload dX5_startAnew_20 rfl ?_
  refine k_get (q0 := 2) (v := .ref q2) dX5_startAnew_21 fg_X5_15 (fun _ => rfl) rfl ?_
  refine k_iload dX5_startAnew_24 rfl ?_
  refine k_bipush dX5_startAnew_25 (by decide) ?_
  refine k_iast (q0 := 0) dX5_startAnew_27 (fun _ => rfl) (vi_in (by decide) (by decide) (by decide)) ?_
  refine k_iinc (L' := [(0, .ref a), (1, vi ((((0 + 1) + 1) + 1) + 1))]) dX5_startAnew_28 (Nat.le_of_ble_eq_true rfl) rfl rfl ?_
  refine k_goto (tgt := 7) dX5_startAnew_31 (by decide) ?_
  refine k_iload dX5_startAnew_7 rfl ?_
  refine k_bipush dX5_startAnew_8 (by decide) ?_
  refine k_geF (tgt := 34) dX5_startAnew_10 (by decide) (by decide) ?_
  refine k_aload dX5_startAnew_13 rfl ?_
  refine k_get (q0 := 2) (v := .ref q1) dX5_startAnew_14 fg_X5_9 (fun _ => rfl) rfl ?_
  refine k_iload dX5_startAnew_17 rfl ?_
  refine k_iconst dX5_startAnew_18 ?_
  refine k_iast (q0 := 1) dX5_startAnew_19 (fun _ => rfl) (vi_in (by decide) (by decide) (by decide)) ?_
  refine k_aload dX5_startAnew_20 rfl ?_
  refine k_get (q0 := 2) (v := .ref q2) dX5_startAnew_21 fg_X5_15 (fun _ => rfl) rfl ?_
  refine k_iload dX5_startAnew_24 rfl ?_
  refine k_bipush dX5_startAnew_25 (by decide) ?_
  refine k_iast (q0 := 0) dX5_startAnew_27 (fun _ => rfl) (vi_in (by decide) (by decide) (by decide)) ?_
  refine k_iinc (L' := [(0, .ref a), (1, vi (((((0 + 1) + 1) + 1) + 1) + 1))]) dX5_startAnew_28 (Nat.le_of_ble_eq_true rfl) rfl rfl ?_
  refine k_goto (tgt := 7) dX5_startAnew_31 (by decide) ?_
  refine k_iload dX5_startAnew_7 rfl ?_
  refine k_bipush dX5_startAnew_8 (by decide) ?_
  refine k_geF (tgt := 34) dX5_startAnew_10 (by decide) (by decide) ?_
  refine k_aload dX5_startAnew_13 rfl ?_
  refine k_get (q0 := 2) (v := .ref q1) dX5_startAnew_14 fg_X5_9 (fun _ => rfl) rfl ?_
  refine k_iload dX5_startAnew_17 rfl ?_
  refine k_iconst dX5_startAnew_18 ?_
  refine k_iast (q0 := 1) dX5_startAnew_19 (fun _ => rfl) (vi_in (by decide) (by decide) (by decide)) ?_
  refine k_aload dX5_startAnew_20 rfl ?_
  refine k_get (q0 := 2) (v := .ref q2) dX5_startAnew_21 fg_X5_15 (fun _ => rfl) rfl ?_
  refine k_iload dX5_startAnew_24 rfl ?_
  refine k_bipush dX5_startAnew_25 (by decide) ?_
  refine k_iast (q0 := 0) dX5_startAnew_27 (fun _ => rfl) (vi_in (by decide) (by decide) (by decide)) ?_
  refine k_iinc (L' := [(0, .ref a), (1, vi ((((((0 + 1) + 1) + 1) + 1) + 1) + 1))]) dX5_startAnew_28 (Nat.le_of_ble_eq_true rfl) rfl rfl ?_
  refine k_goto (tgt := 7) dX5_startAnew_31 (by decide) ?_
  refine k_iload dX5_startAnew_7 rfl ?_
  refine k_bipush dX5_startAnew_8 (by decide) ?_
  refine k_geT (tgt := 34) dX5_startAnew_10 (by decide) (by decide) ?_
  exact k_ret dX5_startAnew_34 rfl rfl (funext fun cy => congr (congrArg (fun f g => (q2, Sum.inl (cy.1, 6, Sum.inl f)) :: (q1, Sum.inl (cy.1, 6, Sum.inl g)) :: (a, Sum.inr (5, [vi 3, Value.ref q1, Value.ref q2])) :: r cy) (upd6 (Int32.ofInt 9) 9 rfl)) (upd6 (Int32.ofInt 1) 1 rfl))
set_option maxRecDepth 100000 in
set_option maxHeartbeats 4000000 in
theorem k_X5_init (a : Nat) (r : KW) : EK mX5_init [.ref a] (fun cy => (a, .inr (5, dfX5)) :: r cy) (fun u => ∃ x1 x2 : Nat, u = fun cy => (x2, .inl (cy.1, 6, .inl (fun j => Int32.ofInt (pl9 j)))) :: (x1, .inl (cy.1, 6, .inl (fun j => Int32.ofInt (pl1 j)))) :: (a, .inr (5, [vi (3), .ref x1, .ref x2])) :: r cy) 2 12 := by
  refine EK.of (L := [(0, .ref a)]) rfl rfl (Nat.le_of_ble_eq_true rfl) rfl ?_
  refine k_aload dX5_init_0 rfl ?_
  refine k_obj dX5_init_1 ko_X5 (Nat.le_of_ble_eq_true rfl) (Nat.le_of_ble_eq_true rfl) ?_
  refine k_aload dX5_init_4 rfl ?_
  refine k_bipush dX5_init_5 (by decide) ?_
  refine k_newi (N := 6) dX5_init_7 (by decide) (by decide) (by decide) (Nat.le_of_ble_eq_true rfl) (Nat.le_of_ble_eq_true rfl) (fun q1 => ?_)
  refine k_putF (q0 := 1) dX5_init_9 fg_X5_9 kf_X5_9 ftf_5_1 rfl (fun _ => rfl) rfl rfl (Nat.le_of_ble_eq_true rfl) ?_
  refine k_aload dX5_init_12 rfl ?_
  refine k_bipush dX5_init_13 (by decide) ?_
  refine k_newi (N := 6) dX5_init_15 (by decide) (by decide) (by decide) (Nat.le_of_ble_eq_true rfl) (Nat.le_of_ble_eq_true rfl) (fun q2 => ?_)
  refine k_putF (q0 := 2) dX5_init_17 fg_X5_15 kf_X5_15 ftf_5_2 rfl (fun _ => rfl) rfl rfl (Nat.le_of_ble_eq_true rfl) ?_
  refine k_aload dX5_init_20 rfl ?_
  refine k_callV (q0 := 2) (As := []) (rest := []) (k_X5_startAnew a q1 q2 _) cm_X5_startAnew ci_X5_startAnew rfl ml_X5_18 (fun _ => rfl) rfl (Nat.le_of_ble_eq_true rfl) (Nat.le_of_ble_eq_true rfl) dX5_init_21 (Nat.le_of_ble_eq_true rfl) (Nat.le_of_ble_eq_true rfl) (fun u2 hu2 => ?_)
  obtain ⟨rfl⟩ := hu2
  exact k_ret dX5_init_24 rfl rfl ⟨q1, q2, rfl⟩
set_option maxRecDepth 100000 in
set_option maxHeartbeats 4000000 in
theorem k_X2_init (a b c : Nat) (r : KW) : EK mX2_init [.ref a, .ref b, .ref c] (fun cy => (a, .inr (2, dfX2)) :: r cy) (fun u => ∃ x1 x2 x3 : Nat, u = fun cy => (x3, .inl (cy.1, 10, .inl (fun _ => 0))) :: (x2, .inl (cy.1, 6, .inl (fun _ => 0))) :: (x1, .inl (cy.1, 6, .inl (fun _ => 0))) :: (a, .inr (2, [.ref b, .ref c, .ref x1, .ref x2, .ref x3])) :: r cy) 3 22 := by
  refine EK.of (L := [(0, .ref a), (1, .ref b), (2, .ref c)]) rfl rfl (Nat.le_of_ble_eq_true rfl) rfl ?_
  refine k_aload dX2_init_0 rfl ?_
  refine k_obj dX2_init_1 ko_X2 (Nat.le_of_ble_eq_true rfl) (Nat.le_of_ble_eq_true rfl) ?_
  refine k_aload dX2_init_4 rfl ?_
  refine k_bipush dX2_init_5 (by decide) ?_
  refine k_newi (N := 6) dX2_init_7 (by decide) (by decide) (by decide) (Nat.le_of_ble_eq_true rfl) (Nat.le_of_ble_eq_true rfl) (fun q1 => ?_)
  refine k_putF (q0 := 1) dX2_init_9 fg_X2_9 kf_X2_9 ftf_2_2 rfl (fun _ => rfl) rfl rfl (Nat.le_of_ble_eq_true rfl) ?_
  refine k_aload dX2_init_12 rfl ?_
  refine k_bipush dX2_init_13 (by decide) ?_
  refine k_newi (N := 6) dX2_init_15 (by decide) (by decide) (by decide) (Nat.le_of_ble_eq_true rfl) (Nat.le_of_ble_eq_true rfl) (fun q2 => ?_)
  refine k_putF (q0 := 2) dX2_init_17 fg_X2_15 kf_X2_15 ftf_2_3 rfl (fun _ => rfl) rfl rfl (Nat.le_of_ble_eq_true rfl) ?_
  refine k_aload dX2_init_20 rfl ?_
  refine k_bipush dX2_init_21 (by decide) ?_
  refine k_newi (N := 10) dX2_init_23 (by decide) (by decide) (by decide) (Nat.le_of_ble_eq_true rfl) (Nat.le_of_ble_eq_true rfl) (fun q3 => ?_)
  refine k_putF (q0 := 3) dX2_init_25 fg_X2_18 kf_X2_18 ftf_2_4 rfl (fun _ => rfl) rfl rfl (Nat.le_of_ble_eq_true rfl) ?_
  refine k_aload dX2_init_28 rfl ?_
  refine k_aload dX2_init_29 rfl ?_
  refine k_putF (q0 := 3) dX2_init_30 fg_X2_21 kf_X2_21 ftf_2_0 rfl (fun _ => rfl) rfl rfl (Nat.le_of_ble_eq_true rfl) ?_
  refine k_aload dX2_init_33 rfl ?_
  refine k_aload dX2_init_34 rfl ?_
  refine k_putF (q0 := 3) dX2_init_35 fg_X2_25 kf_X2_25 ftf_2_1 rfl (fun _ => rfl) rfl rfl (Nat.le_of_ble_eq_true rfl) ?_
  exact k_ret dX2_init_38 rfl rfl ⟨q1, q2, q3, rfl⟩
set_option maxRecDepth 100000 in
set_option maxHeartbeats 4000000 in
theorem k_X0_init (a b c h : Nat) (r : KW) : EK mX0_init [.ref a, .ref b, .ref c, .ref h] (fun cy => (a, .inr (0, dfX0)) :: r cy) (fun u => ∃ x1 x2 : Nat, u = fun cy => (x2, .inl (cy.1, 6, .inl (fun _ => 0))) :: (x1, .inl (cy.1, 6, .inl (fun _ => 0))) :: (a, .inr (0, [.ref b, .ref c, .ref h, .ref x1, .ref x2, vi (0), vi (0), vi (0), vi (0), vi (0)])) :: r cy) 2 12 := by
  refine EK.of (L := [(0, .ref a), (1, .ref b), (2, .ref c), (3, .ref h)]) rfl rfl (Nat.le_of_ble_eq_true rfl) rfl ?_
  refine k_aload dX0_init_0 rfl ?_
  refine k_obj dX0_init_1 ko_X0 (Nat.le_of_ble_eq_true rfl) (Nat.le_of_ble_eq_true rfl) ?_
  refine k_aload dX0_init_4 rfl ?_
  refine k_bipush dX0_init_5 (by decide) ?_
  refine k_newi (N := 6) dX0_init_7 (by decide) (by decide) (by decide) (Nat.le_of_ble_eq_true rfl) (Nat.le_of_ble_eq_true rfl) (fun q1 => ?_)
  refine k_putF (q0 := 1) dX0_init_9 fg_X0_9 kf_X0_9 ftf_0_3 rfl (fun _ => rfl) rfl rfl (Nat.le_of_ble_eq_true rfl) ?_
  refine k_aload dX0_init_12 rfl ?_
  refine k_bipush dX0_init_13 (by decide) ?_
  refine k_newi (N := 6) dX0_init_15 (by decide) (by decide) (by decide) (Nat.le_of_ble_eq_true rfl) (Nat.le_of_ble_eq_true rfl) (fun q2 => ?_)
  refine k_putF (q0 := 2) dX0_init_17 fg_X0_15 kf_X0_15 ftf_0_4 rfl (fun _ => rfl) rfl rfl (Nat.le_of_ble_eq_true rfl) ?_
  refine k_aload dX0_init_20 rfl ?_
  refine k_iconst dX0_init_21 ?_
  refine k_put (q0 := 2) dX0_init_22 fg_X0_18 ft_0_5 (fun _ => rfl) rfl rfl (Nat.le_of_ble_eq_true rfl) ?_
  refine k_aload dX0_init_25 rfl ?_
  refine k_iconst dX0_init_26 ?_
  refine k_put (q0 := 2) dX0_init_27 fg_X0_22 ft_0_6 (fun _ => rfl) rfl rfl (Nat.le_of_ble_eq_true rfl) ?_
  refine k_aload dX0_init_30 rfl ?_
  refine k_iconst dX0_init_31 ?_
  refine k_put (q0 := 2) dX0_init_32 fg_X0_26 ft_0_7 (fun _ => rfl) rfl rfl (Nat.le_of_ble_eq_true rfl) ?_
  refine k_aload dX0_init_35 rfl ?_
  refine k_iconst dX0_init_36 ?_
  refine k_put (q0 := 2) dX0_init_37 fg_X0_29 ft_0_8 (fun _ => rfl) rfl rfl (Nat.le_of_ble_eq_true rfl) ?_
  refine k_aload dX0_init_40 rfl ?_
  refine k_iconst dX0_init_41 ?_
  refine k_put (q0 := 2) dX0_init_42 fg_X0_32 ft_0_9 (fun _ => rfl) rfl rfl (Nat.le_of_ble_eq_true rfl) ?_
  refine k_aload dX0_init_45 rfl ?_
  refine k_aload dX0_init_46 rfl ?_
  refine k_putF (q0 := 2) dX0_init_47 fg_X0_35 kf_X0_35 ftf_0_0 rfl (fun _ => rfl) rfl rfl (Nat.le_of_ble_eq_true rfl) ?_
  refine k_aload dX0_init_50 rfl ?_
  refine k_aload dX0_init_51 rfl ?_
  refine k_putF (q0 := 2) dX0_init_52 fg_X0_39 kf_X0_39 ftf_0_1 rfl (fun _ => rfl) rfl rfl (Nat.le_of_ble_eq_true rfl) ?_
  refine k_aload dX0_init_55 rfl ?_
  refine k_aload dX0_init_56 rfl ?_
  refine k_putF (q0 := 2) dX0_init_57 fg_X0_43 kf_X0_43 ftf_0_2 rfl (fun _ => rfl) rfl rfl (Nat.le_of_ble_eq_true rfl) ?_
  exact k_ret dX0_init_60 rfl rfl ⟨q1, q2, rfl⟩
set_option maxRecDepth 100000 in
set_option maxHeartbeats 4000000 in
theorem k_X3_init (a b c : Nat) (r : KW) : EK mX3_init [.ref a, .ref b, .ref c] (fun cy => (a, .inr (3, dfX3)) :: r cy) (fun u => u = fun cy => (a, .inr (3, [.ref b, .ref c, vl (0)])) :: r cy) 0 0 := by
  refine EK.of (L := [(0, .ref a), (1, .ref b), (2, .ref c)]) rfl rfl (Nat.le_of_ble_eq_true rfl) rfl ?_
  refine k_aload dX3_init_0 rfl ?_
  refine k_obj dX3_init_1 ko_X3 (Nat.le_of_ble_eq_true rfl) (Nat.le_of_ble_eq_true rfl) ?_
  refine k_aload dX3_init_4 rfl ?_
  refine k_lconst (x := 0) dX3_init_5 rfl ?_
  refine k_put (q0 := 0) dX3_init_6 fg_X3_9 ft_3_2 (fun _ => rfl) rfl rfl (Nat.le_of_ble_eq_true rfl) ?_
  refine k_aload dX3_init_9 rfl ?_
  refine k_aload dX3_init_10 rfl ?_
  refine k_putF (q0 := 0) dX3_init_11 fg_X3_15 kf_X3_15 ftf_3_0 rfl (fun _ => rfl) rfl rfl (Nat.le_of_ble_eq_true rfl) ?_
  refine k_aload dX3_init_14 rfl ?_
  refine k_aload dX3_init_15 rfl ?_
  refine k_putF (q0 := 0) dX3_init_16 fg_X3_19 kf_X3_19 ftf_3_1 rfl (fun _ => rfl) rfl rfl (Nat.le_of_ble_eq_true rfl) ?_
  exact k_ret dX3_init_19 rfl rfl rfl
set_option maxRecDepth 100000 in
set_option maxHeartbeats 4000000 in
theorem k_X6_init (a b : Nat) (r : KW) : EK mX6_init [.ref a, .ref b] (fun cy => (a, .inr (6, dfX6)) :: r cy) (fun u => ∃ x1 x2 x3 x4 x5 x6 x7 : Nat, u = fun cy => (x7, .inl (cy.1, 6, .inl (fun _ => 0))) :: (x6, .inl (cy.1, 6, .inl (fun _ => 0))) :: (x5, .inl (cy.1, 6, .inl (fun _ => 0))) :: (x4, .inl (cy.1, 4, .inl (fun _ => 0))) :: (x3, .inl (cy.1, 6, .inl (fun j => Int32.ofInt (pl9 j)))) :: (x2, .inl (cy.1, 6, .inl (fun j => Int32.ofInt (pl1 j)))) :: (x1, .inr (5, [vi (3), .ref x2, .ref x3])) :: (a, .inr (6, [.ref b, .ref x1, .ref x4, .ref x5, .ref x6, .ref x7, vi (0), vi (0), vi (0), vi (0), vi (-1), vi (0), vi (-1), vi (0), vi (0)])) :: r cy) 7 37 := by
  refine EK.of (L := [(0, .ref a), (1, .ref b)]) rfl rfl (Nat.le_of_ble_eq_true rfl) rfl ?_
  refine k_aload dX6_init_0 rfl ?_
  refine k_obj dX6_init_1 ko_X6 (Nat.le_of_ble_eq_true rfl) (Nat.le_of_ble_eq_true rfl) ?_
  refine k_aload dX6_init_4 rfl ?_
  refine k_new (ci := 5) (N := 3) (C := RX5) (fs := dfX5) dX6_init_5 kl_X6_9 nw_X5 ⟨_, _, rfl⟩ (Nat.le_of_ble_eq_true rfl) (Nat.le_of_ble_eq_true rfl) (fun q1 => ?_)
  refine k_dup dX6_init_8 rfl ?_
  refine k_callI (As := []) (rest := [.ref q1, .ref a]) (k_X5_init q1 _) cm_X5_init ki_X5_init rfl rfl ml_X6_11 rfl (Nat.le_of_ble_eq_true rfl) (Nat.le_of_ble_eq_true rfl) dX6_init_9 (Nat.le_of_ble_eq_true rfl) (Nat.le_of_ble_eq_true rfl) (fun u3 hu3 => ?_)
  obtain ⟨q2, q3, rfl⟩ := hu3
  refine k_putF (q0 := 3) dX6_init_12 fg_X6_12 kf_X6_12 ftf_6_1 rfl (fun _ => rfl) rfl rfl (Nat.le_of_ble_eq_true rfl) ?_
  refine k_aload dX6_init_15 rfl ?_
  refine k_iconst dX6_init_16 ?_
  refine k_newi (N := 4) dX6_init_17 (by decide) (by decide) (by decide) (Nat.le_of_ble_eq_true rfl) (Nat.le_of_ble_eq_true rfl) (fun q4 => ?_)
  refine k_putF (q0 := 4) dX6_init_19 fg_X6_18 kf_X6_18 ftf_6_2 rfl (fun _ => rfl) rfl rfl (Nat.le_of_ble_eq_true rfl) ?_
  refine k_aload dX6_init_22 rfl ?_
  refine k_bipush dX6_init_23 (by decide) ?_
  refine k_newi (N := 6) dX6_init_25 (by decide) (by decide) (by decide) (Nat.le_of_ble_eq_true rfl) (Nat.le_of_ble_eq_true rfl) (fun q5 => ?_)
  refine k_putF (q0 := 5) dX6_init_27 fg_X6_22 kf_X6_22 ftf_6_3 rfl (fun _ => rfl) rfl rfl (Nat.le_of_ble_eq_true rfl) ?_
  refine k_aload dX6_init_30 rfl ?_
  refine k_bipush dX6_init_31 (by decide) ?_
  refine k_newi (N := 6) dX6_init_33 (by decide) (by decide) (by decide) (Nat.le_of_ble_eq_true rfl) (Nat.le_of_ble_eq_true rfl) (fun q6 => ?_)
  refine k_putF (q0 := 6) dX6_init_35 fg_X6_25 kf_X6_25 ftf_6_4 rfl (fun _ => rfl) rfl rfl (Nat.le_of_ble_eq_true rfl) ?_
  refine k_aload dX6_init_38 rfl ?_
  refine k_bipush dX6_init_39 (by decide) ?_
  refine k_newi (N := 6) dX6_init_41 (by decide) (by decide) (by decide) (Nat.le_of_ble_eq_true rfl) (Nat.le_of_ble_eq_true rfl) (fun q7 => ?_)
  refine k_putF (q0 := 7) dX6_init_43 fg_X6_28 kf_X6_28 ftf_6_5 rfl (fun _ => rfl) rfl rfl (Nat.le_of_ble_eq_true rfl) ?_
  refine k_aload dX6_init_46 rfl ?_
  refine k_iconst dX6_init_47 ?_
  refine k_put (q0 := 7) dX6_init_48 fg_X6_31 ft_6_6 (fun _ => rfl) rfl rfl (Nat.le_of_ble_eq_true rfl) ?_
  refine k_aload dX6_init_51 rfl ?_
  refine k_iconst dX6_init_52 ?_
  refine k_put (q0 := 7) dX6_init_53 fg_X6_35 ft_6_7 (fun _ => rfl) rfl rfl (Nat.le_of_ble_eq_true rfl) ?_
  refine k_aload dX6_init_56 rfl ?_
  refine k_iconst dX6_init_57 ?_
  refine k_put (q0 := 7) dX6_init_58 fg_X6_38 ft_6_8 (fun _ => rfl) rfl rfl (Nat.le_of_ble_eq_true rfl) ?_
  refine k_aload dX6_init_61 rfl ?_
  refine k_iconst dX6_init_62 ?_
  refine k_put (q0 := 7) dX6_init_63 fg_X6_41 ft_6_9 (fun _ => rfl) rfl rfl (Nat.le_of_ble_eq_true rfl) ?_
  refine k_aload dX6_init_66 rfl ?_
  refine k_iconst dX6_init_67 ?_
  refine k_put (q0 := 7) dX6_init_68 fg_X6_44 ft_6_10 (fun _ => rfl) rfl rfl (Nat.le_of_ble_eq_true rfl) ?_
  refine k_aload dX6_init_71 rfl ?_
  refine k_iconst dX6_init_72 ?_
  refine k_put (q0 := 7) dX6_init_73 fg_X6_47 ft_6_11 (fun _ => rfl) rfl rfl (Nat.le_of_ble_eq_true rfl) ?_
  refine k_aload dX6_init_76 rfl ?_
  refine k_iconst dX6_init_77 ?_
  refine k_put (q0 := 7) dX6_init_78 fg_X6_50 ft_6_12 (fun _ => rfl) rfl rfl (Nat.le_of_ble_eq_true rfl) ?_
  refine k_aload dX6_init_81 rfl ?_
  refine k_iconst dX6_init_82 ?_
  refine k_put (q0 := 7) dX6_init_83 fg_X6_53 ft_6_13 (fun _ => rfl) rfl rfl (Nat.le_of_ble_eq_true rfl) ?_
  refine k_aload dX6_init_86 rfl ?_
  refine k_iconst dX6_init_87 ?_
  refine k_put (q0 := 7) dX6_init_88 fg_X6_56 ft_6_14 (fun _ => rfl) rfl rfl (Nat.le_of_ble_eq_true rfl) ?_
  refine k_aload dX6_init_91 rfl ?_
  refine k_aload dX6_init_92 rfl ?_
  refine k_putF (q0 := 7) dX6_init_93 fg_X6_59 kf_X6_59 ftf_6_0 rfl (fun _ => rfl) rfl rfl (Nat.le_of_ble_eq_true rfl) ?_
  exact k_ret dX6_init_96 rfl rfl ⟨q1, q2, q3, q4, q5, q6, q7, rfl⟩
set_option maxRecDepth 100000 in
set_option maxHeartbeats 4000000 in
theorem k_X4_init (a : Nat) (r : KW) : EK mX4_init [.ref a] (fun cy => (a, .inr (4, dfX4)) :: r cy) (fun u => ∃ x0 x1 x2 x3 x4 x5 x6 x7 x8 x9 x10 x11 x12 x13 x14 x15 x16 x17 x18 x19 x20 x21 x22 x23 x24 x25 x26 x27 x28 x29 x30 x31 x32 x33 x34 x35 x36 x37 x38 x39 x40 x41 x42 x43 x44 x45 x46 x47 x48 x49 x50 x51 x52 x53 x54 x55 x56 x57 x58 x59 x60 x61 x62 x63 x64 x65 x66 x67 x68 x69 x70 : Nat, u = fun cy => (x70, .inl (cy.1, 36, .inl (fun _ => 0))) :: (x69, .inl (cy.1, 6, .inl (fun _ => 0))) :: (x68, .inl (cy.1, 48, .inl (fun _ => 0))) :: (x67, .inl (cy.1, 48, .inl (fun _ => 0))) :: (x66, .inl (cy.1, 48, .inl (fun _ => 0))) :: (x65, .inl (cy.1, 48, .inl (fun _ => 0))) :: (x64, .inr (1, [vi (0), vi (0), vi (0), .ref x65, .ref x66, .ref x67, .ref x68, .ref x69, .ref x70])) :: (x63, .inl (cy.1, 36, .inl (fun _ => 0))) :: (x62, .inl (cy.1, 6, .inl (fun _ => 0))) :: (x61, .inl (cy.1, 48, .inl (fun _ => 0))) :: (x60, .inl (cy.1, 48, .inl (fun _ => 0))) :: (x59, .inl (cy.1, 48, .inl (fun _ => 0))) :: (x58, .inl (cy.1, 48, .inl (fun _ => 0))) :: (x57, .inr (1, [vi (0), vi (0), vi (0), .ref x58, .ref x59, .ref x60, .ref x61, .ref x62, .ref x63])) :: (x56, .inl (cy.1, 36, .inl (fun _ => 0))) :: (x55, .inl (cy.1, 6, .inl (fun _ => 0))) :: (x54, .inl (cy.1, 48, .inl (fun _ => 0))) :: (x53, .inl (cy.1, 48, .inl (fun _ => 0))) :: (x52, .inl (cy.1, 48, .inl (fun _ => 0))) :: (x51, .inl (cy.1, 48, .inl (fun _ => 0))) :: (x50, .inr (1, [vi (0), vi (0), vi (0), .ref x51, .ref x52, .ref x53, .ref x54, .ref x55, .ref x56])) :: (x49, .inl (cy.1, 36, .inl (fun _ => 0))) :: (x48, .inl (cy.1, 6, .inl (fun _ => 0))) :: (x47, .inl (cy.1, 48, .inl (fun _ => 0))) :: (x46, .inl (cy.1, 48, .inl (fun _ => 0))) :: (x45, .inl (cy.1, 48, .inl (fun _ => 0))) :: (x44, .inl (cy.1, 48, .inl (fun _ => 0))) :: (x43, .inr (1, [vi (0), vi (0), vi (0), .ref x44, .ref x45, .ref x46, .ref x47, .ref x48, .ref x49])) :: (x42, .inl (cy.1, 36, .inl (fun _ => 0))) :: (x41, .inl (cy.1, 6, .inl (fun _ => 0))) :: (x40, .inl (cy.1, 48, .inl (fun _ => 0))) :: (x39, .inl (cy.1, 48, .inl (fun _ => 0))) :: (x38, .inl (cy.1, 48, .inl (fun _ => 0))) :: (x37, .inl (cy.1, 48, .inl (fun _ => 0))) :: (x36, .inr (1, [vi (0), vi (0), vi (0), .ref x37, .ref x38, .ref x39, .ref x40, .ref x41, .ref x42])) :: (x35, .inl (cy.1, 36, .inl (fun _ => 0))) :: (x34, .inl (cy.1, 6, .inl (fun _ => 0))) :: (x33, .inl (cy.1, 48, .inl (fun _ => 0))) :: (x32, .inl (cy.1, 48, .inl (fun _ => 0))) :: (x31, .inl (cy.1, 48, .inl (fun _ => 0))) :: (x30, .inl (cy.1, 48, .inl (fun _ => 0))) :: (x29, .inr (1, [vi (0), vi (0), vi (0), .ref x30, .ref x31, .ref x32, .ref x33, .ref x34, .ref x35])) :: (x28, .inl (cy.1, 36, .inl (fun _ => 0))) :: (x27, .inl (cy.1, 6, .inl (fun _ => 0))) :: (x26, .inl (cy.1, 48, .inl (fun _ => 0))) :: (x25, .inl (cy.1, 48, .inl (fun _ => 0))) :: (x24, .inl (cy.1, 48, .inl (fun _ => 0))) :: (x23, .inl (cy.1, 48, .inl (fun _ => 0))) :: (x22, .inr (1, [vi (0), vi (0), vi (0), .ref x23, .ref x24, .ref x25, .ref x26, .ref x27, .ref x28])) :: (x21, .inl (cy.1, 36, .inl (fun _ => 0))) :: (x20, .inl (cy.1, 6, .inl (fun _ => 0))) :: (x19, .inl (cy.1, 48, .inl (fun _ => 0))) :: (x18, .inl (cy.1, 48, .inl (fun _ => 0))) :: (x17, .inl (cy.1, 48, .inl (fun _ => 0))) :: (x16, .inl (cy.1, 48, .inl (fun _ => 0))) :: (x15, .inr (1, [vi (0), vi (0), vi (0), .ref x16, .ref x17, .ref x18, .ref x19, .ref x20, .ref x21])) :: (x14, .inl (cy.1, 36, .inl (fun _ => 0))) :: (x13, .inl (cy.1, 6, .inl (fun _ => 0))) :: (x12, .inl (cy.1, 48, .inl (fun _ => 0))) :: (x11, .inl (cy.1, 48, .inl (fun _ => 0))) :: (x10, .inl (cy.1, 48, .inl (fun _ => 0))) :: (x9, .inl (cy.1, 48, .inl (fun _ => 0))) :: (x8, .inr (1, [vi (0), vi (0), vi (0), .ref x9, .ref x10, .ref x11, .ref x12, .ref x13, .ref x14])) :: (x7, .inl (cy.1, 36, .inl (fun _ => 0))) :: (x6, .inl (cy.1, 6, .inl (fun _ => 0))) :: (x5, .inl (cy.1, 48, .inl (fun _ => 0))) :: (x4, .inl (cy.1, 48, .inl (fun _ => 0))) :: (x3, .inl (cy.1, 48, .inl (fun _ => 0))) :: (x2, .inl (cy.1, 48, .inl (fun _ => 0))) :: (x1, .inr (1, [vi (0), vi (0), vi (0), .ref x2, .ref x3, .ref x4, .ref x5, .ref x6, .ref x7])) :: (x0, .inl (cy.2.2, 10, .inr (.inr (.inr (.inr (va_up (va_up (va_up (va_up (va_up (va_up (va_up (va_up (va_up (va_up (fun _ => none) (Int32.ofInt (0)).toNatClampNeg (some x1)) (Int32.ofInt (0 + 1)).toNatClampNeg (some x8)) (Int32.ofInt ((0 + 1) + 1)).toNatClampNeg (some x15)) (Int32.ofInt (((0 + 1) + 1) + 1)).toNatClampNeg (some x22)) (Int32.ofInt ((((0 + 1) + 1) + 1) + 1)).toNatClampNeg (some x29)) (Int32.ofInt (((((0 + 1) + 1) + 1) + 1) + 1)).toNatClampNeg (some x36)) (Int32.ofInt ((((((0 + 1) + 1) + 1) + 1) + 1) + 1)).toNatClampNeg (some x43)) (Int32.ofInt (((((((0 + 1) + 1) + 1) + 1) + 1) + 1) + 1)).toNatClampNeg (some x50)) (Int32.ofInt ((((((((0 + 1) + 1) + 1) + 1) + 1) + 1) + 1) + 1)).toNatClampNeg (some x57)) (Int32.ofInt (((((((((0 + 1) + 1) + 1) + 1) + 1) + 1) + 1) + 1) + 1)).toNatClampNeg (some x64))))))) :: (a, .inr (4, [.ref x0, vi (0), vi (0)])) :: r cy) 71 2440 := by
  refine EK.of (L := [(0, .ref a)]) rfl rfl (Nat.le_of_ble_eq_true rfl) rfl ?_
  refine k_aload dX4_init_0 rfl ?_
  refine k_obj dX4_init_1 ko_X4 (Nat.le_of_ble_eq_true rfl) (Nat.le_of_ble_eq_true rfl) ?_
  refine k_aload dX4_init_4 rfl ?_
  refine k_bipush dX4_init_5 (by decide) ?_
  refine k_newq (N := 10) dX4_init_7 kl_X4_9 (by decide) (by decide) (by decide) (Nat.le_of_ble_eq_true rfl) (Nat.le_of_ble_eq_true rfl) (fun q1 => ?_)
  refine k_putF (q0 := 1) dX4_init_10 fg_X4_11 kf_X4_11 ftf_4_0 rfl (fun _ => rfl) rfl rfl (Nat.le_of_ble_eq_true rfl) ?_
  refine k_aload dX4_init_13 rfl ?_
  refine k_iconst dX4_init_14 ?_
  refine k_put (q0 := 1) dX4_init_15 fg_X4_17 ft_4_1 (fun _ => rfl) rfl rfl (Nat.le_of_ble_eq_true rfl) ?_
  refine k_aload dX4_init_18 rfl ?_
  refine k_iconst dX4_init_19 ?_
  refine k_put (q0 := 1) dX4_init_20 fg_X4_21 ft_4_2 (fun _ => rfl) rfl rfl (Nat.le_of_ble_eq_true rfl) ?_
  refine k_iconst dX4_init_23 ?_
  refine k_istore (L' := [(0, .ref a), (1, vi (0))]) dX4_init_24 (Nat.le_of_ble_eq_true rfl) rfl ?_
  refine k_iload dX4_init_25 rfl ?_
  refine k_bipush dX4_init_26 (by decide) ?_
  refine k_geF (tgt := 50) dX4_init_28 (by decide) (by decide) ?_
  refine k_aload dX4_init_31 rfl ?_
  refine k_get (q0 := 1) (v := .ref q1) dX4_init_32 fg_X4_11 (fun _ => rfl) rfl ?_
  refine k_iload dX4_init_35 rfl ?_
  refine k_new (ci := 1) (N := 9) (C := RX1) (fs := dfX1) dX4_init_36 kl_X4_9 nw_X1 ⟨_, _, rfl⟩ (Nat.le_of_ble_eq_true rfl) (Nat.le_of_ble_eq_true rfl) (fun q2 => ?_)
  refine k_dup dX4_init_39 rfl ?_
  refine k_callI (As := []) (rest := [.ref q2, vi (0), .ref q1]) (k_X1_init q2 _) cm_X1_init ki_X1_init rfl rfl ml_X4_24 rfl (Nat.le_of_ble_eq_true rfl) (Nat.le_of_ble_eq_true rfl) dX4_init_40 (Nat.le_of_ble_eq_true rfl) (Nat.le_of_ble_eq_true rfl) (fun u8 hu8 => ?_)
  obtain ⟨q3, q4, q5, q6, q7, q8, rfl⟩ := hu8
  refine k_astq (q0 := 7) (qk := 6) dX4_init_43 (fun _ => rfl) (fun _ => rfl) (vi_in (by decide) (by decide) (by decide)) ?_
  refine k_iinc (L' := [(0, .ref a), (1, vi (0 + 1))]) dX4_init_44 (Nat.le_of_ble_eq_true rfl) rfl rfl ?_
  refine k_goto (tgt := 25) dX4_init_47 (by decide) ?_
  refine k_iload dX4_init_25 rfl ?_
  refine k_bipush dX4_init_26 (by decide) ?_
  refine k_geF (tgt := 50) dX4_init_28 (by decide) (by decide) ?_
  refine k_aload dX4_init_31 rfl ?_
  refine k_get (q0 := 8) (v := .ref q1) dX4_init_32 fg_X4_11 (fun _ => rfl) rfl ?_
  refine k_iload dX4_init_35 rfl ?_
  refine k_new (ci := 1) (N := 9) (C := RX1) (fs := dfX1) dX4_init_36 kl_X4_9 nw_X1 ⟨_, _, rfl⟩ (Nat.le_of_ble_eq_true rfl) (Nat.le_of_ble_eq_true rfl) (fun q9 => ?_)
  refine k_dup dX4_init_39 rfl ?_
  refine k_callI (As := []) (rest := [.ref q9, vi (0 + 1), .ref q1]) (k_X1_init q9 _) cm_X1_init ki_X1_init rfl rfl ml_X4_24 rfl (Nat.le_of_ble_eq_true rfl) (Nat.le_of_ble_eq_true rfl) dX4_init_40 (Nat.le_of_ble_eq_true rfl) (Nat.le_of_ble_eq_true rfl) (fun u15 hu15 => ?_)
  obtain ⟨q10, q11, q12, q13, q14, q15, rfl⟩ := hu15
  refine k_astq (q0 := 14) (qk := 6) dX4_init_43 (fun _ => rfl) (fun _ => rfl) (vi_in (by decide) (by decide) (by decide)) ?_
  refine k_iinc (L' := [(0, .ref a), (1, vi ((0 + 1) + 1))]) dX4_init_44 (Nat.le_of_ble_eq_true rfl) rfl rfl ?_
  refine k_goto (tgt := 25) dX4_init_47 (by decide) ?_
  refine k_iload dX4_init_25 rfl ?_
  refine k_bipush dX4_init_26 (by decide) ?_
  refine k_geF (tgt := 50) dX4_init_28 (by decide) (by decide) ?_
  refine k_aload dX4_init_31 rfl ?_
  refine k_get (q0 := 15) (v := .ref q1) dX4_init_32 fg_X4_11 (fun _ => rfl) rfl ?_
  refine k_iload dX4_init_35 rfl ?_
  refine k_new (ci := 1) (N := 9) (C := RX1) (fs := dfX1) dX4_init_36 kl_X4_9 nw_X1 ⟨_, _, rfl⟩ (Nat.le_of_ble_eq_true rfl) (Nat.le_of_ble_eq_true rfl) (fun q16 => ?_)
  refine k_dup dX4_init_39 rfl ?_
  refine k_callI (As := []) (rest := [.ref q16, vi ((0 + 1) + 1), .ref q1]) (k_X1_init q16 _) cm_X1_init ki_X1_init rfl rfl ml_X4_24 rfl (Nat.le_of_ble_eq_true rfl) (Nat.le_of_ble_eq_true rfl) dX4_init_40 (Nat.le_of_ble_eq_true rfl) (Nat.le_of_ble_eq_true rfl) (fun u22 hu22 => ?_)
  obtain ⟨q17, q18, q19, q20, q21, q22, rfl⟩ := hu22
  refine k_astq (q0 := 21) (qk := 6) dX4_init_43 (fun _ => rfl) (fun _ => rfl) (vi_in (by decide) (by decide) (by decide)) ?_
  refine k_iinc (L' := [(0, .ref a), (1, vi (((0 + 1) + 1) + 1))]) dX4_init_44 (Nat.le_of_ble_eq_true rfl) rfl rfl ?_
  refine k_goto (tgt := 25) dX4_init_47 (by decide) ?_
  refine k_iload dX4_init_25 rfl ?_
  refine k_bipush dX4_init_26 (by decide) ?_
  refine k_geF (tgt := 50) dX4_init_28 (by decide) (by decide) ?_
  refine k_aload dX4_init_31 rfl ?_
  refine k_get (q0 := 22) (v := .ref q1) dX4_init_32 fg_X4_11 (fun _ => rfl) rfl ?_
  refine k_iload dX4_init_35 rfl ?_
  refine k_new (ci := 1) (N := 9) (C := RX1) (fs := dfX1) dX4_init_36 kl_X4_9 nw_X1 ⟨_, _, rfl⟩ (Nat.le_of_ble_eq_true rfl) (Nat.le_of_ble_eq_true rfl) (fun q23 => ?_)
  refine k_dup dX4_init_39 rfl ?_
  refine k_callI (As := []) (rest := [.ref q23, vi (((0 + 1) + 1) + 1), .ref q1]) (k_X1_init q23 _) cm_X1_init ki_X1_init rfl rfl ml_X4_24 rfl (Nat.le_of_ble_eq_true rfl) (Nat.le_of_ble_eq_true rfl) dX4_init_40 (Nat.le_of_ble_eq_true rfl) (Nat.le_of_ble_eq_true rfl) (fun u29 hu29 => ?_)
  obtain ⟨q24, q25, q26, q27, q28, q29, rfl⟩ := hu29
  refine k_astq (q0 := 28) (qk := 6) dX4_init_43 (fun _ => rfl) (fun _ => rfl) (vi_in (by decide) (by decide) (by decide)) ?_
  refine k_iinc (L' := [(0, .ref a), (1, vi ((((0 + 1) + 1) + 1) + 1))]) dX4_init_44 (Nat.le_of_ble_eq_true rfl) rfl rfl ?_
  refine k_goto (tgt := 25) dX4_init_47 (by decide) ?_
  refine k_iload dX4_init_25 rfl ?_
  refine k_bipush dX4_init_26 (by decide) ?_
  refine k_geF (tgt := 50) dX4_init_28 (by decide) (by decide) ?_
  refine k_aload dX4_init_31 rfl ?_
  refine k_get (q0 := 29) (v := .ref q1) dX4_init_32 fg_X4_11 (fun _ => rfl) rfl ?_
  refine k_iload dX4_init_35 rfl ?_
  refine k_new (ci := 1) (N := 9) (C := RX1) (fs := dfX1) dX4_init_36 kl_X4_9 nw_X1 ⟨_, _, rfl⟩ (Nat.le_of_ble_eq_true rfl) (Nat.le_of_ble_eq_true rfl) (fun q30 => ?_)
  refine k_dup dX4_init_39 rfl ?_
  refine k_callI (As := []) (rest := [.ref q30, vi ((((0 + 1) + 1) + 1) + 1), .ref q1]) (k_X1_init q30 _) cm_X1_init ki_X1_init rfl rfl ml_X4_24 rfl (Nat.le_of_ble_eq_true rfl) (Nat.le_of_ble_eq_true rfl) dX4_init_40 (Nat.le_of_ble_eq_true rfl) (Nat.le_of_ble_eq_true rfl) (fun u36 hu36 => ?_)
  obtain ⟨q31, q32, q33, q34, q35, q36, rfl⟩ := hu36
  refine k_astq (q0 := 35) (qk := 6) dX4_init_43 (fun _ => rfl) (fun _ => rfl) (vi_in (by decide) (by decide) (by decide)) ?_
  refine k_iinc (L' := [(0, .ref a), (1, vi (((((0 + 1) + 1) + 1) + 1) + 1))]) dX4_init_44 (Nat.le_of_ble_eq_true rfl) rfl rfl ?_
  refine k_goto (tgt := 25) dX4_init_47 (by decide) ?_
  refine k_iload dX4_init_25 rfl ?_
  refine k_bipush dX4_init_26 (by decide) ?_
  refine k_geF (tgt := 50) dX4_init_28 (by decide) (by decide) ?_
  refine k_aload dX4_init_31 rfl ?_
  refine k_get (q0 := 36) (v := .ref q1) dX4_init_32 fg_X4_11 (fun _ => rfl) rfl ?_
  refine k_iload dX4_init_35 rfl ?_
  refine k_new (ci := 1) (N := 9) (C := RX1) (fs := dfX1) dX4_init_36 kl_X4_9 nw_X1 ⟨_, _, rfl⟩ (Nat.le_of_ble_eq_true rfl) (Nat.le_of_ble_eq_true rfl) (fun q37 => ?_)
  refine k_dup dX4_init_39 rfl ?_
  refine k_callI (As := []) (rest := [.ref q37, vi (((((0 + 1) + 1) + 1) + 1) + 1), .ref q1]) (k_X1_init q37 _) cm_X1_init ki_X1_init rfl rfl ml_X4_24 rfl (Nat.le_of_ble_eq_true rfl) (Nat.le_of_ble_eq_true rfl) dX4_init_40 (Nat.le_of_ble_eq_true rfl) (Nat.le_of_ble_eq_true rfl) (fun u43 hu43 => ?_)
  obtain ⟨q38, q39, q40, q41, q42, q43, rfl⟩ := hu43
  refine k_astq (q0 := 42) (qk := 6) dX4_init_43 (fun _ => rfl) (fun _ => rfl) (vi_in (by decide) (by decide) (by decide)) ?_
  refine k_iinc (L' := [(0, .ref a), (1, vi ((((((0 + 1) + 1) + 1) + 1) + 1) + 1))]) dX4_init_44 (Nat.le_of_ble_eq_true rfl) rfl rfl ?_
  refine k_goto (tgt := 25) dX4_init_47 (by decide) ?_
  refine k_iload dX4_init_25 rfl ?_
  refine k_bipush dX4_init_26 (by decide) ?_
  refine k_geF (tgt := 50) dX4_init_28 (by decide) (by decide) ?_
  refine k_aload dX4_init_31 rfl ?_
  refine k_get (q0 := 43) (v := .ref q1) dX4_init_32 fg_X4_11 (fun _ => rfl) rfl ?_
  refine k_iload dX4_init_35 rfl ?_
  refine k_new (ci := 1) (N := 9) (C := RX1) (fs := dfX1) dX4_init_36 kl_X4_9 nw_X1 ⟨_, _, rfl⟩ (Nat.le_of_ble_eq_true rfl) (Nat.le_of_ble_eq_true rfl) (fun q44 => ?_)
  refine k_dup dX4_init_39 rfl ?_
  refine k_callI (As := []) (rest := [.ref q44, vi ((((((0 + 1) + 1) + 1) + 1) + 1) + 1), .ref q1]) (k_X1_init q44 _) cm_X1_init ki_X1_init rfl rfl ml_X4_24 rfl (Nat.le_of_ble_eq_true rfl) (Nat.le_of_ble_eq_true rfl) dX4_init_40 (Nat.le_of_ble_eq_true rfl) (Nat.le_of_ble_eq_true rfl) (fun u50 hu50 => ?_)
  obtain ⟨q45, q46, q47, q48, q49, q50, rfl⟩ := hu50
  refine k_astq (q0 := 49) (qk := 6) dX4_init_43 (fun _ => rfl) (fun _ => rfl) (vi_in (by decide) (by decide) (by decide)) ?_
  refine k_iinc (L' := [(0, .ref a), (1, vi (((((((0 + 1) + 1) + 1) + 1) + 1) + 1) + 1))]) dX4_init_44 (Nat.le_of_ble_eq_true rfl) rfl rfl ?_
  refine k_goto (tgt := 25) dX4_init_47 (by decide) ?_
  refine k_iload dX4_init_25 rfl ?_
  refine k_bipush dX4_init_26 (by decide) ?_
  refine k_geF (tgt := 50) dX4_init_28 (by decide) (by decide) ?_
  refine k_aload dX4_init_31 rfl ?_
  refine k_get (q0 := 50) (v := .ref q1) dX4_init_32 fg_X4_11 (fun _ => rfl) rfl ?_
  refine k_iload dX4_init_35 rfl ?_
  refine k_new (ci := 1) (N := 9) (C := RX1) (fs := dfX1) dX4_init_36 kl_X4_9 nw_X1 ⟨_, _, rfl⟩ (Nat.le_of_ble_eq_true rfl) (Nat.le_of_ble_eq_true rfl) (fun q51 => ?_)
  refine k_dup dX4_init_39 rfl ?_
  refine k_callI (As := []) (rest := [.ref q51, vi (((((((0 + 1) + 1) + 1) + 1) + 1) + 1) + 1), .ref q1]) (k_X1_init q51 _) cm_X1_init ki_X1_init rfl rfl ml_X4_24 rfl (Nat.le_of_ble_eq_true rfl) (Nat.le_of_ble_eq_true rfl) dX4_init_40 (Nat.le_of_ble_eq_true rfl) (Nat.le_of_ble_eq_true rfl) (fun u57 hu57 => ?_)
  obtain ⟨q52, q53, q54, q55, q56, q57, rfl⟩ := hu57
  refine k_astq (q0 := 56) (qk := 6) dX4_init_43 (fun _ => rfl) (fun _ => rfl) (vi_in (by decide) (by decide) (by decide)) ?_
  refine k_iinc (L' := [(0, .ref a), (1, vi ((((((((0 + 1) + 1) + 1) + 1) + 1) + 1) + 1) + 1))]) dX4_init_44 (Nat.le_of_ble_eq_true rfl) rfl rfl ?_
  refine k_goto (tgt := 25) dX4_init_47 (by decide) ?_
  refine k_iload dX4_init_25 rfl ?_
  refine k_bipush dX4_init_26 (by decide) ?_
  refine k_geF (tgt := 50) dX4_init_28 (by decide) (by decide) ?_
  refine k_aload dX4_init_31 rfl ?_
  refine k_get (q0 := 57) (v := .ref q1) dX4_init_32 fg_X4_11 (fun _ => rfl) rfl ?_
  refine k_iload dX4_init_35 rfl ?_
  refine k_new (ci := 1) (N := 9) (C := RX1) (fs := dfX1) dX4_init_36 kl_X4_9 nw_X1 ⟨_, _, rfl⟩ (Nat.le_of_ble_eq_true rfl) (Nat.le_of_ble_eq_true rfl) (fun q58 => ?_)
  refine k_dup dX4_init_39 rfl ?_
  refine k_callI (As := []) (rest := [.ref q58, vi ((((((((0 + 1) + 1) + 1) + 1) + 1) + 1) + 1) + 1), .ref q1]) (k_X1_init q58 _) cm_X1_init ki_X1_init rfl rfl ml_X4_24 rfl (Nat.le_of_ble_eq_true rfl) (Nat.le_of_ble_eq_true rfl) dX4_init_40 (Nat.le_of_ble_eq_true rfl) (Nat.le_of_ble_eq_true rfl) (fun u64 hu64 => ?_)
  obtain ⟨q59, q60, q61, q62, q63, q64, rfl⟩ := hu64
  refine k_astq (q0 := 63) (qk := 6) dX4_init_43 (fun _ => rfl) (fun _ => rfl) (vi_in (by decide) (by decide) (by decide)) ?_
  refine k_iinc (L' := [(0, .ref a), (1, vi (((((((((0 + 1) + 1) + 1) + 1) + 1) + 1) + 1) + 1) + 1))]) dX4_init_44 (Nat.le_of_ble_eq_true rfl) rfl rfl ?_
  refine k_goto (tgt := 25) dX4_init_47 (by decide) ?_
  refine k_iload dX4_init_25 rfl ?_
  refine k_bipush dX4_init_26 (by decide) ?_
  refine k_geF (tgt := 50) dX4_init_28 (by decide) (by decide) ?_
  refine k_aload dX4_init_31 rfl ?_
  refine k_get (q0 := 64) (v := .ref q1) dX4_init_32 fg_X4_11 (fun _ => rfl) rfl ?_
  refine k_iload dX4_init_35 rfl ?_
  refine k_new (ci := 1) (N := 9) (C := RX1) (fs := dfX1) dX4_init_36 kl_X4_9 nw_X1 ⟨_, _, rfl⟩ (Nat.le_of_ble_eq_true rfl) (Nat.le_of_ble_eq_true rfl) (fun q65 => ?_)
  refine k_dup dX4_init_39 rfl ?_
  refine k_callI (As := []) (rest := [.ref q65, vi (((((((((0 + 1) + 1) + 1) + 1) + 1) + 1) + 1) + 1) + 1), .ref q1]) (k_X1_init q65 _) cm_X1_init ki_X1_init rfl rfl ml_X4_24 rfl (Nat.le_of_ble_eq_true rfl) (Nat.le_of_ble_eq_true rfl) dX4_init_40 (Nat.le_of_ble_eq_true rfl) (Nat.le_of_ble_eq_true rfl) (fun u71 hu71 => ?_)
  obtain ⟨q66, q67, q68, q69, q70, q71, rfl⟩ := hu71
  refine k_astq (q0 := 70) (qk := 6) dX4_init_43 (fun _ => rfl) (fun _ => rfl) (vi_in (by decide) (by decide) (by decide)) ?_
  refine k_iinc (L' := [(0, .ref a), (1, vi ((((((((((0 + 1) + 1) + 1) + 1) + 1) + 1) + 1) + 1) + 1) + 1))]) dX4_init_44 (Nat.le_of_ble_eq_true rfl) rfl rfl ?_
  refine k_goto (tgt := 25) dX4_init_47 (by decide) ?_
  refine k_iload dX4_init_25 rfl ?_
  refine k_bipush dX4_init_26 (by decide) ?_
  refine k_geT (tgt := 50) dX4_init_28 (by decide) (by decide) ?_
  exact k_ret dX4_init_50 rfl rfl ⟨q1, q2, q3, q4, q5, q6, q7, q8, q9, q10, q11, q12, q13, q14, q15, q16, q17, q18, q19, q20, q21, q22, q23, q24, q25, q26, q27, q28, q29, q30, q31, q32, q33, q34, q35, q36, q37, q38, q39, q40, q41, q42, q43, q44, q45, q46, q47, q48, q49, q50, q51, q52, q53, q54, q55, q56, q57, q58, q59, q60, q61, q62, q63, q64, q65, q66, q67, q68, q69, q70, q71, rfl⟩
