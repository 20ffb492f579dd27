theorem mw_ini : Cond.initialized "java/lang/Math" ∈ lw_good := mg 10 (by decide +kernel) (by decide +kernel)
/-! Math.max, Math.min: the kit's rows -/
theorem mw1_max : Cond.static Lib.Math.max.name ∈ lw_good := mg 649 (by decide +kernel) (by decide +kernel)
theorem mw2_max : Cond.code Lib.Math.max.name Lib.Math.max.code 2 (some .int) ∈ lw_good := mg 650 (by decide +kernel) (by decide +kernel)
theorem mw_X7_253 : Cond.methodLink RX7 253 Lib.Math.max.name ∈ lw_good := mg 648 (by decide +kernel) (by decide +kernel)
theorem j_mmax {M : MT} {X : CtxT} {pc idx : Nat} {L : List (Nat × Value)} {rest : List Value} {S : St} {x y : Int} (hd : decode M.2.1 pc = .ok (.invokestatic idx, 3)) (hml : Cond.methodLink M.1.cls idx Lib.Math.max.name ∈ lw_good) (hx : InR x) (hy : InR y) (hdp : 1 ≤ M.2.2.2.2) (hcat : cts rest ≤ 8) (kk : JJ M X (pc + 3) L (vi (if x < y then y else x) :: rest) S) : JJ M X pc L (vi y :: vi x :: rest) S := by
  intro p l e R s m args below meth c0 D cy ad A cells slots Q hB hX H locs ls hW hP hD hS hl
  have hh := kk p l e R s m args below meth c0 D cy ad A cells slots Q hB hX H locs ls hW hP hD hS hl
  have hts := hB.2.2.2.2.2.1
  have hf := hB.2.2.2.2.2.2.2.2.1
  have hlo := hB.2.2.2.2.2.2.2.2.2.1
  refine va_mmax hB.1 hB.2.1 (hB.2.2.1.trans hl.1.symm) hB.2.2.2.2.1 (hts _ hml) (hts _ mw1_max) (hts _ mw_ini) (hts _ mw2_max) (by omega) ?_ hB.2.2.2.2.2.2.2.2.2.2.1 hB.2.2.2.2.2.2.2.2.2.2.2.1 hd ?_
  · rw [cts_im]; omega
  · have e : (if Int32.ofInt x < Int32.ofInt y then Int32.ofInt y else Int32.ofInt x) = Int32.ofInt (if x < y then y else x) := by
      by_cases h : x < y
      · rw [if_pos ((vi_lt hx hy).mpr h), if_pos h]
      · rw [if_neg (fun z => h ((vi_lt hx hy).mp z)), if_neg h]
    rw [e]
    exact hh
theorem mw1_min : Cond.static Lib.Math.min.name ∈ lw_good := mg 336 (by decide +kernel) (by decide +kernel)
theorem mw2_min : Cond.code Lib.Math.min.name Lib.Math.min.code 2 (some .int) ∈ lw_good := mg 337 (by decide +kernel) (by decide +kernel)
theorem mw_X4_29 : Cond.methodLink RX4 29 Lib.Math.min.name ∈ lw_good := mg 540 (by decide +kernel) (by decide +kernel)
theorem mw_X6_115 : Cond.methodLink RX6 115 Lib.Math.min.name ∈ lw_good := mg 335 (by decide +kernel) (by decide +kernel)
theorem j_mmin {M : MT} {X : CtxT} {pc idx : Nat} {L : List (Nat × Value)} {rest : List Value} {S : St} {x y : Int} (hd : decode M.2.1 pc = .ok (.invokestatic idx, 3)) (hml : Cond.methodLink M.1.cls idx Lib.Math.min.name ∈ lw_good) (hx : InR x) (hy : InR y) (hdp : 1 ≤ M.2.2.2.2) (hcat : cts rest ≤ 8) (kk : JJ M X (pc + 3) L (vi (if y < x then y else x) :: rest) S) : JJ M X pc L (vi y :: vi x :: rest) S := by
  intro p l e R s m args below meth c0 D cy ad A cells slots Q hB hX H locs ls hW hP hD hS hl
  have hh := kk p l e R s m args below meth c0 D cy ad A cells slots Q hB hX H locs ls hW hP hD hS hl
  have hts := hB.2.2.2.2.2.1
  have hf := hB.2.2.2.2.2.2.2.2.1
  have hlo := hB.2.2.2.2.2.2.2.2.2.1
  refine va_mmin hB.1 hB.2.1 (hB.2.2.1.trans hl.1.symm) hB.2.2.2.2.1 (hts _ hml) (hts _ mw1_min) (hts _ mw_ini) (hts _ mw2_min) (by omega) ?_ hB.2.2.2.2.2.2.2.2.2.2.1 hB.2.2.2.2.2.2.2.2.2.2.2.1 hd ?_
  · rw [cts_im]; omega
  · have e : (if Int32.ofInt y < Int32.ofInt x then Int32.ofInt y else Int32.ofInt x) = Int32.ofInt (if y < x then y else x) := by
      by_cases h : y < x
      · rw [if_pos ((vi_lt hy hx).mpr h), if_pos h]
      · rw [if_neg (fun z => h ((vi_lt hy hx).mp z)), if_neg h]
    rw [e]
    exact hh
theorem mw1_maxl : Cond.static Lib.MathLoose.max_long.x ∈ lw_good := mg 635 (by decide +kernel) (by decide +kernel)
theorem mw2_maxl : Cond.code Lib.MathLoose.max_long.x Lib.MathLoose.max_long.code 4 (some .long) ∈ lw_good := mg 636 (by decide +kernel) (by decide +kernel)
theorem mw_X7_296 : Cond.methodLink RX7 296 Lib.MathLoose.max_long.x ∈ lw_good := mg 634 (by decide +kernel) (by decide +kernel)
theorem j_mmaxl {M : MT} {X : CtxT} {pc idx : Nat} {L : List (Nat × Value)} {rest : List Value} {S : St} {x y : Int} (hd : decode M.2.1 pc = .ok (.invokestatic idx, 3)) (hml : Cond.methodLink M.1.cls idx Lib.MathLoose.max_long.x ∈ lw_good) (hx : InL x) (hy : InL y) (hdp : 1 ≤ M.2.2.2.2) (hcat : cts rest ≤ 8) (kk : JJ M X (pc + 3) L (vl (if y < x then x else y) :: rest) S) : JJ M X pc L (vl y :: vl x :: rest) S := by
  intro p l e R s m args below meth c0 D cy ad A cells slots Q hB hX H locs ls hW hP hD hS hl
  have hh := kk p l e R s m args below meth c0 D cy ad A cells slots Q hB hX H locs ls hW hP hD hS hl
  have hts := hB.2.2.2.2.2.1
  have hf := hB.2.2.2.2.2.2.2.2.1
  have hlo := hB.2.2.2.2.2.2.2.2.2.1
  refine va_mmax_long hB.1 hB.2.1 (hB.2.2.1.trans hl.1.symm) hB.2.2.2.2.1 (hts _ hml) (hts _ mw1_maxl) (hts _ mw_ini) (hts _ mw2_maxl) (by omega) ?_ hB.2.2.2.2.2.2.2.2.2.2.1 hB.2.2.2.2.2.2.2.2.2.2.2.1 hd ?_
  · rw [cts_im]; omega
  · have e : (if Int64.ofInt y < Int64.ofInt x then Int64.ofInt x else Int64.ofInt y) = Int64.ofInt (if y < x then x else y) := by
      by_cases h : y < x
      · rw [if_pos ((vl_lt hy hx).mpr h), if_pos h]
      · rw [if_neg (fun z => h ((vl_lt hy hx).mp z)), if_neg h]
    rw [e]
    exact hh
