theorem law_enter {n b : Nat} {xs : Nat → Int32} (a7 x1 x2 x3 x4 x5 x6 x7 x8 x9 x10 x11 x12 x13 x14 x15 x16 x17 x18 x19 x20 x21 x22 x23 x24 x25 x26 x27 x28 x29 x30 x31 x32 x33 x34 x35 x36 x37 x38 x39 x40 x41 x42 x43 x44 x45 x46 x47 x48 x49 x50 x51 x52 x53 x54 x55 x56 x57 x58 x59 x60 x61 x62 x63 x64 x65 x66 x67 x68 x69 x70 x71 x72 x73 x74 x75 x76 x77 x78 x79 x80 x81 x82 x83 x84 x85 x86 x87 x88 x89 x90 x91 x92 x93 x94 x95 x96 x97 x98 x99 x100 x101 x102 x103 x104 x105 x106 x107 x108 x109 x110 x111 x112 x113 x114 x115 x116 x117 a8 y1 y2 y3 y4 y5 y6 y7 y8 y9 y10 y11 y12 y13 y14 y15 y16 : Nat) (hn : n ≤ 320) : KJ mL_law (LXK b n xs) 135 6362 18 [(0, .ref b), (1, .ref a7), (2, .ref a8), (3, vi 0)] [] (fun cy => wst a7 x1 x2 x3 x4 x5 x6 x7 x8 x9 x10 x11 x12 x13 x14 x15 x16 x17 x18 x19 x20 x21 x22 x23 x24 x25 x26 x27 x28 x29 x30 x31 x32 x33 x34 x35 x36 x37 x38 x39 x40 x41 x42 x43 x44 x45 x46 x47 x48 x49 x50 x51 x52 x53 x54 x55 x56 x57 x58 x59 x60 x61 x62 x63 x64 x65 x66 x67 x68 x69 x70 x71 x72 x73 x74 x75 x76 x77 x78 x79 x80 x81 x82 x83 x84 x85 x86 x87 x88 x89 x90 x91 x92 x93 x94 x95 x96 x97 x98 x99 x100 x101 x102 x103 x104 x105 x106 x107 x108 x109 x110 x111 x112 x113 x114 x115 x116 x117 a8 y1 y2 y3 y4 y5 y6 y7 y8 y9 y10 y11 y12 y13 y14 y15 y16 cy) 135 6362 := by
  intro p l e R s m args below meth c0 D cy A Q hB hX H locs ls hP hD hS hl
  obtain ⟨g1, g2, g3, g4, g5, g6⟩ := hX
  have hall := law_world a7 x1 x2 x3 x4 x5 x6 x7 x8 x9 x10 x11 x12 x13 x14 x15 x16 x17 x18 x19 x20 x21 x22 x23 x24 x25 x26 x27 x28 x29 x30 x31 x32 x33 x34 x35 x36 x37 x38 x39 x40 x41 x42 x43 x44 x45 x46 x47 x48 x49 x50 x51 x52 x53 x54 x55 x56 x57 x58 x59 x60 x61 x62 x63 x64 x65 x66 x67 x68 x69 x70 x71 x72 x73 x74 x75 x76 x77 x78 x79 x80 x81 x82 x83 x84 x85 x86 x87 x88 x89 x90 x91 x92 x93 x94 x95 x96 x97 x98 x99 x100 x101 x102 x103 x104 x105 x106 x107 x108 x109 x110 x111 x112 x113 x114 x115 x116 x117 a8 y1 y2 y3 y4 y5 y6 y7 y8 y9 y10 y11 y12 y13 y14 y15 y16 b hP
  generalize had : (fun c => (adL a7 x1 x2 x3 x4 x5 x6 x7 x8 x9 x10 x11 x12 x13 x14 x15 x16 x17 x18 x19 x20 x21 x22 x23 x24 x25 x26 x27 x28 x29 x30 x31 x32 x33 x34 x35 x36 x37 x38 x39 x40 x41 x42 x43 x44 x45 x46 x47 x48 x49 x50 x51 x52 x53 x54 x55 x56 x57 x58 x59 x60 x61 x62 x63 x64 x65 x66 x67 x68 x69 x70 x71 x72 x73 x74 x75 x76 x77 x78 x79 x80 x81 x82 x83 x84 x85 x86 x87 x88 x89 x90 x91 x92 x93 x94 x95 x96 x97 x98 x99 x100 x101 x102 x103 x104 x105 x106 x107 x108 x109 x110 x111 x112 x113 x114 x115 x116 x117 a8 y1 y2 y3 y4 y5 y6 y7 y8 y9 y10 y11 y12 y13 y14 y15 y16 b).getD c 0) = ad at hall
  have e0 : ad 0 = a7 := by rw [← had]; rfl
  have e118 : ad 118 = a8 := by rw [← had]; rfl
  have e135 : ad 135 = b := by rw [← had]; rfl
  have hk : ∀ k, k < 135 → (adL a7 x1 x2 x3 x4 x5 x6 x7 x8 x9 x10 x11 x12 x13 x14 x15 x16 x17 x18 x19 x20 x21 x22 x23 x24 x25 x26 x27 x28 x29 x30 x31 x32 x33 x34 x35 x36 x37 x38 x39 x40 x41 x42 x43 x44 x45 x46 x47 x48 x49 x50 x51 x52 x53 x54 x55 x56 x57 x58 x59 x60 x61 x62 x63 x64 x65 x66 x67 x68 x69 x70 x71 x72 x73 x74 x75 x76 x77 x78 x79 x80 x81 x82 x83 x84 x85 x86 x87 x88 x89 x90 x91 x92 x93 x94 x95 x96 x97 x98 x99 x100 x101 x102 x103 x104 x105 x106 x107 x108 x109 x110 x111 x112 x113 x114 x115 x116 x117 a8 y1 y2 y3 y4 y5 y6 y7 y8 y9 y10 y11 y12 y13 y14 y15 y16 b).getD k 0 = ad k := fun k _ => by rw [← had]
  have hc := hB.2.2.2.2.2.2.2.2.2.2
  have hBs : Base mL_law p R s m args meth c0 D cy A 135 6362 := ⟨hB.1, hB.2.1, hB.2.2.1, hB.2.2.2.1, hB.2.2.2.2.1, hB.2.2.2.2.2.1, hB.2.2.2.2.2.2.1, hB.2.2.2.2.2.2.2.1, hB.2.2.2.2.2.2.2.2.1, hB.2.2.2.2.2.2.2.2.2.1, hc.1, hc.2.1, hc.2.2.1, hc.2.2.2.1⟩
  have hXs : LX n xs p l e R s m args below meth c0 D cy ad A 135 6362 Q := ⟨by rw [e135]; exact g1, by rw [e135]; exact g2, g3, g4, by rw [e135]; exact g5, by decide, by decide, g6⟩
  have hPs : va_P D vwCl (ws cy ad S0) H := by
    intro k q hkq
    obtain ⟨k1, k2⟩ := ws_at hkq
    rw [ws_get k1] at hkq
    cases hkq
    exact (hall k (Nat.zero_le _) k1).2
  have hDs : va_D A (ws cy ad S0) := by
    refine ⟨fun i j p q hi hj he => ?_, fun k q hkq => ?_⟩
    · obtain ⟨i1, i2⟩ := ws_at hi
      obtain ⟨j1, j2⟩ := ws_at hj
      obtain ⟨e1, f1⟩ := (hall i (Nat.zero_le _) i1).1
      obtain ⟨e2, f2⟩ := (hall j (Nat.zero_le _) j1).1
      refine posL_inj i i1 j j1 (hD.1 _ _ _ _ f1 f2 ?_)
      show (adL a7 x1 x2 x3 x4 x5 x6 x7 x8 x9 x10 x11 x12 x13 x14 x15 x16 x17 x18 x19 x20 x21 x22 x23 x24 x25 x26 x27 x28 x29 x30 x31 x32 x33 x34 x35 x36 x37 x38 x39 x40 x41 x42 x43 x44 x45 x46 x47 x48 x49 x50 x51 x52 x53 x54 x55 x56 x57 x58 x59 x60 x61 x62 x63 x64 x65 x66 x67 x68 x69 x70 x71 x72 x73 x74 x75 x76 x77 x78 x79 x80 x81 x82 x83 x84 x85 x86 x87 x88 x89 x90 x91 x92 x93 x94 x95 x96 x97 x98 x99 x100 x101 x102 x103 x104 x105 x106 x107 x108 x109 x110 x111 x112 x113 x114 x115 x116 x117 a8 y1 y2 y3 y4 y5 y6 y7 y8 y9 y10 y11 y12 y13 y14 y15 y16 b).getD i 0 = (adL a7 x1 x2 x3 x4 x5 x6 x7 x8 x9 x10 x11 x12 x13 x14 x15 x16 x17 x18 x19 x20 x21 x22 x23 x24 x25 x26 x27 x28 x29 x30 x31 x32 x33 x34 x35 x36 x37 x38 x39 x40 x41 x42 x43 x44 x45 x46 x47 x48 x49 x50 x51 x52 x53 x54 x55 x56 x57 x58 x59 x60 x61 x62 x63 x64 x65 x66 x67 x68 x69 x70 x71 x72 x73 x74 x75 x76 x77 x78 x79 x80 x81 x82 x83 x84 x85 x86 x87 x88 x89 x90 x91 x92 x93 x94 x95 x96 x97 x98 x99 x100 x101 x102 x103 x104 x105 x106 x107 x108 x109 x110 x111 x112 x113 x114 x115 x116 x117 a8 y1 y2 y3 y4 y5 y6 y7 y8 y9 y10 y11 y12 y13 y14 y15 y16 b).getD j 0
      rw [hk i i1, hk j j1, ← i2, ← j2]
      exact he
    · obtain ⟨k1, k2⟩ := ws_at hkq
      obtain ⟨e1, f1⟩ := (hall k (Nat.zero_le _) k1).1
      have := hD.2 _ _ f1
      rw [k2, ← hk k k1]
      exact this
  have hls : lv_has ls mL_law.2.2.1 (imL ad [(0, .ref 135), (1, .ref 0), (2, .ref 118), (3, vi 0)]) := by
    have e : imL ad [(0, .ref 135), (1, .ref 0), (2, .ref 118), (3, vi 0)] = imL idn [(0, .ref b), (1, .ref a7), (2, .ref a8), (3, vi 0)] := by
      show [(0, Value.ref (ad 135)), (1, Value.ref (ad 0)), (2, Value.ref (ad 118)), (3, vi 0)] = [(0, Value.ref b), (1, Value.ref a7), (2, Value.ref a8), (3, vi 0)]
      rw [e0, e118, e135]
    rw [e]
    exact hl
  exact law_loop hn _ 0 S0 (Nat.lt_succ_self _) (by omega) (by omega) ⟨0, S0_rel⟩ p l e R s m args below meth c0 D cy ad A 135 6362 Q hBs hXs H locs ls S0_wf hPs hDs hS hls
