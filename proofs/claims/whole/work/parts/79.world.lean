def adL (a7 x1 x2 x3 x4 x5 x6 x7 x8 x9 x10 x11 x12 x13 x14 x15 x16 x17 x18 x19 x20 x21 x22 x23 x24 x25 x26 x27 x28 x29 x30 x31 x32 x33 x34 x35 x36 x37 x38 x39 x40 x41 x42 x43 x44 x45 x46 x47 x48 x49 x50 x51 x52 x53 x54 x55 x56 x57 x58 x59 x60 x61 x62 x63 x64 x65 x66 x67 x68 x69 x70 x71 x72 x73 x74 x75 x76 x77 x78 x79 x80 x81 x82 x83 x84 x85 x86 x87 x88 x89 x90 x91 x92 x93 x94 x95 x96 x97 x98 x99 x100 x101 x102 x103 x104 x105 x106 x107 x108 x109 x110 x111 x112 x113 x114 x115 x116 x117 a8 y1 y2 y3 y4 y5 y6 y7 y8 y9 y10 y11 y12 y13 y14 y15 y16 b : Nat) : List Nat := [a7, x1, x2, x3, x11, x12, x13, x14, x15, x16, x17, x18, x19, x90, x91, x92, x93, x94, x95, x96, x97, x98, x99, x100, x101, x102, x103, x4, x5, x6, x7, x8, x9, x10, x104, x105, x106, x107, x108, x109, x110, x111, x112, x113, x114, x115, x116, x117, x20, x21, x22, x23, x24, x25, x26, x27, x28, x29, x30, x31, x32, x33, x34, x35, x36, x37, x38, x39, x40, x41, x42, x43, x44, x45, x46, x47, x48, x49, x50, x51, x52, x53, x54, x55, x56, x57, x58, x59, x60, x61, x62, x63, x64, x65, x66, x67, x68, x69, x70, x71, x72, x73, x74, x75, x76, x77, x78, x79, x80, x81, x82, x83, x84, x85, x86, x87, x88, x89, a8, y1, y2, y3, y4, y5, y6, y7, y8, y9, y10, y11, y12, y13, y14, y15, y16, b]
def posL : List Nat := [134, 133, 132, 131, 123, 122, 121, 120, 119, 118, 117, 116, 115, 44, 43, 42, 41, 40, 39, 38, 37, 36, 35, 34, 33, 32, 31, 130, 129, 128, 127, 126, 125, 124, 30, 29, 28, 27, 26, 25, 24, 23, 22, 21, 20, 19, 18, 17, 114, 113, 112, 111, 110, 109, 108, 107, 106, 105, 104, 103, 102, 101, 100, 99, 98, 97, 96, 95, 94, 93, 92, 91, 90, 89, 88, 87, 86, 85, 84, 83, 82, 81, 80, 79, 78, 77, 76, 75, 74, 73, 72, 71, 70, 69, 68, 67, 66, 65, 64, 63, 62, 61, 60, 59, 58, 57, 56, 55, 54, 53, 52, 51, 50, 49, 48, 47, 46, 45, 16, 15, 14, 13, 12, 11, 10, 9, 8, 7, 6, 5, 4, 3, 2, 1, 0]
theorem posL_inj : ∀ i, i < 135 → ∀ j, j < 135 → posL.getD i 0 = posL.getD j 0 → i = j := by decide +kernel
def wst (a7 x1 x2 x3 x4 x5 x6 x7 x8 x9 x10 x11 x12 x13 x14 x15 x16 x17 x18 x19 x20 x21 x22 x23 x24 x25 x26 x27 x28 x29 x30 x31 x32 x33 x34 x35 x36 x37 x38 x39 x40 x41 x42 x43 x44 x45 x46 x47 x48 x49 x50 x51 x52 x53 x54 x55 x56 x57 x58 x59 x60 x61 x62 x63 x64 x65 x66 x67 x68 x69 x70 x71 x72 x73 x74 x75 x76 x77 x78 x79 x80 x81 x82 x83 x84 x85 x86 x87 x88 x89 x90 x91 x92 x93 x94 x95 x96 x97 x98 x99 x100 x101 x102 x103 x104 x105 x106 x107 x108 x109 x110 x111 x112 x113 x114 x115 x116 x117 a8 y1 y2 y3 y4 y5 y6 y7 y8 y9 y10 y11 y12 y13 y14 y15 y16 : Nat) (cy : Cy) : va_W := (y16, .inl (cy.1, 6, .inl (fun _ => 0))) :: (y15, .inl (cy.1, 6, .inl (fun _ => 0))) :: (y14, .inl (cy.1, 6, .inl (fun _ => 0))) :: (y13, .inl (cy.1, 6, .inl (fun _ => 0))) :: (y12, .inl (cy.1, 6, .inl (fun _ => 0))) :: (y11, .inl (cy.1, 6, .inl (fun _ => 0))) :: (y10, .inl (cy.1, 1890, .inl (fun _ => 0))) :: (y9, .inl (cy.2.1, 2, .inl (fun _ => 0))) :: (y8, .inl (cy.1, 378, .inl (fun _ => 0))) :: (y7, .inl (cy.1, 189, .inl (fun _ => 0))) :: (y6, .inl (cy.1, 48, .inl (fun _ => 0))) :: (y5, .inl (cy.1, 36, .inl (fun _ => 0))) :: (y4, .inl (cy.1, 8, .inl (fun _ => 0))) :: (y3, .inl (cy.1, 12, .inl (fun j => Int32.ofInt (pl9 j)))) :: (y2, .inl (cy.1, 12, .inl (fun j => Int32.ofInt (pl1 j)))) :: (y1, .inl (cy.1, 200, .inl (fun _ => 0))) :: (a8, .inr (8, [vi (0), vl (0), .ref y1, vi (0), vi (0), vi (0), vi (0), vi (0), vi (0), .ref y2, .ref y3, .ref y4, .ref y5, vi (3), vi (0), vi (0), vi (0), .ref y6, .ref y7, .ref y8, .ref y9, .ref y10, vi (0), .ref y11, .ref y12, vi (0), .ref y13, .ref y14, .ref y15, .ref y16])) :: (x117, .inl (cy.1, 36, .inl (fun _ => 0))) :: (x116, .inl (cy.1, 6, .inl (fun _ => 0))) :: (x115, .inl (cy.1, 48, .inl (fun _ => 0))) :: (x114, .inl (cy.1, 48, .inl (fun _ => 0))) :: (x113, .inl (cy.1, 48, .inl (fun _ => 0))) :: (x112, .inl (cy.1, 48, .inl (fun _ => 0))) :: (x111, .inr (1, [vi (0), vi (0), vi (0), .ref x112, .ref x113, .ref x114, .ref x115, .ref x116, .ref x117])) :: (x110, .inl (cy.1, 36, .inl (fun _ => 0))) :: (x109, .inl (cy.1, 6, .inl (fun _ => 0))) :: (x108, .inl (cy.1, 48, .inl (fun _ => 0))) :: (x107, .inl (cy.1, 48, .inl (fun _ => 0))) :: (x106, .inl (cy.1, 48, .inl (fun _ => 0))) :: (x105, .inl (cy.1, 48, .inl (fun _ => 0))) :: (x104, .inr (1, [vi (0), vi (0), vi (0), .ref x105, .ref x106, .ref x107, .ref x108, .ref x109, .ref x110])) :: (x103, .inl (cy.1, 6, .inl (fun _ => 0))) :: (x102, .inl (cy.1, 6, .inl (fun _ => 0))) :: (x101, .inl (cy.1, 6, .inl (fun _ => 0))) :: (x100, .inl (cy.1, 6, .inl (fun _ => 0))) :: (x99, .inl (cy.1, 6, .inl (fun _ => 0))) :: (x98, .inl (cy.1, 4, .inl (fun _ => 0))) :: (x97, .inl (cy.1, 6, .inl (fun j => Int32.ofInt (pl9 j)))) :: (x96, .inl (cy.1, 6, .inl (fun j => Int32.ofInt (pl1 j)))) :: (x95, .inr (5, [vi (3), .ref x96, .ref x97])) :: (x94, .inr (6, [.ref x93, .ref x95, .ref x98, .ref x99, .ref x100, .ref x101, vi (0), vi (0), vi (0), vi (0), vi (-1), vi (0), vi (-1), vi (0), vi (0)])) :: (x93, .inl (cy.1, 200, .inl (fun _ => 0))) :: (x92, .inl (cy.2.1, 2, .inl (fun _ => 0))) :: (x91, .inl (cy.2.2, 2, .inr (.inr (.inr (.inr (va_up (va_up (fun _ => none) (Int32.ofInt (0)).toNatClampNeg (some x104)) (Int32.ofInt (0 + 1)).toNatClampNeg (some x111))))))) :: (x90, .inr (3, [.ref x1, .ref x4, vl (0)])) :: (x89, .inl (cy.1, 36, .inl (fun _ => 0))) :: (x88, .inl (cy.1, 6, .inl (fun _ => 0))) :: (x87, .inl (cy.1, 48, .inl (fun _ => 0))) :: (x86, .inl (cy.1, 48, .inl (fun _ => 0))) :: (x85, .inl (cy.1, 48, .inl (fun _ => 0))) :: (x84, .inl (cy.1, 48, .inl (fun _ => 0))) :: (x83, .inr (1, [vi (0), vi (0), vi (0), .ref x84, .ref x85, .ref x86, .ref x87, .ref x88, .ref x89])) :: (x82, .inl (cy.1, 36, .inl (fun _ => 0))) :: (x81, .inl (cy.1, 6, .inl (fun _ => 0))) :: (x80, .inl (cy.1, 48, .inl (fun _ => 0))) :: (x79, .inl (cy.1, 48, .inl (fun _ => 0))) :: (x78, .inl (cy.1, 48, .inl (fun _ => 0))) :: (x77, .inl (cy.1, 48, .inl (fun _ => 0))) :: (x76, .inr (1, [vi (0), vi (0), vi (0), .ref x77, .ref x78, .ref x79, .ref x80, .ref x81, .ref x82])) :: (x75, .inl (cy.1, 36, .inl (fun _ => 0))) :: (x74, .inl (cy.1, 6, .inl (fun _ => 0))) :: (x73, .inl (cy.1, 48, .inl (fun _ => 0))) :: (x72, .inl (cy.1, 48, .inl (fun _ => 0))) :: (x71, .inl (cy.1, 48, .inl (fun _ => 0))) :: (x70, .inl (cy.1, 48, .inl (fun _ => 0))) :: (x69, .inr (1, [vi (0), vi (0), vi (0), .ref x70, .ref x71, .ref x72, .ref x73, .ref x74, .ref x75])) :: (x68, .inl (cy.1, 36, .inl (fun _ => 0))) :: (x67, .inl (cy.1, 6, .inl (fun _ => 0))) :: (x66, .inl (cy.1, 48, .inl (fun _ => 0))) :: (x65, .inl (cy.1, 48, .inl (fun _ => 0))) :: (x64, .inl (cy.1, 48, .inl (fun _ => 0))) :: (x63, .inl (cy.1, 48, .inl (fun _ => 0))) :: (x62, .inr (1, [vi (0), vi (0), vi (0), .ref x63, .ref x64, .ref x65, .ref x66, .ref x67, .ref x68])) :: (x61, .inl (cy.1, 36, .inl (fun _ => 0))) :: (x60, .inl (cy.1, 6, .inl (fun _ => 0))) :: (x59, .inl (cy.1, 48, .inl (fun _ => 0))) :: (x58, .inl (cy.1, 48, .inl (fun _ => 0))) :: (x57, .inl (cy.1, 48, .inl (fun _ => 0))) :: (x56, .inl (cy.1, 48, .inl (fun _ => 0))) :: (x55, .inr (1, [vi (0), vi (0), vi (0), .ref x56, .ref x57, .ref x58, .ref x59, .ref x60, .ref x61])) :: (x54, .inl (cy.1, 36, .inl (fun _ => 0))) :: (x53, .inl (cy.1, 6, .inl (fun _ => 0))) :: (x52, .inl (cy.1, 48, .inl (fun _ => 0))) :: (x51, .inl (cy.1, 48, .inl (fun _ => 0))) :: (x50, .inl (cy.1, 48, .inl (fun _ => 0))) :: (x49, .inl (cy.1, 48, .inl (fun _ => 0))) :: (x48, .inr (1, [vi (0), vi (0), vi (0), .ref x49, .ref x50, .ref x51, .ref x52, .ref x53, .ref x54])) :: (x47, .inl (cy.1, 36, .inl (fun _ => 0))) :: (x46, .inl (cy.1, 6, .inl (fun _ => 0))) :: (x45, .inl (cy.1, 48, .inl (fun _ => 0))) :: (x44, .inl (cy.1, 48, .inl (fun _ => 0))) :: (x43, .inl (cy.1, 48, .inl (fun _ => 0))) :: (x42, .inl (cy.1, 48, .inl (fun _ => 0))) :: (x41, .inr (1, [vi (0), vi (0), vi (0), .ref x42, .ref x43, .ref x44, .ref x45, .ref x46, .ref x47])) :: (x40, .inl (cy.1, 36, .inl (fun _ => 0))) :: (x39, .inl (cy.1, 6, .inl (fun _ => 0))) :: (x38, .inl (cy.1, 48, .inl (fun _ => 0))) :: (x37, .inl (cy.1, 48, .inl (fun _ => 0))) :: (x36, .inl (cy.1, 48, .inl (fun _ => 0))) :: (x35, .inl (cy.1, 48, .inl (fun _ => 0))) :: (x34, .inr (1, [vi (0), vi (0), vi (0), .ref x35, .ref x36, .ref x37, .ref x38, .ref x39, .ref x40])) :: (x33, .inl (cy.1, 36, .inl (fun _ => 0))) :: (x32, .inl (cy.1, 6, .inl (fun _ => 0))) :: (x31, .inl (cy.1, 48, .inl (fun _ => 0))) :: (x30, .inl (cy.1, 48, .inl (fun _ => 0))) :: (x29, .inl (cy.1, 48, .inl (fun _ => 0))) :: (x28, .inl (cy.1, 48, .inl (fun _ => 0))) :: (x27, .inr (1, [vi (0), vi (0), vi (0), .ref x28, .ref x29, .ref x30, .ref x31, .ref x32, .ref x33])) :: (x26, .inl (cy.1, 36, .inl (fun _ => 0))) :: (x25, .inl (cy.1, 6, .inl (fun _ => 0))) :: (x24, .inl (cy.1, 48, .inl (fun _ => 0))) :: (x23, .inl (cy.1, 48, .inl (fun _ => 0))) :: (x22, .inl (cy.1, 48, .inl (fun _ => 0))) :: (x21, .inl (cy.1, 48, .inl (fun _ => 0))) :: (x20, .inr (1, [vi (0), vi (0), vi (0), .ref x21, .ref x22, .ref x23, .ref x24, .ref x25, .ref x26])) :: (x19, .inl (cy.2.2, 10, .inr (.inr (.inr (.inr (va_up (va_up (va_up (va_up (va_up (va_up (va_up (va_up (va_up (va_up (fun _ => none) (Int32.ofInt (0)).toNatClampNeg (some x20)) (Int32.ofInt (0 + 1)).toNatClampNeg (some x27)) (Int32.ofInt ((0 + 1) + 1)).toNatClampNeg (some x34)) (Int32.ofInt (((0 + 1) + 1) + 1)).toNatClampNeg (some x41)) (Int32.ofInt ((((0 + 1) + 1) + 1) + 1)).toNatClampNeg (some x48)) (Int32.ofInt (((((0 + 1) + 1) + 1) + 1) + 1)).toNatClampNeg (some x55)) (Int32.ofInt ((((((0 + 1) + 1) + 1) + 1) + 1) + 1)).toNatClampNeg (some x62)) (Int32.ofInt (((((((0 + 1) + 1) + 1) + 1) + 1) + 1) + 1)).toNatClampNeg (some x69)) (Int32.ofInt ((((((((0 + 1) + 1) + 1) + 1) + 1) + 1) + 1) + 1)).toNatClampNeg (some x76)) (Int32.ofInt (((((((((0 + 1) + 1) + 1) + 1) + 1) + 1) + 1) + 1) + 1)).toNatClampNeg (some x83))))))) :: (x18, .inr (4, [.ref x19, vi (0), vi (0)])) :: (x17, .inl (cy.1, 6, .inl (fun _ => 0))) :: (x16, .inl (cy.1, 6, .inl (fun _ => 0))) :: (x15, .inr (0, [.ref x1, .ref x4, .ref x11, .ref x16, .ref x17, vi (0), vi (0), vi (0), vi (0), vi (0)])) :: (x14, .inl (cy.1, 10, .inl (fun _ => 0))) :: (x13, .inl (cy.1, 6, .inl (fun _ => 0))) :: (x12, .inl (cy.1, 6, .inl (fun _ => 0))) :: (x11, .inr (2, [.ref x1, .ref x4, .ref x12, .ref x13, .ref x14])) :: (x10, .inl (cy.1, 36, .inl (fun _ => 0))) :: (x9, .inl (cy.1, 6, .inl (fun _ => 0))) :: (x8, .inl (cy.1, 48, .inl (fun _ => 0))) :: (x7, .inl (cy.1, 48, .inl (fun _ => 0))) :: (x6, .inl (cy.1, 48, .inl (fun _ => 0))) :: (x5, .inl (cy.1, 48, .inl (fun _ => 0))) :: (x4, .inr (1, [vi (0), vi (0), vi (0), .ref x5, .ref x6, .ref x7, .ref x8, .ref x9, .ref x10])) :: (x3, .inl (cy.1, 6, .inl (fun j => Int32.ofInt (pl9 j)))) :: (x2, .inl (cy.1, 6, .inl (fun j => Int32.ofInt (pl1 j)))) :: (x1, .inr (5, [vi (3), .ref x2, .ref x3])) :: (a7, .inr (7, [.ref x1, .ref x4, .ref x11, .ref x15, .ref x18, .ref x90, .ref x91, .ref x92, .ref x93, .ref x94, .ref x102, .ref x103, vi (0), vi (0)])) :: []
set_option maxRecDepth 100000 in
set_option maxHeartbeats 40000000 in
theorem law_world {D : va_G} {cy : Cy} {H : Heap} (a7 x1 x2 x3 x4 x5 x6 x7 x8 x9 x10 x11 x12 x13 x14 x15 x16 x17 x18 x19 x20 x21 x22 x23 x24 x25 x26 x27 x28 x29 x30 x31 x32 x33 x34 x35 x36 x37 x38 x39 x40 x41 x42 x43 x44 x45 x46 x47 x48 x49 x50 x51 x52 x53 x54 x55 x56 x57 x58 x59 x60 x61 x62 x63 x64 x65 x66 x67 x68 x69 x70 x71 x72 x73 x74 x75 x76 x77 x78 x79 x80 x81 x82 x83 x84 x85 x86 x87 x88 x89 x90 x91 x92 x93 x94 x95 x96 x97 x98 x99 x100 x101 x102 x103 x104 x105 x106 x107 x108 x109 x110 x111 x112 x113 x114 x115 x116 x117 a8 y1 y2 y3 y4 y5 y6 y7 y8 y9 y10 y11 y12 y13 y14 y15 y16 b : Nat) (hP : va_P D vwCl (wst a7 x1 x2 x3 x4 x5 x6 x7 x8 x9 x10 x11 x12 x13 x14 x15 x16 x17 x18 x19 x20 x21 x22 x23 x24 x25 x26 x27 x28 x29 x30 x31 x32 x33 x34 x35 x36 x37 x38 x39 x40 x41 x42 x43 x44 x45 x46 x47 x48 x49 x50 x51 x52 x53 x54 x55 x56 x57 x58 x59 x60 x61 x62 x63 x64 x65 x66 x67 x68 x69 x70 x71 x72 x73 x74 x75 x76 x77 x78 x79 x80 x81 x82 x83 x84 x85 x86 x87 x88 x89 x90 x91 x92 x93 x94 x95 x96 x97 x98 x99 x100 x101 x102 x103 x104 x105 x106 x107 x108 x109 x110 x111 x112 x113 x114 x115 x116 x117 a8 y1 y2 y3 y4 y5 y6 y7 y8 y9 y10 y11 y12 y13 y14 y15 y16 cy) H) : ∀ k, 0 ≤ k → k < 135 → (∃ e, (wst a7 x1 x2 x3 x4 x5 x6 x7 x8 x9 x10 x11 x12 x13 x14 x15 x16 x17 x18 x19 x20 x21 x22 x23 x24 x25 x26 x27 x28 x29 x30 x31 x32 x33 x34 x35 x36 x37 x38 x39 x40 x41 x42 x43 x44 x45 x46 x47 x48 x49 x50 x51 x52 x53 x54 x55 x56 x57 x58 x59 x60 x61 x62 x63 x64 x65 x66 x67 x68 x69 x70 x71 x72 x73 x74 x75 x76 x77 x78 x79 x80 x81 x82 x83 x84 x85 x86 x87 x88 x89 x90 x91 x92 x93 x94 x95 x96 x97 x98 x99 x100 x101 x102 x103 x104 x105 x106 x107 x108 x109 x110 x111 x112 x113 x114 x115 x116 x117 a8 y1 y2 y3 y4 y5 y6 y7 y8 y9 y10 y11 y12 y13 y14 y15 y16 cy)[posL.getD k 0]? = some ((adL a7 x1 x2 x3 x4 x5 x6 x7 x8 x9 x10 x11 x12 x13 x14 x15 x16 x17 x18 x19 x20 x21 x22 x23 x24 x25 x26 x27 x28 x29 x30 x31 x32 x33 x34 x35 x36 x37 x38 x39 x40 x41 x42 x43 x44 x45 x46 x47 x48 x49 x50 x51 x52 x53 x54 x55 x56 x57 x58 x59 x60 x61 x62 x63 x64 x65 x66 x67 x68 x69 x70 x71 x72 x73 x74 x75 x76 x77 x78 x79 x80 x81 x82 x83 x84 x85 x86 x87 x88 x89 x90 x91 x92 x93 x94 x95 x96 x97 x98 x99 x100 x101 x102 x103 x104 x105 x106 x107 x108 x109 x110 x111 x112 x113 x114 x115 x116 x117 a8 y1 y2 y3 y4 y5 y6 y7 y8 y9 y10 y11 y12 y13 y14 y15 y16 b).getD k 0, e)) ∧ va_at D vwCl (wsf cy (fun c => (adL a7 x1 x2 x3 x4 x5 x6 x7 x8 x9 x10 x11 x12 x13 x14 x15 x16 x17 x18 x19 x20 x21 x22 x23 x24 x25 x26 x27 x28 x29 x30 x31 x32 x33 x34 x35 x36 x37 x38 x39 x40 x41 x42 x43 x44 x45 x46 x47 x48 x49 x50 x51 x52 x53 x54 x55 x56 x57 x58 x59 x60 x61 x62 x63 x64 x65 x66 x67 x68 x69 x70 x71 x72 x73 x74 x75 x76 x77 x78 x79 x80 x81 x82 x83 x84 x85 x86 x87 x88 x89 x90 x91 x92 x93 x94 x95 x96 x97 x98 x99 x100 x101 x102 x103 x104 x105 x106 x107 x108 x109 x110 x111 x112 x113 x114 x115 x116 x117 a8 y1 y2 y3 y4 y5 y6 y7 y8 y9 y10 y11 y12 y13 y14 y15 y16 b).getD c 0) S0 k) H := by
  refine step_all ⟨⟨_, rfl⟩, hP 134 _ rfl⟩ ?_
  refine step_all ⟨⟨_, rfl⟩, hP 133 _ rfl⟩ ?_
  refine step_all ⟨⟨_, rfl⟩, hP 132 _ rfl⟩ ?_
  refine step_all ⟨⟨_, rfl⟩, hP 131 _ rfl⟩ ?_
  refine step_all ⟨⟨_, rfl⟩, hP 123 _ rfl⟩ ?_
  refine step_all ⟨⟨_, rfl⟩, hP 122 _ rfl⟩ ?_
  refine step_all ⟨⟨_, rfl⟩, hP 121 _ rfl⟩ ?_
  refine step_all ⟨⟨_, rfl⟩, hP 120 _ rfl⟩ ?_
  refine step_all ⟨⟨_, rfl⟩, hP 119 _ rfl⟩ ?_
  refine step_all ⟨⟨_, rfl⟩, hP 118 _ rfl⟩ ?_
  refine step_all ⟨⟨_, rfl⟩, hP 117 _ rfl⟩ ?_
  refine step_all ⟨⟨_, rfl⟩, hP 116 _ rfl⟩ ?_
  refine step_all ⟨⟨_, rfl⟩, at_q (fun j hj => by
    match j, hj with
    | 0, _ => rfl
    | 1, _ => rfl
    | 2, _ => rfl
    | 3, _ => rfl
    | 4, _ => rfl
    | 5, _ => rfl
    | 6, _ => rfl
    | 7, _ => rfl
    | 8, _ => rfl
    | 9, _ => rfl) (hP 115 _ rfl)⟩ ?_
  refine step_all ⟨⟨_, rfl⟩, hP 44 _ rfl⟩ ?_
  refine step_all ⟨⟨_, rfl⟩, at_q (fun j hj => by
    match j, hj with
    | 0, _ => rfl
    | 1, _ => rfl) (hP 43 _ rfl)⟩ ?_
  refine step_all ⟨⟨_, rfl⟩, hP 42 _ rfl⟩ ?_
  refine step_all ⟨⟨_, rfl⟩, hP 41 _ rfl⟩ ?_
  refine step_all ⟨⟨_, rfl⟩, hP 40 _ rfl⟩ ?_
  refine step_all ⟨⟨_, rfl⟩, hP 39 _ rfl⟩ ?_
  refine step_all ⟨⟨_, rfl⟩, hP 38 _ rfl⟩ ?_
  refine step_all ⟨⟨_, rfl⟩, hP 37 _ rfl⟩ ?_
  refine step_all ⟨⟨_, rfl⟩, hP 36 _ rfl⟩ ?_
  refine step_all ⟨⟨_, rfl⟩, hP 35 _ rfl⟩ ?_
  refine step_all ⟨⟨_, rfl⟩, hP 34 _ rfl⟩ ?_
  refine step_all ⟨⟨_, rfl⟩, hP 33 _ rfl⟩ ?_
  refine step_all ⟨⟨_, rfl⟩, hP 32 _ rfl⟩ ?_
  refine step_all ⟨⟨_, rfl⟩, hP 31 _ rfl⟩ ?_
  refine step_all ⟨⟨_, rfl⟩, hP 130 _ rfl⟩ ?_
  refine step_all ⟨⟨_, rfl⟩, hP 129 _ rfl⟩ ?_
  refine step_all ⟨⟨_, rfl⟩, hP 128 _ rfl⟩ ?_
  refine step_all ⟨⟨_, rfl⟩, hP 127 _ rfl⟩ ?_
  refine step_all ⟨⟨_, rfl⟩, hP 126 _ rfl⟩ ?_
  refine step_all ⟨⟨_, rfl⟩, hP 125 _ rfl⟩ ?_
  refine step_all ⟨⟨_, rfl⟩, hP 124 _ rfl⟩ ?_
  refine step_all ⟨⟨_, rfl⟩, hP 30 _ rfl⟩ ?_
  refine step_all ⟨⟨_, rfl⟩, hP 29 _ rfl⟩ ?_
  refine step_all ⟨⟨_, rfl⟩, hP 28 _ rfl⟩ ?_
  refine step_all ⟨⟨_, rfl⟩, hP 27 _ rfl⟩ ?_
  refine step_all ⟨⟨_, rfl⟩, hP 26 _ rfl⟩ ?_
  refine step_all ⟨⟨_, rfl⟩, hP 25 _ rfl⟩ ?_
  refine step_all ⟨⟨_, rfl⟩, hP 24 _ rfl⟩ ?_
  refine step_all ⟨⟨_, rfl⟩, hP 23 _ rfl⟩ ?_
  refine step_all ⟨⟨_, rfl⟩, hP 22 _ rfl⟩ ?_
  refine step_all ⟨⟨_, rfl⟩, hP 21 _ rfl⟩ ?_
  refine step_all ⟨⟨_, rfl⟩, hP 20 _ rfl⟩ ?_
  refine step_all ⟨⟨_, rfl⟩, hP 19 _ rfl⟩ ?_
  refine step_all ⟨⟨_, rfl⟩, hP 18 _ rfl⟩ ?_
  refine step_all ⟨⟨_, rfl⟩, hP 17 _ rfl⟩ ?_
  refine step_all ⟨⟨_, rfl⟩, hP 114 _ rfl⟩ ?_
  refine step_all ⟨⟨_, rfl⟩, hP 113 _ rfl⟩ ?_
  refine step_all ⟨⟨_, rfl⟩, hP 112 _ rfl⟩ ?_
  refine step_all ⟨⟨_, rfl⟩, hP 111 _ rfl⟩ ?_
  refine step_all ⟨⟨_, rfl⟩, hP 110 _ rfl⟩ ?_
  refine step_all ⟨⟨_, rfl⟩, hP 109 _ rfl⟩ ?_
  refine step_all ⟨⟨_, rfl⟩, hP 108 _ rfl⟩ ?_
  refine step_all ⟨⟨_, rfl⟩, hP 107 _ rfl⟩ ?_
  refine step_all ⟨⟨_, rfl⟩, hP 106 _ rfl⟩ ?_
  refine step_all ⟨⟨_, rfl⟩, hP 105 _ rfl⟩ ?_
  refine step_all ⟨⟨_, rfl⟩, hP 104 _ rfl⟩ ?_
  refine step_all ⟨⟨_, rfl⟩, hP 103 _ rfl⟩ ?_
  refine step_all ⟨⟨_, rfl⟩, hP 102 _ rfl⟩ ?_
  refine step_all ⟨⟨_, rfl⟩, hP 101 _ rfl⟩ ?_
  refine step_all ⟨⟨_, rfl⟩, hP 100 _ rfl⟩ ?_
  refine step_all ⟨⟨_, rfl⟩, hP 99 _ rfl⟩ ?_
  refine step_all ⟨⟨_, rfl⟩, hP 98 _ rfl⟩ ?_
  refine step_all ⟨⟨_, rfl⟩, hP 97 _ rfl⟩ ?_
  refine step_all ⟨⟨_, rfl⟩, hP 96 _ rfl⟩ ?_
  refine step_all ⟨⟨_, rfl⟩, hP 95 _ rfl⟩ ?_
  refine step_all ⟨⟨_, rfl⟩, hP 94 _ rfl⟩ ?_
  refine step_all ⟨⟨_, rfl⟩, hP 93 _ rfl⟩ ?_
  refine step_all ⟨⟨_, rfl⟩, hP 92 _ rfl⟩ ?_
  refine step_all ⟨⟨_, rfl⟩, hP 91 _ rfl⟩ ?_
  refine step_all ⟨⟨_, rfl⟩, hP 90 _ rfl⟩ ?_
  refine step_all ⟨⟨_, rfl⟩, hP 89 _ rfl⟩ ?_
  refine step_all ⟨⟨_, rfl⟩, hP 88 _ rfl⟩ ?_
  refine step_all ⟨⟨_, rfl⟩, hP 87 _ rfl⟩ ?_
  refine step_all ⟨⟨_, rfl⟩, hP 86 _ rfl⟩ ?_
  refine step_all ⟨⟨_, rfl⟩, hP 85 _ rfl⟩ ?_
  refine step_all ⟨⟨_, rfl⟩, hP 84 _ rfl⟩ ?_
  refine step_all ⟨⟨_, rfl⟩, hP 83 _ rfl⟩ ?_
  refine step_all ⟨⟨_, rfl⟩, hP 82 _ rfl⟩ ?_
  refine step_all ⟨⟨_, rfl⟩, hP 81 _ rfl⟩ ?_
  refine step_all ⟨⟨_, rfl⟩, hP 80 _ rfl⟩ ?_
  refine step_all ⟨⟨_, rfl⟩, hP 79 _ rfl⟩ ?_
  refine step_all ⟨⟨_, rfl⟩, hP 78 _ rfl⟩ ?_
  refine step_all ⟨⟨_, rfl⟩, hP 77 _ rfl⟩ ?_
  refine step_all ⟨⟨_, rfl⟩, hP 76 _ rfl⟩ ?_
  refine step_all ⟨⟨_, rfl⟩, hP 75 _ rfl⟩ ?_
  refine step_all ⟨⟨_, rfl⟩, hP 74 _ rfl⟩ ?_
  refine step_all ⟨⟨_, rfl⟩, hP 73 _ rfl⟩ ?_
  refine step_all ⟨⟨_, rfl⟩, hP 72 _ rfl⟩ ?_
  refine step_all ⟨⟨_, rfl⟩, hP 71 _ rfl⟩ ?_
  refine step_all ⟨⟨_, rfl⟩, hP 70 _ rfl⟩ ?_
  refine step_all ⟨⟨_, rfl⟩, hP 69 _ rfl⟩ ?_
  refine step_all ⟨⟨_, rfl⟩, hP 68 _ rfl⟩ ?_
  refine step_all ⟨⟨_, rfl⟩, hP 67 _ rfl⟩ ?_
  refine step_all ⟨⟨_, rfl⟩, hP 66 _ rfl⟩ ?_
  refine step_all ⟨⟨_, rfl⟩, hP 65 _ rfl⟩ ?_
  refine step_all ⟨⟨_, rfl⟩, hP 64 _ rfl⟩ ?_
  refine step_all ⟨⟨_, rfl⟩, hP 63 _ rfl⟩ ?_
  refine step_all ⟨⟨_, rfl⟩, hP 62 _ rfl⟩ ?_
  refine step_all ⟨⟨_, rfl⟩, hP 61 _ rfl⟩ ?_
  refine step_all ⟨⟨_, rfl⟩, hP 60 _ rfl⟩ ?_
  refine step_all ⟨⟨_, rfl⟩, hP 59 _ rfl⟩ ?_
  refine step_all ⟨⟨_, rfl⟩, hP 58 _ rfl⟩ ?_
  refine step_all ⟨⟨_, rfl⟩, hP 57 _ rfl⟩ ?_
  refine step_all ⟨⟨_, rfl⟩, hP 56 _ rfl⟩ ?_
  refine step_all ⟨⟨_, rfl⟩, hP 55 _ rfl⟩ ?_
  refine step_all ⟨⟨_, rfl⟩, hP 54 _ rfl⟩ ?_
  refine step_all ⟨⟨_, rfl⟩, hP 53 _ rfl⟩ ?_
  refine step_all ⟨⟨_, rfl⟩, hP 52 _ rfl⟩ ?_
  refine step_all ⟨⟨_, rfl⟩, hP 51 _ rfl⟩ ?_
  refine step_all ⟨⟨_, rfl⟩, hP 50 _ rfl⟩ ?_
  refine step_all ⟨⟨_, rfl⟩, hP 49 _ rfl⟩ ?_
  refine step_all ⟨⟨_, rfl⟩, hP 48 _ rfl⟩ ?_
  refine step_all ⟨⟨_, rfl⟩, hP 47 _ rfl⟩ ?_
  refine step_all ⟨⟨_, rfl⟩, hP 46 _ rfl⟩ ?_
  refine step_all ⟨⟨_, rfl⟩, hP 45 _ rfl⟩ ?_
  refine step_all ⟨⟨_, rfl⟩, hP 16 _ rfl⟩ ?_
  refine step_all ⟨⟨_, rfl⟩, hP 15 _ rfl⟩ ?_
  refine step_all ⟨⟨_, rfl⟩, hP 14 _ rfl⟩ ?_
  refine step_all ⟨⟨_, rfl⟩, hP 13 _ rfl⟩ ?_
  refine step_all ⟨⟨_, rfl⟩, hP 12 _ rfl⟩ ?_
  refine step_all ⟨⟨_, rfl⟩, hP 11 _ rfl⟩ ?_
  refine step_all ⟨⟨_, rfl⟩, hP 10 _ rfl⟩ ?_
  refine step_all ⟨⟨_, rfl⟩, hP 9 _ rfl⟩ ?_
  refine step_all ⟨⟨_, rfl⟩, hP 8 _ rfl⟩ ?_
  refine step_all ⟨⟨_, rfl⟩, hP 7 _ rfl⟩ ?_
  refine step_all ⟨⟨_, rfl⟩, hP 6 _ rfl⟩ ?_
  refine step_all ⟨⟨_, rfl⟩, hP 5 _ rfl⟩ ?_
  refine step_all ⟨⟨_, rfl⟩, hP 4 _ rfl⟩ ?_
  refine step_all ⟨⟨_, rfl⟩, hP 3 _ rfl⟩ ?_
  refine step_all ⟨⟨_, rfl⟩, hP 2 _ rfl⟩ ?_
  refine step_all ⟨⟨_, rfl⟩, hP 1 _ rfl⟩ ?_
  refine step_all ⟨⟨_, rfl⟩, hP 0 _ rfl⟩ ?_
  exact fun k h1 h2 => absurd h1 (by omega)
