/-! The law: its own stretches. -/
-- ScaleForgeLaw.law([I)Z at 18
set_option maxRecDepth 20000 in
theorem B361_h {N : Nat} {xs : Nat → Int32} {Q : iq_T} (v3 : Int) (g : iq_I) (l : iq_J) (H : (-2147483648 ≤ v3 ∧ v3 ≤ 2147483647 ∧ -2147483648 ≤ ((N : Int) - 6) ∧ ((N : Int) - 6) ≤ 2147483647) ∧
    (((N : Int) - 6) < v3 → (iq_P N xs 361 1946 [some (iq_r 1000000), some (iq_r 0), some (iq_r 77), some (iq_i v3)] [] g l Q)) ∧
    (v3 ≤ ((N : Int) - 6) → (iq_P N xs 361 27 [some (iq_r 1000000), some (iq_r 0), some (iq_r 77), some (iq_i v3)] [] g l Q))) :
    iq_P N xs 361 18 [some (iq_r 1000000), some (iq_r 0), some (iq_r 77), some (iq_i v3)] [] g l Q := iq_w_ok (cuts := [27, 1946]) 6 18 _ _ _ _ H

-- ScaleForgeLaw.law([I)Z at 27
set_option maxRecDepth 20000 in
theorem B361_s {N : Nat} {xs : Nat → Int32} {Q : iq_T} (v3 : Int) (g : iq_I) (l : iq_J) (H : (0 ≤ v3 ∧ v3 < N ∧ v3 ≤ 65536) ∧ ((-2147483648 ≤ (iq_and ((xs (Int.toNat v3)).toInt) 127) ∧ (iq_and ((xs (Int.toNat v3)).toInt) 127) ≤ 2147483647 ∧ (66 : Int) - 0 + 1 = 67) ∧ (
    ((iq_and ((xs (Int.toNat v3)).toInt) 127) = 0 → (iq_P N xs 361 316 [some (iq_r 1000000), some (iq_r 0), some (iq_r 77), some (iq_i v3)] [] g l Q)) ∧
    ((iq_and ((xs (Int.toNat v3)).toInt) 127) = 1 → (iq_P N xs 361 329 [some (iq_r 1000000), some (iq_r 0), some (iq_r 77), some (iq_i v3)] [] g l Q)) ∧
    ((iq_and ((xs (Int.toNat v3)).toInt) 127) = 2 → (iq_P N xs 361 343 [some (iq_r 1000000), some (iq_r 0), some (iq_r 77), some (iq_i v3)] [] g l Q)) ∧
    ((iq_and ((xs (Int.toNat v3)).toInt) 127) = 3 → (iq_P N xs 361 357 [some (iq_r 1000000), some (iq_r 0), some (iq_r 77), some (iq_i v3)] [] g l Q)) ∧
    ((iq_and ((xs (Int.toNat v3)).toInt) 127) = 4 → (iq_P N xs 361 400 [some (iq_r 1000000), some (iq_r 0), some (iq_r 77), some (iq_i v3)] [] g l Q)) ∧
    ((iq_and ((xs (Int.toNat v3)).toInt) 127) = 5 → (iq_P N xs 361 473 [some (iq_r 1000000), some (iq_r 0), some (iq_r 77), some (iq_i v3)] [] g l Q)) ∧
    ((iq_and ((xs (Int.toNat v3)).toInt) 127) = 6 → (iq_P N xs 361 507 [some (iq_r 1000000), some (iq_r 0), some (iq_r 77), some (iq_i v3)] [] g l Q)) ∧
    ((iq_and ((xs (Int.toNat v3)).toInt) 127) = 7 → (iq_P N xs 361 570 [some (iq_r 1000000), some (iq_r 0), some (iq_r 77), some (iq_i v3)] [] g l Q)) ∧
    ((iq_and ((xs (Int.toNat v3)).toInt) 127) = 8 → (iq_P N xs 361 633 [some (iq_r 1000000), some (iq_r 0), some (iq_r 77), some (iq_i v3)] [] g l Q)) ∧
    ((iq_and ((xs (Int.toNat v3)).toInt) 127) = 9 → (iq_P N xs 361 656 [some (iq_r 1000000), some (iq_r 0), some (iq_r 77), some (iq_i v3)] [] g l Q)) ∧
    ((iq_and ((xs (Int.toNat v3)).toInt) 127) = 10 → (iq_P N xs 361 679 [some (iq_r 1000000), some (iq_r 0), some (iq_r 77), some (iq_i v3)] [] g l Q)) ∧
    ((iq_and ((xs (Int.toNat v3)).toInt) 127) = 11 → (iq_P N xs 361 702 [some (iq_r 1000000), some (iq_r 0), some (iq_r 77), some (iq_i v3)] [] g l Q)) ∧
    ((iq_and ((xs (Int.toNat v3)).toInt) 127) = 12 → (iq_P N xs 361 725 [some (iq_r 1000000), some (iq_r 0), some (iq_r 77), some (iq_i v3)] [] g l Q)) ∧
    ((iq_and ((xs (Int.toNat v3)).toInt) 127) = 13 → (iq_P N xs 361 748 [some (iq_r 1000000), some (iq_r 0), some (iq_r 77), some (iq_i v3)] [] g l Q)) ∧
    ((iq_and ((xs (Int.toNat v3)).toInt) 127) = 14 → (iq_P N xs 361 771 [some (iq_r 1000000), some (iq_r 0), some (iq_r 77), some (iq_i v3)] [] g l Q)) ∧
    ((iq_and ((xs (Int.toNat v3)).toInt) 127) = 15 → (iq_P N xs 361 794 [some (iq_r 1000000), some (iq_r 0), some (iq_r 77), some (iq_i v3)] [] g l Q)) ∧
    ((iq_and ((xs (Int.toNat v3)).toInt) 127) = 16 → (iq_P N xs 361 817 [some (iq_r 1000000), some (iq_r 0), some (iq_r 77), some (iq_i v3)] [] g l Q)) ∧
    ((iq_and ((xs (Int.toNat v3)).toInt) 127) = 17 → (iq_P N xs 361 850 [some (iq_r 1000000), some (iq_r 0), some (iq_r 77), some (iq_i v3)] [] g l Q)) ∧
    ((iq_and ((xs (Int.toNat v3)).toInt) 127) = 18 → (iq_P N xs 361 873 [some (iq_r 1000000), some (iq_r 0), some (iq_r 77), some (iq_i v3)] [] g l Q)) ∧
    ((iq_and ((xs (Int.toNat v3)).toInt) 127) = 19 → (iq_P N xs 361 896 [some (iq_r 1000000), some (iq_r 0), some (iq_r 77), some (iq_i v3)] [] g l Q)) ∧
    ((iq_and ((xs (Int.toNat v3)).toInt) 127) = 20 → (iq_P N xs 361 929 [some (iq_r 1000000), some (iq_r 0), some (iq_r 77), some (iq_i v3)] [] g l Q)) ∧
    ((iq_and ((xs (Int.toNat v3)).toInt) 127) = 21 → (iq_P N xs 361 952 [some (iq_r 1000000), some (iq_r 0), some (iq_r 77), some (iq_i v3)] [] g l Q)) ∧
    ((iq_and ((xs (Int.toNat v3)).toInt) 127) = 22 → (iq_P N xs 361 975 [some (iq_r 1000000), some (iq_r 0), some (iq_r 77), some (iq_i v3)] [] g l Q)) ∧
    ((iq_and ((xs (Int.toNat v3)).toInt) 127) = 23 → (iq_P N xs 361 988 [some (iq_r 1000000), some (iq_r 0), some (iq_r 77), some (iq_i v3)] [] g l Q)) ∧
    ((iq_and ((xs (Int.toNat v3)).toInt) 127) = 24 → (iq_P N xs 361 1011 [some (iq_r 1000000), some (iq_r 0), some (iq_r 77), some (iq_i v3)] [] g l Q)) ∧
    ((iq_and ((xs (Int.toNat v3)).toInt) 127) = 25 → (iq_P N xs 361 1024 [some (iq_r 1000000), some (iq_r 0), some (iq_r 77), some (iq_i v3)] [] g l Q)) ∧
    ((iq_and ((xs (Int.toNat v3)).toInt) 127) = 26 → (iq_P N xs 361 1047 [some (iq_r 1000000), some (iq_r 0), some (iq_r 77), some (iq_i v3)] [] g l Q)) ∧
    ((iq_and ((xs (Int.toNat v3)).toInt) 127) = 27 → (iq_P N xs 361 1070 [some (iq_r 1000000), some (iq_r 0), some (iq_r 77), some (iq_i v3)] [] g l Q)) ∧
    ((iq_and ((xs (Int.toNat v3)).toInt) 127) = 28 → (iq_P N xs 361 1093 [some (iq_r 1000000), some (iq_r 0), some (iq_r 77), some (iq_i v3)] [] g l Q)) ∧
    ((iq_and ((xs (Int.toNat v3)).toInt) 127) = 29 → (iq_P N xs 361 1106 [some (iq_r 1000000), some (iq_r 0), some (iq_r 77), some (iq_i v3)] [] g l Q)) ∧
    ((iq_and ((xs (Int.toNat v3)).toInt) 127) = 30 → (iq_P N xs 361 1119 [some (iq_r 1000000), some (iq_r 0), some (iq_r 77), some (iq_i v3)] [] g l Q)) ∧
    ((iq_and ((xs (Int.toNat v3)).toInt) 127) = 31 → (iq_P N xs 361 1142 [some (iq_r 1000000), some (iq_r 0), some (iq_r 77), some (iq_i v3)] [] g l Q)) ∧
    ((iq_and ((xs (Int.toNat v3)).toInt) 127) = 32 → (iq_P N xs 361 1155 [some (iq_r 1000000), some (iq_r 0), some (iq_r 77), some (iq_i v3)] [] g l Q)) ∧
    ((iq_and ((xs (Int.toNat v3)).toInt) 127) = 33 → (iq_P N xs 361 1188 [some (iq_r 1000000), some (iq_r 0), some (iq_r 77), some (iq_i v3)] [] g l Q)) ∧
    ((iq_and ((xs (Int.toNat v3)).toInt) 127) = 34 → (iq_P N xs 361 1211 [some (iq_r 1000000), some (iq_r 0), some (iq_r 77), some (iq_i v3)] [] g l Q)) ∧
    ((iq_and ((xs (Int.toNat v3)).toInt) 127) = 35 → (iq_P N xs 361 1234 [some (iq_r 1000000), some (iq_r 0), some (iq_r 77), some (iq_i v3)] [] g l Q)) ∧
    ((iq_and ((xs (Int.toNat v3)).toInt) 127) = 36 → (iq_P N xs 361 1257 [some (iq_r 1000000), some (iq_r 0), some (iq_r 77), some (iq_i v3)] [] g l Q)) ∧
    ((iq_and ((xs (Int.toNat v3)).toInt) 127) = 37 → (iq_P N xs 361 1280 [some (iq_r 1000000), some (iq_r 0), some (iq_r 77), some (iq_i v3)] [] g l Q)) ∧
    ((iq_and ((xs (Int.toNat v3)).toInt) 127) = 38 → (iq_P N xs 361 1313 [some (iq_r 1000000), some (iq_r 0), some (iq_r 77), some (iq_i v3)] [] g l Q)) ∧
    ((iq_and ((xs (Int.toNat v3)).toInt) 127) = 39 → (iq_P N xs 361 1346 [some (iq_r 1000000), some (iq_r 0), some (iq_r 77), some (iq_i v3)] [] g l Q)) ∧
    ((iq_and ((xs (Int.toNat v3)).toInt) 127) = 40 → (iq_P N xs 361 1369 [some (iq_r 1000000), some (iq_r 0), some (iq_r 77), some (iq_i v3)] [] g l Q)) ∧
    ((iq_and ((xs (Int.toNat v3)).toInt) 127) = 41 → (iq_P N xs 361 1402 [some (iq_r 1000000), some (iq_r 0), some (iq_r 77), some (iq_i v3)] [] g l Q)) ∧
    ((iq_and ((xs (Int.toNat v3)).toInt) 127) = 42 → (iq_P N xs 361 1425 [some (iq_r 1000000), some (iq_r 0), some (iq_r 77), some (iq_i v3)] [] g l Q)) ∧
    ((iq_and ((xs (Int.toNat v3)).toInt) 127) = 43 → (iq_P N xs 361 1458 [some (iq_r 1000000), some (iq_r 0), some (iq_r 77), some (iq_i v3)] [] g l Q)) ∧
    ((iq_and ((xs (Int.toNat v3)).toInt) 127) = 44 → (iq_P N xs 361 1471 [some (iq_r 1000000), some (iq_r 0), some (iq_r 77), some (iq_i v3)] [] g l Q)) ∧
    ((iq_and ((xs (Int.toNat v3)).toInt) 127) = 45 → (iq_P N xs 361 1494 [some (iq_r 1000000), some (iq_r 0), some (iq_r 77), some (iq_i v3)] [] g l Q)) ∧
    ((iq_and ((xs (Int.toNat v3)).toInt) 127) = 46 → (iq_P N xs 361 1507 [some (iq_r 1000000), some (iq_r 0), some (iq_r 77), some (iq_i v3)] [] g l Q)) ∧
    ((iq_and ((xs (Int.toNat v3)).toInt) 127) = 47 → (iq_P N xs 361 1520 [some (iq_r 1000000), some (iq_r 0), some (iq_r 77), some (iq_i v3)] [] g l Q)) ∧
    ((iq_and ((xs (Int.toNat v3)).toInt) 127) = 48 → (iq_P N xs 361 1533 [some (iq_r 1000000), some (iq_r 0), some (iq_r 77), some (iq_i v3)] [] g l Q)) ∧
    ((iq_and ((xs (Int.toNat v3)).toInt) 127) = 49 → (iq_P N xs 361 1556 [some (iq_r 1000000), some (iq_r 0), some (iq_r 77), some (iq_i v3)] [] g l Q)) ∧
    ((iq_and ((xs (Int.toNat v3)).toInt) 127) = 50 → (iq_P N xs 361 1569 [some (iq_r 1000000), some (iq_r 0), some (iq_r 77), some (iq_i v3)] [] g l Q)) ∧
    ((iq_and ((xs (Int.toNat v3)).toInt) 127) = 51 → (iq_P N xs 361 1592 [some (iq_r 1000000), some (iq_r 0), some (iq_r 77), some (iq_i v3)] [] g l Q)) ∧
    ((iq_and ((xs (Int.toNat v3)).toInt) 127) = 52 → (iq_P N xs 361 1605 [some (iq_r 1000000), some (iq_r 0), some (iq_r 77), some (iq_i v3)] [] g l Q)) ∧
    ((iq_and ((xs (Int.toNat v3)).toInt) 127) = 53 → (iq_P N xs 361 1628 [some (iq_r 1000000), some (iq_r 0), some (iq_r 77), some (iq_i v3)] [] g l Q)) ∧
    ((iq_and ((xs (Int.toNat v3)).toInt) 127) = 54 → (iq_P N xs 361 1651 [some (iq_r 1000000), some (iq_r 0), some (iq_r 77), some (iq_i v3)] [] g l Q)) ∧
    ((iq_and ((xs (Int.toNat v3)).toInt) 127) = 55 → (iq_P N xs 361 1664 [some (iq_r 1000000), some (iq_r 0), some (iq_r 77), some (iq_i v3)] [] g l Q)) ∧
    ((iq_and ((xs (Int.toNat v3)).toInt) 127) = 56 → (iq_P N xs 361 1687 [some (iq_r 1000000), some (iq_r 0), some (iq_r 77), some (iq_i v3)] [] g l Q)) ∧
    ((iq_and ((xs (Int.toNat v3)).toInt) 127) = 57 → (iq_P N xs 361 1700 [some (iq_r 1000000), some (iq_r 0), some (iq_r 77), some (iq_i v3)] [] g l Q)) ∧
    ((iq_and ((xs (Int.toNat v3)).toInt) 127) = 58 → (iq_P N xs 361 1723 [some (iq_r 1000000), some (iq_r 0), some (iq_r 77), some (iq_i v3)] [] g l Q)) ∧
    ((iq_and ((xs (Int.toNat v3)).toInt) 127) = 59 → (iq_P N xs 361 1756 [some (iq_r 1000000), some (iq_r 0), some (iq_r 77), some (iq_i v3)] [] g l Q)) ∧
    ((iq_and ((xs (Int.toNat v3)).toInt) 127) = 60 → (iq_P N xs 361 1779 [some (iq_r 1000000), some (iq_r 0), some (iq_r 77), some (iq_i v3)] [] g l Q)) ∧
    ((iq_and ((xs (Int.toNat v3)).toInt) 127) = 61 → (iq_P N xs 361 1812 [some (iq_r 1000000), some (iq_r 0), some (iq_r 77), some (iq_i v3)] [] g l Q)) ∧
    ((iq_and ((xs (Int.toNat v3)).toInt) 127) = 62 → (iq_P N xs 361 1835 [some (iq_r 1000000), some (iq_r 0), some (iq_r 77), some (iq_i v3)] [] g l Q)) ∧
    ((iq_and ((xs (Int.toNat v3)).toInt) 127) = 63 → (iq_P N xs 361 1858 [some (iq_r 1000000), some (iq_r 0), some (iq_r 77), some (iq_i v3)] [] g l Q)) ∧
    ((iq_and ((xs (Int.toNat v3)).toInt) 127) = 64 → (iq_P N xs 361 1881 [some (iq_r 1000000), some (iq_r 0), some (iq_r 77), some (iq_i v3)] [] g l Q)) ∧
    ((iq_and ((xs (Int.toNat v3)).toInt) 127) = 65 → (iq_P N xs 361 1914 [some (iq_r 1000000), some (iq_r 0), some (iq_r 77), some (iq_i v3)] [] g l Q)) ∧
    ((iq_and ((xs (Int.toNat v3)).toInt) 127) = 66 → (iq_P N xs 361 1927 [some (iq_r 1000000), some (iq_r 0), some (iq_r 77), some (iq_i v3)] [] g l Q)) ∧ True) ∧
    (((iq_and ((xs (Int.toNat v3)).toInt) 127) < 0 ∨ 66 < (iq_and ((xs (Int.toNat v3)).toInt) 127)) → (iq_P N xs 361 1940 [some (iq_r 1000000), some (iq_r 0), some (iq_r 77), some (iq_i v3)] [] g l Q)))) :
    iq_P N xs 361 27 [some (iq_r 1000000), some (iq_r 0), some (iq_r 77), some (iq_i v3)] [] g l Q := iq_w_ok (cuts := [316, 329, 343, 357, 400, 473, 507, 570, 633, 656, 679, 702, 725, 748, 771, 794, 817, 850, 873, 896, 929, 952, 975, 988, 1011, 1024, 1047, 1070, 1093, 1106, 1119, 1142, 1155, 1188, 1211, 1234, 1257, 1280, 1313, 1346, 1369, 1402, 1425, 1458, 1471, 1494, 1507, 1520, 1533, 1556, 1569, 1592, 1605, 1628, 1651, 1664, 1687, 1700, 1723, 1756, 1779, 1812, 1835, 1858, 1881, 1914, 1927, 1940]) 6 27 _ _ _ _ H

-- ScaleForgeLaw.law([I)Z at 1940
set_option maxRecDepth 20000 in
theorem B361_n {N : Nat} {xs : Nat → Int32} {Q : iq_T} (v3 : Int) (g : iq_I) (l : iq_J) (H : iq_P N xs 361 18 [some (iq_r 1000000), some (iq_r 0), some (iq_r 77), some (iq_i (v3 + 6))] [] g l Q) :
    iq_P N xs 361 1940 [some (iq_r 1000000), some (iq_r 0), some (iq_r 77), some (iq_i v3)] [] g l Q := iq_w_ok (cuts := [18]) 2 1940 _ _ _ _ H

-- ScaleForgeLaw.law([I)Z at 1946
set_option maxRecDepth 20000 in
theorem B361_e {N : Nat} {xs : Nat → Int32} {Q : iq_T} (v3 : Int) (g : iq_I) (l : iq_J) (H : Q (some (iq_i 1)) g l) :
    iq_P N xs 361 1946 [some (iq_r 1000000), some (iq_r 0), some (iq_r 77), some (iq_i v3)] [] g l Q := iq_w_ok (cuts := []) 2 1946 _ _ _ _ H

-- ScaleForgeLaw.law([I)Z at 316
set_option maxRecDepth 20000 in
theorem B361_c0 {N : Nat} {xs : Nat → Int32} {Q : iq_T} (v3 : Int) (g : iq_I) (l : iq_J) (H : iq_P N xs 21 0 [some (iq_r 0)] [] g l (fun r g1 l2 => ∃ z3, r = some (iq_i z3) ∧ (iq_P N xs 361 320 [some (iq_r 1000000), some (iq_r 0), some (iq_r 77), some (iq_i v3)] [iq_i z3] g1 l2 Q))) :
    iq_P N xs 361 316 [some (iq_r 1000000), some (iq_r 0), some (iq_r 77), some (iq_i v3)] [] g l Q := iq_w_ok (cuts := [320]) 2 316 _ _ _ _ H

-- ScaleForgeLaw.law([I)Z at 320
set_option maxRecDepth 20000 in
theorem B361_d0 {N : Nat} {xs : Nat → Int32} {Q : iq_T} (v3 : Int) (w0 : Int) (g : iq_I) (l : iq_J) (H : iq_P N xs 22 0 [some (iq_r 77)] [] g l (fun r g1 l2 => ∃ z3, r = some (iq_i z3) ∧ ((-2147483648 ≤ w0 ∧ w0 ≤ 2147483647 ∧ -2147483648 ≤ z3 ∧ z3 ≤ 2147483647) ∧
      (w0 = z3 → (iq_P N xs 361 1940 [some (iq_r 1000000), some (iq_r 0), some (iq_r 77), some (iq_i v3)] [] g1 l2 Q)) ∧
      (¬ w0 = z3 → (Q (some (iq_i 0)) g1 l2))))) :
    iq_P N xs 361 320 [some (iq_r 1000000), some (iq_r 0), some (iq_r 77), some (iq_i v3)] [iq_i w0] g l Q := iq_w_ok (cuts := [1940]) 5 320 _ _ _ _ H

-- ScaleForgeLaw.law([I)Z at 329
set_option maxRecDepth 20000 in
theorem B361_c1 {N : Nat} {xs : Nat → Int32} {Q : iq_T} (v3 : Int) (g : iq_I) (l : iq_J) (H : iq_P N xs 23 0 [some (iq_r 0)] [] g l (fun r g1 l2 => ∃ x3, r = some (iq_l x3) ∧ (iq_P N xs 361 333 [some (iq_r 1000000), some (iq_r 0), some (iq_r 77), some (iq_i v3)] [iq_l x3] g1 l2 Q))) :
    iq_P N xs 361 329 [some (iq_r 1000000), some (iq_r 0), some (iq_r 77), some (iq_i v3)] [] g l Q := iq_w_ok (cuts := [333]) 2 329 _ _ _ _ H

-- ScaleForgeLaw.law([I)Z at 333
set_option maxRecDepth 20000 in
theorem B361_d1 {N : Nat} {xs : Nat → Int32} {Q : iq_T} (v3 : Int) (w0 : Int64) (g : iq_I) (l : iq_J) (H : iq_P N xs 24 0 [some (iq_r 77)] [] g l (fun r g1 l2 => ∃ x3, r = some (iq_l x3) ∧ ((-2147483648 ≤ (iq_lc w0 x3) ∧ (iq_lc w0 x3) ≤ 2147483647) ∧
      ((iq_lc w0 x3) = (0 : Int) → (iq_P N xs 361 1940 [some (iq_r 1000000), some (iq_r 0), some (iq_r 77), some (iq_i v3)] [] g1 l2 Q)) ∧
      (¬ (iq_lc w0 x3) = (0 : Int) → (Q (some (iq_i 0)) g1 l2))))) :
    iq_P N xs 361 333 [some (iq_r 1000000), some (iq_r 0), some (iq_r 77), some (iq_i v3)] [iq_l w0] g l Q := iq_w_ok (cuts := [1940]) 6 333 _ _ _ _ H

-- ScaleForgeLaw.law([I)Z at 343
set_option maxRecDepth 20000 in
theorem B361_c2 {N : Nat} {xs : Nat → Int32} {Q : iq_T} (v3 : Int) (g : iq_I) (l : iq_J) (H : iq_P N xs 25 0 [some (iq_r 0)] [] g l (fun r g1 l2 => ∃ x3, r = some (iq_l x3) ∧ (iq_P N xs 361 347 [some (iq_r 1000000), some (iq_r 0), some (iq_r 77), some (iq_i v3)] [iq_l x3] g1 l2 Q))) :
    iq_P N xs 361 343 [some (iq_r 1000000), some (iq_r 0), some (iq_r 77), some (iq_i v3)] [] g l Q := iq_w_ok (cuts := [347]) 2 343 _ _ _ _ H

-- ScaleForgeLaw.law([I)Z at 347
set_option maxRecDepth 20000 in
theorem B361_d2 {N : Nat} {xs : Nat → Int32} {Q : iq_T} (v3 : Int) (w0 : Int64) (g : iq_I) (l : iq_J) (H : iq_P N xs 26 0 [some (iq_r 77)] [] g l (fun r g1 l2 => ∃ x3, r = some (iq_l x3) ∧ ((-2147483648 ≤ (iq_lc w0 x3) ∧ (iq_lc w0 x3) ≤ 2147483647) ∧
      ((iq_lc w0 x3) = (0 : Int) → (iq_P N xs 361 1940 [some (iq_r 1000000), some (iq_r 0), some (iq_r 77), some (iq_i v3)] [] g1 l2 Q)) ∧
      (¬ (iq_lc w0 x3) = (0 : Int) → (Q (some (iq_i 0)) g1 l2))))) :
    iq_P N xs 361 347 [some (iq_r 1000000), some (iq_r 0), some (iq_r 77), some (iq_i v3)] [iq_l w0] g l Q := iq_w_ok (cuts := [1940]) 6 347 _ _ _ _ H

-- ScaleForgeLaw.law([I)Z at 357
set_option maxRecDepth 20000 in
theorem B361_c3 {N : Nat} {xs : Nat → Int32} {Q : iq_T} (v3 : Int) (g : iq_I) (l : iq_J) (H : (0 ≤ (v3 + 1) ∧ (v3 + 1) < N ∧ (v3 + 1) ≤ 65536) ∧ ((0 ≤ (v3 + 2) ∧ (v3 + 2) < N ∧ (v3 + 2) ≤ 65536) ∧ ((0 ≤ (v3 + 3) ∧ (v3 + 3) < N ∧ (v3 + 3) ≤ 65536) ∧ (iq_P N xs 31 0 [some (iq_r 0), some (iq_i ((xs (Int.toNat (v3 + 1))).toInt)), some (iq_i ((xs (Int.toNat (v3 + 2))).toInt)), some (iq_i ((xs (Int.toNat (v3 + 3))).toInt)), none] [] g l (fun r g1 l2 => ∃ z3, r = some (iq_i z3) ∧ (iq_P N xs 361 376 [some (iq_r 1000000), some (iq_r 0), some (iq_r 77), some (iq_i v3)] [iq_i z3] g1 l2 Q)))))) :
    iq_P N xs 361 357 [some (iq_r 1000000), some (iq_r 0), some (iq_r 77), some (iq_i v3)] [] g l Q := iq_w_ok (cuts := [376]) 17 357 _ _ _ _ H

-- ScaleForgeLaw.law([I)Z at 376
set_option maxRecDepth 20000 in
theorem B361_d3 {N : Nat} {xs : Nat → Int32} {Q : iq_T} (v3 : Int) (w0 : Int) (g : iq_I) (l : iq_J) (H : (0 ≤ (v3 + 1) ∧ (v3 + 1) < N ∧ (v3 + 1) ≤ 65536) ∧ ((0 ≤ (v3 + 2) ∧ (v3 + 2) < N ∧ (v3 + 2) ≤ 65536) ∧ ((0 ≤ (v3 + 3) ∧ (v3 + 3) < N ∧ (v3 + 3) ≤ 65536) ∧ (iq_P N xs 34 0 [some (iq_r 77), some (iq_i ((xs (Int.toNat (v3 + 1))).toInt)), some (iq_i ((xs (Int.toNat (v3 + 2))).toInt)), some (iq_i ((xs (Int.toNat (v3 + 3))).toInt)), none] [] g l (fun r g1 l2 => ∃ z3, r = some (iq_i z3) ∧ ((-2147483648 ≤ w0 ∧ w0 ≤ 2147483647 ∧ -2147483648 ≤ z3 ∧ z3 ≤ 2147483647) ∧
      (w0 = z3 → (iq_P N xs 361 1940 [some (iq_r 1000000), some (iq_r 0), some (iq_r 77), some (iq_i v3)] [] g1 l2 Q)) ∧
      (¬ w0 = z3 → (Q (some (iq_i 0)) g1 l2)))))))) :
    iq_P N xs 361 376 [some (iq_r 1000000), some (iq_r 0), some (iq_r 77), some (iq_i v3)] [iq_i w0] g l Q := iq_w_ok (cuts := [1940]) 20 376 _ _ _ _ H

-- ScaleForgeLaw.law([I)Z at 400
set_option maxRecDepth 20000 in
theorem B361_c4 {N : Nat} {xs : Nat → Int32} {Q : iq_T} (v3 : Int) (g : iq_I) (l : iq_J) (H : (0 ≤ (v3 + 1) ∧ (v3 + 1) < N ∧ (v3 + 1) ≤ 65536) ∧ ((0 ≤ (v3 + 2) ∧ (v3 + 2) < N ∧ (v3 + 2) ≤ 65536) ∧ ((0 ≤ (v3 + 3) ∧ (v3 + 3) < N ∧ (v3 + 3) ≤ 65536) ∧ ((0 ≤ (v3 + 4) ∧ (v3 + 4) < N ∧ (v3 + 4) ≤ 65536) ∧ (iq_P N xs 40 0 [some (iq_r 0), some (iq_i ((xs (Int.toNat (v3 + 1))).toInt)), some (iq_i ((xs (Int.toNat (v3 + 2))).toInt)), some (iq_l ((iq_lsl (iq_i2l ((xs (Int.toNat (v3 + 3))).toInt)) 32) ||| ((iq_i2l ((xs (Int.toNat (v3 + 4))).toInt)) &&& (Int64.ofNat 4294967295)))), none, none, none] [] g l (fun r g1 l2 => ∃ z3, r = some (iq_i z3) ∧ (iq_P N xs 361 434 [some (iq_r 1000000), some (iq_r 0), some (iq_r 77), some (iq_i v3)] [iq_i z3] g1 l2 Q))))))) :
    iq_P N xs 361 400 [some (iq_r 1000000), some (iq_r 0), some (iq_r 77), some (iq_i v3)] [] g l Q := iq_w_ok (cuts := [434]) 29 400 _ _ _ _ H

-- ScaleForgeLaw.law([I)Z at 434
set_option maxRecDepth 20000 in
theorem B361_d4 {N : Nat} {xs : Nat → Int32} {Q : iq_T} (v3 : Int) (w0 : Int) (g : iq_I) (l : iq_J) (H : (0 ≤ (v3 + 1) ∧ (v3 + 1) < N ∧ (v3 + 1) ≤ 65536) ∧ ((0 ≤ (v3 + 2) ∧ (v3 + 2) < N ∧ (v3 + 2) ≤ 65536) ∧ ((0 ≤ (v3 + 3) ∧ (v3 + 3) < N ∧ (v3 + 3) ≤ 65536) ∧ ((0 ≤ (v3 + 4) ∧ (v3 + 4) < N ∧ (v3 + 4) ≤ 65536) ∧ (iq_P N xs 43 0 [some (iq_r 77), some (iq_i ((xs (Int.toNat (v3 + 1))).toInt)), some (iq_i ((xs (Int.toNat (v3 + 2))).toInt)), some (iq_l ((iq_lsl (iq_i2l ((xs (Int.toNat (v3 + 3))).toInt)) 32) ||| ((iq_i2l ((xs (Int.toNat (v3 + 4))).toInt)) &&& (Int64.ofNat 4294967295)))), none, none] [] g l (fun r g1 l2 => ∃ z3, r = some (iq_i z3) ∧ ((-2147483648 ≤ w0 ∧ w0 ≤ 2147483647 ∧ -2147483648 ≤ z3 ∧ z3 ≤ 2147483647) ∧
      (w0 = z3 → (iq_P N xs 361 1940 [some (iq_r 1000000), some (iq_r 0), some (iq_r 77), some (iq_i v3)] [] g1 l2 Q)) ∧
      (¬ w0 = z3 → (Q (some (iq_i 0)) g1 l2))))))))) :
    iq_P N xs 361 434 [some (iq_r 1000000), some (iq_r 0), some (iq_r 77), some (iq_i v3)] [iq_i w0] g l Q := iq_w_ok (cuts := [1940]) 32 434 _ _ _ _ H

-- ScaleForgeLaw.law([I)Z at 473
set_option maxRecDepth 20000 in
theorem B361_c5 {N : Nat} {xs : Nat → Int32} {Q : iq_T} (v3 : Int) (g : iq_I) (l : iq_J) (H : (0 ≤ (v3 + 1) ∧ (v3 + 1) < N ∧ (v3 + 1) ≤ 65536) ∧ ((0 ≤ (v3 + 2) ∧ (v3 + 2) < N ∧ (v3 + 2) ≤ 65536) ∧ (iq_P N xs 46 0 [some (iq_r 0), some (iq_i ((xs (Int.toNat (v3 + 1))).toInt)), some (iq_i ((xs (Int.toNat (v3 + 2))).toInt)), none, none] [] g l (fun r g1 l2 => ∃ x3, r = some (iq_l x3) ∧ (iq_P N xs 361 487 [some (iq_r 1000000), some (iq_r 0), some (iq_r 77), some (iq_i v3)] [iq_l x3] g1 l2 Q))))) :
    iq_P N xs 361 473 [some (iq_r 1000000), some (iq_r 0), some (iq_r 77), some (iq_i v3)] [] g l Q := iq_w_ok (cuts := [487]) 12 473 _ _ _ _ H

-- ScaleForgeLaw.law([I)Z at 487
set_option maxRecDepth 20000 in
theorem B361_d5 {N : Nat} {xs : Nat → Int32} {Q : iq_T} (v3 : Int) (w0 : Int64) (g : iq_I) (l : iq_J) (H : (0 ≤ (v3 + 1) ∧ (v3 + 1) < N ∧ (v3 + 1) ≤ 65536) ∧ ((0 ≤ (v3 + 2) ∧ (v3 + 2) < N ∧ (v3 + 2) ≤ 65536) ∧ (iq_P N xs 47 0 [some (iq_r 77), some (iq_i ((xs (Int.toNat (v3 + 1))).toInt)), some (iq_i ((xs (Int.toNat (v3 + 2))).toInt))] [] g l (fun r g1 l2 => ∃ x3, r = some (iq_l x3) ∧ ((-2147483648 ≤ (iq_lc w0 x3) ∧ (iq_lc w0 x3) ≤ 2147483647) ∧
      ((iq_lc w0 x3) = (0 : Int) → (iq_P N xs 361 1940 [some (iq_r 1000000), some (iq_r 0), some (iq_r 77), some (iq_i v3)] [] g1 l2 Q)) ∧
      (¬ (iq_lc w0 x3) = (0 : Int) → (Q (some (iq_i 0)) g1 l2))))))) :
    iq_P N xs 361 487 [some (iq_r 1000000), some (iq_r 0), some (iq_r 77), some (iq_i v3)] [iq_l w0] g l Q := iq_w_ok (cuts := [1940]) 16 487 _ _ _ _ H

-- ScaleForgeLaw.law([I)Z at 507
set_option maxRecDepth 20000 in
theorem B361_c6 {N : Nat} {xs : Nat → Int32} {Q : iq_T} (v3 : Int) (g : iq_I) (l : iq_J) (H : (0 ≤ (v3 + 1) ∧ (v3 + 1) < N ∧ (v3 + 1) ≤ 65536) ∧ ((0 ≤ (v3 + 2) ∧ (v3 + 2) < N ∧ (v3 + 2) ≤ 65536) ∧ ((0 ≤ (v3 + 3) ∧ (v3 + 3) < N ∧ (v3 + 3) ≤ 65536) ∧ ((0 ≤ (v3 + 4) ∧ (v3 + 4) < N ∧ (v3 + 4) ≤ 65536) ∧ ((0 ≤ (v3 + 5) ∧ (v3 + 5) < N ∧ (v3 + 5) ≤ 65536) ∧ (iq_P N xs 49 0 [some (iq_r 0), some (iq_i ((xs (Int.toNat (v3 + 1))).toInt)), some (iq_i ((xs (Int.toNat (v3 + 2))).toInt)), some (iq_i ((xs (Int.toNat (v3 + 3))).toInt)), some (iq_i ((xs (Int.toNat (v3 + 4))).toInt)), some (iq_i ((xs (Int.toNat (v3 + 5))).toInt)), none, none] [] g l (fun r g1 l2 => ∃ z3, r = some (iq_i z3) ∧ (iq_P N xs 361 536 [some (iq_r 1000000), some (iq_r 0), some (iq_r 77), some (iq_i v3)] [iq_i z3] g1 l2 Q)))))))) :
    iq_P N xs 361 507 [some (iq_r 1000000), some (iq_r 0), some (iq_r 77), some (iq_i v3)] [] g l Q := iq_w_ok (cuts := [536]) 27 507 _ _ _ _ H

-- ScaleForgeLaw.law([I)Z at 536
set_option maxRecDepth 20000 in
theorem B361_d6 {N : Nat} {xs : Nat → Int32} {Q : iq_T} (v3 : Int) (w0 : Int) (g : iq_I) (l : iq_J) (H : (0 ≤ (v3 + 1) ∧ (v3 + 1) < N ∧ (v3 + 1) ≤ 65536) ∧ ((0 ≤ (v3 + 2) ∧ (v3 + 2) < N ∧ (v3 + 2) ≤ 65536) ∧ ((0 ≤ (v3 + 3) ∧ (v3 + 3) < N ∧ (v3 + 3) ≤ 65536) ∧ ((0 ≤ (v3 + 4) ∧ (v3 + 4) < N ∧ (v3 + 4) ≤ 65536) ∧ ((0 ≤ (v3 + 5) ∧ (v3 + 5) < N ∧ (v3 + 5) ≤ 65536) ∧ (iq_P N xs 50 0 [some (iq_r 77), some (iq_i ((xs (Int.toNat (v3 + 1))).toInt)), some (iq_i ((xs (Int.toNat (v3 + 2))).toInt)), some (iq_i ((xs (Int.toNat (v3 + 3))).toInt)), some (iq_i ((xs (Int.toNat (v3 + 4))).toInt)), some (iq_i ((xs (Int.toNat (v3 + 5))).toInt)), none, none] [] g l (fun r g1 l2 => ∃ z3, r = some (iq_i z3) ∧ ((-2147483648 ≤ w0 ∧ w0 ≤ 2147483647 ∧ -2147483648 ≤ z3 ∧ z3 ≤ 2147483647) ∧
      (w0 = z3 → (iq_P N xs 361 1940 [some (iq_r 1000000), some (iq_r 0), some (iq_r 77), some (iq_i v3)] [] g1 l2 Q)) ∧
      (¬ w0 = z3 → (Q (some (iq_i 0)) g1 l2)))))))))) :
    iq_P N xs 361 536 [some (iq_r 1000000), some (iq_r 0), some (iq_r 77), some (iq_i v3)] [iq_i w0] g l Q := iq_w_ok (cuts := [1940]) 30 536 _ _ _ _ H

-- ScaleForgeLaw.law([I)Z at 570
set_option maxRecDepth 20000 in
theorem B361_c7 {N : Nat} {xs : Nat → Int32} {Q : iq_T} (v3 : Int) (g : iq_I) (l : iq_J) (H : (0 ≤ (v3 + 1) ∧ (v3 + 1) < N ∧ (v3 + 1) ≤ 65536) ∧ ((0 ≤ (v3 + 2) ∧ (v3 + 2) < N ∧ (v3 + 2) ≤ 65536) ∧ ((0 ≤ (v3 + 3) ∧ (v3 + 3) < N ∧ (v3 + 3) ≤ 65536) ∧ ((0 ≤ (v3 + 4) ∧ (v3 + 4) < N ∧ (v3 + 4) ≤ 65536) ∧ ((0 ≤ (v3 + 5) ∧ (v3 + 5) < N ∧ (v3 + 5) ≤ 65536) ∧ (iq_P N xs 52 0 [some (iq_r 0), some (iq_i ((xs (Int.toNat (v3 + 1))).toInt)), some (iq_i ((xs (Int.toNat (v3 + 2))).toInt)), some (iq_i ((xs (Int.toNat (v3 + 3))).toInt)), some (iq_i ((xs (Int.toNat (v3 + 4))).toInt)), some (iq_i ((xs (Int.toNat (v3 + 5))).toInt))] [] g l (fun r g1 l2 => ∃ z3, r = some (iq_i z3) ∧ (iq_P N xs 361 599 [some (iq_r 1000000), some (iq_r 0), some (iq_r 77), some (iq_i v3)] [iq_i z3] g1 l2 Q)))))))) :
    iq_P N xs 361 570 [some (iq_r 1000000), some (iq_r 0), some (iq_r 77), some (iq_i v3)] [] g l Q := iq_w_ok (cuts := [599]) 27 570 _ _ _ _ H

-- ScaleForgeLaw.law([I)Z at 599
set_option maxRecDepth 20000 in
theorem B361_d7 {N : Nat} {xs : Nat → Int32} {Q : iq_T} (v3 : Int) (w0 : Int) (g : iq_I) (l : iq_J) (H : (0 ≤ (v3 + 1) ∧ (v3 + 1) < N ∧ (v3 + 1) ≤ 65536) ∧ ((0 ≤ (v3 + 2) ∧ (v3 + 2) < N ∧ (v3 + 2) ≤ 65536) ∧ ((0 ≤ (v3 + 3) ∧ (v3 + 3) < N ∧ (v3 + 3) ≤ 65536) ∧ ((0 ≤ (v3 + 4) ∧ (v3 + 4) < N ∧ (v3 + 4) ≤ 65536) ∧ ((0 ≤ (v3 + 5) ∧ (v3 + 5) < N ∧ (v3 + 5) ≤ 65536) ∧ (iq_P N xs 54 0 [some (iq_r 77), some (iq_i ((xs (Int.toNat (v3 + 1))).toInt)), some (iq_i ((xs (Int.toNat (v3 + 2))).toInt)), some (iq_i ((xs (Int.toNat (v3 + 3))).toInt)), some (iq_i ((xs (Int.toNat (v3 + 4))).toInt)), some (iq_i ((xs (Int.toNat (v3 + 5))).toInt))] [] g l (fun r g1 l2 => ∃ z3, r = some (iq_i z3) ∧ ((-2147483648 ≤ w0 ∧ w0 ≤ 2147483647 ∧ -2147483648 ≤ z3 ∧ z3 ≤ 2147483647) ∧
      (w0 = z3 → (iq_P N xs 361 1940 [some (iq_r 1000000), some (iq_r 0), some (iq_r 77), some (iq_i v3)] [] g1 l2 Q)) ∧
      (¬ w0 = z3 → (Q (some (iq_i 0)) g1 l2)))))))))) :
    iq_P N xs 361 599 [some (iq_r 1000000), some (iq_r 0), some (iq_r 77), some (iq_i v3)] [iq_i w0] g l Q := iq_w_ok (cuts := [1940]) 30 599 _ _ _ _ H

-- ScaleForgeLaw.law([I)Z at 633
set_option maxRecDepth 20000 in
theorem B361_c8 {N : Nat} {xs : Nat → Int32} {Q : iq_T} (v3 : Int) (g : iq_I) (l : iq_J) (H : (0 ≤ (v3 + 1) ∧ (v3 + 1) < N ∧ (v3 + 1) ≤ 65536) ∧ (iq_P N xs 91 0 [some (iq_r 0), some (iq_i ((xs (Int.toNat (v3 + 1))).toInt)), none] [] g l (fun r g1 l2 => ∃ z3, r = some (iq_i z3) ∧ (iq_P N xs 361 642 [some (iq_r 1000000), some (iq_r 0), some (iq_r 77), some (iq_i v3)] [iq_i z3] g1 l2 Q)))) :
    iq_P N xs 361 633 [some (iq_r 1000000), some (iq_r 0), some (iq_r 77), some (iq_i v3)] [] g l Q := iq_w_ok (cuts := [642]) 7 633 _ _ _ _ H

-- ScaleForgeLaw.law([I)Z at 642
set_option maxRecDepth 20000 in
theorem B361_d8 {N : Nat} {xs : Nat → Int32} {Q : iq_T} (v3 : Int) (w0 : Int) (g : iq_I) (l : iq_J) (H : (0 ≤ (v3 + 1) ∧ (v3 + 1) < N ∧ (v3 + 1) ≤ 65536) ∧ (iq_P N xs 117 0 [some (iq_r 77), some (iq_i ((xs (Int.toNat (v3 + 1))).toInt)), none, none] [] g l (fun r g1 l2 => ∃ z3, r = some (iq_i z3) ∧ ((-2147483648 ≤ w0 ∧ w0 ≤ 2147483647 ∧ -2147483648 ≤ z3 ∧ z3 ≤ 2147483647) ∧
      (w0 = z3 → (iq_P N xs 361 1940 [some (iq_r 1000000), some (iq_r 0), some (iq_r 77), some (iq_i v3)] [] g1 l2 Q)) ∧
      (¬ w0 = z3 → (Q (some (iq_i 0)) g1 l2)))))) :
    iq_P N xs 361 642 [some (iq_r 1000000), some (iq_r 0), some (iq_r 77), some (iq_i v3)] [iq_i w0] g l Q := iq_w_ok (cuts := [1940]) 10 642 _ _ _ _ H

-- ScaleForgeLaw.law([I)Z at 656
set_option maxRecDepth 20000 in
theorem B361_c9 {N : Nat} {xs : Nat → Int32} {Q : iq_T} (v3 : Int) (g : iq_I) (l : iq_J) (H : (0 ≤ (v3 + 1) ∧ (v3 + 1) < N ∧ (v3 + 1) ≤ 65536) ∧ (iq_P N xs 128 0 [some (iq_r 0), some (iq_i ((xs (Int.toNat (v3 + 1))).toInt)), none] [] g l (fun r g1 l2 => ∃ z3, r = some (iq_i z3) ∧ (iq_P N xs 361 665 [some (iq_r 1000000), some (iq_r 0), some (iq_r 77), some (iq_i v3)] [iq_i z3] g1 l2 Q)))) :
    iq_P N xs 361 656 [some (iq_r 1000000), some (iq_r 0), some (iq_r 77), some (iq_i v3)] [] g l Q := iq_w_ok (cuts := [665]) 7 656 _ _ _ _ H

-- ScaleForgeLaw.law([I)Z at 665
set_option maxRecDepth 20000 in
theorem B361_d9 {N : Nat} {xs : Nat → Int32} {Q : iq_T} (v3 : Int) (w0 : Int) (g : iq_I) (l : iq_J) (H : (0 ≤ (v3 + 1) ∧ (v3 + 1) < N ∧ (v3 + 1) ≤ 65536) ∧ (iq_P N xs 132 0 [some (iq_r 77), some (iq_i ((xs (Int.toNat (v3 + 1))).toInt)), none, none] [] g l (fun r g1 l2 => ∃ z3, r = some (iq_i z3) ∧ ((-2147483648 ≤ w0 ∧ w0 ≤ 2147483647 ∧ -2147483648 ≤ z3 ∧ z3 ≤ 2147483647) ∧
      (w0 = z3 → (iq_P N xs 361 1940 [some (iq_r 1000000), some (iq_r 0), some (iq_r 77), some (iq_i v3)] [] g1 l2 Q)) ∧
      (¬ w0 = z3 → (Q (some (iq_i 0)) g1 l2)))))) :
    iq_P N xs 361 665 [some (iq_r 1000000), some (iq_r 0), some (iq_r 77), some (iq_i v3)] [iq_i w0] g l Q := iq_w_ok (cuts := [1940]) 10 665 _ _ _ _ H

-- ScaleForgeLaw.law([I)Z at 679
set_option maxRecDepth 20000 in
theorem B361_c10 {N : Nat} {xs : Nat → Int32} {Q : iq_T} (v3 : Int) (g : iq_I) (l : iq_J) (H : (0 ≤ (v3 + 1) ∧ (v3 + 1) < N ∧ (v3 + 1) ≤ 65536) ∧ (iq_P N xs 133 0 [some (iq_r 0), some (iq_i ((xs (Int.toNat (v3 + 1))).toInt))] [] g l (fun r g1 l2 => ∃ z3, r = some (iq_i z3) ∧ (iq_P N xs 361 688 [some (iq_r 1000000), some (iq_r 0), some (iq_r 77), some (iq_i v3)] [iq_i z3] g1 l2 Q)))) :
    iq_P N xs 361 679 [some (iq_r 1000000), some (iq_r 0), some (iq_r 77), some (iq_i v3)] [] g l Q := iq_w_ok (cuts := [688]) 7 679 _ _ _ _ H

-- ScaleForgeLaw.law([I)Z at 688
set_option maxRecDepth 20000 in
theorem B361_d10 {N : Nat} {xs : Nat → Int32} {Q : iq_T} (v3 : Int) (w0 : Int) (g : iq_I) (l : iq_J) (H : (0 ≤ (v3 + 1) ∧ (v3 + 1) < N ∧ (v3 + 1) ≤ 65536) ∧ (iq_P N xs 134 0 [some (iq_r 77), some (iq_i ((xs (Int.toNat (v3 + 1))).toInt))] [] g l (fun r g1 l2 => ∃ z3, r = some (iq_i z3) ∧ ((-2147483648 ≤ w0 ∧ w0 ≤ 2147483647 ∧ -2147483648 ≤ z3 ∧ z3 ≤ 2147483647) ∧
      (w0 = z3 → (iq_P N xs 361 1940 [some (iq_r 1000000), some (iq_r 0), some (iq_r 77), some (iq_i v3)] [] g1 l2 Q)) ∧
      (¬ w0 = z3 → (Q (some (iq_i 0)) g1 l2)))))) :
    iq_P N xs 361 688 [some (iq_r 1000000), some (iq_r 0), some (iq_r 77), some (iq_i v3)] [iq_i w0] g l Q := iq_w_ok (cuts := [1940]) 10 688 _ _ _ _ H

-- ScaleForgeLaw.law([I)Z at 702
set_option maxRecDepth 20000 in
theorem B361_c11 {N : Nat} {xs : Nat → Int32} {Q : iq_T} (v3 : Int) (g : iq_I) (l : iq_J) (H : (0 ≤ (v3 + 1) ∧ (v3 + 1) < N ∧ (v3 + 1) ≤ 65536) ∧ (iq_P N xs 142 0 [some (iq_r 0), some (iq_i ((xs (Int.toNat (v3 + 1))).toInt))] [] g l (fun r g1 l2 => ∃ z3, r = some (iq_i z3) ∧ (iq_P N xs 361 711 [some (iq_r 1000000), some (iq_r 0), some (iq_r 77), some (iq_i v3)] [iq_i z3] g1 l2 Q)))) :
    iq_P N xs 361 702 [some (iq_r 1000000), some (iq_r 0), some (iq_r 77), some (iq_i v3)] [] g l Q := iq_w_ok (cuts := [711]) 7 702 _ _ _ _ H

-- ScaleForgeLaw.law([I)Z at 711
set_option maxRecDepth 20000 in
theorem B361_d11 {N : Nat} {xs : Nat → Int32} {Q : iq_T} (v3 : Int) (w0 : Int) (g : iq_I) (l : iq_J) (H : (0 ≤ (v3 + 1) ∧ (v3 + 1) < N ∧ (v3 + 1) ≤ 65536) ∧ (iq_P N xs 145 0 [some (iq_r 77), some (iq_i ((xs (Int.toNat (v3 + 1))).toInt))] [] g l (fun r g1 l2 => ∃ z3, r = some (iq_i z3) ∧ ((-2147483648 ≤ w0 ∧ w0 ≤ 2147483647 ∧ -2147483648 ≤ z3 ∧ z3 ≤ 2147483647) ∧
      (w0 = z3 → (iq_P N xs 361 1940 [some (iq_r 1000000), some (iq_r 0), some (iq_r 77), some (iq_i v3)] [] g1 l2 Q)) ∧
      (¬ w0 = z3 → (Q (some (iq_i 0)) g1 l2)))))) :
    iq_P N xs 361 711 [some (iq_r 1000000), some (iq_r 0), some (iq_r 77), some (iq_i v3)] [iq_i w0] g l Q := iq_w_ok (cuts := [1940]) 10 711 _ _ _ _ H

-- ScaleForgeLaw.law([I)Z at 725
set_option maxRecDepth 20000 in
theorem B361_c12 {N : Nat} {xs : Nat → Int32} {Q : iq_T} (v3 : Int) (g : iq_I) (l : iq_J) (H : (0 ≤ (v3 + 1) ∧ (v3 + 1) < N ∧ (v3 + 1) ≤ 65536) ∧ (iq_P N xs 148 0 [some (iq_r 0), some (iq_i ((xs (Int.toNat (v3 + 1))).toInt))] [] g l (fun r g1 l2 => ∃ z3, r = some (iq_i z3) ∧ (iq_P N xs 361 734 [some (iq_r 1000000), some (iq_r 0), some (iq_r 77), some (iq_i v3)] [iq_i z3] g1 l2 Q)))) :
    iq_P N xs 361 725 [some (iq_r 1000000), some (iq_r 0), some (iq_r 77), some (iq_i v3)] [] g l Q := iq_w_ok (cuts := [734]) 7 725 _ _ _ _ H

-- ScaleForgeLaw.law([I)Z at 734
set_option maxRecDepth 20000 in
theorem B361_d12 {N : Nat} {xs : Nat → Int32} {Q : iq_T} (v3 : Int) (w0 : Int) (g : iq_I) (l : iq_J) (H : (0 ≤ (v3 + 1) ∧ (v3 + 1) < N ∧ (v3 + 1) ≤ 65536) ∧ (iq_P N xs 150 0 [some (iq_r 77), some (iq_i ((xs (Int.toNat (v3 + 1))).toInt))] [] g l (fun r g1 l2 => ∃ z3, r = some (iq_i z3) ∧ ((-2147483648 ≤ w0 ∧ w0 ≤ 2147483647 ∧ -2147483648 ≤ z3 ∧ z3 ≤ 2147483647) ∧
      (w0 = z3 → (iq_P N xs 361 1940 [some (iq_r 1000000), some (iq_r 0), some (iq_r 77), some (iq_i v3)] [] g1 l2 Q)) ∧
      (¬ w0 = z3 → (Q (some (iq_i 0)) g1 l2)))))) :
    iq_P N xs 361 734 [some (iq_r 1000000), some (iq_r 0), some (iq_r 77), some (iq_i v3)] [iq_i w0] g l Q := iq_w_ok (cuts := [1940]) 10 734 _ _ _ _ H

-- ScaleForgeLaw.law([I)Z at 748
set_option maxRecDepth 20000 in
theorem B361_c13 {N : Nat} {xs : Nat → Int32} {Q : iq_T} (v3 : Int) (g : iq_I) (l : iq_J) (H : (0 ≤ (v3 + 1) ∧ (v3 + 1) < N ∧ (v3 + 1) ≤ 65536) ∧ (iq_P N xs 152 0 [some (iq_r 0), some (iq_i ((xs (Int.toNat (v3 + 1))).toInt))] [] g l (fun r g1 l2 => ∃ z3, r = some (iq_i z3) ∧ (iq_P N xs 361 757 [some (iq_r 1000000), some (iq_r 0), some (iq_r 77), some (iq_i v3)] [iq_i z3] g1 l2 Q)))) :
    iq_P N xs 361 748 [some (iq_r 1000000), some (iq_r 0), some (iq_r 77), some (iq_i v3)] [] g l Q := iq_w_ok (cuts := [757]) 7 748 _ _ _ _ H

-- ScaleForgeLaw.law([I)Z at 757
set_option maxRecDepth 20000 in
theorem B361_d13 {N : Nat} {xs : Nat → Int32} {Q : iq_T} (v3 : Int) (w0 : Int) (g : iq_I) (l : iq_J) (H : (0 ≤ (v3 + 1) ∧ (v3 + 1) < N ∧ (v3 + 1) ≤ 65536) ∧ (iq_P N xs 154 0 [some (iq_r 77), some (iq_i ((xs (Int.toNat (v3 + 1))).toInt))] [] g l (fun r g1 l2 => ∃ z3, r = some (iq_i z3) ∧ ((-2147483648 ≤ w0 ∧ w0 ≤ 2147483647 ∧ -2147483648 ≤ z3 ∧ z3 ≤ 2147483647) ∧
      (w0 = z3 → (iq_P N xs 361 1940 [some (iq_r 1000000), some (iq_r 0), some (iq_r 77), some (iq_i v3)] [] g1 l2 Q)) ∧
      (¬ w0 = z3 → (Q (some (iq_i 0)) g1 l2)))))) :
    iq_P N xs 361 757 [some (iq_r 1000000), some (iq_r 0), some (iq_r 77), some (iq_i v3)] [iq_i w0] g l Q := iq_w_ok (cuts := [1940]) 10 757 _ _ _ _ H

-- ScaleForgeLaw.law([I)Z at 771
set_option maxRecDepth 20000 in
theorem B361_c14 {N : Nat} {xs : Nat → Int32} {Q : iq_T} (v3 : Int) (g : iq_I) (l : iq_J) (H : (0 ≤ (v3 + 1) ∧ (v3 + 1) < N ∧ (v3 + 1) ≤ 65536) ∧ (iq_P N xs 157 0 [some (iq_r 0), some (iq_i ((xs (Int.toNat (v3 + 1))).toInt))] [] g l (fun r g1 l2 => ∃ z3, r = some (iq_i z3) ∧ (iq_P N xs 361 780 [some (iq_r 1000000), some (iq_r 0), some (iq_r 77), some (iq_i v3)] [iq_i z3] g1 l2 Q)))) :
    iq_P N xs 361 771 [some (iq_r 1000000), some (iq_r 0), some (iq_r 77), some (iq_i v3)] [] g l Q := iq_w_ok (cuts := [780]) 7 771 _ _ _ _ H

-- ScaleForgeLaw.law([I)Z at 780
set_option maxRecDepth 20000 in
theorem B361_d14 {N : Nat} {xs : Nat → Int32} {Q : iq_T} (v3 : Int) (w0 : Int) (g : iq_I) (l : iq_J) (H : (0 ≤ (v3 + 1) ∧ (v3 + 1) < N ∧ (v3 + 1) ≤ 65536) ∧ (iq_P N xs 160 0 [some (iq_r 77), some (iq_i ((xs (Int.toNat (v3 + 1))).toInt))] [] g l (fun r g1 l2 => ∃ z3, r = some (iq_i z3) ∧ ((-2147483648 ≤ w0 ∧ w0 ≤ 2147483647 ∧ -2147483648 ≤ z3 ∧ z3 ≤ 2147483647) ∧
      (w0 = z3 → (iq_P N xs 361 1940 [some (iq_r 1000000), some (iq_r 0), some (iq_r 77), some (iq_i v3)] [] g1 l2 Q)) ∧
      (¬ w0 = z3 → (Q (some (iq_i 0)) g1 l2)))))) :
    iq_P N xs 361 780 [some (iq_r 1000000), some (iq_r 0), some (iq_r 77), some (iq_i v3)] [iq_i w0] g l Q := iq_w_ok (cuts := [1940]) 10 780 _ _ _ _ H

-- ScaleForgeLaw.law([I)Z at 794
set_option maxRecDepth 20000 in
theorem B361_c15 {N : Nat} {xs : Nat → Int32} {Q : iq_T} (v3 : Int) (g : iq_I) (l : iq_J) (H : (0 ≤ (v3 + 1) ∧ (v3 + 1) < N ∧ (v3 + 1) ≤ 65536) ∧ (iq_P N xs 161 0 [some (iq_r 0), some (iq_i ((xs (Int.toNat (v3 + 1))).toInt))] [] g l (fun r g1 l2 => ∃ z3, r = some (iq_i z3) ∧ (iq_P N xs 361 803 [some (iq_r 1000000), some (iq_r 0), some (iq_r 77), some (iq_i v3)] [iq_i z3] g1 l2 Q)))) :
    iq_P N xs 361 794 [some (iq_r 1000000), some (iq_r 0), some (iq_r 77), some (iq_i v3)] [] g l Q := iq_w_ok (cuts := [803]) 7 794 _ _ _ _ H

-- ScaleForgeLaw.law([I)Z at 803
set_option maxRecDepth 20000 in
theorem B361_d15 {N : Nat} {xs : Nat → Int32} {Q : iq_T} (v3 : Int) (w0 : Int) (g : iq_I) (l : iq_J) (H : (0 ≤ (v3 + 1) ∧ (v3 + 1) < N ∧ (v3 + 1) ≤ 65536) ∧ (iq_P N xs 162 0 [some (iq_r 77), some (iq_i ((xs (Int.toNat (v3 + 1))).toInt))] [] g l (fun r g1 l2 => ∃ z3, r = some (iq_i z3) ∧ ((-2147483648 ≤ w0 ∧ w0 ≤ 2147483647 ∧ -2147483648 ≤ z3 ∧ z3 ≤ 2147483647) ∧
      (w0 = z3 → (iq_P N xs 361 1940 [some (iq_r 1000000), some (iq_r 0), some (iq_r 77), some (iq_i v3)] [] g1 l2 Q)) ∧
      (¬ w0 = z3 → (Q (some (iq_i 0)) g1 l2)))))) :
    iq_P N xs 361 803 [some (iq_r 1000000), some (iq_r 0), some (iq_r 77), some (iq_i v3)] [iq_i w0] g l Q := iq_w_ok (cuts := [1940]) 10 803 _ _ _ _ H

-- ScaleForgeLaw.law([I)Z at 817
set_option maxRecDepth 20000 in
theorem B361_c16 {N : Nat} {xs : Nat → Int32} {Q : iq_T} (v3 : Int) (g : iq_I) (l : iq_J) (H : (0 ≤ (v3 + 1) ∧ (v3 + 1) < N ∧ (v3 + 1) ≤ 65536) ∧ ((0 ≤ (v3 + 2) ∧ (v3 + 2) < N ∧ (v3 + 2) ≤ 65536) ∧ (iq_P N xs 163 0 [some (iq_r 0), some (iq_i ((xs (Int.toNat (v3 + 1))).toInt)), some (iq_i ((xs (Int.toNat (v3 + 2))).toInt))] [] g l (fun r g1 l2 => ∃ z3, r = some (iq_i z3) ∧ (iq_P N xs 361 831 [some (iq_r 1000000), some (iq_r 0), some (iq_r 77), some (iq_i v3)] [iq_i z3] g1 l2 Q))))) :
    iq_P N xs 361 817 [some (iq_r 1000000), some (iq_r 0), some (iq_r 77), some (iq_i v3)] [] g l Q := iq_w_ok (cuts := [831]) 12 817 _ _ _ _ H

-- ScaleForgeLaw.law([I)Z at 831
set_option maxRecDepth 20000 in
theorem B361_d16 {N : Nat} {xs : Nat → Int32} {Q : iq_T} (v3 : Int) (w0 : Int) (g : iq_I) (l : iq_J) (H : (0 ≤ (v3 + 1) ∧ (v3 + 1) < N ∧ (v3 + 1) ≤ 65536) ∧ ((0 ≤ (v3 + 2) ∧ (v3 + 2) < N ∧ (v3 + 2) ≤ 65536) ∧ (iq_P N xs 165 0 [some (iq_r 77), some (iq_i ((xs (Int.toNat (v3 + 1))).toInt)), some (iq_i ((xs (Int.toNat (v3 + 2))).toInt))] [] g l (fun r g1 l2 => ∃ z3, r = some (iq_i z3) ∧ ((-2147483648 ≤ w0 ∧ w0 ≤ 2147483647 ∧ -2147483648 ≤ z3 ∧ z3 ≤ 2147483647) ∧
      (w0 = z3 → (iq_P N xs 361 1940 [some (iq_r 1000000), some (iq_r 0), some (iq_r 77), some (iq_i v3)] [] g1 l2 Q)) ∧
      (¬ w0 = z3 → (Q (some (iq_i 0)) g1 l2))))))) :
    iq_P N xs 361 831 [some (iq_r 1000000), some (iq_r 0), some (iq_r 77), some (iq_i v3)] [iq_i w0] g l Q := iq_w_ok (cuts := [1940]) 15 831 _ _ _ _ H

-- ScaleForgeLaw.law([I)Z at 850
set_option maxRecDepth 20000 in
theorem B361_c17 {N : Nat} {xs : Nat → Int32} {Q : iq_T} (v3 : Int) (g : iq_I) (l : iq_J) (H : (0 ≤ (v3 + 1) ∧ (v3 + 1) < N ∧ (v3 + 1) ≤ 65536) ∧ (iq_P N xs 168 0 [some (iq_r 0), some (iq_i ((xs (Int.toNat (v3 + 1))).toInt))] [] g l (fun r g1 l2 => ∃ z3, r = some (iq_i z3) ∧ (iq_P N xs 361 859 [some (iq_r 1000000), some (iq_r 0), some (iq_r 77), some (iq_i v3)] [iq_i z3] g1 l2 Q)))) :
    iq_P N xs 361 850 [some (iq_r 1000000), some (iq_r 0), some (iq_r 77), some (iq_i v3)] [] g l Q := iq_w_ok (cuts := [859]) 7 850 _ _ _ _ H
