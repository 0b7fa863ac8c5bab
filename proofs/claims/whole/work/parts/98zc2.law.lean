/-! The law: its own stretches. -/
-- ScaleForgeLaw.law([I)Z at 1507
set_option maxRecDepth 20000 in
theorem B361_c46 {N : Nat} {xs : Nat → Int32} {Q : iq_T} (v3 : Int) (g : iq_I) (l : iq_J) (H : iq_P N xs 260 0 [some (iq_r 0), none, none, none, none, none, none] [] g l (fun r g1 l2 => ∃ z3, r = some (iq_i z3) ∧ (iq_P N xs 361 1511 [some (iq_r 1000000), some (iq_r 0), some (iq_r 77), some (iq_i v3)] [iq_i z3] g1 l2 Q))) :
    iq_P N xs 361 1507 [some (iq_r 1000000), some (iq_r 0), some (iq_r 77), some (iq_i v3)] [] g l Q := iq_w_ok (cuts := [1511]) 2 1507 _ _ _ _ H

-- ScaleForgeLaw.law([I)Z at 1511
set_option maxRecDepth 20000 in
theorem B361_d46 {N : Nat} {xs : Nat → Int32} {Q : iq_T} (v3 : Int) (w0 : Int) (g : iq_I) (l : iq_J) (H : iq_P N xs 261 0 [some (iq_r 77), none, none, none] [] g l (fun r g1 l2 => ∃ z3, r = some (iq_i z3) ∧ ((-2147483648 ≤ w0 ∧ w0 ≤ 2147483647 ∧ -2147483648 ≤ z3 ∧ z3 ≤ 2147483647) ∧
      (w0 = z3 → (iq_P N xs 361 1940 [some (iq_r 1000000), some (iq_r 0), some (iq_r 77), some (iq_i v3)] [] g1 l2 Q)) ∧
      (¬ w0 = z3 → (Q (some (iq_i 0)) g1 l2))))) :
    iq_P N xs 361 1511 [some (iq_r 1000000), some (iq_r 0), some (iq_r 77), some (iq_i v3)] [iq_i w0] g l Q := iq_w_ok (cuts := [1940]) 5 1511 _ _ _ _ H

-- ScaleForgeLaw.law([I)Z at 1520
set_option maxRecDepth 20000 in
theorem B361_c47 {N : Nat} {xs : Nat → Int32} {Q : iq_T} (v3 : Int) (g : iq_I) (l : iq_J) (H : iq_P N xs 264 0 [some (iq_r 0)] [] g l (fun r g1 l2 => ∃ z3, r = some (iq_i z3) ∧ (iq_P N xs 361 1524 [some (iq_r 1000000), some (iq_r 0), some (iq_r 77), some (iq_i v3)] [iq_i z3] g1 l2 Q))) :
    iq_P N xs 361 1520 [some (iq_r 1000000), some (iq_r 0), some (iq_r 77), some (iq_i v3)] [] g l Q := iq_w_ok (cuts := [1524]) 2 1520 _ _ _ _ H

-- ScaleForgeLaw.law([I)Z at 1524
set_option maxRecDepth 20000 in
theorem B361_d47 {N : Nat} {xs : Nat → Int32} {Q : iq_T} (v3 : Int) (w0 : Int) (g : iq_I) (l : iq_J) (H : iq_P N xs 266 0 [some (iq_r 77)] [] g l (fun r g1 l2 => ∃ z3, r = some (iq_i z3) ∧ ((-2147483648 ≤ w0 ∧ w0 ≤ 2147483647 ∧ -2147483648 ≤ z3 ∧ z3 ≤ 2147483647) ∧
      (w0 = z3 → (iq_P N xs 361 1940 [some (iq_r 1000000), some (iq_r 0), some (iq_r 77), some (iq_i v3)] [] g1 l2 Q)) ∧
      (¬ w0 = z3 → (Q (some (iq_i 0)) g1 l2))))) :
    iq_P N xs 361 1524 [some (iq_r 1000000), some (iq_r 0), some (iq_r 77), some (iq_i v3)] [iq_i w0] g l Q := iq_w_ok (cuts := [1940]) 5 1524 _ _ _ _ H

-- ScaleForgeLaw.law([I)Z at 1533
set_option maxRecDepth 20000 in
theorem B361_c48 {N : Nat} {xs : Nat → Int32} {Q : iq_T} (v3 : Int) (g : iq_I) (l : iq_J) (H : (0 ≤ (v3 + 1) ∧ (v3 + 1) < N ∧ (v3 + 1) ≤ 65536) ∧ (iq_P N xs 267 0 [some (iq_r 0), some (iq_i ((xs (Int.toNat (v3 + 1))).toInt))] [] g l (fun r g1 l2 => ∃ z3, r = some (iq_i z3) ∧ (iq_P N xs 361 1542 [some (iq_r 1000000), some (iq_r 0), some (iq_r 77), some (iq_i v3)] [iq_i z3] g1 l2 Q)))) :
    iq_P N xs 361 1533 [some (iq_r 1000000), some (iq_r 0), some (iq_r 77), some (iq_i v3)] [] g l Q := iq_w_ok (cuts := [1542]) 7 1533 _ _ _ _ H

-- ScaleForgeLaw.law([I)Z at 1542
set_option maxRecDepth 20000 in
theorem B361_d48 {N : Nat} {xs : Nat → Int32} {Q : iq_T} (v3 : Int) (w0 : Int) (g : iq_I) (l : iq_J) (H : (0 ≤ (v3 + 1) ∧ (v3 + 1) < N ∧ (v3 + 1) ≤ 65536) ∧ (iq_P N xs 268 0 [some (iq_r 77), some (iq_i ((xs (Int.toNat (v3 + 1))).toInt)), none, none] [] g l (fun r g1 l2 => ∃ z3, r = some (iq_i z3) ∧ ((-2147483648 ≤ w0 ∧ w0 ≤ 2147483647 ∧ -2147483648 ≤ z3 ∧ z3 ≤ 2147483647) ∧
      (w0 = z3 → (iq_P N xs 361 1940 [some (iq_r 1000000), some (iq_r 0), some (iq_r 77), some (iq_i v3)] [] g1 l2 Q)) ∧
      (¬ w0 = z3 → (Q (some (iq_i 0)) g1 l2)))))) :
    iq_P N xs 361 1542 [some (iq_r 1000000), some (iq_r 0), some (iq_r 77), some (iq_i v3)] [iq_i w0] g l Q := iq_w_ok (cuts := [1940]) 10 1542 _ _ _ _ H

-- ScaleForgeLaw.law([I)Z at 1556
set_option maxRecDepth 20000 in
theorem B361_c49 {N : Nat} {xs : Nat → Int32} {Q : iq_T} (v3 : Int) (g : iq_I) (l : iq_J) (H : iq_P N xs 272 0 [some (iq_r 0)] [] g l (fun r g1 l2 => ∃ z3, r = some (iq_i z3) ∧ (iq_P N xs 361 1560 [some (iq_r 1000000), some (iq_r 0), some (iq_r 77), some (iq_i v3)] [iq_i z3] g1 l2 Q))) :
    iq_P N xs 361 1556 [some (iq_r 1000000), some (iq_r 0), some (iq_r 77), some (iq_i v3)] [] g l Q := iq_w_ok (cuts := [1560]) 2 1556 _ _ _ _ H

-- ScaleForgeLaw.law([I)Z at 1560
set_option maxRecDepth 20000 in
theorem B361_d49 {N : Nat} {xs : Nat → Int32} {Q : iq_T} (v3 : Int) (w0 : Int) (g : iq_I) (l : iq_J) (H : iq_P N xs 273 0 [some (iq_r 77), none, none, none, none, none, none] [] g l (fun r g1 l2 => ∃ z3, r = some (iq_i z3) ∧ ((-2147483648 ≤ w0 ∧ w0 ≤ 2147483647 ∧ -2147483648 ≤ z3 ∧ z3 ≤ 2147483647) ∧
      (w0 = z3 → (iq_P N xs 361 1940 [some (iq_r 1000000), some (iq_r 0), some (iq_r 77), some (iq_i v3)] [] g1 l2 Q)) ∧
      (¬ w0 = z3 → (Q (some (iq_i 0)) g1 l2))))) :
    iq_P N xs 361 1560 [some (iq_r 1000000), some (iq_r 0), some (iq_r 77), some (iq_i v3)] [iq_i w0] g l Q := iq_w_ok (cuts := [1940]) 5 1560 _ _ _ _ H

-- ScaleForgeLaw.law([I)Z at 1569
set_option maxRecDepth 20000 in
theorem B361_c50 {N : Nat} {xs : Nat → Int32} {Q : iq_T} (v3 : Int) (g : iq_I) (l : iq_J) (H : (0 ≤ (v3 + 1) ∧ (v3 + 1) < N ∧ (v3 + 1) ≤ 65536) ∧ (iq_P N xs 274 0 [some (iq_r 0), some (iq_i ((xs (Int.toNat (v3 + 1))).toInt)), none, none] [] g l (fun r g1 l2 => ∃ z3, r = some (iq_i z3) ∧ (iq_P N xs 361 1578 [some (iq_r 1000000), some (iq_r 0), some (iq_r 77), some (iq_i v3)] [iq_i z3] g1 l2 Q)))) :
    iq_P N xs 361 1569 [some (iq_r 1000000), some (iq_r 0), some (iq_r 77), some (iq_i v3)] [] g l Q := iq_w_ok (cuts := [1578]) 7 1569 _ _ _ _ H

-- ScaleForgeLaw.law([I)Z at 1578
set_option maxRecDepth 20000 in
theorem B361_d50 {N : Nat} {xs : Nat → Int32} {Q : iq_T} (v3 : Int) (w0 : Int) (g : iq_I) (l : iq_J) (H : (0 ≤ (v3 + 1) ∧ (v3 + 1) < N ∧ (v3 + 1) ≤ 65536) ∧ (iq_P N xs 275 0 [some (iq_r 77), some (iq_i ((xs (Int.toNat (v3 + 1))).toInt)), none, none] [] g l (fun r g1 l2 => ∃ z3, r = some (iq_i z3) ∧ ((-2147483648 ≤ w0 ∧ w0 ≤ 2147483647 ∧ -2147483648 ≤ z3 ∧ z3 ≤ 2147483647) ∧
      (w0 = z3 → (iq_P N xs 361 1940 [some (iq_r 1000000), some (iq_r 0), some (iq_r 77), some (iq_i v3)] [] g1 l2 Q)) ∧
      (¬ w0 = z3 → (Q (some (iq_i 0)) g1 l2)))))) :
    iq_P N xs 361 1578 [some (iq_r 1000000), some (iq_r 0), some (iq_r 77), some (iq_i v3)] [iq_i w0] g l Q := iq_w_ok (cuts := [1940]) 10 1578 _ _ _ _ H

-- ScaleForgeLaw.law([I)Z at 1592
set_option maxRecDepth 20000 in
theorem B361_c51 {N : Nat} {xs : Nat → Int32} {Q : iq_T} (v3 : Int) (g : iq_I) (l : iq_J) (H : iq_P N xs 284 0 [some (iq_r 0)] [] g l (fun r g1 l2 => ∃ z3, r = some (iq_i z3) ∧ (iq_P N xs 361 1596 [some (iq_r 1000000), some (iq_r 0), some (iq_r 77), some (iq_i v3)] [iq_i z3] g1 l2 Q))) :
    iq_P N xs 361 1592 [some (iq_r 1000000), some (iq_r 0), some (iq_r 77), some (iq_i v3)] [] g l Q := iq_w_ok (cuts := [1596]) 2 1592 _ _ _ _ H

-- ScaleForgeLaw.law([I)Z at 1596
set_option maxRecDepth 20000 in
theorem B361_d51 {N : Nat} {xs : Nat → Int32} {Q : iq_T} (v3 : Int) (w0 : Int) (g : iq_I) (l : iq_J) (H : iq_P N xs 288 0 [some (iq_r 77)] [] g l (fun r g1 l2 => ∃ z3, r = some (iq_i z3) ∧ ((-2147483648 ≤ w0 ∧ w0 ≤ 2147483647 ∧ -2147483648 ≤ z3 ∧ z3 ≤ 2147483647) ∧
      (w0 = z3 → (iq_P N xs 361 1940 [some (iq_r 1000000), some (iq_r 0), some (iq_r 77), some (iq_i v3)] [] g1 l2 Q)) ∧
      (¬ w0 = z3 → (Q (some (iq_i 0)) g1 l2))))) :
    iq_P N xs 361 1596 [some (iq_r 1000000), some (iq_r 0), some (iq_r 77), some (iq_i v3)] [iq_i w0] g l Q := iq_w_ok (cuts := [1940]) 5 1596 _ _ _ _ H

-- ScaleForgeLaw.law([I)Z at 1605
set_option maxRecDepth 20000 in
theorem B361_c52 {N : Nat} {xs : Nat → Int32} {Q : iq_T} (v3 : Int) (g : iq_I) (l : iq_J) (H : (0 ≤ (v3 + 1) ∧ (v3 + 1) < N ∧ (v3 + 1) ≤ 65536) ∧ (iq_P N xs 290 0 [some (iq_r 0), some (iq_i ((xs (Int.toNat (v3 + 1))).toInt))] [] g l (fun r g1 l2 => ∃ z3, r = some (iq_i z3) ∧ (iq_P N xs 361 1614 [some (iq_r 1000000), some (iq_r 0), some (iq_r 77), some (iq_i v3)] [iq_i z3] g1 l2 Q)))) :
    iq_P N xs 361 1605 [some (iq_r 1000000), some (iq_r 0), some (iq_r 77), some (iq_i v3)] [] g l Q := iq_w_ok (cuts := [1614]) 7 1605 _ _ _ _ H

-- ScaleForgeLaw.law([I)Z at 1614
set_option maxRecDepth 20000 in
theorem B361_d52 {N : Nat} {xs : Nat → Int32} {Q : iq_T} (v3 : Int) (w0 : Int) (g : iq_I) (l : iq_J) (H : (0 ≤ (v3 + 1) ∧ (v3 + 1) < N ∧ (v3 + 1) ≤ 65536) ∧ (iq_P N xs 291 0 [some (iq_r 77), some (iq_i ((xs (Int.toNat (v3 + 1))).toInt))] [] g l (fun r g1 l2 => ∃ z3, r = some (iq_i z3) ∧ ((-2147483648 ≤ w0 ∧ w0 ≤ 2147483647 ∧ -2147483648 ≤ z3 ∧ z3 ≤ 2147483647) ∧
      (w0 = z3 → (iq_P N xs 361 1940 [some (iq_r 1000000), some (iq_r 0), some (iq_r 77), some (iq_i v3)] [] g1 l2 Q)) ∧
      (¬ w0 = z3 → (Q (some (iq_i 0)) g1 l2)))))) :
    iq_P N xs 361 1614 [some (iq_r 1000000), some (iq_r 0), some (iq_r 77), some (iq_i v3)] [iq_i w0] g l Q := iq_w_ok (cuts := [1940]) 10 1614 _ _ _ _ H

-- ScaleForgeLaw.law([I)Z at 1628
set_option maxRecDepth 20000 in
theorem B361_c53 {N : Nat} {xs : Nat → Int32} {Q : iq_T} (v3 : Int) (g : iq_I) (l : iq_J) (H : (0 ≤ (v3 + 1) ∧ (v3 + 1) < N ∧ (v3 + 1) ≤ 65536) ∧ (iq_P N xs 295 0 [some (iq_r 0), some (iq_i ((xs (Int.toNat (v3 + 1))).toInt)), none] [] g l (fun r g1 l2 => ∃ z3, r = some (iq_i z3) ∧ (iq_P N xs 361 1637 [some (iq_r 1000000), some (iq_r 0), some (iq_r 77), some (iq_i v3)] [iq_i z3] g1 l2 Q)))) :
    iq_P N xs 361 1628 [some (iq_r 1000000), some (iq_r 0), some (iq_r 77), some (iq_i v3)] [] g l Q := iq_w_ok (cuts := [1637]) 7 1628 _ _ _ _ H

-- ScaleForgeLaw.law([I)Z at 1637
set_option maxRecDepth 20000 in
theorem B361_d53 {N : Nat} {xs : Nat → Int32} {Q : iq_T} (v3 : Int) (w0 : Int) (g : iq_I) (l : iq_J) (H : (0 ≤ (v3 + 1) ∧ (v3 + 1) < N ∧ (v3 + 1) ≤ 65536) ∧ (iq_P N xs 296 0 [some (iq_r 77), some (iq_i ((xs (Int.toNat (v3 + 1))).toInt)), none, none, none, none] [] g l (fun r g1 l2 => ∃ z3, r = some (iq_i z3) ∧ ((-2147483648 ≤ w0 ∧ w0 ≤ 2147483647 ∧ -2147483648 ≤ z3 ∧ z3 ≤ 2147483647) ∧
      (w0 = z3 → (iq_P N xs 361 1940 [some (iq_r 1000000), some (iq_r 0), some (iq_r 77), some (iq_i v3)] [] g1 l2 Q)) ∧
      (¬ w0 = z3 → (Q (some (iq_i 0)) g1 l2)))))) :
    iq_P N xs 361 1637 [some (iq_r 1000000), some (iq_r 0), some (iq_r 77), some (iq_i v3)] [iq_i w0] g l Q := iq_w_ok (cuts := [1940]) 10 1637 _ _ _ _ H

-- ScaleForgeLaw.law([I)Z at 1651
set_option maxRecDepth 20000 in
theorem B361_c54 {N : Nat} {xs : Nat → Int32} {Q : iq_T} (v3 : Int) (g : iq_I) (l : iq_J) (H : iq_P N xs 297 0 [some (iq_r 0), none, none, none, none, none] [] g l (fun r g1 l2 => ∃ z3, r = some (iq_i z3) ∧ (iq_P N xs 361 1655 [some (iq_r 1000000), some (iq_r 0), some (iq_r 77), some (iq_i v3)] [iq_i z3] g1 l2 Q))) :
    iq_P N xs 361 1651 [some (iq_r 1000000), some (iq_r 0), some (iq_r 77), some (iq_i v3)] [] g l Q := iq_w_ok (cuts := [1655]) 2 1651 _ _ _ _ H

-- ScaleForgeLaw.law([I)Z at 1655
set_option maxRecDepth 20000 in
theorem B361_d54 {N : Nat} {xs : Nat → Int32} {Q : iq_T} (v3 : Int) (w0 : Int) (g : iq_I) (l : iq_J) (H : iq_P N xs 299 0 [some (iq_r 77)] [] g l (fun r g1 l2 => ∃ z3, r = some (iq_i z3) ∧ ((-2147483648 ≤ w0 ∧ w0 ≤ 2147483647 ∧ -2147483648 ≤ z3 ∧ z3 ≤ 2147483647) ∧
      (w0 = z3 → (iq_P N xs 361 1940 [some (iq_r 1000000), some (iq_r 0), some (iq_r 77), some (iq_i v3)] [] g1 l2 Q)) ∧
      (¬ w0 = z3 → (Q (some (iq_i 0)) g1 l2))))) :
    iq_P N xs 361 1655 [some (iq_r 1000000), some (iq_r 0), some (iq_r 77), some (iq_i v3)] [iq_i w0] g l Q := iq_w_ok (cuts := [1940]) 5 1655 _ _ _ _ H

-- ScaleForgeLaw.law([I)Z at 1664
set_option maxRecDepth 20000 in
theorem B361_c55 {N : Nat} {xs : Nat → Int32} {Q : iq_T} (v3 : Int) (g : iq_I) (l : iq_J) (H : (0 ≤ (v3 + 1) ∧ (v3 + 1) < N ∧ (v3 + 1) ≤ 65536) ∧ (iq_P N xs 302 0 [some (iq_r 0), some (iq_i ((xs (Int.toNat (v3 + 1))).toInt)), none, none, none, none, none, none, none, none, none, none, none, none, none, none, none, none, none, none] [] g l (fun r g1 l2 => ∃ z3, r = some (iq_i z3) ∧ (iq_P N xs 361 1673 [some (iq_r 1000000), some (iq_r 0), some (iq_r 77), some (iq_i v3)] [iq_i z3] g1 l2 Q)))) :
    iq_P N xs 361 1664 [some (iq_r 1000000), some (iq_r 0), some (iq_r 77), some (iq_i v3)] [] g l Q := iq_w_ok (cuts := [1673]) 7 1664 _ _ _ _ H

-- ScaleForgeLaw.law([I)Z at 1673
set_option maxRecDepth 20000 in
theorem B361_d55 {N : Nat} {xs : Nat → Int32} {Q : iq_T} (v3 : Int) (w0 : Int) (g : iq_I) (l : iq_J) (H : (0 ≤ (v3 + 1) ∧ (v3 + 1) < N ∧ (v3 + 1) ≤ 65536) ∧ (iq_P N xs 304 0 [some (iq_r 77), some (iq_i ((xs (Int.toNat (v3 + 1))).toInt)), none] [] g l (fun r g1 l2 => ∃ z3, r = some (iq_i z3) ∧ ((-2147483648 ≤ w0 ∧ w0 ≤ 2147483647 ∧ -2147483648 ≤ z3 ∧ z3 ≤ 2147483647) ∧
      (w0 = z3 → (iq_P N xs 361 1940 [some (iq_r 1000000), some (iq_r 0), some (iq_r 77), some (iq_i v3)] [] g1 l2 Q)) ∧
      (¬ w0 = z3 → (Q (some (iq_i 0)) g1 l2)))))) :
    iq_P N xs 361 1673 [some (iq_r 1000000), some (iq_r 0), some (iq_r 77), some (iq_i v3)] [iq_i w0] g l Q := iq_w_ok (cuts := [1940]) 10 1673 _ _ _ _ H

-- ScaleForgeLaw.law([I)Z at 1687
set_option maxRecDepth 20000 in
theorem B361_c56 {N : Nat} {xs : Nat → Int32} {Q : iq_T} (v3 : Int) (g : iq_I) (l : iq_J) (H : iq_P N xs 305 0 [some (iq_r 0), none, none, none] [] g l (fun r g1 l2 => ∃ z3, r = some (iq_i z3) ∧ (iq_P N xs 361 1691 [some (iq_r 1000000), some (iq_r 0), some (iq_r 77), some (iq_i v3)] [iq_i z3] g1 l2 Q))) :
    iq_P N xs 361 1687 [some (iq_r 1000000), some (iq_r 0), some (iq_r 77), some (iq_i v3)] [] g l Q := iq_w_ok (cuts := [1691]) 2 1687 _ _ _ _ H

-- ScaleForgeLaw.law([I)Z at 1691
set_option maxRecDepth 20000 in
theorem B361_d56 {N : Nat} {xs : Nat → Int32} {Q : iq_T} (v3 : Int) (w0 : Int) (g : iq_I) (l : iq_J) (H : iq_P N xs 306 0 [some (iq_r 77)] [] g l (fun r g1 l2 => ∃ z3, r = some (iq_i z3) ∧ ((-2147483648 ≤ w0 ∧ w0 ≤ 2147483647 ∧ -2147483648 ≤ z3 ∧ z3 ≤ 2147483647) ∧
      (w0 = z3 → (iq_P N xs 361 1940 [some (iq_r 1000000), some (iq_r 0), some (iq_r 77), some (iq_i v3)] [] g1 l2 Q)) ∧
      (¬ w0 = z3 → (Q (some (iq_i 0)) g1 l2))))) :
    iq_P N xs 361 1691 [some (iq_r 1000000), some (iq_r 0), some (iq_r 77), some (iq_i v3)] [iq_i w0] g l Q := iq_w_ok (cuts := [1940]) 5 1691 _ _ _ _ H

-- ScaleForgeLaw.law([I)Z at 1700
set_option maxRecDepth 20000 in
theorem B361_c57 {N : Nat} {xs : Nat → Int32} {Q : iq_T} (v3 : Int) (g : iq_I) (l : iq_J) (H : (0 ≤ (v3 + 1) ∧ (v3 + 1) < N ∧ (v3 + 1) ≤ 65536) ∧ (iq_P N xs 307 0 [some (iq_r 0), some (iq_i ((xs (Int.toNat (v3 + 1))).toInt)), none] [] g l (fun r g1 l2 => ∃ z3, r = some (iq_i z3) ∧ (iq_P N xs 361 1709 [some (iq_r 1000000), some (iq_r 0), some (iq_r 77), some (iq_i v3)] [iq_i z3] g1 l2 Q)))) :
    iq_P N xs 361 1700 [some (iq_r 1000000), some (iq_r 0), some (iq_r 77), some (iq_i v3)] [] g l Q := iq_w_ok (cuts := [1709]) 7 1700 _ _ _ _ H

-- ScaleForgeLaw.law([I)Z at 1709
set_option maxRecDepth 20000 in
theorem B361_d57 {N : Nat} {xs : Nat → Int32} {Q : iq_T} (v3 : Int) (w0 : Int) (g : iq_I) (l : iq_J) (H : (0 ≤ (v3 + 1) ∧ (v3 + 1) < N ∧ (v3 + 1) ≤ 65536) ∧ (iq_P N xs 308 0 [some (iq_r 77), some (iq_i ((xs (Int.toNat (v3 + 1))).toInt))] [] g l (fun r g1 l2 => ∃ z3, r = some (iq_i z3) ∧ ((-2147483648 ≤ w0 ∧ w0 ≤ 2147483647 ∧ -2147483648 ≤ z3 ∧ z3 ≤ 2147483647) ∧
      (w0 = z3 → (iq_P N xs 361 1940 [some (iq_r 1000000), some (iq_r 0), some (iq_r 77), some (iq_i v3)] [] g1 l2 Q)) ∧
      (¬ w0 = z3 → (Q (some (iq_i 0)) g1 l2)))))) :
    iq_P N xs 361 1709 [some (iq_r 1000000), some (iq_r 0), some (iq_r 77), some (iq_i v3)] [iq_i w0] g l Q := iq_w_ok (cuts := [1940]) 10 1709 _ _ _ _ H

-- ScaleForgeLaw.law([I)Z at 1723
set_option maxRecDepth 20000 in
theorem B361_c58 {N : Nat} {xs : Nat → Int32} {Q : iq_T} (v3 : Int) (g : iq_I) (l : iq_J) (H : (0 ≤ (v3 + 1) ∧ (v3 + 1) < N ∧ (v3 + 1) ≤ 65536) ∧ ((0 ≤ (v3 + 2) ∧ (v3 + 2) < N ∧ (v3 + 2) ≤ 65536) ∧ (iq_P N xs 309 0 [some (iq_r 0), some (iq_i ((xs (Int.toNat (v3 + 1))).toInt)), some (iq_i ((xs (Int.toNat (v3 + 2))).toInt)), none, none, none, none, none, none] [] g l (fun r g1 l2 => ∃ z3, r = some (iq_i z3) ∧ (iq_P N xs 361 1737 [some (iq_r 1000000), some (iq_r 0), some (iq_r 77), some (iq_i v3)] [iq_i z3] g1 l2 Q))))) :
    iq_P N xs 361 1723 [some (iq_r 1000000), some (iq_r 0), some (iq_r 77), some (iq_i v3)] [] g l Q := iq_w_ok (cuts := [1737]) 12 1723 _ _ _ _ H

-- ScaleForgeLaw.law([I)Z at 1737
set_option maxRecDepth 20000 in
theorem B361_d58 {N : Nat} {xs : Nat → Int32} {Q : iq_T} (v3 : Int) (w0 : Int) (g : iq_I) (l : iq_J) (H : (0 ≤ (v3 + 1) ∧ (v3 + 1) < N ∧ (v3 + 1) ≤ 65536) ∧ ((0 ≤ (v3 + 2) ∧ (v3 + 2) < N ∧ (v3 + 2) ≤ 65536) ∧ (iq_P N xs 310 0 [some (iq_r 77), some (iq_i ((xs (Int.toNat (v3 + 1))).toInt)), some (iq_i ((xs (Int.toNat (v3 + 2))).toInt)), none, none, none, none, none] [] g l (fun r g1 l2 => ∃ z3, r = some (iq_i z3) ∧ ((-2147483648 ≤ w0 ∧ w0 ≤ 2147483647 ∧ -2147483648 ≤ z3 ∧ z3 ≤ 2147483647) ∧
      (w0 = z3 → (iq_P N xs 361 1940 [some (iq_r 1000000), some (iq_r 0), some (iq_r 77), some (iq_i v3)] [] g1 l2 Q)) ∧
      (¬ w0 = z3 → (Q (some (iq_i 0)) g1 l2))))))) :
    iq_P N xs 361 1737 [some (iq_r 1000000), some (iq_r 0), some (iq_r 77), some (iq_i v3)] [iq_i w0] g l Q := iq_w_ok (cuts := [1940]) 15 1737 _ _ _ _ H

-- ScaleForgeLaw.law([I)Z at 1756
set_option maxRecDepth 20000 in
theorem B361_c59 {N : Nat} {xs : Nat → Int32} {Q : iq_T} (v3 : Int) (g : iq_I) (l : iq_J) (H : (0 ≤ (v3 + 1) ∧ (v3 + 1) < N ∧ (v3 + 1) ≤ 65536) ∧ (iq_P N xs 312 0 [some (iq_r 0), some (iq_i ((xs (Int.toNat (v3 + 1))).toInt)), none, none, none, none, none] [] g l (fun r g1 l2 => ∃ z3, r = some (iq_i z3) ∧ (iq_P N xs 361 1765 [some (iq_r 1000000), some (iq_r 0), some (iq_r 77), some (iq_i v3)] [iq_i z3] g1 l2 Q)))) :
    iq_P N xs 361 1756 [some (iq_r 1000000), some (iq_r 0), some (iq_r 77), some (iq_i v3)] [] g l Q := iq_w_ok (cuts := [1765]) 7 1756 _ _ _ _ H

-- ScaleForgeLaw.law([I)Z at 1765
set_option maxRecDepth 20000 in
theorem B361_d59 {N : Nat} {xs : Nat → Int32} {Q : iq_T} (v3 : Int) (w0 : Int) (g : iq_I) (l : iq_J) (H : (0 ≤ (v3 + 1) ∧ (v3 + 1) < N ∧ (v3 + 1) ≤ 65536) ∧ (iq_P N xs 313 0 [some (iq_r 77), some (iq_i ((xs (Int.toNat (v3 + 1))).toInt)), none] [] g l (fun r g1 l2 => ∃ z3, r = some (iq_i z3) ∧ ((-2147483648 ≤ w0 ∧ w0 ≤ 2147483647 ∧ -2147483648 ≤ z3 ∧ z3 ≤ 2147483647) ∧
      (w0 = z3 → (iq_P N xs 361 1940 [some (iq_r 1000000), some (iq_r 0), some (iq_r 77), some (iq_i v3)] [] g1 l2 Q)) ∧
      (¬ w0 = z3 → (Q (some (iq_i 0)) g1 l2)))))) :
    iq_P N xs 361 1765 [some (iq_r 1000000), some (iq_r 0), some (iq_r 77), some (iq_i v3)] [iq_i w0] g l Q := iq_w_ok (cuts := [1940]) 10 1765 _ _ _ _ H

-- ScaleForgeLaw.law([I)Z at 1779
set_option maxRecDepth 20000 in
theorem B361_c60 {N : Nat} {xs : Nat → Int32} {Q : iq_T} (v3 : Int) (g : iq_I) (l : iq_J) (H : (0 ≤ (v3 + 1) ∧ (v3 + 1) < N ∧ (v3 + 1) ≤ 65536) ∧ ((0 ≤ (v3 + 2) ∧ (v3 + 2) < N ∧ (v3 + 2) ≤ 65536) ∧ (iq_P N xs 315 0 [some (iq_r 0), some (iq_i ((xs (Int.toNat (v3 + 1))).toInt)), some (iq_i ((xs (Int.toNat (v3 + 2))).toInt)), none, none, none, none] [] g l (fun r g1 l2 => ∃ z3, r = some (iq_i z3) ∧ (iq_P N xs 361 1793 [some (iq_r 1000000), some (iq_r 0), some (iq_r 77), some (iq_i v3)] [iq_i z3] g1 l2 Q))))) :
    iq_P N xs 361 1779 [some (iq_r 1000000), some (iq_r 0), some (iq_r 77), some (iq_i v3)] [] g l Q := iq_w_ok (cuts := [1793]) 12 1779 _ _ _ _ H

-- ScaleForgeLaw.law([I)Z at 1793
set_option maxRecDepth 20000 in
theorem B361_d60 {N : Nat} {xs : Nat → Int32} {Q : iq_T} (v3 : Int) (w0 : Int) (g : iq_I) (l : iq_J) (H : (0 ≤ (v3 + 1) ∧ (v3 + 1) < N ∧ (v3 + 1) ≤ 65536) ∧ ((0 ≤ (v3 + 2) ∧ (v3 + 2) < N ∧ (v3 + 2) ≤ 65536) ∧ (iq_P N xs 317 0 [some (iq_r 77), some (iq_i ((xs (Int.toNat (v3 + 1))).toInt)), some (iq_i ((xs (Int.toNat (v3 + 2))).toInt)), none, none, none] [] g l (fun r g1 l2 => ∃ z3, r = some (iq_i z3) ∧ ((-2147483648 ≤ w0 ∧ w0 ≤ 2147483647 ∧ -2147483648 ≤ z3 ∧ z3 ≤ 2147483647) ∧
      (w0 = z3 → (iq_P N xs 361 1940 [some (iq_r 1000000), some (iq_r 0), some (iq_r 77), some (iq_i v3)] [] g1 l2 Q)) ∧
      (¬ w0 = z3 → (Q (some (iq_i 0)) g1 l2))))))) :
    iq_P N xs 361 1793 [some (iq_r 1000000), some (iq_r 0), some (iq_r 77), some (iq_i v3)] [iq_i w0] g l Q := iq_w_ok (cuts := [1940]) 15 1793 _ _ _ _ H

-- ScaleForgeLaw.law([I)Z at 1812
set_option maxRecDepth 20000 in
theorem B361_c61 {N : Nat} {xs : Nat → Int32} {Q : iq_T} (v3 : Int) (g : iq_I) (l : iq_J) (H : (0 ≤ (v3 + 1) ∧ (v3 + 1) < N ∧ (v3 + 1) ≤ 65536) ∧ (iq_P N xs 334 0 [some (iq_r 0), some (iq_i ((xs (Int.toNat (v3 + 1))).toInt))] [] g l (fun r g1 l2 => ∃ z3, r = some (iq_i z3) ∧ (iq_P N xs 361 1821 [some (iq_r 1000000), some (iq_r 0), some (iq_r 77), some (iq_i v3)] [iq_i z3] g1 l2 Q)))) :
    iq_P N xs 361 1812 [some (iq_r 1000000), some (iq_r 0), some (iq_r 77), some (iq_i v3)] [] g l Q := iq_w_ok (cuts := [1821]) 7 1812 _ _ _ _ H

-- ScaleForgeLaw.law([I)Z at 1821
set_option maxRecDepth 20000 in
theorem B361_d61 {N : Nat} {xs : Nat → Int32} {Q : iq_T} (v3 : Int) (w0 : Int) (g : iq_I) (l : iq_J) (H : (0 ≤ (v3 + 1) ∧ (v3 + 1) < N ∧ (v3 + 1) ≤ 65536) ∧ (iq_P N xs 346 0 [some (iq_r 77), some (iq_i ((xs (Int.toNat (v3 + 1))).toInt)), none] [] g l (fun r g1 l2 => ∃ z3, r = some (iq_i z3) ∧ ((-2147483648 ≤ w0 ∧ w0 ≤ 2147483647 ∧ -2147483648 ≤ z3 ∧ z3 ≤ 2147483647) ∧
      (w0 = z3 → (iq_P N xs 361 1940 [some (iq_r 1000000), some (iq_r 0), some (iq_r 77), some (iq_i v3)] [] g1 l2 Q)) ∧
      (¬ w0 = z3 → (Q (some (iq_i 0)) g1 l2)))))) :
    iq_P N xs 361 1821 [some (iq_r 1000000), some (iq_r 0), some (iq_r 77), some (iq_i v3)] [iq_i w0] g l Q := iq_w_ok (cuts := [1940]) 10 1821 _ _ _ _ H

-- ScaleForgeLaw.law([I)Z at 1835
set_option maxRecDepth 20000 in
theorem B361_c62 {N : Nat} {xs : Nat → Int32} {Q : iq_T} (v3 : Int) (g : iq_I) (l : iq_J) (H : (0 ≤ (v3 + 1) ∧ (v3 + 1) < N ∧ (v3 + 1) ≤ 65536) ∧ (iq_P N xs 348 0 [some (iq_r 0), some (iq_i ((xs (Int.toNat (v3 + 1))).toInt))] [] g l (fun r g1 l2 => ∃ z3, r = some (iq_i z3) ∧ (iq_P N xs 361 1844 [some (iq_r 1000000), some (iq_r 0), some (iq_r 77), some (iq_i v3)] [iq_i z3] g1 l2 Q)))) :
    iq_P N xs 361 1835 [some (iq_r 1000000), some (iq_r 0), some (iq_r 77), some (iq_i v3)] [] g l Q := iq_w_ok (cuts := [1844]) 7 1835 _ _ _ _ H

-- ScaleForgeLaw.law([I)Z at 1844
set_option maxRecDepth 20000 in
theorem B361_d62 {N : Nat} {xs : Nat → Int32} {Q : iq_T} (v3 : Int) (w0 : Int) (g : iq_I) (l : iq_J) (H : (0 ≤ (v3 + 1) ∧ (v3 + 1) < N ∧ (v3 + 1) ≤ 65536) ∧ (iq_P N xs 349 0 [some (iq_r 77), some (iq_i ((xs (Int.toNat (v3 + 1))).toInt))] [] g l (fun r g1 l2 => ∃ z3, r = some (iq_i z3) ∧ ((-2147483648 ≤ w0 ∧ w0 ≤ 2147483647 ∧ -2147483648 ≤ z3 ∧ z3 ≤ 2147483647) ∧
      (w0 = z3 → (iq_P N xs 361 1940 [some (iq_r 1000000), some (iq_r 0), some (iq_r 77), some (iq_i v3)] [] g1 l2 Q)) ∧
      (¬ w0 = z3 → (Q (some (iq_i 0)) g1 l2)))))) :
    iq_P N xs 361 1844 [some (iq_r 1000000), some (iq_r 0), some (iq_r 77), some (iq_i v3)] [iq_i w0] g l Q := iq_w_ok (cuts := [1940]) 10 1844 _ _ _ _ H

-- ScaleForgeLaw.law([I)Z at 1858
set_option maxRecDepth 20000 in
theorem B361_c63 {N : Nat} {xs : Nat → Int32} {Q : iq_T} (v3 : Int) (g : iq_I) (l : iq_J) (H : (0 ≤ (v3 + 1) ∧ (v3 + 1) < N ∧ (v3 + 1) ≤ 65536) ∧ (iq_P N xs 351 0 [some (iq_r 0), some (iq_i ((xs (Int.toNat (v3 + 1))).toInt))] [] g l (fun r g1 l2 => ∃ z3, r = some (iq_i z3) ∧ (iq_P N xs 361 1867 [some (iq_r 1000000), some (iq_r 0), some (iq_r 77), some (iq_i v3)] [iq_i z3] g1 l2 Q)))) :
    iq_P N xs 361 1858 [some (iq_r 1000000), some (iq_r 0), some (iq_r 77), some (iq_i v3)] [] g l Q := iq_w_ok (cuts := [1867]) 7 1858 _ _ _ _ H

-- ScaleForgeLaw.law([I)Z at 1867
set_option maxRecDepth 20000 in
theorem B361_d63 {N : Nat} {xs : Nat → Int32} {Q : iq_T} (v3 : Int) (w0 : Int) (g : iq_I) (l : iq_J) (H : (0 ≤ (v3 + 1) ∧ (v3 + 1) < N ∧ (v3 + 1) ≤ 65536) ∧ (iq_P N xs 352 0 [some (iq_r 77), some (iq_i ((xs (Int.toNat (v3 + 1))).toInt))] [] g l (fun r g1 l2 => ∃ z3, r = some (iq_i z3) ∧ ((-2147483648 ≤ w0 ∧ w0 ≤ 2147483647 ∧ -2147483648 ≤ z3 ∧ z3 ≤ 2147483647) ∧
      (w0 = z3 → (iq_P N xs 361 1940 [some (iq_r 1000000), some (iq_r 0), some (iq_r 77), some (iq_i v3)] [] g1 l2 Q)) ∧
      (¬ w0 = z3 → (Q (some (iq_i 0)) g1 l2)))))) :
    iq_P N xs 361 1867 [some (iq_r 1000000), some (iq_r 0), some (iq_r 77), some (iq_i v3)] [iq_i w0] g l Q := iq_w_ok (cuts := [1940]) 10 1867 _ _ _ _ H

-- ScaleForgeLaw.law([I)Z at 1881
set_option maxRecDepth 20000 in
theorem B361_c64 {N : Nat} {xs : Nat → Int32} {Q : iq_T} (v3 : Int) (g : iq_I) (l : iq_J) (H : (0 ≤ (v3 + 1) ∧ (v3 + 1) < N ∧ (v3 + 1) ≤ 65536) ∧ ((0 ≤ (v3 + 2) ∧ (v3 + 2) < N ∧ (v3 + 2) ≤ 65536) ∧ (iq_P N xs 353 0 [some (iq_r 0), some (iq_i ((xs (Int.toNat (v3 + 1))).toInt)), some (iq_i ((xs (Int.toNat (v3 + 2))).toInt)), none, none, none] [] g l (fun r g1 l2 => ∃ z3, r = some (iq_i z3) ∧ (iq_P N xs 361 1895 [some (iq_r 1000000), some (iq_r 0), some (iq_r 77), some (iq_i v3)] [iq_i z3] g1 l2 Q))))) :
    iq_P N xs 361 1881 [some (iq_r 1000000), some (iq_r 0), some (iq_r 77), some (iq_i v3)] [] g l Q := iq_w_ok (cuts := [1895]) 12 1881 _ _ _ _ H

-- ScaleForgeLaw.law([I)Z at 1895
set_option maxRecDepth 20000 in
theorem B361_d64 {N : Nat} {xs : Nat → Int32} {Q : iq_T} (v3 : Int) (w0 : Int) (g : iq_I) (l : iq_J) (H : (0 ≤ (v3 + 1) ∧ (v3 + 1) < N ∧ (v3 + 1) ≤ 65536) ∧ ((0 ≤ (v3 + 2) ∧ (v3 + 2) < N ∧ (v3 + 2) ≤ 65536) ∧ (iq_P N xs 355 0 [some (iq_r 77), some (iq_i ((xs (Int.toNat (v3 + 1))).toInt)), some (iq_i ((xs (Int.toNat (v3 + 2))).toInt)), none, none, none] [] g l (fun r g1 l2 => ∃ z3, r = some (iq_i z3) ∧ ((-2147483648 ≤ w0 ∧ w0 ≤ 2147483647 ∧ -2147483648 ≤ z3 ∧ z3 ≤ 2147483647) ∧
      (w0 = z3 → (iq_P N xs 361 1940 [some (iq_r 1000000), some (iq_r 0), some (iq_r 77), some (iq_i v3)] [] g1 l2 Q)) ∧
      (¬ w0 = z3 → (Q (some (iq_i 0)) g1 l2))))))) :
    iq_P N xs 361 1895 [some (iq_r 1000000), some (iq_r 0), some (iq_r 77), some (iq_i v3)] [iq_i w0] g l Q := iq_w_ok (cuts := [1940]) 15 1895 _ _ _ _ H

-- ScaleForgeLaw.law([I)Z at 1914
set_option maxRecDepth 20000 in
theorem B361_c65 {N : Nat} {xs : Nat → Int32} {Q : iq_T} (v3 : Int) (g : iq_I) (l : iq_J) (H : iq_P N xs 356 0 [some (iq_r 0)] [] g l (fun r g1 l2 => ∃ z3, r = some (iq_i z3) ∧ (iq_P N xs 361 1918 [some (iq_r 1000000), some (iq_r 0), some (iq_r 77), some (iq_i v3)] [iq_i z3] g1 l2 Q))) :
    iq_P N xs 361 1914 [some (iq_r 1000000), some (iq_r 0), some (iq_r 77), some (iq_i v3)] [] g l Q := iq_w_ok (cuts := [1918]) 2 1914 _ _ _ _ H

-- ScaleForgeLaw.law([I)Z at 1918
set_option maxRecDepth 20000 in
theorem B361_d65 {N : Nat} {xs : Nat → Int32} {Q : iq_T} (v3 : Int) (w0 : Int) (g : iq_I) (l : iq_J) (H : iq_P N xs 358 0 [some (iq_r 77)] [] g l (fun r g1 l2 => ∃ z3, r = some (iq_i z3) ∧ ((-2147483648 ≤ w0 ∧ w0 ≤ 2147483647 ∧ -2147483648 ≤ z3 ∧ z3 ≤ 2147483647) ∧
      (w0 = z3 → (iq_P N xs 361 1940 [some (iq_r 1000000), some (iq_r 0), some (iq_r 77), some (iq_i v3)] [] g1 l2 Q)) ∧
      (¬ w0 = z3 → (Q (some (iq_i 0)) g1 l2))))) :
    iq_P N xs 361 1918 [some (iq_r 1000000), some (iq_r 0), some (iq_r 77), some (iq_i v3)] [iq_i w0] g l Q := iq_w_ok (cuts := [1940]) 5 1918 _ _ _ _ H

-- ScaleForgeLaw.law([I)Z at 1927
set_option maxRecDepth 20000 in
theorem B361_c66 {N : Nat} {xs : Nat → Int32} {Q : iq_T} (v3 : Int) (g : iq_I) (l : iq_J) (H : iq_P N xs 359 0 [some (iq_r 0)] [] g l (fun r g1 l2 => ∃ z3, r = some (iq_i z3) ∧ (iq_P N xs 361 1931 [some (iq_r 1000000), some (iq_r 0), some (iq_r 77), some (iq_i v3)] [iq_i z3] g1 l2 Q))) :
    iq_P N xs 361 1927 [some (iq_r 1000000), some (iq_r 0), some (iq_r 77), some (iq_i v3)] [] g l Q := iq_w_ok (cuts := [1931]) 2 1927 _ _ _ _ H

-- ScaleForgeLaw.law([I)Z at 1931
set_option maxRecDepth 20000 in
theorem B361_d66 {N : Nat} {xs : Nat → Int32} {Q : iq_T} (v3 : Int) (w0 : Int) (g : iq_I) (l : iq_J) (H : iq_P N xs 360 0 [some (iq_r 77)] [] g l (fun r g1 l2 => ∃ z3, r = some (iq_i z3) ∧ ((-2147483648 ≤ w0 ∧ w0 ≤ 2147483647 ∧ -2147483648 ≤ z3 ∧ z3 ≤ 2147483647) ∧
      (w0 = z3 → (iq_P N xs 361 1940 [some (iq_r 1000000), some (iq_r 0), some (iq_r 77), some (iq_i v3)] [] g1 l2 Q)) ∧
      (¬ w0 = z3 → (Q (some (iq_i 0)) g1 l2))))) :
    iq_P N xs 361 1931 [some (iq_r 1000000), some (iq_r 0), some (iq_r 77), some (iq_i v3)] [iq_i w0] g l Q := iq_w_ok (cuts := [1940]) 5 1931 _ _ _ _ H
