/-! The law: its own stretches. -/
-- ScaleForgeLaw.law([I)Z at 859
set_option maxRecDepth 20000 in
theorem B361_d17 {N : Nat} {xs : Nat → Int32} {Q : iq_T} (v3 : Int) (w0 : Int) (g : iq_I) (l : iq_J) (H : (0 ≤ (v3 + 1) ∧ (v3 + 1) < N ∧ (v3 + 1) ≤ 65536) ∧ (iq_P N xs 170 0 [some (iq_r 77), some (iq_i ((xs (Int.toNat (v3 + 1))).toInt))] [] g l (fun r g1 l2 => ∃ z3, r = some (iq_i z3) ∧ ((-2147483648 ≤ w0 ∧ w0 ≤ 2147483647 ∧ -2147483648 ≤ z3 ∧ z3 ≤ 2147483647) ∧
      (w0 = z3 → (iq_P N xs 361 1940 [some (iq_r 1000000), some (iq_r 0), some (iq_r 77), some (iq_i v3)] [] g1 l2 Q)) ∧
      (¬ w0 = z3 → (Q (some (iq_i 0)) g1 l2)))))) :
    iq_P N xs 361 859 [some (iq_r 1000000), some (iq_r 0), some (iq_r 77), some (iq_i v3)] [iq_i w0] g l Q := iq_w_ok (cuts := [1940]) 10 859 _ _ _ _ H

-- ScaleForgeLaw.law([I)Z at 873
set_option maxRecDepth 20000 in
theorem B361_c18 {N : Nat} {xs : Nat → Int32} {Q : iq_T} (v3 : Int) (g : iq_I) (l : iq_J) (H : (0 ≤ (v3 + 1) ∧ (v3 + 1) < N ∧ (v3 + 1) ≤ 65536) ∧ (iq_P N xs 172 0 [some (iq_r 0), some (iq_i ((xs (Int.toNat (v3 + 1))).toInt)), none] [] g l (fun r g1 l2 => ∃ z3, r = some (iq_i z3) ∧ (iq_P N xs 361 882 [some (iq_r 1000000), some (iq_r 0), some (iq_r 77), some (iq_i v3)] [iq_i z3] g1 l2 Q)))) :
    iq_P N xs 361 873 [some (iq_r 1000000), some (iq_r 0), some (iq_r 77), some (iq_i v3)] [] g l Q := iq_w_ok (cuts := [882]) 7 873 _ _ _ _ H

-- ScaleForgeLaw.law([I)Z at 882
set_option maxRecDepth 20000 in
theorem B361_d18 {N : Nat} {xs : Nat → Int32} {Q : iq_T} (v3 : Int) (w0 : Int) (g : iq_I) (l : iq_J) (H : (0 ≤ (v3 + 1) ∧ (v3 + 1) < N ∧ (v3 + 1) ≤ 65536) ∧ (iq_P N xs 174 0 [some (iq_r 77), some (iq_i ((xs (Int.toNat (v3 + 1))).toInt))] [] g l (fun r g1 l2 => ∃ z3, r = some (iq_i z3) ∧ ((-2147483648 ≤ w0 ∧ w0 ≤ 2147483647 ∧ -2147483648 ≤ z3 ∧ z3 ≤ 2147483647) ∧
      (w0 = z3 → (iq_P N xs 361 1940 [some (iq_r 1000000), some (iq_r 0), some (iq_r 77), some (iq_i v3)] [] g1 l2 Q)) ∧
      (¬ w0 = z3 → (Q (some (iq_i 0)) g1 l2)))))) :
    iq_P N xs 361 882 [some (iq_r 1000000), some (iq_r 0), some (iq_r 77), some (iq_i v3)] [iq_i w0] g l Q := iq_w_ok (cuts := [1940]) 10 882 _ _ _ _ H

-- ScaleForgeLaw.law([I)Z at 896
set_option maxRecDepth 20000 in
theorem B361_c19 {N : Nat} {xs : Nat → Int32} {Q : iq_T} (v3 : Int) (g : iq_I) (l : iq_J) (H : (0 ≤ (v3 + 1) ∧ (v3 + 1) < N ∧ (v3 + 1) ≤ 65536) ∧ ((0 ≤ (v3 + 2) ∧ (v3 + 2) < N ∧ (v3 + 2) ≤ 65536) ∧ (iq_P N xs 176 0 [some (iq_r 0), some (iq_i ((xs (Int.toNat (v3 + 1))).toInt)), some (iq_i ((xs (Int.toNat (v3 + 2))).toInt))] [] g l (fun r g1 l2 => ∃ z3, r = some (iq_i z3) ∧ (iq_P N xs 361 910 [some (iq_r 1000000), some (iq_r 0), some (iq_r 77), some (iq_i v3)] [iq_i z3] g1 l2 Q))))) :
    iq_P N xs 361 896 [some (iq_r 1000000), some (iq_r 0), some (iq_r 77), some (iq_i v3)] [] g l Q := iq_w_ok (cuts := [910]) 12 896 _ _ _ _ H

-- ScaleForgeLaw.law([I)Z at 910
set_option maxRecDepth 20000 in
theorem B361_d19 {N : Nat} {xs : Nat → Int32} {Q : iq_T} (v3 : Int) (w0 : Int) (g : iq_I) (l : iq_J) (H : (0 ≤ (v3 + 1) ∧ (v3 + 1) < N ∧ (v3 + 1) ≤ 65536) ∧ ((0 ≤ (v3 + 2) ∧ (v3 + 2) < N ∧ (v3 + 2) ≤ 65536) ∧ (iq_P N xs 177 0 [some (iq_r 77), some (iq_i ((xs (Int.toNat (v3 + 1))).toInt)), some (iq_i ((xs (Int.toNat (v3 + 2))).toInt)), none] [] g l (fun r g1 l2 => ∃ z3, r = some (iq_i z3) ∧ ((-2147483648 ≤ w0 ∧ w0 ≤ 2147483647 ∧ -2147483648 ≤ z3 ∧ z3 ≤ 2147483647) ∧
      (w0 = z3 → (iq_P N xs 361 1940 [some (iq_r 1000000), some (iq_r 0), some (iq_r 77), some (iq_i v3)] [] g1 l2 Q)) ∧
      (¬ w0 = z3 → (Q (some (iq_i 0)) g1 l2))))))) :
    iq_P N xs 361 910 [some (iq_r 1000000), some (iq_r 0), some (iq_r 77), some (iq_i v3)] [iq_i w0] g l Q := iq_w_ok (cuts := [1940]) 15 910 _ _ _ _ H

-- ScaleForgeLaw.law([I)Z at 929
set_option maxRecDepth 20000 in
theorem B361_c20 {N : Nat} {xs : Nat → Int32} {Q : iq_T} (v3 : Int) (g : iq_I) (l : iq_J) (H : (0 ≤ (v3 + 1) ∧ (v3 + 1) < N ∧ (v3 + 1) ≤ 65536) ∧ (iq_P N xs 179 0 [some (iq_r 0), some (iq_i ((xs (Int.toNat (v3 + 1))).toInt))] [] g l (fun r g1 l2 => ∃ z3, r = some (iq_i z3) ∧ (iq_P N xs 361 938 [some (iq_r 1000000), some (iq_r 0), some (iq_r 77), some (iq_i v3)] [iq_i z3] g1 l2 Q)))) :
    iq_P N xs 361 929 [some (iq_r 1000000), some (iq_r 0), some (iq_r 77), some (iq_i v3)] [] g l Q := iq_w_ok (cuts := [938]) 7 929 _ _ _ _ H

-- ScaleForgeLaw.law([I)Z at 938
set_option maxRecDepth 20000 in
theorem B361_d20 {N : Nat} {xs : Nat → Int32} {Q : iq_T} (v3 : Int) (w0 : Int) (g : iq_I) (l : iq_J) (H : (0 ≤ (v3 + 1) ∧ (v3 + 1) < N ∧ (v3 + 1) ≤ 65536) ∧ (iq_P N xs 181 0 [some (iq_r 77), some (iq_i ((xs (Int.toNat (v3 + 1))).toInt))] [] g l (fun r g1 l2 => ∃ z3, r = some (iq_i z3) ∧ ((-2147483648 ≤ w0 ∧ w0 ≤ 2147483647 ∧ -2147483648 ≤ z3 ∧ z3 ≤ 2147483647) ∧
      (w0 = z3 → (iq_P N xs 361 1940 [some (iq_r 1000000), some (iq_r 0), some (iq_r 77), some (iq_i v3)] [] g1 l2 Q)) ∧
      (¬ w0 = z3 → (Q (some (iq_i 0)) g1 l2)))))) :
    iq_P N xs 361 938 [some (iq_r 1000000), some (iq_r 0), some (iq_r 77), some (iq_i v3)] [iq_i w0] g l Q := iq_w_ok (cuts := [1940]) 10 938 _ _ _ _ H

-- ScaleForgeLaw.law([I)Z at 952
set_option maxRecDepth 20000 in
theorem B361_c21 {N : Nat} {xs : Nat → Int32} {Q : iq_T} (v3 : Int) (g : iq_I) (l : iq_J) (H : (0 ≤ (v3 + 1) ∧ (v3 + 1) < N ∧ (v3 + 1) ≤ 65536) ∧ (iq_P N xs 183 0 [some (iq_r 0), some (iq_i ((xs (Int.toNat (v3 + 1))).toInt))] [] g l (fun r g1 l2 => ∃ z3, r = some (iq_i z3) ∧ (iq_P N xs 361 961 [some (iq_r 1000000), some (iq_r 0), some (iq_r 77), some (iq_i v3)] [iq_i z3] g1 l2 Q)))) :
    iq_P N xs 361 952 [some (iq_r 1000000), some (iq_r 0), some (iq_r 77), some (iq_i v3)] [] g l Q := iq_w_ok (cuts := [961]) 7 952 _ _ _ _ H

-- ScaleForgeLaw.law([I)Z at 961
set_option maxRecDepth 20000 in
theorem B361_d21 {N : Nat} {xs : Nat → Int32} {Q : iq_T} (v3 : Int) (w0 : Int) (g : iq_I) (l : iq_J) (H : (0 ≤ (v3 + 1) ∧ (v3 + 1) < N ∧ (v3 + 1) ≤ 65536) ∧ (iq_P N xs 185 0 [some (iq_r 77), some (iq_i ((xs (Int.toNat (v3 + 1))).toInt))] [] g l (fun r g1 l2 => ∃ z3, r = some (iq_i z3) ∧ ((-2147483648 ≤ w0 ∧ w0 ≤ 2147483647 ∧ -2147483648 ≤ z3 ∧ z3 ≤ 2147483647) ∧
      (w0 = z3 → (iq_P N xs 361 1940 [some (iq_r 1000000), some (iq_r 0), some (iq_r 77), some (iq_i v3)] [] g1 l2 Q)) ∧
      (¬ w0 = z3 → (Q (some (iq_i 0)) g1 l2)))))) :
    iq_P N xs 361 961 [some (iq_r 1000000), some (iq_r 0), some (iq_r 77), some (iq_i v3)] [iq_i w0] g l Q := iq_w_ok (cuts := [1940]) 10 961 _ _ _ _ H

-- ScaleForgeLaw.law([I)Z at 975
set_option maxRecDepth 20000 in
theorem B361_c22 {N : Nat} {xs : Nat → Int32} {Q : iq_T} (v3 : Int) (g : iq_I) (l : iq_J) (H : iq_P N xs 186 0 [some (iq_r 0), none] [] g l (fun r g1 l2 => ∃ z3, r = some (iq_i z3) ∧ (iq_P N xs 361 979 [some (iq_r 1000000), some (iq_r 0), some (iq_r 77), some (iq_i v3)] [iq_i z3] g1 l2 Q))) :
    iq_P N xs 361 975 [some (iq_r 1000000), some (iq_r 0), some (iq_r 77), some (iq_i v3)] [] g l Q := iq_w_ok (cuts := [979]) 2 975 _ _ _ _ H

-- ScaleForgeLaw.law([I)Z at 979
set_option maxRecDepth 20000 in
theorem B361_d22 {N : Nat} {xs : Nat → Int32} {Q : iq_T} (v3 : Int) (w0 : Int) (g : iq_I) (l : iq_J) (H : iq_P N xs 187 0 [some (iq_r 77), none, none] [] g l (fun r g1 l2 => ∃ z3, r = some (iq_i z3) ∧ ((-2147483648 ≤ w0 ∧ w0 ≤ 2147483647 ∧ -2147483648 ≤ z3 ∧ z3 ≤ 2147483647) ∧
      (w0 = z3 → (iq_P N xs 361 1940 [some (iq_r 1000000), some (iq_r 0), some (iq_r 77), some (iq_i v3)] [] g1 l2 Q)) ∧
      (¬ w0 = z3 → (Q (some (iq_i 0)) g1 l2))))) :
    iq_P N xs 361 979 [some (iq_r 1000000), some (iq_r 0), some (iq_r 77), some (iq_i v3)] [iq_i w0] g l Q := iq_w_ok (cuts := [1940]) 5 979 _ _ _ _ H

-- ScaleForgeLaw.law([I)Z at 988
set_option maxRecDepth 20000 in
theorem B361_c23 {N : Nat} {xs : Nat → Int32} {Q : iq_T} (v3 : Int) (g : iq_I) (l : iq_J) (H : (0 ≤ (v3 + 1) ∧ (v3 + 1) < N ∧ (v3 + 1) ≤ 65536) ∧ (iq_P N xs 190 0 [some (iq_r 0), some (iq_i ((xs (Int.toNat (v3 + 1))).toInt))] [] g l (fun r g1 l2 => ∃ z3, r = some (iq_i z3) ∧ (iq_P N xs 361 997 [some (iq_r 1000000), some (iq_r 0), some (iq_r 77), some (iq_i v3)] [iq_i z3] g1 l2 Q)))) :
    iq_P N xs 361 988 [some (iq_r 1000000), some (iq_r 0), some (iq_r 77), some (iq_i v3)] [] g l Q := iq_w_ok (cuts := [997]) 7 988 _ _ _ _ H

-- ScaleForgeLaw.law([I)Z at 997
set_option maxRecDepth 20000 in
theorem B361_d23 {N : Nat} {xs : Nat → Int32} {Q : iq_T} (v3 : Int) (w0 : Int) (g : iq_I) (l : iq_J) (H : (0 ≤ (v3 + 1) ∧ (v3 + 1) < N ∧ (v3 + 1) ≤ 65536) ∧ (iq_P N xs 195 0 [some (iq_r 77), some (iq_i ((xs (Int.toNat (v3 + 1))).toInt)), none] [] g l (fun r g1 l2 => ∃ z3, r = some (iq_i z3) ∧ ((-2147483648 ≤ w0 ∧ w0 ≤ 2147483647 ∧ -2147483648 ≤ z3 ∧ z3 ≤ 2147483647) ∧
      (w0 = z3 → (iq_P N xs 361 1940 [some (iq_r 1000000), some (iq_r 0), some (iq_r 77), some (iq_i v3)] [] g1 l2 Q)) ∧
      (¬ w0 = z3 → (Q (some (iq_i 0)) g1 l2)))))) :
    iq_P N xs 361 997 [some (iq_r 1000000), some (iq_r 0), some (iq_r 77), some (iq_i v3)] [iq_i w0] g l Q := iq_w_ok (cuts := [1940]) 10 997 _ _ _ _ H

-- ScaleForgeLaw.law([I)Z at 1011
set_option maxRecDepth 20000 in
theorem B361_c24 {N : Nat} {xs : Nat → Int32} {Q : iq_T} (v3 : Int) (g : iq_I) (l : iq_J) (H : iq_P N xs 196 0 [some (iq_r 0), none, none] [] g l (fun r g1 l2 => ∃ z3, r = some (iq_i z3) ∧ (iq_P N xs 361 1015 [some (iq_r 1000000), some (iq_r 0), some (iq_r 77), some (iq_i v3)] [iq_i z3] g1 l2 Q))) :
    iq_P N xs 361 1011 [some (iq_r 1000000), some (iq_r 0), some (iq_r 77), some (iq_i v3)] [] g l Q := iq_w_ok (cuts := [1015]) 2 1011 _ _ _ _ H

-- ScaleForgeLaw.law([I)Z at 1015
set_option maxRecDepth 20000 in
theorem B361_d24 {N : Nat} {xs : Nat → Int32} {Q : iq_T} (v3 : Int) (w0 : Int) (g : iq_I) (l : iq_J) (H : iq_P N xs 197 0 [some (iq_r 77)] [] g l (fun r g1 l2 => ∃ z3, r = some (iq_i z3) ∧ ((-2147483648 ≤ w0 ∧ w0 ≤ 2147483647 ∧ -2147483648 ≤ z3 ∧ z3 ≤ 2147483647) ∧
      (w0 = z3 → (iq_P N xs 361 1940 [some (iq_r 1000000), some (iq_r 0), some (iq_r 77), some (iq_i v3)] [] g1 l2 Q)) ∧
      (¬ w0 = z3 → (Q (some (iq_i 0)) g1 l2))))) :
    iq_P N xs 361 1015 [some (iq_r 1000000), some (iq_r 0), some (iq_r 77), some (iq_i v3)] [iq_i w0] g l Q := iq_w_ok (cuts := [1940]) 5 1015 _ _ _ _ H

-- ScaleForgeLaw.law([I)Z at 1024
set_option maxRecDepth 20000 in
theorem B361_c25 {N : Nat} {xs : Nat → Int32} {Q : iq_T} (v3 : Int) (g : iq_I) (l : iq_J) (H : (0 ≤ (v3 + 1) ∧ (v3 + 1) < N ∧ (v3 + 1) ≤ 65536) ∧ (iq_P N xs 198 0 [some (iq_r 0), some (iq_i ((xs (Int.toNat (v3 + 1))).toInt))] [] g l (fun r g1 l2 => ∃ z3, r = some (iq_i z3) ∧ (iq_P N xs 361 1033 [some (iq_r 1000000), some (iq_r 0), some (iq_r 77), some (iq_i v3)] [iq_i z3] g1 l2 Q)))) :
    iq_P N xs 361 1024 [some (iq_r 1000000), some (iq_r 0), some (iq_r 77), some (iq_i v3)] [] g l Q := iq_w_ok (cuts := [1033]) 7 1024 _ _ _ _ H

-- ScaleForgeLaw.law([I)Z at 1033
set_option maxRecDepth 20000 in
theorem B361_d25 {N : Nat} {xs : Nat → Int32} {Q : iq_T} (v3 : Int) (w0 : Int) (g : iq_I) (l : iq_J) (H : (0 ≤ (v3 + 1) ∧ (v3 + 1) < N ∧ (v3 + 1) ≤ 65536) ∧ (iq_P N xs 199 0 [some (iq_r 77), some (iq_i ((xs (Int.toNat (v3 + 1))).toInt)), none, none] [] g l (fun r g1 l2 => ∃ z3, r = some (iq_i z3) ∧ ((-2147483648 ≤ w0 ∧ w0 ≤ 2147483647 ∧ -2147483648 ≤ z3 ∧ z3 ≤ 2147483647) ∧
      (w0 = z3 → (iq_P N xs 361 1940 [some (iq_r 1000000), some (iq_r 0), some (iq_r 77), some (iq_i v3)] [] g1 l2 Q)) ∧
      (¬ w0 = z3 → (Q (some (iq_i 0)) g1 l2)))))) :
    iq_P N xs 361 1033 [some (iq_r 1000000), some (iq_r 0), some (iq_r 77), some (iq_i v3)] [iq_i w0] g l Q := iq_w_ok (cuts := [1940]) 10 1033 _ _ _ _ H

-- ScaleForgeLaw.law([I)Z at 1047
set_option maxRecDepth 20000 in
theorem B361_c26 {N : Nat} {xs : Nat → Int32} {Q : iq_T} (v3 : Int) (g : iq_I) (l : iq_J) (H : (0 ≤ (v3 + 1) ∧ (v3 + 1) < N ∧ (v3 + 1) ≤ 65536) ∧ (iq_P N xs 201 0 [some (iq_r 0), some (iq_i ((xs (Int.toNat (v3 + 1))).toInt))] [] g l (fun r g1 l2 => ∃ z3, r = some (iq_i z3) ∧ (iq_P N xs 361 1056 [some (iq_r 1000000), some (iq_r 0), some (iq_r 77), some (iq_i v3)] [iq_i z3] g1 l2 Q)))) :
    iq_P N xs 361 1047 [some (iq_r 1000000), some (iq_r 0), some (iq_r 77), some (iq_i v3)] [] g l Q := iq_w_ok (cuts := [1056]) 7 1047 _ _ _ _ H

-- ScaleForgeLaw.law([I)Z at 1056
set_option maxRecDepth 20000 in
theorem B361_d26 {N : Nat} {xs : Nat → Int32} {Q : iq_T} (v3 : Int) (w0 : Int) (g : iq_I) (l : iq_J) (H : (0 ≤ (v3 + 1) ∧ (v3 + 1) < N ∧ (v3 + 1) ≤ 65536) ∧ (iq_P N xs 202 0 [some (iq_r 77), some (iq_i ((xs (Int.toNat (v3 + 1))).toInt))] [] g l (fun r g1 l2 => ∃ z3, r = some (iq_i z3) ∧ ((-2147483648 ≤ w0 ∧ w0 ≤ 2147483647 ∧ -2147483648 ≤ z3 ∧ z3 ≤ 2147483647) ∧
      (w0 = z3 → (iq_P N xs 361 1940 [some (iq_r 1000000), some (iq_r 0), some (iq_r 77), some (iq_i v3)] [] g1 l2 Q)) ∧
      (¬ w0 = z3 → (Q (some (iq_i 0)) g1 l2)))))) :
    iq_P N xs 361 1056 [some (iq_r 1000000), some (iq_r 0), some (iq_r 77), some (iq_i v3)] [iq_i w0] g l Q := iq_w_ok (cuts := [1940]) 10 1056 _ _ _ _ H

-- ScaleForgeLaw.law([I)Z at 1070
set_option maxRecDepth 20000 in
theorem B361_c27 {N : Nat} {xs : Nat → Int32} {Q : iq_T} (v3 : Int) (g : iq_I) (l : iq_J) (H : (0 ≤ (v3 + 1) ∧ (v3 + 1) < N ∧ (v3 + 1) ≤ 65536) ∧ (iq_P N xs 204 0 [some (iq_r 0), some (iq_i ((xs (Int.toNat (v3 + 1))).toInt))] [] g l (fun r g1 l2 => ∃ z3, r = some (iq_i z3) ∧ (iq_P N xs 361 1079 [some (iq_r 1000000), some (iq_r 0), some (iq_r 77), some (iq_i v3)] [iq_i z3] g1 l2 Q)))) :
    iq_P N xs 361 1070 [some (iq_r 1000000), some (iq_r 0), some (iq_r 77), some (iq_i v3)] [] g l Q := iq_w_ok (cuts := [1079]) 7 1070 _ _ _ _ H

-- ScaleForgeLaw.law([I)Z at 1079
set_option maxRecDepth 20000 in
theorem B361_d27 {N : Nat} {xs : Nat → Int32} {Q : iq_T} (v3 : Int) (w0 : Int) (g : iq_I) (l : iq_J) (H : (0 ≤ (v3 + 1) ∧ (v3 + 1) < N ∧ (v3 + 1) ≤ 65536) ∧ (iq_P N xs 206 0 [some (iq_r 77), some (iq_i ((xs (Int.toNat (v3 + 1))).toInt))] [] g l (fun r g1 l2 => ∃ z3, r = some (iq_i z3) ∧ ((-2147483648 ≤ w0 ∧ w0 ≤ 2147483647 ∧ -2147483648 ≤ z3 ∧ z3 ≤ 2147483647) ∧
      (w0 = z3 → (iq_P N xs 361 1940 [some (iq_r 1000000), some (iq_r 0), some (iq_r 77), some (iq_i v3)] [] g1 l2 Q)) ∧
      (¬ w0 = z3 → (Q (some (iq_i 0)) g1 l2)))))) :
    iq_P N xs 361 1079 [some (iq_r 1000000), some (iq_r 0), some (iq_r 77), some (iq_i v3)] [iq_i w0] g l Q := iq_w_ok (cuts := [1940]) 10 1079 _ _ _ _ H

-- ScaleForgeLaw.law([I)Z at 1093
set_option maxRecDepth 20000 in
theorem B361_c28 {N : Nat} {xs : Nat → Int32} {Q : iq_T} (v3 : Int) (g : iq_I) (l : iq_J) (H : iq_P N xs 207 0 [some (iq_r 0), none, none] [] g l (fun r g1 l2 => ∃ z3, r = some (iq_i z3) ∧ (iq_P N xs 361 1097 [some (iq_r 1000000), some (iq_r 0), some (iq_r 77), some (iq_i v3)] [iq_i z3] g1 l2 Q))) :
    iq_P N xs 361 1093 [some (iq_r 1000000), some (iq_r 0), some (iq_r 77), some (iq_i v3)] [] g l Q := iq_w_ok (cuts := [1097]) 2 1093 _ _ _ _ H

-- ScaleForgeLaw.law([I)Z at 1097
set_option maxRecDepth 20000 in
theorem B361_d28 {N : Nat} {xs : Nat → Int32} {Q : iq_T} (v3 : Int) (w0 : Int) (g : iq_I) (l : iq_J) (H : iq_P N xs 208 0 [some (iq_r 77), none, none] [] g l (fun r g1 l2 => ∃ z3, r = some (iq_i z3) ∧ ((-2147483648 ≤ w0 ∧ w0 ≤ 2147483647 ∧ -2147483648 ≤ z3 ∧ z3 ≤ 2147483647) ∧
      (w0 = z3 → (iq_P N xs 361 1940 [some (iq_r 1000000), some (iq_r 0), some (iq_r 77), some (iq_i v3)] [] g1 l2 Q)) ∧
      (¬ w0 = z3 → (Q (some (iq_i 0)) g1 l2))))) :
    iq_P N xs 361 1097 [some (iq_r 1000000), some (iq_r 0), some (iq_r 77), some (iq_i v3)] [iq_i w0] g l Q := iq_w_ok (cuts := [1940]) 5 1097 _ _ _ _ H

-- ScaleForgeLaw.law([I)Z at 1106
set_option maxRecDepth 20000 in
theorem B361_c29 {N : Nat} {xs : Nat → Int32} {Q : iq_T} (v3 : Int) (g : iq_I) (l : iq_J) (H : iq_P N xs 210 0 [some (iq_r 0)] [] g l (fun r g1 l2 => ∃ z3, r = some (iq_i z3) ∧ (iq_P N xs 361 1110 [some (iq_r 1000000), some (iq_r 0), some (iq_r 77), some (iq_i v3)] [iq_i z3] g1 l2 Q))) :
    iq_P N xs 361 1106 [some (iq_r 1000000), some (iq_r 0), some (iq_r 77), some (iq_i v3)] [] g l Q := iq_w_ok (cuts := [1110]) 2 1106 _ _ _ _ H

-- ScaleForgeLaw.law([I)Z at 1110
set_option maxRecDepth 20000 in
theorem B361_d29 {N : Nat} {xs : Nat → Int32} {Q : iq_T} (v3 : Int) (w0 : Int) (g : iq_I) (l : iq_J) (H : iq_P N xs 212 0 [some (iq_r 77)] [] g l (fun r g1 l2 => ∃ z3, r = some (iq_i z3) ∧ ((-2147483648 ≤ w0 ∧ w0 ≤ 2147483647 ∧ -2147483648 ≤ z3 ∧ z3 ≤ 2147483647) ∧
      (w0 = z3 → (iq_P N xs 361 1940 [some (iq_r 1000000), some (iq_r 0), some (iq_r 77), some (iq_i v3)] [] g1 l2 Q)) ∧
      (¬ w0 = z3 → (Q (some (iq_i 0)) g1 l2))))) :
    iq_P N xs 361 1110 [some (iq_r 1000000), some (iq_r 0), some (iq_r 77), some (iq_i v3)] [iq_i w0] g l Q := iq_w_ok (cuts := [1940]) 5 1110 _ _ _ _ H

-- ScaleForgeLaw.law([I)Z at 1119
set_option maxRecDepth 20000 in
theorem B361_c30 {N : Nat} {xs : Nat → Int32} {Q : iq_T} (v3 : Int) (g : iq_I) (l : iq_J) (H : (0 ≤ (v3 + 1) ∧ (v3 + 1) < N ∧ (v3 + 1) ≤ 65536) ∧ (iq_P N xs 213 0 [some (iq_r 0), some (iq_i ((xs (Int.toNat (v3 + 1))).toInt))] [] g l (fun r g1 l2 => ∃ z3, r = some (iq_i z3) ∧ (iq_P N xs 361 1128 [some (iq_r 1000000), some (iq_r 0), some (iq_r 77), some (iq_i v3)] [iq_i z3] g1 l2 Q)))) :
    iq_P N xs 361 1119 [some (iq_r 1000000), some (iq_r 0), some (iq_r 77), some (iq_i v3)] [] g l Q := iq_w_ok (cuts := [1128]) 7 1119 _ _ _ _ H

-- ScaleForgeLaw.law([I)Z at 1128
set_option maxRecDepth 20000 in
theorem B361_d30 {N : Nat} {xs : Nat → Int32} {Q : iq_T} (v3 : Int) (w0 : Int) (g : iq_I) (l : iq_J) (H : (0 ≤ (v3 + 1) ∧ (v3 + 1) < N ∧ (v3 + 1) ≤ 65536) ∧ (iq_P N xs 214 0 [some (iq_r 77), some (iq_i ((xs (Int.toNat (v3 + 1))).toInt)), none] [] g l (fun r g1 l2 => ∃ z3, r = some (iq_i z3) ∧ ((-2147483648 ≤ w0 ∧ w0 ≤ 2147483647 ∧ -2147483648 ≤ z3 ∧ z3 ≤ 2147483647) ∧
      (w0 = z3 → (iq_P N xs 361 1940 [some (iq_r 1000000), some (iq_r 0), some (iq_r 77), some (iq_i v3)] [] g1 l2 Q)) ∧
      (¬ w0 = z3 → (Q (some (iq_i 0)) g1 l2)))))) :
    iq_P N xs 361 1128 [some (iq_r 1000000), some (iq_r 0), some (iq_r 77), some (iq_i v3)] [iq_i w0] g l Q := iq_w_ok (cuts := [1940]) 10 1128 _ _ _ _ H

-- ScaleForgeLaw.law([I)Z at 1142
set_option maxRecDepth 20000 in
theorem B361_c31 {N : Nat} {xs : Nat → Int32} {Q : iq_T} (v3 : Int) (g : iq_I) (l : iq_J) (H : iq_P N xs 216 0 [some (iq_r 0), none, none, none, none, none] [] g l (fun r g1 l2 => ∃ z3, r = some (iq_i z3) ∧ (iq_P N xs 361 1146 [some (iq_r 1000000), some (iq_r 0), some (iq_r 77), some (iq_i v3)] [iq_i z3] g1 l2 Q))) :
    iq_P N xs 361 1142 [some (iq_r 1000000), some (iq_r 0), some (iq_r 77), some (iq_i v3)] [] g l Q := iq_w_ok (cuts := [1146]) 2 1142 _ _ _ _ H

-- ScaleForgeLaw.law([I)Z at 1146
set_option maxRecDepth 20000 in
theorem B361_d31 {N : Nat} {xs : Nat → Int32} {Q : iq_T} (v3 : Int) (w0 : Int) (g : iq_I) (l : iq_J) (H : iq_P N xs 218 0 [some (iq_r 77), none, none, none, none] [] g l (fun r g1 l2 => ∃ z3, r = some (iq_i z3) ∧ ((-2147483648 ≤ w0 ∧ w0 ≤ 2147483647 ∧ -2147483648 ≤ z3 ∧ z3 ≤ 2147483647) ∧
      (w0 = z3 → (iq_P N xs 361 1940 [some (iq_r 1000000), some (iq_r 0), some (iq_r 77), some (iq_i v3)] [] g1 l2 Q)) ∧
      (¬ w0 = z3 → (Q (some (iq_i 0)) g1 l2))))) :
    iq_P N xs 361 1146 [some (iq_r 1000000), some (iq_r 0), some (iq_r 77), some (iq_i v3)] [iq_i w0] g l Q := iq_w_ok (cuts := [1940]) 5 1146 _ _ _ _ H

-- ScaleForgeLaw.law([I)Z at 1155
set_option maxRecDepth 20000 in
theorem B361_c32 {N : Nat} {xs : Nat → Int32} {Q : iq_T} (v3 : Int) (g : iq_I) (l : iq_J) (H : (0 ≤ (v3 + 1) ∧ (v3 + 1) < N ∧ (v3 + 1) ≤ 65536) ∧ ((0 ≤ (v3 + 2) ∧ (v3 + 2) < N ∧ (v3 + 2) ≤ 65536) ∧ (iq_P N xs 219 0 [some (iq_r 0), some (iq_i ((xs (Int.toNat (v3 + 1))).toInt)), some (iq_i ((xs (Int.toNat (v3 + 2))).toInt)), none] [] g l (fun r g1 l2 => ∃ z3, r = some (iq_i z3) ∧ (iq_P N xs 361 1169 [some (iq_r 1000000), some (iq_r 0), some (iq_r 77), some (iq_i v3)] [iq_i z3] g1 l2 Q))))) :
    iq_P N xs 361 1155 [some (iq_r 1000000), some (iq_r 0), some (iq_r 77), some (iq_i v3)] [] g l Q := iq_w_ok (cuts := [1169]) 12 1155 _ _ _ _ H

-- ScaleForgeLaw.law([I)Z at 1169
set_option maxRecDepth 20000 in
theorem B361_d32 {N : Nat} {xs : Nat → Int32} {Q : iq_T} (v3 : Int) (w0 : Int) (g : iq_I) (l : iq_J) (H : (0 ≤ (v3 + 1) ∧ (v3 + 1) < N ∧ (v3 + 1) ≤ 65536) ∧ ((0 ≤ (v3 + 2) ∧ (v3 + 2) < N ∧ (v3 + 2) ≤ 65536) ∧ (iq_P N xs 220 0 [some (iq_r 77), some (iq_i ((xs (Int.toNat (v3 + 1))).toInt)), some (iq_i ((xs (Int.toNat (v3 + 2))).toInt))] [] g l (fun r g1 l2 => ∃ z3, r = some (iq_i z3) ∧ ((-2147483648 ≤ w0 ∧ w0 ≤ 2147483647 ∧ -2147483648 ≤ z3 ∧ z3 ≤ 2147483647) ∧
      (w0 = z3 → (iq_P N xs 361 1940 [some (iq_r 1000000), some (iq_r 0), some (iq_r 77), some (iq_i v3)] [] g1 l2 Q)) ∧
      (¬ w0 = z3 → (Q (some (iq_i 0)) g1 l2))))))) :
    iq_P N xs 361 1169 [some (iq_r 1000000), some (iq_r 0), some (iq_r 77), some (iq_i v3)] [iq_i w0] g l Q := iq_w_ok (cuts := [1940]) 15 1169 _ _ _ _ H

-- ScaleForgeLaw.law([I)Z at 1188
set_option maxRecDepth 20000 in
theorem B361_c33 {N : Nat} {xs : Nat → Int32} {Q : iq_T} (v3 : Int) (g : iq_I) (l : iq_J) (H : (0 ≤ (v3 + 1) ∧ (v3 + 1) < N ∧ (v3 + 1) ≤ 65536) ∧ (iq_P N xs 222 0 [some (iq_r 0), some (iq_i ((xs (Int.toNat (v3 + 1))).toInt))] [] g l (fun r g1 l2 => ∃ z3, r = some (iq_i z3) ∧ (iq_P N xs 361 1197 [some (iq_r 1000000), some (iq_r 0), some (iq_r 77), some (iq_i v3)] [iq_i z3] g1 l2 Q)))) :
    iq_P N xs 361 1188 [some (iq_r 1000000), some (iq_r 0), some (iq_r 77), some (iq_i v3)] [] g l Q := iq_w_ok (cuts := [1197]) 7 1188 _ _ _ _ H

-- ScaleForgeLaw.law([I)Z at 1197
set_option maxRecDepth 20000 in
theorem B361_d33 {N : Nat} {xs : Nat → Int32} {Q : iq_T} (v3 : Int) (w0 : Int) (g : iq_I) (l : iq_J) (H : (0 ≤ (v3 + 1) ∧ (v3 + 1) < N ∧ (v3 + 1) ≤ 65536) ∧ (iq_P N xs 224 0 [some (iq_r 77), some (iq_i ((xs (Int.toNat (v3 + 1))).toInt))] [] g l (fun r g1 l2 => ∃ z3, r = some (iq_i z3) ∧ ((-2147483648 ≤ w0 ∧ w0 ≤ 2147483647 ∧ -2147483648 ≤ z3 ∧ z3 ≤ 2147483647) ∧
      (w0 = z3 → (iq_P N xs 361 1940 [some (iq_r 1000000), some (iq_r 0), some (iq_r 77), some (iq_i v3)] [] g1 l2 Q)) ∧
      (¬ w0 = z3 → (Q (some (iq_i 0)) g1 l2)))))) :
    iq_P N xs 361 1197 [some (iq_r 1000000), some (iq_r 0), some (iq_r 77), some (iq_i v3)] [iq_i w0] g l Q := iq_w_ok (cuts := [1940]) 10 1197 _ _ _ _ H

-- ScaleForgeLaw.law([I)Z at 1211
set_option maxRecDepth 20000 in
theorem B361_c34 {N : Nat} {xs : Nat → Int32} {Q : iq_T} (v3 : Int) (g : iq_I) (l : iq_J) (H : (0 ≤ (v3 + 1) ∧ (v3 + 1) < N ∧ (v3 + 1) ≤ 65536) ∧ (iq_P N xs 226 0 [some (iq_r 0), some (iq_i ((xs (Int.toNat (v3 + 1))).toInt)), none, none] [] g l (fun r g1 l2 => ∃ z3, r = some (iq_i z3) ∧ (iq_P N xs 361 1220 [some (iq_r 1000000), some (iq_r 0), some (iq_r 77), some (iq_i v3)] [iq_i z3] g1 l2 Q)))) :
    iq_P N xs 361 1211 [some (iq_r 1000000), some (iq_r 0), some (iq_r 77), some (iq_i v3)] [] g l Q := iq_w_ok (cuts := [1220]) 7 1211 _ _ _ _ H

-- ScaleForgeLaw.law([I)Z at 1220
set_option maxRecDepth 20000 in
theorem B361_d34 {N : Nat} {xs : Nat → Int32} {Q : iq_T} (v3 : Int) (w0 : Int) (g : iq_I) (l : iq_J) (H : (0 ≤ (v3 + 1) ∧ (v3 + 1) < N ∧ (v3 + 1) ≤ 65536) ∧ (iq_P N xs 227 0 [some (iq_r 77), some (iq_i ((xs (Int.toNat (v3 + 1))).toInt)), none, none, none] [] g l (fun r g1 l2 => ∃ z3, r = some (iq_i z3) ∧ ((-2147483648 ≤ w0 ∧ w0 ≤ 2147483647 ∧ -2147483648 ≤ z3 ∧ z3 ≤ 2147483647) ∧
      (w0 = z3 → (iq_P N xs 361 1940 [some (iq_r 1000000), some (iq_r 0), some (iq_r 77), some (iq_i v3)] [] g1 l2 Q)) ∧
      (¬ w0 = z3 → (Q (some (iq_i 0)) g1 l2)))))) :
    iq_P N xs 361 1220 [some (iq_r 1000000), some (iq_r 0), some (iq_r 77), some (iq_i v3)] [iq_i w0] g l Q := iq_w_ok (cuts := [1940]) 10 1220 _ _ _ _ H

-- ScaleForgeLaw.law([I)Z at 1234
set_option maxRecDepth 20000 in
theorem B361_c35 {N : Nat} {xs : Nat → Int32} {Q : iq_T} (v3 : Int) (g : iq_I) (l : iq_J) (H : (0 ≤ (v3 + 1) ∧ (v3 + 1) < N ∧ (v3 + 1) ≤ 65536) ∧ (iq_P N xs 229 0 [some (iq_r 0), some (iq_i ((xs (Int.toNat (v3 + 1))).toInt))] [] g l (fun r g1 l2 => ∃ z3, r = some (iq_i z3) ∧ (iq_P N xs 361 1243 [some (iq_r 1000000), some (iq_r 0), some (iq_r 77), some (iq_i v3)] [iq_i z3] g1 l2 Q)))) :
    iq_P N xs 361 1234 [some (iq_r 1000000), some (iq_r 0), some (iq_r 77), some (iq_i v3)] [] g l Q := iq_w_ok (cuts := [1243]) 7 1234 _ _ _ _ H

-- ScaleForgeLaw.law([I)Z at 1243
set_option maxRecDepth 20000 in
theorem B361_d35 {N : Nat} {xs : Nat → Int32} {Q : iq_T} (v3 : Int) (w0 : Int) (g : iq_I) (l : iq_J) (H : (0 ≤ (v3 + 1) ∧ (v3 + 1) < N ∧ (v3 + 1) ≤ 65536) ∧ (iq_P N xs 231 0 [some (iq_r 77), some (iq_i ((xs (Int.toNat (v3 + 1))).toInt))] [] g l (fun r g1 l2 => ∃ z3, r = some (iq_i z3) ∧ ((-2147483648 ≤ w0 ∧ w0 ≤ 2147483647 ∧ -2147483648 ≤ z3 ∧ z3 ≤ 2147483647) ∧
      (w0 = z3 → (iq_P N xs 361 1940 [some (iq_r 1000000), some (iq_r 0), some (iq_r 77), some (iq_i v3)] [] g1 l2 Q)) ∧
      (¬ w0 = z3 → (Q (some (iq_i 0)) g1 l2)))))) :
    iq_P N xs 361 1243 [some (iq_r 1000000), some (iq_r 0), some (iq_r 77), some (iq_i v3)] [iq_i w0] g l Q := iq_w_ok (cuts := [1940]) 10 1243 _ _ _ _ H

-- ScaleForgeLaw.law([I)Z at 1257
set_option maxRecDepth 20000 in
theorem B361_c36 {N : Nat} {xs : Nat → Int32} {Q : iq_T} (v3 : Int) (g : iq_I) (l : iq_J) (H : (0 ≤ (v3 + 1) ∧ (v3 + 1) < N ∧ (v3 + 1) ≤ 65536) ∧ (iq_P N xs 234 0 [some (iq_r 0), some (iq_i ((xs (Int.toNat (v3 + 1))).toInt))] [] g l (fun r g1 l2 => ∃ z3, r = some (iq_i z3) ∧ (iq_P N xs 361 1266 [some (iq_r 1000000), some (iq_r 0), some (iq_r 77), some (iq_i v3)] [iq_i z3] g1 l2 Q)))) :
    iq_P N xs 361 1257 [some (iq_r 1000000), some (iq_r 0), some (iq_r 77), some (iq_i v3)] [] g l Q := iq_w_ok (cuts := [1266]) 7 1257 _ _ _ _ H

-- ScaleForgeLaw.law([I)Z at 1266
set_option maxRecDepth 20000 in
theorem B361_d36 {N : Nat} {xs : Nat → Int32} {Q : iq_T} (v3 : Int) (w0 : Int) (g : iq_I) (l : iq_J) (H : (0 ≤ (v3 + 1) ∧ (v3 + 1) < N ∧ (v3 + 1) ≤ 65536) ∧ (iq_P N xs 236 0 [some (iq_r 77), some (iq_i ((xs (Int.toNat (v3 + 1))).toInt))] [] g l (fun r g1 l2 => ∃ z3, r = some (iq_i z3) ∧ ((-2147483648 ≤ w0 ∧ w0 ≤ 2147483647 ∧ -2147483648 ≤ z3 ∧ z3 ≤ 2147483647) ∧
      (w0 = z3 → (iq_P N xs 361 1940 [some (iq_r 1000000), some (iq_r 0), some (iq_r 77), some (iq_i v3)] [] g1 l2 Q)) ∧
      (¬ w0 = z3 → (Q (some (iq_i 0)) g1 l2)))))) :
    iq_P N xs 361 1266 [some (iq_r 1000000), some (iq_r 0), some (iq_r 77), some (iq_i v3)] [iq_i w0] g l Q := iq_w_ok (cuts := [1940]) 10 1266 _ _ _ _ H

-- ScaleForgeLaw.law([I)Z at 1280
set_option maxRecDepth 20000 in
theorem B361_c37 {N : Nat} {xs : Nat → Int32} {Q : iq_T} (v3 : Int) (g : iq_I) (l : iq_J) (H : (0 ≤ (v3 + 1) ∧ (v3 + 1) < N ∧ (v3 + 1) ≤ 65536) ∧ ((0 ≤ (v3 + 2) ∧ (v3 + 2) < N ∧ (v3 + 2) ≤ 65536) ∧ (iq_P N xs 237 0 [some (iq_r 0), some (iq_i ((xs (Int.toNat (v3 + 1))).toInt)), some (iq_i ((xs (Int.toNat (v3 + 2))).toInt)), none] [] g l (fun r g1 l2 => ∃ z3, r = some (iq_i z3) ∧ (iq_P N xs 361 1294 [some (iq_r 1000000), some (iq_r 0), some (iq_r 77), some (iq_i v3)] [iq_i z3] g1 l2 Q))))) :
    iq_P N xs 361 1280 [some (iq_r 1000000), some (iq_r 0), some (iq_r 77), some (iq_i v3)] [] g l Q := iq_w_ok (cuts := [1294]) 12 1280 _ _ _ _ H

-- ScaleForgeLaw.law([I)Z at 1294
set_option maxRecDepth 20000 in
theorem B361_d37 {N : Nat} {xs : Nat → Int32} {Q : iq_T} (v3 : Int) (w0 : Int) (g : iq_I) (l : iq_J) (H : (0 ≤ (v3 + 1) ∧ (v3 + 1) < N ∧ (v3 + 1) ≤ 65536) ∧ ((0 ≤ (v3 + 2) ∧ (v3 + 2) < N ∧ (v3 + 2) ≤ 65536) ∧ (iq_P N xs 238 0 [some (iq_r 77), some (iq_i ((xs (Int.toNat (v3 + 1))).toInt)), some (iq_i ((xs (Int.toNat (v3 + 2))).toInt))] [] g l (fun r g1 l2 => ∃ z3, r = some (iq_i z3) ∧ ((-2147483648 ≤ w0 ∧ w0 ≤ 2147483647 ∧ -2147483648 ≤ z3 ∧ z3 ≤ 2147483647) ∧
      (w0 = z3 → (iq_P N xs 361 1940 [some (iq_r 1000000), some (iq_r 0), some (iq_r 77), some (iq_i v3)] [] g1 l2 Q)) ∧
      (¬ w0 = z3 → (Q (some (iq_i 0)) g1 l2))))))) :
    iq_P N xs 361 1294 [some (iq_r 1000000), some (iq_r 0), some (iq_r 77), some (iq_i v3)] [iq_i w0] g l Q := iq_w_ok (cuts := [1940]) 15 1294 _ _ _ _ H

-- ScaleForgeLaw.law([I)Z at 1313
set_option maxRecDepth 20000 in
theorem B361_c38 {N : Nat} {xs : Nat → Int32} {Q : iq_T} (v3 : Int) (g : iq_I) (l : iq_J) (H : (0 ≤ (v3 + 1) ∧ (v3 + 1) < N ∧ (v3 + 1) ≤ 65536) ∧ ((0 ≤ (v3 + 2) ∧ (v3 + 2) < N ∧ (v3 + 2) ≤ 65536) ∧ (iq_P N xs 240 0 [some (iq_r 0), some (iq_i ((xs (Int.toNat (v3 + 1))).toInt)), some (iq_i ((xs (Int.toNat (v3 + 2))).toInt)), none, none, none, none] [] g l (fun r g1 l2 => ∃ z3, r = some (iq_i z3) ∧ (iq_P N xs 361 1327 [some (iq_r 1000000), some (iq_r 0), some (iq_r 77), some (iq_i v3)] [iq_i z3] g1 l2 Q))))) :
    iq_P N xs 361 1313 [some (iq_r 1000000), some (iq_r 0), some (iq_r 77), some (iq_i v3)] [] g l Q := iq_w_ok (cuts := [1327]) 12 1313 _ _ _ _ H

-- ScaleForgeLaw.law([I)Z at 1327
set_option maxRecDepth 20000 in
theorem B361_d38 {N : Nat} {xs : Nat → Int32} {Q : iq_T} (v3 : Int) (w0 : Int) (g : iq_I) (l : iq_J) (H : (0 ≤ (v3 + 1) ∧ (v3 + 1) < N ∧ (v3 + 1) ≤ 65536) ∧ ((0 ≤ (v3 + 2) ∧ (v3 + 2) < N ∧ (v3 + 2) ≤ 65536) ∧ (iq_P N xs 242 0 [some (iq_r 77), some (iq_i ((xs (Int.toNat (v3 + 1))).toInt)), some (iq_i ((xs (Int.toNat (v3 + 2))).toInt))] [] g l (fun r g1 l2 => ∃ z3, r = some (iq_i z3) ∧ ((-2147483648 ≤ w0 ∧ w0 ≤ 2147483647 ∧ -2147483648 ≤ z3 ∧ z3 ≤ 2147483647) ∧
      (w0 = z3 → (iq_P N xs 361 1940 [some (iq_r 1000000), some (iq_r 0), some (iq_r 77), some (iq_i v3)] [] g1 l2 Q)) ∧
      (¬ w0 = z3 → (Q (some (iq_i 0)) g1 l2))))))) :
    iq_P N xs 361 1327 [some (iq_r 1000000), some (iq_r 0), some (iq_r 77), some (iq_i v3)] [iq_i w0] g l Q := iq_w_ok (cuts := [1940]) 15 1327 _ _ _ _ H

-- ScaleForgeLaw.law([I)Z at 1346
set_option maxRecDepth 20000 in
theorem B361_c39 {N : Nat} {xs : Nat → Int32} {Q : iq_T} (v3 : Int) (g : iq_I) (l : iq_J) (H : (0 ≤ (v3 + 1) ∧ (v3 + 1) < N ∧ (v3 + 1) ≤ 65536) ∧ (iq_P N xs 243 0 [some (iq_r 0), some (iq_i ((xs (Int.toNat (v3 + 1))).toInt)), none, none] [] g l (fun r g1 l2 => ∃ z3, r = some (iq_i z3) ∧ (iq_P N xs 361 1355 [some (iq_r 1000000), some (iq_r 0), some (iq_r 77), some (iq_i v3)] [iq_i z3] g1 l2 Q)))) :
    iq_P N xs 361 1346 [some (iq_r 1000000), some (iq_r 0), some (iq_r 77), some (iq_i v3)] [] g l Q := iq_w_ok (cuts := [1355]) 7 1346 _ _ _ _ H

-- ScaleForgeLaw.law([I)Z at 1355
set_option maxRecDepth 20000 in
theorem B361_d39 {N : Nat} {xs : Nat → Int32} {Q : iq_T} (v3 : Int) (w0 : Int) (g : iq_I) (l : iq_J) (H : (0 ≤ (v3 + 1) ∧ (v3 + 1) < N ∧ (v3 + 1) ≤ 65536) ∧ (iq_P N xs 244 0 [some (iq_r 77), some (iq_i ((xs (Int.toNat (v3 + 1))).toInt))] [] g l (fun r g1 l2 => ∃ z3, r = some (iq_i z3) ∧ ((-2147483648 ≤ w0 ∧ w0 ≤ 2147483647 ∧ -2147483648 ≤ z3 ∧ z3 ≤ 2147483647) ∧
      (w0 = z3 → (iq_P N xs 361 1940 [some (iq_r 1000000), some (iq_r 0), some (iq_r 77), some (iq_i v3)] [] g1 l2 Q)) ∧
      (¬ w0 = z3 → (Q (some (iq_i 0)) g1 l2)))))) :
    iq_P N xs 361 1355 [some (iq_r 1000000), some (iq_r 0), some (iq_r 77), some (iq_i v3)] [iq_i w0] g l Q := iq_w_ok (cuts := [1940]) 10 1355 _ _ _ _ H

-- ScaleForgeLaw.law([I)Z at 1369
set_option maxRecDepth 20000 in
theorem B361_c40 {N : Nat} {xs : Nat → Int32} {Q : iq_T} (v3 : Int) (g : iq_I) (l : iq_J) (H : (0 ≤ (v3 + 1) ∧ (v3 + 1) < N ∧ (v3 + 1) ≤ 65536) ∧ ((0 ≤ (v3 + 2) ∧ (v3 + 2) < N ∧ (v3 + 2) ≤ 65536) ∧ (iq_P N xs 246 0 [some (iq_r 0), some (iq_i ((xs (Int.toNat (v3 + 1))).toInt)), some (iq_i ((xs (Int.toNat (v3 + 2))).toInt))] [] g l (fun r g1 l2 => ∃ z3, r = some (iq_i z3) ∧ (iq_P N xs 361 1383 [some (iq_r 1000000), some (iq_r 0), some (iq_r 77), some (iq_i v3)] [iq_i z3] g1 l2 Q))))) :
    iq_P N xs 361 1369 [some (iq_r 1000000), some (iq_r 0), some (iq_r 77), some (iq_i v3)] [] g l Q := iq_w_ok (cuts := [1383]) 12 1369 _ _ _ _ H

-- ScaleForgeLaw.law([I)Z at 1383
set_option maxRecDepth 20000 in
theorem B361_d40 {N : Nat} {xs : Nat → Int32} {Q : iq_T} (v3 : Int) (w0 : Int) (g : iq_I) (l : iq_J) (H : (0 ≤ (v3 + 1) ∧ (v3 + 1) < N ∧ (v3 + 1) ≤ 65536) ∧ ((0 ≤ (v3 + 2) ∧ (v3 + 2) < N ∧ (v3 + 2) ≤ 65536) ∧ (iq_P N xs 248 0 [some (iq_r 77), some (iq_i ((xs (Int.toNat (v3 + 1))).toInt)), some (iq_i ((xs (Int.toNat (v3 + 2))).toInt))] [] g l (fun r g1 l2 => ∃ z3, r = some (iq_i z3) ∧ ((-2147483648 ≤ w0 ∧ w0 ≤ 2147483647 ∧ -2147483648 ≤ z3 ∧ z3 ≤ 2147483647) ∧
      (w0 = z3 → (iq_P N xs 361 1940 [some (iq_r 1000000), some (iq_r 0), some (iq_r 77), some (iq_i v3)] [] g1 l2 Q)) ∧
      (¬ w0 = z3 → (Q (some (iq_i 0)) g1 l2))))))) :
    iq_P N xs 361 1383 [some (iq_r 1000000), some (iq_r 0), some (iq_r 77), some (iq_i v3)] [iq_i w0] g l Q := iq_w_ok (cuts := [1940]) 15 1383 _ _ _ _ H

-- ScaleForgeLaw.law([I)Z at 1402
set_option maxRecDepth 20000 in
theorem B361_c41 {N : Nat} {xs : Nat → Int32} {Q : iq_T} (v3 : Int) (g : iq_I) (l : iq_J) (H : (0 ≤ (v3 + 1) ∧ (v3 + 1) < N ∧ (v3 + 1) ≤ 65536) ∧ (iq_P N xs 249 0 [some (iq_r 0), some (iq_i ((xs (Int.toNat (v3 + 1))).toInt)), none, none, none] [] g l (fun r g1 l2 => ∃ z3, r = some (iq_i z3) ∧ (iq_P N xs 361 1411 [some (iq_r 1000000), some (iq_r 0), some (iq_r 77), some (iq_i v3)] [iq_i z3] g1 l2 Q)))) :
    iq_P N xs 361 1402 [some (iq_r 1000000), some (iq_r 0), some (iq_r 77), some (iq_i v3)] [] g l Q := iq_w_ok (cuts := [1411]) 7 1402 _ _ _ _ H

-- ScaleForgeLaw.law([I)Z at 1411
set_option maxRecDepth 20000 in
theorem B361_d41 {N : Nat} {xs : Nat → Int32} {Q : iq_T} (v3 : Int) (w0 : Int) (g : iq_I) (l : iq_J) (H : (0 ≤ (v3 + 1) ∧ (v3 + 1) < N ∧ (v3 + 1) ≤ 65536) ∧ (iq_P N xs 250 0 [some (iq_r 77), some (iq_i ((xs (Int.toNat (v3 + 1))).toInt)), none, none] [] g l (fun r g1 l2 => ∃ z3, r = some (iq_i z3) ∧ ((-2147483648 ≤ w0 ∧ w0 ≤ 2147483647 ∧ -2147483648 ≤ z3 ∧ z3 ≤ 2147483647) ∧
      (w0 = z3 → (iq_P N xs 361 1940 [some (iq_r 1000000), some (iq_r 0), some (iq_r 77), some (iq_i v3)] [] g1 l2 Q)) ∧
      (¬ w0 = z3 → (Q (some (iq_i 0)) g1 l2)))))) :
    iq_P N xs 361 1411 [some (iq_r 1000000), some (iq_r 0), some (iq_r 77), some (iq_i v3)] [iq_i w0] g l Q := iq_w_ok (cuts := [1940]) 10 1411 _ _ _ _ H

-- ScaleForgeLaw.law([I)Z at 1425
set_option maxRecDepth 20000 in
theorem B361_c42 {N : Nat} {xs : Nat → Int32} {Q : iq_T} (v3 : Int) (g : iq_I) (l : iq_J) (H : (0 ≤ (v3 + 1) ∧ (v3 + 1) < N ∧ (v3 + 1) ≤ 65536) ∧ ((0 ≤ (v3 + 2) ∧ (v3 + 2) < N ∧ (v3 + 2) ≤ 65536) ∧ (iq_P N xs 251 0 [some (iq_r 0), some (iq_i ((xs (Int.toNat (v3 + 1))).toInt)), some (iq_i ((xs (Int.toNat (v3 + 2))).toInt)), none, none, none] [] g l (fun r g1 l2 => ∃ z3, r = some (iq_i z3) ∧ (iq_P N xs 361 1439 [some (iq_r 1000000), some (iq_r 0), some (iq_r 77), some (iq_i v3)] [iq_i z3] g1 l2 Q))))) :
    iq_P N xs 361 1425 [some (iq_r 1000000), some (iq_r 0), some (iq_r 77), some (iq_i v3)] [] g l Q := iq_w_ok (cuts := [1439]) 12 1425 _ _ _ _ H

-- ScaleForgeLaw.law([I)Z at 1439
set_option maxRecDepth 20000 in
theorem B361_d42 {N : Nat} {xs : Nat → Int32} {Q : iq_T} (v3 : Int) (w0 : Int) (g : iq_I) (l : iq_J) (H : (0 ≤ (v3 + 1) ∧ (v3 + 1) < N ∧ (v3 + 1) ≤ 65536) ∧ ((0 ≤ (v3 + 2) ∧ (v3 + 2) < N ∧ (v3 + 2) ≤ 65536) ∧ (iq_P N xs 253 0 [some (iq_r 77), some (iq_i ((xs (Int.toNat (v3 + 1))).toInt)), some (iq_i ((xs (Int.toNat (v3 + 2))).toInt)), none] [] g l (fun r g1 l2 => ∃ z3, r = some (iq_i z3) ∧ ((-2147483648 ≤ w0 ∧ w0 ≤ 2147483647 ∧ -2147483648 ≤ z3 ∧ z3 ≤ 2147483647) ∧
      (w0 = z3 → (iq_P N xs 361 1940 [some (iq_r 1000000), some (iq_r 0), some (iq_r 77), some (iq_i v3)] [] g1 l2 Q)) ∧
      (¬ w0 = z3 → (Q (some (iq_i 0)) g1 l2))))))) :
    iq_P N xs 361 1439 [some (iq_r 1000000), some (iq_r 0), some (iq_r 77), some (iq_i v3)] [iq_i w0] g l Q := iq_w_ok (cuts := [1940]) 15 1439 _ _ _ _ H

-- ScaleForgeLaw.law([I)Z at 1458
set_option maxRecDepth 20000 in
theorem B361_c43 {N : Nat} {xs : Nat → Int32} {Q : iq_T} (v3 : Int) (g : iq_I) (l : iq_J) (H : iq_P N xs 254 0 [some (iq_r 0), none, none, none, none] [] g l (fun r g1 l2 => ∃ z3, r = some (iq_i z3) ∧ (iq_P N xs 361 1462 [some (iq_r 1000000), some (iq_r 0), some (iq_r 77), some (iq_i v3)] [iq_i z3] g1 l2 Q))) :
    iq_P N xs 361 1458 [some (iq_r 1000000), some (iq_r 0), some (iq_r 77), some (iq_i v3)] [] g l Q := iq_w_ok (cuts := [1462]) 2 1458 _ _ _ _ H

-- ScaleForgeLaw.law([I)Z at 1462
set_option maxRecDepth 20000 in
theorem B361_d43 {N : Nat} {xs : Nat → Int32} {Q : iq_T} (v3 : Int) (w0 : Int) (g : iq_I) (l : iq_J) (H : iq_P N xs 255 0 [some (iq_r 77), none, none] [] g l (fun r g1 l2 => ∃ z3, r = some (iq_i z3) ∧ ((-2147483648 ≤ w0 ∧ w0 ≤ 2147483647 ∧ -2147483648 ≤ z3 ∧ z3 ≤ 2147483647) ∧
      (w0 = z3 → (iq_P N xs 361 1940 [some (iq_r 1000000), some (iq_r 0), some (iq_r 77), some (iq_i v3)] [] g1 l2 Q)) ∧
      (¬ w0 = z3 → (Q (some (iq_i 0)) g1 l2))))) :
    iq_P N xs 361 1462 [some (iq_r 1000000), some (iq_r 0), some (iq_r 77), some (iq_i v3)] [iq_i w0] g l Q := iq_w_ok (cuts := [1940]) 5 1462 _ _ _ _ H

-- ScaleForgeLaw.law([I)Z at 1471
set_option maxRecDepth 20000 in
theorem B361_c44 {N : Nat} {xs : Nat → Int32} {Q : iq_T} (v3 : Int) (g : iq_I) (l : iq_J) (H : (0 ≤ (v3 + 1) ∧ (v3 + 1) < N ∧ (v3 + 1) ≤ 65536) ∧ (iq_P N xs 256 0 [some (iq_r 0), some (iq_i ((xs (Int.toNat (v3 + 1))).toInt)), none, none, none] [] g l (fun r g1 l2 => ∃ z3, r = some (iq_i z3) ∧ (iq_P N xs 361 1480 [some (iq_r 1000000), some (iq_r 0), some (iq_r 77), some (iq_i v3)] [iq_i z3] g1 l2 Q)))) :
    iq_P N xs 361 1471 [some (iq_r 1000000), some (iq_r 0), some (iq_r 77), some (iq_i v3)] [] g l Q := iq_w_ok (cuts := [1480]) 7 1471 _ _ _ _ H

-- ScaleForgeLaw.law([I)Z at 1480
set_option maxRecDepth 20000 in
theorem B361_d44 {N : Nat} {xs : Nat → Int32} {Q : iq_T} (v3 : Int) (w0 : Int) (g : iq_I) (l : iq_J) (H : (0 ≤ (v3 + 1) ∧ (v3 + 1) < N ∧ (v3 + 1) ≤ 65536) ∧ (iq_P N xs 257 0 [some (iq_r 77), some (iq_i ((xs (Int.toNat (v3 + 1))).toInt)), none, none, none] [] g l (fun r g1 l2 => ∃ z3, r = some (iq_i z3) ∧ ((-2147483648 ≤ w0 ∧ w0 ≤ 2147483647 ∧ -2147483648 ≤ z3 ∧ z3 ≤ 2147483647) ∧
      (w0 = z3 → (iq_P N xs 361 1940 [some (iq_r 1000000), some (iq_r 0), some (iq_r 77), some (iq_i v3)] [] g1 l2 Q)) ∧
      (¬ w0 = z3 → (Q (some (iq_i 0)) g1 l2)))))) :
    iq_P N xs 361 1480 [some (iq_r 1000000), some (iq_r 0), some (iq_r 77), some (iq_i v3)] [iq_i w0] g l Q := iq_w_ok (cuts := [1940]) 10 1480 _ _ _ _ H

-- ScaleForgeLaw.law([I)Z at 1494
set_option maxRecDepth 20000 in
theorem B361_c45 {N : Nat} {xs : Nat → Int32} {Q : iq_T} (v3 : Int) (g : iq_I) (l : iq_J) (H : iq_P N xs 258 0 [some (iq_r 0)] [] g l (fun r g1 l2 => ∃ z3, r = some (iq_i z3) ∧ (iq_P N xs 361 1498 [some (iq_r 1000000), some (iq_r 0), some (iq_r 77), some (iq_i v3)] [iq_i z3] g1 l2 Q))) :
    iq_P N xs 361 1494 [some (iq_r 1000000), some (iq_r 0), some (iq_r 77), some (iq_i v3)] [] g l Q := iq_w_ok (cuts := [1498]) 2 1494 _ _ _ _ H

-- ScaleForgeLaw.law([I)Z at 1498
set_option maxRecDepth 20000 in
theorem B361_d45 {N : Nat} {xs : Nat → Int32} {Q : iq_T} (v3 : Int) (w0 : Int) (g : iq_I) (l : iq_J) (H : iq_P N xs 259 0 [some (iq_r 77)] [] g l (fun r g1 l2 => ∃ z3, r = some (iq_i z3) ∧ ((-2147483648 ≤ w0 ∧ w0 ≤ 2147483647 ∧ -2147483648 ≤ z3 ∧ z3 ≤ 2147483647) ∧
      (w0 = z3 → (iq_P N xs 361 1940 [some (iq_r 1000000), some (iq_r 0), some (iq_r 77), some (iq_i v3)] [] g1 l2 Q)) ∧
      (¬ w0 = z3 → (Q (some (iq_i 0)) g1 l2))))) :
    iq_P N xs 361 1498 [some (iq_r 1000000), some (iq_r 0), some (iq_r 77), some (iq_i v3)] [iq_i w0] g l Q := iq_w_ok (cuts := [1940]) 5 1498 _ _ _ _ H
