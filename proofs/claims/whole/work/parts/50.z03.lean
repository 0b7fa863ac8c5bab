/-! What must hold that a stretch of a method ends well: methods 70 to 72. -/
-- java/lang/StringLatin1.charAt([BI)C at 0
set_option maxRecDepth 20000 in
theorem B70_1000070 {N : Nat} {xs : Nat → Int32} {Q : iq_T} (a0 : Int) (g : iq_I) (l : iq_J) (H : iq_P N xs 69 0 [some (iq_i a0), some (iq_i 3)] [] g l (fun r g1 l2 => r = none ∧ ((0 ≤ a0 ∧ a0 < 3 ∧ a0 ≤ 65536) ∧ ((0 ≤ (iq_i2c (iq_and (((ij_sb.getD 10 []).getD (Int.toNat a0) 0).toInt) 255)) ∧ (iq_i2c (iq_and (((ij_sb.getD 10 []).getD (Int.toNat a0) 0).toInt) 255)) ≤ 65535) ∧ Q (some (iq_i (iq_i2c (iq_and (((ij_sb.getD 10 []).getD (Int.toNat a0) 0).toInt) 255)))) g1 l2)))) :
    iq_P N xs 70 0 [some (iq_r 1000070), some (iq_i a0)] [] g l Q := iq_w_ok (cuts := []) 11 0 _ _ _ _ H

-- java/lang/StringLatin1.charAt([BI)C at 0
set_option maxRecDepth 20000 in
theorem B70_1000071 {N : Nat} {xs : Nat → Int32} {Q : iq_T} (a0 : Int) (g : iq_I) (l : iq_J) (H : iq_P N xs 69 0 [some (iq_i a0), some (iq_i 5)] [] g l (fun r g1 l2 => r = none ∧ ((0 ≤ a0 ∧ a0 < 5 ∧ a0 ≤ 65536) ∧ ((0 ≤ (iq_i2c (iq_and (((ij_sb.getD 11 []).getD (Int.toNat a0) 0).toInt) 255)) ∧ (iq_i2c (iq_and (((ij_sb.getD 11 []).getD (Int.toNat a0) 0).toInt) 255)) ≤ 65535) ∧ Q (some (iq_i (iq_i2c (iq_and (((ij_sb.getD 11 []).getD (Int.toNat a0) 0).toInt) 255)))) g1 l2)))) :
    iq_P N xs 70 0 [some (iq_r 1000071), some (iq_i a0)] [] g l Q := iq_w_ok (cuts := []) 11 0 _ _ _ _ H

-- java/lang/StringLatin1.charAt([BI)C at 0
set_option maxRecDepth 20000 in
theorem B70_1000072 {N : Nat} {xs : Nat → Int32} {Q : iq_T} (a0 : Int) (g : iq_I) (l : iq_J) (H : iq_P N xs 69 0 [some (iq_i a0), some (iq_i 4)] [] g l (fun r g1 l2 => r = none ∧ ((0 ≤ a0 ∧ a0 < 4 ∧ a0 ≤ 65536) ∧ ((0 ≤ (iq_i2c (iq_and (((ij_sb.getD 12 []).getD (Int.toNat a0) 0).toInt) 255)) ∧ (iq_i2c (iq_and (((ij_sb.getD 12 []).getD (Int.toNat a0) 0).toInt) 255)) ≤ 65535) ∧ Q (some (iq_i (iq_i2c (iq_and (((ij_sb.getD 12 []).getD (Int.toNat a0) 0).toInt) 255)))) g1 l2)))) :
    iq_P N xs 70 0 [some (iq_r 1000072), some (iq_i a0)] [] g l Q := iq_w_ok (cuts := []) 11 0 _ _ _ _ H

-- java/lang/StringLatin1.charAt([BI)C at 0
set_option maxRecDepth 20000 in
theorem B70_1000073 {N : Nat} {xs : Nat → Int32} {Q : iq_T} (a0 : Int) (g : iq_I) (l : iq_J) (H : iq_P N xs 69 0 [some (iq_i a0), some (iq_i 4)] [] g l (fun r g1 l2 => r = none ∧ ((0 ≤ a0 ∧ a0 < 4 ∧ a0 ≤ 65536) ∧ ((0 ≤ (iq_i2c (iq_and (((ij_sb.getD 13 []).getD (Int.toNat a0) 0).toInt) 255)) ∧ (iq_i2c (iq_and (((ij_sb.getD 13 []).getD (Int.toNat a0) 0).toInt) 255)) ≤ 65535) ∧ Q (some (iq_i (iq_i2c (iq_and (((ij_sb.getD 13 []).getD (Int.toNat a0) 0).toInt) 255)))) g1 l2)))) :
    iq_P N xs 70 0 [some (iq_r 1000073), some (iq_i a0)] [] g l Q := iq_w_ok (cuts := []) 11 0 _ _ _ _ H

-- java/lang/StringLatin1.charAt([BI)C at 0
set_option maxRecDepth 20000 in
theorem B70_1000074 {N : Nat} {xs : Nat → Int32} {Q : iq_T} (a0 : Int) (g : iq_I) (l : iq_J) (H : iq_P N xs 69 0 [some (iq_i a0), some (iq_i 3)] [] g l (fun r g1 l2 => r = none ∧ ((0 ≤ a0 ∧ a0 < 3 ∧ a0 ≤ 65536) ∧ ((0 ≤ (iq_i2c (iq_and (((ij_sb.getD 14 []).getD (Int.toNat a0) 0).toInt) 255)) ∧ (iq_i2c (iq_and (((ij_sb.getD 14 []).getD (Int.toNat a0) 0).toInt) 255)) ≤ 65535) ∧ Q (some (iq_i (iq_i2c (iq_and (((ij_sb.getD 14 []).getD (Int.toNat a0) 0).toInt) 255)))) g1 l2)))) :
    iq_P N xs 70 0 [some (iq_r 1000074), some (iq_i a0)] [] g l Q := iq_w_ok (cuts := []) 11 0 _ _ _ _ H

-- java/lang/StringLatin1.charAt([BI)C at 0
set_option maxRecDepth 20000 in
theorem B70_1000075 {N : Nat} {xs : Nat → Int32} {Q : iq_T} (a0 : Int) (g : iq_I) (l : iq_J) (H : iq_P N xs 69 0 [some (iq_i a0), some (iq_i 4)] [] g l (fun r g1 l2 => r = none ∧ ((0 ≤ a0 ∧ a0 < 4 ∧ a0 ≤ 65536) ∧ ((0 ≤ (iq_i2c (iq_and (((ij_sb.getD 15 []).getD (Int.toNat a0) 0).toInt) 255)) ∧ (iq_i2c (iq_and (((ij_sb.getD 15 []).getD (Int.toNat a0) 0).toInt) 255)) ≤ 65535) ∧ Q (some (iq_i (iq_i2c (iq_and (((ij_sb.getD 15 []).getD (Int.toNat a0) 0).toInt) 255)))) g1 l2)))) :
    iq_P N xs 70 0 [some (iq_r 1000075), some (iq_i a0)] [] g l Q := iq_w_ok (cuts := []) 11 0 _ _ _ _ H

-- java/lang/StringLatin1.charAt([BI)C at 0
set_option maxRecDepth 20000 in
theorem B70_1000076 {N : Nat} {xs : Nat → Int32} {Q : iq_T} (a0 : Int) (g : iq_I) (l : iq_J) (H : iq_P N xs 69 0 [some (iq_i a0), some (iq_i 4)] [] g l (fun r g1 l2 => r = none ∧ ((0 ≤ a0 ∧ a0 < 4 ∧ a0 ≤ 65536) ∧ ((0 ≤ (iq_i2c (iq_and (((ij_sb.getD 16 []).getD (Int.toNat a0) 0).toInt) 255)) ∧ (iq_i2c (iq_and (((ij_sb.getD 16 []).getD (Int.toNat a0) 0).toInt) 255)) ≤ 65535) ∧ Q (some (iq_i (iq_i2c (iq_and (((ij_sb.getD 16 []).getD (Int.toNat a0) 0).toInt) 255)))) g1 l2)))) :
    iq_P N xs 70 0 [some (iq_r 1000076), some (iq_i a0)] [] g l Q := iq_w_ok (cuts := []) 11 0 _ _ _ _ H

-- java/lang/StringLatin1.charAt([BI)C at 0
set_option maxRecDepth 20000 in
theorem B70_1000077 {N : Nat} {xs : Nat → Int32} {Q : iq_T} (a0 : Int) (g : iq_I) (l : iq_J) (H : iq_P N xs 69 0 [some (iq_i a0), some (iq_i 4)] [] g l (fun r g1 l2 => r = none ∧ ((0 ≤ a0 ∧ a0 < 4 ∧ a0 ≤ 65536) ∧ ((0 ≤ (iq_i2c (iq_and (((ij_sb.getD 17 []).getD (Int.toNat a0) 0).toInt) 255)) ∧ (iq_i2c (iq_and (((ij_sb.getD 17 []).getD (Int.toNat a0) 0).toInt) 255)) ≤ 65535) ∧ Q (some (iq_i (iq_i2c (iq_and (((ij_sb.getD 17 []).getD (Int.toNat a0) 0).toInt) 255)))) g1 l2)))) :
    iq_P N xs 70 0 [some (iq_r 1000077), some (iq_i a0)] [] g l Q := iq_w_ok (cuts := []) 11 0 _ _ _ _ H

-- java/lang/StringLatin1.charAt([BI)C at 0
set_option maxRecDepth 20000 in
theorem B70_1000078 {N : Nat} {xs : Nat → Int32} {Q : iq_T} (a0 : Int) (g : iq_I) (l : iq_J) (H : iq_P N xs 69 0 [some (iq_i a0), some (iq_i 5)] [] g l (fun r g1 l2 => r = none ∧ ((0 ≤ a0 ∧ a0 < 5 ∧ a0 ≤ 65536) ∧ ((0 ≤ (iq_i2c (iq_and (((ij_sb.getD 18 []).getD (Int.toNat a0) 0).toInt) 255)) ∧ (iq_i2c (iq_and (((ij_sb.getD 18 []).getD (Int.toNat a0) 0).toInt) 255)) ≤ 65535) ∧ Q (some (iq_i (iq_i2c (iq_and (((ij_sb.getD 18 []).getD (Int.toNat a0) 0).toInt) 255)))) g1 l2)))) :
    iq_P N xs 70 0 [some (iq_r 1000078), some (iq_i a0)] [] g l Q := iq_w_ok (cuts := []) 11 0 _ _ _ _ H

-- java/lang/StringLatin1.charAt([BI)C at 0
set_option maxRecDepth 20000 in
theorem B70_1000079 {N : Nat} {xs : Nat → Int32} {Q : iq_T} (a0 : Int) (g : iq_I) (l : iq_J) (H : iq_P N xs 69 0 [some (iq_i a0), some (iq_i 4)] [] g l (fun r g1 l2 => r = none ∧ ((0 ≤ a0 ∧ a0 < 4 ∧ a0 ≤ 65536) ∧ ((0 ≤ (iq_i2c (iq_and (((ij_sb.getD 19 []).getD (Int.toNat a0) 0).toInt) 255)) ∧ (iq_i2c (iq_and (((ij_sb.getD 19 []).getD (Int.toNat a0) 0).toInt) 255)) ≤ 65535) ∧ Q (some (iq_i (iq_i2c (iq_and (((ij_sb.getD 19 []).getD (Int.toNat a0) 0).toInt) 255)))) g1 l2)))) :
    iq_P N xs 70 0 [some (iq_r 1000079), some (iq_i a0)] [] g l Q := iq_w_ok (cuts := []) 11 0 _ _ _ _ H

-- java/lang/StringLatin1.charAt([BI)C at 0
set_option maxRecDepth 20000 in
theorem B70_1000080 {N : Nat} {xs : Nat → Int32} {Q : iq_T} (a0 : Int) (g : iq_I) (l : iq_J) (H : iq_P N xs 69 0 [some (iq_i a0), some (iq_i 3)] [] g l (fun r g1 l2 => r = none ∧ ((0 ≤ a0 ∧ a0 < 3 ∧ a0 ≤ 65536) ∧ ((0 ≤ (iq_i2c (iq_and (((ij_sb.getD 20 []).getD (Int.toNat a0) 0).toInt) 255)) ∧ (iq_i2c (iq_and (((ij_sb.getD 20 []).getD (Int.toNat a0) 0).toInt) 255)) ≤ 65535) ∧ Q (some (iq_i (iq_i2c (iq_and (((ij_sb.getD 20 []).getD (Int.toNat a0) 0).toInt) 255)))) g1 l2)))) :
    iq_P N xs 70 0 [some (iq_r 1000080), some (iq_i a0)] [] g l Q := iq_w_ok (cuts := []) 11 0 _ _ _ _ H

-- java/lang/StringLatin1.charAt([BI)C at 0
set_option maxRecDepth 20000 in
theorem B70_1000081 {N : Nat} {xs : Nat → Int32} {Q : iq_T} (a0 : Int) (g : iq_I) (l : iq_J) (H : iq_P N xs 69 0 [some (iq_i a0), some (iq_i 6)] [] g l (fun r g1 l2 => r = none ∧ ((0 ≤ a0 ∧ a0 < 6 ∧ a0 ≤ 65536) ∧ ((0 ≤ (iq_i2c (iq_and (((ij_sb.getD 21 []).getD (Int.toNat a0) 0).toInt) 255)) ∧ (iq_i2c (iq_and (((ij_sb.getD 21 []).getD (Int.toNat a0) 0).toInt) 255)) ≤ 65535) ∧ Q (some (iq_i (iq_i2c (iq_and (((ij_sb.getD 21 []).getD (Int.toNat a0) 0).toInt) 255)))) g1 l2)))) :
    iq_P N xs 70 0 [some (iq_r 1000081), some (iq_i a0)] [] g l Q := iq_w_ok (cuts := []) 11 0 _ _ _ _ H

-- java/lang/StringLatin1.charAt([BI)C at 0
set_option maxRecDepth 20000 in
theorem B70_1000082 {N : Nat} {xs : Nat → Int32} {Q : iq_T} (a0 : Int) (g : iq_I) (l : iq_J) (H : iq_P N xs 69 0 [some (iq_i a0), some (iq_i 6)] [] g l (fun r g1 l2 => r = none ∧ ((0 ≤ a0 ∧ a0 < 6 ∧ a0 ≤ 65536) ∧ ((0 ≤ (iq_i2c (iq_and (((ij_sb.getD 22 []).getD (Int.toNat a0) 0).toInt) 255)) ∧ (iq_i2c (iq_and (((ij_sb.getD 22 []).getD (Int.toNat a0) 0).toInt) 255)) ≤ 65535) ∧ Q (some (iq_i (iq_i2c (iq_and (((ij_sb.getD 22 []).getD (Int.toNat a0) 0).toInt) 255)))) g1 l2)))) :
    iq_P N xs 70 0 [some (iq_r 1000082), some (iq_i a0)] [] g l Q := iq_w_ok (cuts := []) 11 0 _ _ _ _ H

-- java/lang/StringLatin1.charAt([BI)C at 0
set_option maxRecDepth 20000 in
theorem B70_1000083 {N : Nat} {xs : Nat → Int32} {Q : iq_T} (a0 : Int) (g : iq_I) (l : iq_J) (H : iq_P N xs 69 0 [some (iq_i a0), some (iq_i 121)] [] g l (fun r g1 l2 => r = none ∧ ((0 ≤ a0 ∧ a0 < 121 ∧ a0 ≤ 65536) ∧ ((0 ≤ (iq_i2c (iq_and (((ij_sb.getD 23 []).getD (Int.toNat a0) 0).toInt) 255)) ∧ (iq_i2c (iq_and (((ij_sb.getD 23 []).getD (Int.toNat a0) 0).toInt) 255)) ≤ 65535) ∧ Q (some (iq_i (iq_i2c (iq_and (((ij_sb.getD 23 []).getD (Int.toNat a0) 0).toInt) 255)))) g1 l2)))) :
    iq_P N xs 70 0 [some (iq_r 1000083), some (iq_i a0)] [] g l Q := iq_w_ok (cuts := []) 11 0 _ _ _ _ H

-- java/lang/String.charAt(I)C at 0
set_option maxRecDepth 20000 in
theorem B71_1000010 {N : Nat} {xs : Nat → Int32} {Q : iq_T} (a0 : Int) (g : iq_I) (l : iq_J) (H : iq_P N xs 67 0 [some (iq_r 1000010)] [] g l (fun r g1 l2 => ∃ z3, r = some (iq_i z3) ∧ ((-2147483648 ≤ z3 ∧ z3 ≤ 2147483647) ∧
      (z3 = (0 : Int) → (False)) ∧
      (¬ z3 = (0 : Int) → (iq_P N xs 70 0 [some (iq_r 1000060), some (iq_i a0)] [] g1 l2 (fun r g4 l5 => ∃ z6, r = some (iq_i z6) ∧ ((0 ≤ z6 ∧ z6 ≤ 65535) ∧ Q (some (iq_i z6)) g4 l5))))))) :
    iq_P N xs 71 0 [some (iq_r 1000010), some (iq_i a0)] [] g l Q := iq_w_ok (cuts := []) 8 0 _ _ _ _ H

-- java/lang/String.charAt(I)C at 0
set_option maxRecDepth 20000 in
theorem B71_1000011 {N : Nat} {xs : Nat → Int32} {Q : iq_T} (a0 : Int) (g : iq_I) (l : iq_J) (H : iq_P N xs 67 0 [some (iq_r 1000011)] [] g l (fun r g1 l2 => ∃ z3, r = some (iq_i z3) ∧ ((-2147483648 ≤ z3 ∧ z3 ≤ 2147483647) ∧
      (z3 = (0 : Int) → (False)) ∧
      (¬ z3 = (0 : Int) → (iq_P N xs 70 0 [some (iq_r 1000061), some (iq_i a0)] [] g1 l2 (fun r g4 l5 => ∃ z6, r = some (iq_i z6) ∧ ((0 ≤ z6 ∧ z6 ≤ 65535) ∧ Q (some (iq_i z6)) g4 l5))))))) :
    iq_P N xs 71 0 [some (iq_r 1000011), some (iq_i a0)] [] g l Q := iq_w_ok (cuts := []) 8 0 _ _ _ _ H

-- java/lang/String.charAt(I)C at 0
set_option maxRecDepth 20000 in
theorem B71_1000012 {N : Nat} {xs : Nat → Int32} {Q : iq_T} (a0 : Int) (g : iq_I) (l : iq_J) (H : iq_P N xs 67 0 [some (iq_r 1000012)] [] g l (fun r g1 l2 => ∃ z3, r = some (iq_i z3) ∧ ((-2147483648 ≤ z3 ∧ z3 ≤ 2147483647) ∧
      (z3 = (0 : Int) → (False)) ∧
      (¬ z3 = (0 : Int) → (iq_P N xs 70 0 [some (iq_r 1000062), some (iq_i a0)] [] g1 l2 (fun r g4 l5 => ∃ z6, r = some (iq_i z6) ∧ ((0 ≤ z6 ∧ z6 ≤ 65535) ∧ Q (some (iq_i z6)) g4 l5))))))) :
    iq_P N xs 71 0 [some (iq_r 1000012), some (iq_i a0)] [] g l Q := iq_w_ok (cuts := []) 8 0 _ _ _ _ H

-- java/lang/String.charAt(I)C at 0
set_option maxRecDepth 20000 in
theorem B71_1000013 {N : Nat} {xs : Nat → Int32} {Q : iq_T} (a0 : Int) (g : iq_I) (l : iq_J) (H : iq_P N xs 67 0 [some (iq_r 1000013)] [] g l (fun r g1 l2 => ∃ z3, r = some (iq_i z3) ∧ ((-2147483648 ≤ z3 ∧ z3 ≤ 2147483647) ∧
      (z3 = (0 : Int) → (False)) ∧
      (¬ z3 = (0 : Int) → (iq_P N xs 70 0 [some (iq_r 1000063), some (iq_i a0)] [] g1 l2 (fun r g4 l5 => ∃ z6, r = some (iq_i z6) ∧ ((0 ≤ z6 ∧ z6 ≤ 65535) ∧ Q (some (iq_i z6)) g4 l5))))))) :
    iq_P N xs 71 0 [some (iq_r 1000013), some (iq_i a0)] [] g l Q := iq_w_ok (cuts := []) 8 0 _ _ _ _ H

-- java/lang/String.charAt(I)C at 0
set_option maxRecDepth 20000 in
theorem B71_1000014 {N : Nat} {xs : Nat → Int32} {Q : iq_T} (a0 : Int) (g : iq_I) (l : iq_J) (H : iq_P N xs 67 0 [some (iq_r 1000014)] [] g l (fun r g1 l2 => ∃ z3, r = some (iq_i z3) ∧ ((-2147483648 ≤ z3 ∧ z3 ≤ 2147483647) ∧
      (z3 = (0 : Int) → (False)) ∧
      (¬ z3 = (0 : Int) → (iq_P N xs 70 0 [some (iq_r 1000064), some (iq_i a0)] [] g1 l2 (fun r g4 l5 => ∃ z6, r = some (iq_i z6) ∧ ((0 ≤ z6 ∧ z6 ≤ 65535) ∧ Q (some (iq_i z6)) g4 l5))))))) :
    iq_P N xs 71 0 [some (iq_r 1000014), some (iq_i a0)] [] g l Q := iq_w_ok (cuts := []) 8 0 _ _ _ _ H

-- java/lang/String.charAt(I)C at 0
set_option maxRecDepth 20000 in
theorem B71_1000015 {N : Nat} {xs : Nat → Int32} {Q : iq_T} (a0 : Int) (g : iq_I) (l : iq_J) (H : iq_P N xs 67 0 [some (iq_r 1000015)] [] g l (fun r g1 l2 => ∃ z3, r = some (iq_i z3) ∧ ((-2147483648 ≤ z3 ∧ z3 ≤ 2147483647) ∧
      (z3 = (0 : Int) → (False)) ∧
      (¬ z3 = (0 : Int) → (iq_P N xs 70 0 [some (iq_r 1000065), some (iq_i a0)] [] g1 l2 (fun r g4 l5 => ∃ z6, r = some (iq_i z6) ∧ ((0 ≤ z6 ∧ z6 ≤ 65535) ∧ Q (some (iq_i z6)) g4 l5))))))) :
    iq_P N xs 71 0 [some (iq_r 1000015), some (iq_i a0)] [] g l Q := iq_w_ok (cuts := []) 8 0 _ _ _ _ H

-- java/lang/String.charAt(I)C at 0
set_option maxRecDepth 20000 in
theorem B71_1000016 {N : Nat} {xs : Nat → Int32} {Q : iq_T} (a0 : Int) (g : iq_I) (l : iq_J) (H : iq_P N xs 67 0 [some (iq_r 1000016)] [] g l (fun r g1 l2 => ∃ z3, r = some (iq_i z3) ∧ ((-2147483648 ≤ z3 ∧ z3 ≤ 2147483647) ∧
      (z3 = (0 : Int) → (False)) ∧
      (¬ z3 = (0 : Int) → (iq_P N xs 70 0 [some (iq_r 1000066), some (iq_i a0)] [] g1 l2 (fun r g4 l5 => ∃ z6, r = some (iq_i z6) ∧ ((0 ≤ z6 ∧ z6 ≤ 65535) ∧ Q (some (iq_i z6)) g4 l5))))))) :
    iq_P N xs 71 0 [some (iq_r 1000016), some (iq_i a0)] [] g l Q := iq_w_ok (cuts := []) 8 0 _ _ _ _ H

-- java/lang/String.charAt(I)C at 0
set_option maxRecDepth 20000 in
theorem B71_1000017 {N : Nat} {xs : Nat → Int32} {Q : iq_T} (a0 : Int) (g : iq_I) (l : iq_J) (H : iq_P N xs 67 0 [some (iq_r 1000017)] [] g l (fun r g1 l2 => ∃ z3, r = some (iq_i z3) ∧ ((-2147483648 ≤ z3 ∧ z3 ≤ 2147483647) ∧
      (z3 = (0 : Int) → (False)) ∧
      (¬ z3 = (0 : Int) → (iq_P N xs 70 0 [some (iq_r 1000067), some (iq_i a0)] [] g1 l2 (fun r g4 l5 => ∃ z6, r = some (iq_i z6) ∧ ((0 ≤ z6 ∧ z6 ≤ 65535) ∧ Q (some (iq_i z6)) g4 l5))))))) :
    iq_P N xs 71 0 [some (iq_r 1000017), some (iq_i a0)] [] g l Q := iq_w_ok (cuts := []) 8 0 _ _ _ _ H

-- java/lang/String.charAt(I)C at 0
set_option maxRecDepth 20000 in
theorem B71_1000018 {N : Nat} {xs : Nat → Int32} {Q : iq_T} (a0 : Int) (g : iq_I) (l : iq_J) (H : iq_P N xs 67 0 [some (iq_r 1000018)] [] g l (fun r g1 l2 => ∃ z3, r = some (iq_i z3) ∧ ((-2147483648 ≤ z3 ∧ z3 ≤ 2147483647) ∧
      (z3 = (0 : Int) → (False)) ∧
      (¬ z3 = (0 : Int) → (iq_P N xs 70 0 [some (iq_r 1000068), some (iq_i a0)] [] g1 l2 (fun r g4 l5 => ∃ z6, r = some (iq_i z6) ∧ ((0 ≤ z6 ∧ z6 ≤ 65535) ∧ Q (some (iq_i z6)) g4 l5))))))) :
    iq_P N xs 71 0 [some (iq_r 1000018), some (iq_i a0)] [] g l Q := iq_w_ok (cuts := []) 8 0 _ _ _ _ H

-- java/lang/String.charAt(I)C at 0
set_option maxRecDepth 20000 in
theorem B71_1000019 {N : Nat} {xs : Nat → Int32} {Q : iq_T} (a0 : Int) (g : iq_I) (l : iq_J) (H : iq_P N xs 67 0 [some (iq_r 1000019)] [] g l (fun r g1 l2 => ∃ z3, r = some (iq_i z3) ∧ ((-2147483648 ≤ z3 ∧ z3 ≤ 2147483647) ∧
      (z3 = (0 : Int) → (False)) ∧
      (¬ z3 = (0 : Int) → (iq_P N xs 70 0 [some (iq_r 1000069), some (iq_i a0)] [] g1 l2 (fun r g4 l5 => ∃ z6, r = some (iq_i z6) ∧ ((0 ≤ z6 ∧ z6 ≤ 65535) ∧ Q (some (iq_i z6)) g4 l5))))))) :
    iq_P N xs 71 0 [some (iq_r 1000019), some (iq_i a0)] [] g l Q := iq_w_ok (cuts := []) 8 0 _ _ _ _ H

-- java/lang/String.charAt(I)C at 0
set_option maxRecDepth 20000 in
theorem B71_1000020 {N : Nat} {xs : Nat → Int32} {Q : iq_T} (a0 : Int) (g : iq_I) (l : iq_J) (H : iq_P N xs 67 0 [some (iq_r 1000020)] [] g l (fun r g1 l2 => ∃ z3, r = some (iq_i z3) ∧ ((-2147483648 ≤ z3 ∧ z3 ≤ 2147483647) ∧
      (z3 = (0 : Int) → (False)) ∧
      (¬ z3 = (0 : Int) → (iq_P N xs 70 0 [some (iq_r 1000070), some (iq_i a0)] [] g1 l2 (fun r g4 l5 => ∃ z6, r = some (iq_i z6) ∧ ((0 ≤ z6 ∧ z6 ≤ 65535) ∧ Q (some (iq_i z6)) g4 l5))))))) :
    iq_P N xs 71 0 [some (iq_r 1000020), some (iq_i a0)] [] g l Q := iq_w_ok (cuts := []) 8 0 _ _ _ _ H

-- java/lang/String.charAt(I)C at 0
set_option maxRecDepth 20000 in
theorem B71_1000021 {N : Nat} {xs : Nat → Int32} {Q : iq_T} (a0 : Int) (g : iq_I) (l : iq_J) (H : iq_P N xs 67 0 [some (iq_r 1000021)] [] g l (fun r g1 l2 => ∃ z3, r = some (iq_i z3) ∧ ((-2147483648 ≤ z3 ∧ z3 ≤ 2147483647) ∧
      (z3 = (0 : Int) → (False)) ∧
      (¬ z3 = (0 : Int) → (iq_P N xs 70 0 [some (iq_r 1000071), some (iq_i a0)] [] g1 l2 (fun r g4 l5 => ∃ z6, r = some (iq_i z6) ∧ ((0 ≤ z6 ∧ z6 ≤ 65535) ∧ Q (some (iq_i z6)) g4 l5))))))) :
    iq_P N xs 71 0 [some (iq_r 1000021), some (iq_i a0)] [] g l Q := iq_w_ok (cuts := []) 8 0 _ _ _ _ H

-- java/lang/String.charAt(I)C at 0
set_option maxRecDepth 20000 in
theorem B71_1000022 {N : Nat} {xs : Nat → Int32} {Q : iq_T} (a0 : Int) (g : iq_I) (l : iq_J) (H : iq_P N xs 67 0 [some (iq_r 1000022)] [] g l (fun r g1 l2 => ∃ z3, r = some (iq_i z3) ∧ ((-2147483648 ≤ z3 ∧ z3 ≤ 2147483647) ∧
      (z3 = (0 : Int) → (False)) ∧
      (¬ z3 = (0 : Int) → (iq_P N xs 70 0 [some (iq_r 1000072), some (iq_i a0)] [] g1 l2 (fun r g4 l5 => ∃ z6, r = some (iq_i z6) ∧ ((0 ≤ z6 ∧ z6 ≤ 65535) ∧ Q (some (iq_i z6)) g4 l5))))))) :
    iq_P N xs 71 0 [some (iq_r 1000022), some (iq_i a0)] [] g l Q := iq_w_ok (cuts := []) 8 0 _ _ _ _ H

-- java/lang/String.charAt(I)C at 0
set_option maxRecDepth 20000 in
theorem B71_1000023 {N : Nat} {xs : Nat → Int32} {Q : iq_T} (a0 : Int) (g : iq_I) (l : iq_J) (H : iq_P N xs 67 0 [some (iq_r 1000023)] [] g l (fun r g1 l2 => ∃ z3, r = some (iq_i z3) ∧ ((-2147483648 ≤ z3 ∧ z3 ≤ 2147483647) ∧
      (z3 = (0 : Int) → (False)) ∧
      (¬ z3 = (0 : Int) → (iq_P N xs 70 0 [some (iq_r 1000073), some (iq_i a0)] [] g1 l2 (fun r g4 l5 => ∃ z6, r = some (iq_i z6) ∧ ((0 ≤ z6 ∧ z6 ≤ 65535) ∧ Q (some (iq_i z6)) g4 l5))))))) :
    iq_P N xs 71 0 [some (iq_r 1000023), some (iq_i a0)] [] g l Q := iq_w_ok (cuts := []) 8 0 _ _ _ _ H

-- java/lang/String.charAt(I)C at 0
set_option maxRecDepth 20000 in
theorem B71_1000024 {N : Nat} {xs : Nat → Int32} {Q : iq_T} (a0 : Int) (g : iq_I) (l : iq_J) (H : iq_P N xs 67 0 [some (iq_r 1000024)] [] g l (fun r g1 l2 => ∃ z3, r = some (iq_i z3) ∧ ((-2147483648 ≤ z3 ∧ z3 ≤ 2147483647) ∧
      (z3 = (0 : Int) → (False)) ∧
      (¬ z3 = (0 : Int) → (iq_P N xs 70 0 [some (iq_r 1000074), some (iq_i a0)] [] g1 l2 (fun r g4 l5 => ∃ z6, r = some (iq_i z6) ∧ ((0 ≤ z6 ∧ z6 ≤ 65535) ∧ Q (some (iq_i z6)) g4 l5))))))) :
    iq_P N xs 71 0 [some (iq_r 1000024), some (iq_i a0)] [] g l Q := iq_w_ok (cuts := []) 8 0 _ _ _ _ H

-- java/lang/String.charAt(I)C at 0
set_option maxRecDepth 20000 in
theorem B71_1000025 {N : Nat} {xs : Nat → Int32} {Q : iq_T} (a0 : Int) (g : iq_I) (l : iq_J) (H : iq_P N xs 67 0 [some (iq_r 1000025)] [] g l (fun r g1 l2 => ∃ z3, r = some (iq_i z3) ∧ ((-2147483648 ≤ z3 ∧ z3 ≤ 2147483647) ∧
      (z3 = (0 : Int) → (False)) ∧
      (¬ z3 = (0 : Int) → (iq_P N xs 70 0 [some (iq_r 1000075), some (iq_i a0)] [] g1 l2 (fun r g4 l5 => ∃ z6, r = some (iq_i z6) ∧ ((0 ≤ z6 ∧ z6 ≤ 65535) ∧ Q (some (iq_i z6)) g4 l5))))))) :
    iq_P N xs 71 0 [some (iq_r 1000025), some (iq_i a0)] [] g l Q := iq_w_ok (cuts := []) 8 0 _ _ _ _ H

-- java/lang/String.charAt(I)C at 0
set_option maxRecDepth 20000 in
theorem B71_1000026 {N : Nat} {xs : Nat → Int32} {Q : iq_T} (a0 : Int) (g : iq_I) (l : iq_J) (H : iq_P N xs 67 0 [some (iq_r 1000026)] [] g l (fun r g1 l2 => ∃ z3, r = some (iq_i z3) ∧ ((-2147483648 ≤ z3 ∧ z3 ≤ 2147483647) ∧
      (z3 = (0 : Int) → (False)) ∧
      (¬ z3 = (0 : Int) → (iq_P N xs 70 0 [some (iq_r 1000076), some (iq_i a0)] [] g1 l2 (fun r g4 l5 => ∃ z6, r = some (iq_i z6) ∧ ((0 ≤ z6 ∧ z6 ≤ 65535) ∧ Q (some (iq_i z6)) g4 l5))))))) :
    iq_P N xs 71 0 [some (iq_r 1000026), some (iq_i a0)] [] g l Q := iq_w_ok (cuts := []) 8 0 _ _ _ _ H

-- java/lang/String.charAt(I)C at 0
set_option maxRecDepth 20000 in
theorem B71_1000027 {N : Nat} {xs : Nat → Int32} {Q : iq_T} (a0 : Int) (g : iq_I) (l : iq_J) (H : iq_P N xs 67 0 [some (iq_r 1000027)] [] g l (fun r g1 l2 => ∃ z3, r = some (iq_i z3) ∧ ((-2147483648 ≤ z3 ∧ z3 ≤ 2147483647) ∧
      (z3 = (0 : Int) → (False)) ∧
      (¬ z3 = (0 : Int) → (iq_P N xs 70 0 [some (iq_r 1000077), some (iq_i a0)] [] g1 l2 (fun r g4 l5 => ∃ z6, r = some (iq_i z6) ∧ ((0 ≤ z6 ∧ z6 ≤ 65535) ∧ Q (some (iq_i z6)) g4 l5))))))) :
    iq_P N xs 71 0 [some (iq_r 1000027), some (iq_i a0)] [] g l Q := iq_w_ok (cuts := []) 8 0 _ _ _ _ H

-- java/lang/String.charAt(I)C at 0
set_option maxRecDepth 20000 in
theorem B71_1000028 {N : Nat} {xs : Nat → Int32} {Q : iq_T} (a0 : Int) (g : iq_I) (l : iq_J) (H : iq_P N xs 67 0 [some (iq_r 1000028)] [] g l (fun r g1 l2 => ∃ z3, r = some (iq_i z3) ∧ ((-2147483648 ≤ z3 ∧ z3 ≤ 2147483647) ∧
      (z3 = (0 : Int) → (False)) ∧
      (¬ z3 = (0 : Int) → (iq_P N xs 70 0 [some (iq_r 1000078), some (iq_i a0)] [] g1 l2 (fun r g4 l5 => ∃ z6, r = some (iq_i z6) ∧ ((0 ≤ z6 ∧ z6 ≤ 65535) ∧ Q (some (iq_i z6)) g4 l5))))))) :
    iq_P N xs 71 0 [some (iq_r 1000028), some (iq_i a0)] [] g l Q := iq_w_ok (cuts := []) 8 0 _ _ _ _ H

-- java/lang/String.charAt(I)C at 0
set_option maxRecDepth 20000 in
theorem B71_1000029 {N : Nat} {xs : Nat → Int32} {Q : iq_T} (a0 : Int) (g : iq_I) (l : iq_J) (H : iq_P N xs 67 0 [some (iq_r 1000029)] [] g l (fun r g1 l2 => ∃ z3, r = some (iq_i z3) ∧ ((-2147483648 ≤ z3 ∧ z3 ≤ 2147483647) ∧
      (z3 = (0 : Int) → (False)) ∧
      (¬ z3 = (0 : Int) → (iq_P N xs 70 0 [some (iq_r 1000079), some (iq_i a0)] [] g1 l2 (fun r g4 l5 => ∃ z6, r = some (iq_i z6) ∧ ((0 ≤ z6 ∧ z6 ≤ 65535) ∧ Q (some (iq_i z6)) g4 l5))))))) :
    iq_P N xs 71 0 [some (iq_r 1000029), some (iq_i a0)] [] g l Q := iq_w_ok (cuts := []) 8 0 _ _ _ _ H

-- java/lang/String.charAt(I)C at 0
set_option maxRecDepth 20000 in
theorem B71_1000030 {N : Nat} {xs : Nat → Int32} {Q : iq_T} (a0 : Int) (g : iq_I) (l : iq_J) (H : iq_P N xs 67 0 [some (iq_r 1000030)] [] g l (fun r g1 l2 => ∃ z3, r = some (iq_i z3) ∧ ((-2147483648 ≤ z3 ∧ z3 ≤ 2147483647) ∧
      (z3 = (0 : Int) → (False)) ∧
      (¬ z3 = (0 : Int) → (iq_P N xs 70 0 [some (iq_r 1000080), some (iq_i a0)] [] g1 l2 (fun r g4 l5 => ∃ z6, r = some (iq_i z6) ∧ ((0 ≤ z6 ∧ z6 ≤ 65535) ∧ Q (some (iq_i z6)) g4 l5))))))) :
    iq_P N xs 71 0 [some (iq_r 1000030), some (iq_i a0)] [] g l Q := iq_w_ok (cuts := []) 8 0 _ _ _ _ H

-- java/lang/String.charAt(I)C at 0
set_option maxRecDepth 20000 in
theorem B71_1000031 {N : Nat} {xs : Nat → Int32} {Q : iq_T} (a0 : Int) (g : iq_I) (l : iq_J) (H : iq_P N xs 67 0 [some (iq_r 1000031)] [] g l (fun r g1 l2 => ∃ z3, r = some (iq_i z3) ∧ ((-2147483648 ≤ z3 ∧ z3 ≤ 2147483647) ∧
      (z3 = (0 : Int) → (False)) ∧
      (¬ z3 = (0 : Int) → (iq_P N xs 70 0 [some (iq_r 1000081), some (iq_i a0)] [] g1 l2 (fun r g4 l5 => ∃ z6, r = some (iq_i z6) ∧ ((0 ≤ z6 ∧ z6 ≤ 65535) ∧ Q (some (iq_i z6)) g4 l5))))))) :
    iq_P N xs 71 0 [some (iq_r 1000031), some (iq_i a0)] [] g l Q := iq_w_ok (cuts := []) 8 0 _ _ _ _ H

-- java/lang/String.charAt(I)C at 0
set_option maxRecDepth 20000 in
theorem B71_1000032 {N : Nat} {xs : Nat → Int32} {Q : iq_T} (a0 : Int) (g : iq_I) (l : iq_J) (H : iq_P N xs 67 0 [some (iq_r 1000032)] [] g l (fun r g1 l2 => ∃ z3, r = some (iq_i z3) ∧ ((-2147483648 ≤ z3 ∧ z3 ≤ 2147483647) ∧
      (z3 = (0 : Int) → (False)) ∧
      (¬ z3 = (0 : Int) → (iq_P N xs 70 0 [some (iq_r 1000082), some (iq_i a0)] [] g1 l2 (fun r g4 l5 => ∃ z6, r = some (iq_i z6) ∧ ((0 ≤ z6 ∧ z6 ≤ 65535) ∧ Q (some (iq_i z6)) g4 l5))))))) :
    iq_P N xs 71 0 [some (iq_r 1000032), some (iq_i a0)] [] g l Q := iq_w_ok (cuts := []) 8 0 _ _ _ _ H

-- java/lang/String.charAt(I)C at 0
set_option maxRecDepth 20000 in
theorem B71_1000033 {N : Nat} {xs : Nat → Int32} {Q : iq_T} (a0 : Int) (g : iq_I) (l : iq_J) (H : iq_P N xs 67 0 [some (iq_r 1000033)] [] g l (fun r g1 l2 => ∃ z3, r = some (iq_i z3) ∧ ((-2147483648 ≤ z3 ∧ z3 ≤ 2147483647) ∧
      (z3 = (0 : Int) → (False)) ∧
      (¬ z3 = (0 : Int) → (iq_P N xs 70 0 [some (iq_r 1000083), some (iq_i a0)] [] g1 l2 (fun r g4 l5 => ∃ z6, r = some (iq_i z6) ∧ ((0 ≤ z6 ∧ z6 ≤ 65535) ∧ Q (some (iq_i z6)) g4 l5))))))) :
    iq_P N xs 71 0 [some (iq_r 1000033), some (iq_i a0)] [] g l Q := iq_w_ok (cuts := []) 8 0 _ _ _ _ H

-- ScaleForge$Reader.isWord(Ljava/lang/String;)Z at 0
set_option maxRecDepth 20000 in
theorem B72_10_1000010 {N : Nat} {xs : Nat → Int32} {Q : iq_T} (g : iq_I) (l : iq_J) (H : (-2147483648 ≤ (g 10 4) ∧ (g 10 4) ≤ 2147483647) ∧
    (¬ (g 10 4) = (1 : Int) → (Q (some (iq_i 0)) g l)) ∧
    ((g 10 4) = (1 : Int) → (iq_P N xs 66 0 [some (iq_r 1000010)] [] g l (fun r g1 l2 => ∃ z3, r = some (iq_i z3) ∧ ((-2147483648 ≤ ((g 10 3) - (g 10 5)) ∧ ((g 10 3) - (g 10 5)) ≤ 2147483647 ∧ -2147483648 ≤ z3 ∧ z3 ≤ 2147483647) ∧
        (((g 10 3) - (g 10 5)) = z3 → (iq_P N xs 72 28 [some (iq_r 10), some (iq_r 1000010), some (iq_i 0)] [] g1 l2 Q)) ∧
        (¬ ((g 10 3) - (g 10 5)) = z3 → (Q (some (iq_i 0)) g1 l2))))))) :
    iq_P N xs 72 0 [some (iq_r 10), some (iq_r 1000010), none] [] g l Q := iq_w_ok (cuts := [28]) 14 0 _ _ _ _ H

-- ScaleForge$Reader.isWord(Ljava/lang/String;)Z at 28
set_option maxRecDepth 20000 in
theorem B72_p28_10_1000010 {N : Nat} {xs : Nat → Int32} {Q : iq_T} (v2 : Int) (g : iq_I) (l : iq_J) (H : iq_P N xs 66 0 [some (iq_r 1000010)] [] g l (fun r g1 l2 => ∃ z3, r = some (iq_i z3) ∧ ((-2147483648 ≤ v2 ∧ v2 ≤ 2147483647 ∧ -2147483648 ≤ z3 ∧ z3 ≤ 2147483647) ∧
      (z3 ≤ v2 → (Q (some (iq_i 1)) g1 l2)) ∧
      (v2 < z3 → (iq_P N xs 56 0 [some (iq_r 10), some (iq_i ((g1 10 5) + v2))] [] g1 l2 (fun r g4 l5 => ∃ z6, r = some (iq_i z6) ∧ (iq_P N xs 71 0 [some (iq_r 1000010), some (iq_i v2)] [] g4 l5 (fun r g7 l8 => ∃ z9, r = some (iq_i z9) ∧ ((-2147483648 ≤ z6 ∧ z6 ≤ 2147483647 ∧ -2147483648 ≤ z9 ∧ z9 ≤ 2147483647) ∧
            (z6 = z9 → (iq_P N xs 72 28 [some (iq_r 10), some (iq_r 1000010), some (iq_i (v2 + 1))] [] g7 l8 Q)) ∧
            (¬ z6 = z9 → (Q (some (iq_i 0)) g7 l8))))))))))) :
    iq_P N xs 72 28 [some (iq_r 10), some (iq_r 1000010), some (iq_i v2)] [] g l Q := iq_w_ok (cuts := [28]) 16 28 _ _ _ _ H

-- ScaleForge$Reader.isWord(Ljava/lang/String;)Z at 0
set_option maxRecDepth 20000 in
theorem B72_10_1000011 {N : Nat} {xs : Nat → Int32} {Q : iq_T} (g : iq_I) (l : iq_J) (H : (-2147483648 ≤ (g 10 4) ∧ (g 10 4) ≤ 2147483647) ∧
    (¬ (g 10 4) = (1 : Int) → (Q (some (iq_i 0)) g l)) ∧
    ((g 10 4) = (1 : Int) → (iq_P N xs 66 0 [some (iq_r 1000011)] [] g l (fun r g1 l2 => ∃ z3, r = some (iq_i z3) ∧ ((-2147483648 ≤ ((g 10 3) - (g 10 5)) ∧ ((g 10 3) - (g 10 5)) ≤ 2147483647 ∧ -2147483648 ≤ z3 ∧ z3 ≤ 2147483647) ∧
        (((g 10 3) - (g 10 5)) = z3 → (iq_P N xs 72 28 [some (iq_r 10), some (iq_r 1000011), some (iq_i 0)] [] g1 l2 Q)) ∧
        (¬ ((g 10 3) - (g 10 5)) = z3 → (Q (some (iq_i 0)) g1 l2))))))) :
    iq_P N xs 72 0 [some (iq_r 10), some (iq_r 1000011), none] [] g l Q := iq_w_ok (cuts := [28]) 14 0 _ _ _ _ H

-- ScaleForge$Reader.isWord(Ljava/lang/String;)Z at 28
set_option maxRecDepth 20000 in
theorem B72_p28_10_1000011 {N : Nat} {xs : Nat → Int32} {Q : iq_T} (v2 : Int) (g : iq_I) (l : iq_J) (H : iq_P N xs 66 0 [some (iq_r 1000011)] [] g l (fun r g1 l2 => ∃ z3, r = some (iq_i z3) ∧ ((-2147483648 ≤ v2 ∧ v2 ≤ 2147483647 ∧ -2147483648 ≤ z3 ∧ z3 ≤ 2147483647) ∧
      (z3 ≤ v2 → (Q (some (iq_i 1)) g1 l2)) ∧
      (v2 < z3 → (iq_P N xs 56 0 [some (iq_r 10), some (iq_i ((g1 10 5) + v2))] [] g1 l2 (fun r g4 l5 => ∃ z6, r = some (iq_i z6) ∧ (iq_P N xs 71 0 [some (iq_r 1000011), some (iq_i v2)] [] g4 l5 (fun r g7 l8 => ∃ z9, r = some (iq_i z9) ∧ ((-2147483648 ≤ z6 ∧ z6 ≤ 2147483647 ∧ -2147483648 ≤ z9 ∧ z9 ≤ 2147483647) ∧
            (z6 = z9 → (iq_P N xs 72 28 [some (iq_r 10), some (iq_r 1000011), some (iq_i (v2 + 1))] [] g7 l8 Q)) ∧
            (¬ z6 = z9 → (Q (some (iq_i 0)) g7 l8))))))))))) :
    iq_P N xs 72 28 [some (iq_r 10), some (iq_r 1000011), some (iq_i v2)] [] g l Q := iq_w_ok (cuts := [28]) 16 28 _ _ _ _ H

-- ScaleForge$Reader.isWord(Ljava/lang/String;)Z at 0
set_option maxRecDepth 20000 in
theorem B72_10_1000012 {N : Nat} {xs : Nat → Int32} {Q : iq_T} (g : iq_I) (l : iq_J) (H : (-2147483648 ≤ (g 10 4) ∧ (g 10 4) ≤ 2147483647) ∧
    (¬ (g 10 4) = (1 : Int) → (Q (some (iq_i 0)) g l)) ∧
    ((g 10 4) = (1 : Int) → (iq_P N xs 66 0 [some (iq_r 1000012)] [] g l (fun r g1 l2 => ∃ z3, r = some (iq_i z3) ∧ ((-2147483648 ≤ ((g 10 3) - (g 10 5)) ∧ ((g 10 3) - (g 10 5)) ≤ 2147483647 ∧ -2147483648 ≤ z3 ∧ z3 ≤ 2147483647) ∧
        (((g 10 3) - (g 10 5)) = z3 → (iq_P N xs 72 28 [some (iq_r 10), some (iq_r 1000012), some (iq_i 0)] [] g1 l2 Q)) ∧
        (¬ ((g 10 3) - (g 10 5)) = z3 → (Q (some (iq_i 0)) g1 l2))))))) :
    iq_P N xs 72 0 [some (iq_r 10), some (iq_r 1000012), none] [] g l Q := iq_w_ok (cuts := [28]) 14 0 _ _ _ _ H

-- ScaleForge$Reader.isWord(Ljava/lang/String;)Z at 28
set_option maxRecDepth 20000 in
theorem B72_p28_10_1000012 {N : Nat} {xs : Nat → Int32} {Q : iq_T} (v2 : Int) (g : iq_I) (l : iq_J) (H : iq_P N xs 66 0 [some (iq_r 1000012)] [] g l (fun r g1 l2 => ∃ z3, r = some (iq_i z3) ∧ ((-2147483648 ≤ v2 ∧ v2 ≤ 2147483647 ∧ -2147483648 ≤ z3 ∧ z3 ≤ 2147483647) ∧
      (z3 ≤ v2 → (Q (some (iq_i 1)) g1 l2)) ∧
      (v2 < z3 → (iq_P N xs 56 0 [some (iq_r 10), some (iq_i ((g1 10 5) + v2))] [] g1 l2 (fun r g4 l5 => ∃ z6, r = some (iq_i z6) ∧ (iq_P N xs 71 0 [some (iq_r 1000012), some (iq_i v2)] [] g4 l5 (fun r g7 l8 => ∃ z9, r = some (iq_i z9) ∧ ((-2147483648 ≤ z6 ∧ z6 ≤ 2147483647 ∧ -2147483648 ≤ z9 ∧ z9 ≤ 2147483647) ∧
            (z6 = z9 → (iq_P N xs 72 28 [some (iq_r 10), some (iq_r 1000012), some (iq_i (v2 + 1))] [] g7 l8 Q)) ∧
            (¬ z6 = z9 → (Q (some (iq_i 0)) g7 l8))))))))))) :
    iq_P N xs 72 28 [some (iq_r 10), some (iq_r 1000012), some (iq_i v2)] [] g l Q := iq_w_ok (cuts := [28]) 16 28 _ _ _ _ H

-- ScaleForge$Reader.isWord(Ljava/lang/String;)Z at 0
set_option maxRecDepth 20000 in
theorem B72_10_1000013 {N : Nat} {xs : Nat → Int32} {Q : iq_T} (g : iq_I) (l : iq_J) (H : (-2147483648 ≤ (g 10 4) ∧ (g 10 4) ≤ 2147483647) ∧
    (¬ (g 10 4) = (1 : Int) → (Q (some (iq_i 0)) g l)) ∧
    ((g 10 4) = (1 : Int) → (iq_P N xs 66 0 [some (iq_r 1000013)] [] g l (fun r g1 l2 => ∃ z3, r = some (iq_i z3) ∧ ((-2147483648 ≤ ((g 10 3) - (g 10 5)) ∧ ((g 10 3) - (g 10 5)) ≤ 2147483647 ∧ -2147483648 ≤ z3 ∧ z3 ≤ 2147483647) ∧
        (((g 10 3) - (g 10 5)) = z3 → (iq_P N xs 72 28 [some (iq_r 10), some (iq_r 1000013), some (iq_i 0)] [] g1 l2 Q)) ∧
        (¬ ((g 10 3) - (g 10 5)) = z3 → (Q (some (iq_i 0)) g1 l2))))))) :
    iq_P N xs 72 0 [some (iq_r 10), some (iq_r 1000013), none] [] g l Q := iq_w_ok (cuts := [28]) 14 0 _ _ _ _ H

-- ScaleForge$Reader.isWord(Ljava/lang/String;)Z at 28
set_option maxRecDepth 20000 in
theorem B72_p28_10_1000013 {N : Nat} {xs : Nat → Int32} {Q : iq_T} (v2 : Int) (g : iq_I) (l : iq_J) (H : iq_P N xs 66 0 [some (iq_r 1000013)] [] g l (fun r g1 l2 => ∃ z3, r = some (iq_i z3) ∧ ((-2147483648 ≤ v2 ∧ v2 ≤ 2147483647 ∧ -2147483648 ≤ z3 ∧ z3 ≤ 2147483647) ∧
      (z3 ≤ v2 → (Q (some (iq_i 1)) g1 l2)) ∧
      (v2 < z3 → (iq_P N xs 56 0 [some (iq_r 10), some (iq_i ((g1 10 5) + v2))] [] g1 l2 (fun r g4 l5 => ∃ z6, r = some (iq_i z6) ∧ (iq_P N xs 71 0 [some (iq_r 1000013), some (iq_i v2)] [] g4 l5 (fun r g7 l8 => ∃ z9, r = some (iq_i z9) ∧ ((-2147483648 ≤ z6 ∧ z6 ≤ 2147483647 ∧ -2147483648 ≤ z9 ∧ z9 ≤ 2147483647) ∧
            (z6 = z9 → (iq_P N xs 72 28 [some (iq_r 10), some (iq_r 1000013), some (iq_i (v2 + 1))] [] g7 l8 Q)) ∧
            (¬ z6 = z9 → (Q (some (iq_i 0)) g7 l8))))))))))) :
    iq_P N xs 72 28 [some (iq_r 10), some (iq_r 1000013), some (iq_i v2)] [] g l Q := iq_w_ok (cuts := [28]) 16 28 _ _ _ _ H

-- ScaleForge$Reader.isWord(Ljava/lang/String;)Z at 0
set_option maxRecDepth 20000 in
theorem B72_10_1000014 {N : Nat} {xs : Nat → Int32} {Q : iq_T} (g : iq_I) (l : iq_J) (H : (-2147483648 ≤ (g 10 4) ∧ (g 10 4) ≤ 2147483647) ∧
    (¬ (g 10 4) = (1 : Int) → (Q (some (iq_i 0)) g l)) ∧
    ((g 10 4) = (1 : Int) → (iq_P N xs 66 0 [some (iq_r 1000014)] [] g l (fun r g1 l2 => ∃ z3, r = some (iq_i z3) ∧ ((-2147483648 ≤ ((g 10 3) - (g 10 5)) ∧ ((g 10 3) - (g 10 5)) ≤ 2147483647 ∧ -2147483648 ≤ z3 ∧ z3 ≤ 2147483647) ∧
        (((g 10 3) - (g 10 5)) = z3 → (iq_P N xs 72 28 [some (iq_r 10), some (iq_r 1000014), some (iq_i 0)] [] g1 l2 Q)) ∧
        (¬ ((g 10 3) - (g 10 5)) = z3 → (Q (some (iq_i 0)) g1 l2))))))) :
    iq_P N xs 72 0 [some (iq_r 10), some (iq_r 1000014), none] [] g l Q := iq_w_ok (cuts := [28]) 14 0 _ _ _ _ H

-- ScaleForge$Reader.isWord(Ljava/lang/String;)Z at 28
set_option maxRecDepth 20000 in
theorem B72_p28_10_1000014 {N : Nat} {xs : Nat → Int32} {Q : iq_T} (v2 : Int) (g : iq_I) (l : iq_J) (H : iq_P N xs 66 0 [some (iq_r 1000014)] [] g l (fun r g1 l2 => ∃ z3, r = some (iq_i z3) ∧ ((-2147483648 ≤ v2 ∧ v2 ≤ 2147483647 ∧ -2147483648 ≤ z3 ∧ z3 ≤ 2147483647) ∧
      (z3 ≤ v2 → (Q (some (iq_i 1)) g1 l2)) ∧
      (v2 < z3 → (iq_P N xs 56 0 [some (iq_r 10), some (iq_i ((g1 10 5) + v2))] [] g1 l2 (fun r g4 l5 => ∃ z6, r = some (iq_i z6) ∧ (iq_P N xs 71 0 [some (iq_r 1000014), some (iq_i v2)] [] g4 l5 (fun r g7 l8 => ∃ z9, r = some (iq_i z9) ∧ ((-2147483648 ≤ z6 ∧ z6 ≤ 2147483647 ∧ -2147483648 ≤ z9 ∧ z9 ≤ 2147483647) ∧
            (z6 = z9 → (iq_P N xs 72 28 [some (iq_r 10), some (iq_r 1000014), some (iq_i (v2 + 1))] [] g7 l8 Q)) ∧
            (¬ z6 = z9 → (Q (some (iq_i 0)) g7 l8))))))))))) :
    iq_P N xs 72 28 [some (iq_r 10), some (iq_r 1000014), some (iq_i v2)] [] g l Q := iq_w_ok (cuts := [28]) 16 28 _ _ _ _ H

-- ScaleForge$Reader.isWord(Ljava/lang/String;)Z at 0
set_option maxRecDepth 20000 in
theorem B72_10_1000015 {N : Nat} {xs : Nat → Int32} {Q : iq_T} (g : iq_I) (l : iq_J) (H : (-2147483648 ≤ (g 10 4) ∧ (g 10 4) ≤ 2147483647) ∧
    (¬ (g 10 4) = (1 : Int) → (Q (some (iq_i 0)) g l)) ∧
    ((g 10 4) = (1 : Int) → (iq_P N xs 66 0 [some (iq_r 1000015)] [] g l (fun r g1 l2 => ∃ z3, r = some (iq_i z3) ∧ ((-2147483648 ≤ ((g 10 3) - (g 10 5)) ∧ ((g 10 3) - (g 10 5)) ≤ 2147483647 ∧ -2147483648 ≤ z3 ∧ z3 ≤ 2147483647) ∧
        (((g 10 3) - (g 10 5)) = z3 → (iq_P N xs 72 28 [some (iq_r 10), some (iq_r 1000015), some (iq_i 0)] [] g1 l2 Q)) ∧
        (¬ ((g 10 3) - (g 10 5)) = z3 → (Q (some (iq_i 0)) g1 l2))))))) :
    iq_P N xs 72 0 [some (iq_r 10), some (iq_r 1000015), none] [] g l Q := iq_w_ok (cuts := [28]) 14 0 _ _ _ _ H

-- ScaleForge$Reader.isWord(Ljava/lang/String;)Z at 28
set_option maxRecDepth 20000 in
theorem B72_p28_10_1000015 {N : Nat} {xs : Nat → Int32} {Q : iq_T} (v2 : Int) (g : iq_I) (l : iq_J) (H : iq_P N xs 66 0 [some (iq_r 1000015)] [] g l (fun r g1 l2 => ∃ z3, r = some (iq_i z3) ∧ ((-2147483648 ≤ v2 ∧ v2 ≤ 2147483647 ∧ -2147483648 ≤ z3 ∧ z3 ≤ 2147483647) ∧
      (z3 ≤ v2 → (Q (some (iq_i 1)) g1 l2)) ∧
      (v2 < z3 → (iq_P N xs 56 0 [some (iq_r 10), some (iq_i ((g1 10 5) + v2))] [] g1 l2 (fun r g4 l5 => ∃ z6, r = some (iq_i z6) ∧ (iq_P N xs 71 0 [some (iq_r 1000015), some (iq_i v2)] [] g4 l5 (fun r g7 l8 => ∃ z9, r = some (iq_i z9) ∧ ((-2147483648 ≤ z6 ∧ z6 ≤ 2147483647 ∧ -2147483648 ≤ z9 ∧ z9 ≤ 2147483647) ∧
            (z6 = z9 → (iq_P N xs 72 28 [some (iq_r 10), some (iq_r 1000015), some (iq_i (v2 + 1))] [] g7 l8 Q)) ∧
            (¬ z6 = z9 → (Q (some (iq_i 0)) g7 l8))))))))))) :
    iq_P N xs 72 28 [some (iq_r 10), some (iq_r 1000015), some (iq_i v2)] [] g l Q := iq_w_ok (cuts := [28]) 16 28 _ _ _ _ H

-- ScaleForge$Reader.isWord(Ljava/lang/String;)Z at 0
set_option maxRecDepth 20000 in
theorem B72_10_1000016 {N : Nat} {xs : Nat → Int32} {Q : iq_T} (g : iq_I) (l : iq_J) (H : (-2147483648 ≤ (g 10 4) ∧ (g 10 4) ≤ 2147483647) ∧
    (¬ (g 10 4) = (1 : Int) → (Q (some (iq_i 0)) g l)) ∧
    ((g 10 4) = (1 : Int) → (iq_P N xs 66 0 [some (iq_r 1000016)] [] g l (fun r g1 l2 => ∃ z3, r = some (iq_i z3) ∧ ((-2147483648 ≤ ((g 10 3) - (g 10 5)) ∧ ((g 10 3) - (g 10 5)) ≤ 2147483647 ∧ -2147483648 ≤ z3 ∧ z3 ≤ 2147483647) ∧
        (((g 10 3) - (g 10 5)) = z3 → (iq_P N xs 72 28 [some (iq_r 10), some (iq_r 1000016), some (iq_i 0)] [] g1 l2 Q)) ∧
        (¬ ((g 10 3) - (g 10 5)) = z3 → (Q (some (iq_i 0)) g1 l2))))))) :
    iq_P N xs 72 0 [some (iq_r 10), some (iq_r 1000016), none] [] g l Q := iq_w_ok (cuts := [28]) 14 0 _ _ _ _ H

-- ScaleForge$Reader.isWord(Ljava/lang/String;)Z at 28
set_option maxRecDepth 20000 in
theorem B72_p28_10_1000016 {N : Nat} {xs : Nat → Int32} {Q : iq_T} (v2 : Int) (g : iq_I) (l : iq_J) (H : iq_P N xs 66 0 [some (iq_r 1000016)] [] g l (fun r g1 l2 => ∃ z3, r = some (iq_i z3) ∧ ((-2147483648 ≤ v2 ∧ v2 ≤ 2147483647 ∧ -2147483648 ≤ z3 ∧ z3 ≤ 2147483647) ∧
      (z3 ≤ v2 → (Q (some (iq_i 1)) g1 l2)) ∧
      (v2 < z3 → (iq_P N xs 56 0 [some (iq_r 10), some (iq_i ((g1 10 5) + v2))] [] g1 l2 (fun r g4 l5 => ∃ z6, r = some (iq_i z6) ∧ (iq_P N xs 71 0 [some (iq_r 1000016), some (iq_i v2)] [] g4 l5 (fun r g7 l8 => ∃ z9, r = some (iq_i z9) ∧ ((-2147483648 ≤ z6 ∧ z6 ≤ 2147483647 ∧ -2147483648 ≤ z9 ∧ z9 ≤ 2147483647) ∧
            (z6 = z9 → (iq_P N xs 72 28 [some (iq_r 10), some (iq_r 1000016), some (iq_i (v2 + 1))] [] g7 l8 Q)) ∧
            (¬ z6 = z9 → (Q (some (iq_i 0)) g7 l8))))))))))) :
    iq_P N xs 72 28 [some (iq_r 10), some (iq_r 1000016), some (iq_i v2)] [] g l Q := iq_w_ok (cuts := [28]) 16 28 _ _ _ _ H

-- ScaleForge$Reader.isWord(Ljava/lang/String;)Z at 0
set_option maxRecDepth 20000 in
theorem B72_10_1000017 {N : Nat} {xs : Nat → Int32} {Q : iq_T} (g : iq_I) (l : iq_J) (H : (-2147483648 ≤ (g 10 4) ∧ (g 10 4) ≤ 2147483647) ∧
    (¬ (g 10 4) = (1 : Int) → (Q (some (iq_i 0)) g l)) ∧
    ((g 10 4) = (1 : Int) → (iq_P N xs 66 0 [some (iq_r 1000017)] [] g l (fun r g1 l2 => ∃ z3, r = some (iq_i z3) ∧ ((-2147483648 ≤ ((g 10 3) - (g 10 5)) ∧ ((g 10 3) - (g 10 5)) ≤ 2147483647 ∧ -2147483648 ≤ z3 ∧ z3 ≤ 2147483647) ∧
        (((g 10 3) - (g 10 5)) = z3 → (iq_P N xs 72 28 [some (iq_r 10), some (iq_r 1000017), some (iq_i 0)] [] g1 l2 Q)) ∧
        (¬ ((g 10 3) - (g 10 5)) = z3 → (Q (some (iq_i 0)) g1 l2))))))) :
    iq_P N xs 72 0 [some (iq_r 10), some (iq_r 1000017), none] [] g l Q := iq_w_ok (cuts := [28]) 14 0 _ _ _ _ H

-- ScaleForge$Reader.isWord(Ljava/lang/String;)Z at 28
set_option maxRecDepth 20000 in
theorem B72_p28_10_1000017 {N : Nat} {xs : Nat → Int32} {Q : iq_T} (v2 : Int) (g : iq_I) (l : iq_J) (H : iq_P N xs 66 0 [some (iq_r 1000017)] [] g l (fun r g1 l2 => ∃ z3, r = some (iq_i z3) ∧ ((-2147483648 ≤ v2 ∧ v2 ≤ 2147483647 ∧ -2147483648 ≤ z3 ∧ z3 ≤ 2147483647) ∧
      (z3 ≤ v2 → (Q (some (iq_i 1)) g1 l2)) ∧
      (v2 < z3 → (iq_P N xs 56 0 [some (iq_r 10), some (iq_i ((g1 10 5) + v2))] [] g1 l2 (fun r g4 l5 => ∃ z6, r = some (iq_i z6) ∧ (iq_P N xs 71 0 [some (iq_r 1000017), some (iq_i v2)] [] g4 l5 (fun r g7 l8 => ∃ z9, r = some (iq_i z9) ∧ ((-2147483648 ≤ z6 ∧ z6 ≤ 2147483647 ∧ -2147483648 ≤ z9 ∧ z9 ≤ 2147483647) ∧
            (z6 = z9 → (iq_P N xs 72 28 [some (iq_r 10), some (iq_r 1000017), some (iq_i (v2 + 1))] [] g7 l8 Q)) ∧
            (¬ z6 = z9 → (Q (some (iq_i 0)) g7 l8))))))))))) :
    iq_P N xs 72 28 [some (iq_r 10), some (iq_r 1000017), some (iq_i v2)] [] g l Q := iq_w_ok (cuts := [28]) 16 28 _ _ _ _ H
