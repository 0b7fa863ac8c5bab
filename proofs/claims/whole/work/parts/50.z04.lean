/-! What must hold that a stretch of a method ends well: methods 72 to 82. -/
-- ScaleForge$Reader.isWord(Ljava/lang/String;)Z at 0
set_option maxRecDepth 20000 in
theorem B72_10_1000018 {N : Nat} {xs : Nat → Int32} {Q : iq_T} (g : iq_I) (l : iq_J) (H : (-2147483648 ≤ (g 10 4) ∧ (g 10 4) ≤ 2147483647) ∧
    (¬ (g 10 4) = (1 : Int) → (Q (some (iq_i 0)) g l)) ∧
    ((g 10 4) = (1 : Int) → (iq_P N xs 66 0 [some (iq_r 1000018)] [] g l (fun r g1 l2 => ∃ z3, r = some (iq_i z3) ∧ ((-2147483648 ≤ ((g 10 3) - (g 10 5)) ∧ ((g 10 3) - (g 10 5)) ≤ 2147483647 ∧ -2147483648 ≤ z3 ∧ z3 ≤ 2147483647) ∧
        (((g 10 3) - (g 10 5)) = z3 → (iq_P N xs 72 28 [some (iq_r 10), some (iq_r 1000018), some (iq_i 0)] [] g1 l2 Q)) ∧
        (¬ ((g 10 3) - (g 10 5)) = z3 → (Q (some (iq_i 0)) g1 l2))))))) :
    iq_P N xs 72 0 [some (iq_r 10), some (iq_r 1000018), none] [] g l Q := iq_w_ok (cuts := [28]) 14 0 _ _ _ _ H

-- ScaleForge$Reader.isWord(Ljava/lang/String;)Z at 28
set_option maxRecDepth 20000 in
theorem B72_p28_10_1000018 {N : Nat} {xs : Nat → Int32} {Q : iq_T} (v2 : Int) (g : iq_I) (l : iq_J) (H : iq_P N xs 66 0 [some (iq_r 1000018)] [] g l (fun r g1 l2 => ∃ z3, r = some (iq_i z3) ∧ ((-2147483648 ≤ v2 ∧ v2 ≤ 2147483647 ∧ -2147483648 ≤ z3 ∧ z3 ≤ 2147483647) ∧
      (z3 ≤ v2 → (Q (some (iq_i 1)) g1 l2)) ∧
      (v2 < z3 → (iq_P N xs 56 0 [some (iq_r 10), some (iq_i ((g1 10 5) + v2))] [] g1 l2 (fun r g4 l5 => ∃ z6, r = some (iq_i z6) ∧ (iq_P N xs 71 0 [some (iq_r 1000018), some (iq_i v2)] [] g4 l5 (fun r g7 l8 => ∃ z9, r = some (iq_i z9) ∧ ((-2147483648 ≤ z6 ∧ z6 ≤ 2147483647 ∧ -2147483648 ≤ z9 ∧ z9 ≤ 2147483647) ∧
            (z6 = z9 → (iq_P N xs 72 28 [some (iq_r 10), some (iq_r 1000018), some (iq_i (v2 + 1))] [] g7 l8 Q)) ∧
            (¬ z6 = z9 → (Q (some (iq_i 0)) g7 l8))))))))))) :
    iq_P N xs 72 28 [some (iq_r 10), some (iq_r 1000018), some (iq_i v2)] [] g l Q := iq_w_ok (cuts := [28]) 16 28 _ _ _ _ H

-- ScaleForge$Reader.isWord(Ljava/lang/String;)Z at 0
set_option maxRecDepth 20000 in
theorem B72_10_1000019 {N : Nat} {xs : Nat → Int32} {Q : iq_T} (g : iq_I) (l : iq_J) (H : (-2147483648 ≤ (g 10 4) ∧ (g 10 4) ≤ 2147483647) ∧
    (¬ (g 10 4) = (1 : Int) → (Q (some (iq_i 0)) g l)) ∧
    ((g 10 4) = (1 : Int) → (iq_P N xs 66 0 [some (iq_r 1000019)] [] g l (fun r g1 l2 => ∃ z3, r = some (iq_i z3) ∧ ((-2147483648 ≤ ((g 10 3) - (g 10 5)) ∧ ((g 10 3) - (g 10 5)) ≤ 2147483647 ∧ -2147483648 ≤ z3 ∧ z3 ≤ 2147483647) ∧
        (((g 10 3) - (g 10 5)) = z3 → (iq_P N xs 72 28 [some (iq_r 10), some (iq_r 1000019), some (iq_i 0)] [] g1 l2 Q)) ∧
        (¬ ((g 10 3) - (g 10 5)) = z3 → (Q (some (iq_i 0)) g1 l2))))))) :
    iq_P N xs 72 0 [some (iq_r 10), some (iq_r 1000019), none] [] g l Q := iq_w_ok (cuts := [28]) 14 0 _ _ _ _ H

-- ScaleForge$Reader.isWord(Ljava/lang/String;)Z at 28
set_option maxRecDepth 20000 in
theorem B72_p28_10_1000019 {N : Nat} {xs : Nat → Int32} {Q : iq_T} (v2 : Int) (g : iq_I) (l : iq_J) (H : iq_P N xs 66 0 [some (iq_r 1000019)] [] g l (fun r g1 l2 => ∃ z3, r = some (iq_i z3) ∧ ((-2147483648 ≤ v2 ∧ v2 ≤ 2147483647 ∧ -2147483648 ≤ z3 ∧ z3 ≤ 2147483647) ∧
      (z3 ≤ v2 → (Q (some (iq_i 1)) g1 l2)) ∧
      (v2 < z3 → (iq_P N xs 56 0 [some (iq_r 10), some (iq_i ((g1 10 5) + v2))] [] g1 l2 (fun r g4 l5 => ∃ z6, r = some (iq_i z6) ∧ (iq_P N xs 71 0 [some (iq_r 1000019), some (iq_i v2)] [] g4 l5 (fun r g7 l8 => ∃ z9, r = some (iq_i z9) ∧ ((-2147483648 ≤ z6 ∧ z6 ≤ 2147483647 ∧ -2147483648 ≤ z9 ∧ z9 ≤ 2147483647) ∧
            (z6 = z9 → (iq_P N xs 72 28 [some (iq_r 10), some (iq_r 1000019), some (iq_i (v2 + 1))] [] g7 l8 Q)) ∧
            (¬ z6 = z9 → (Q (some (iq_i 0)) g7 l8))))))))))) :
    iq_P N xs 72 28 [some (iq_r 10), some (iq_r 1000019), some (iq_i v2)] [] g l Q := iq_w_ok (cuts := [28]) 16 28 _ _ _ _ H

-- ScaleForge$Reader.isWord(Ljava/lang/String;)Z at 0
set_option maxRecDepth 20000 in
theorem B72_10_1000020 {N : Nat} {xs : Nat → Int32} {Q : iq_T} (g : iq_I) (l : iq_J) (H : (-2147483648 ≤ (g 10 4) ∧ (g 10 4) ≤ 2147483647) ∧
    (¬ (g 10 4) = (1 : Int) → (Q (some (iq_i 0)) g l)) ∧
    ((g 10 4) = (1 : Int) → (iq_P N xs 66 0 [some (iq_r 1000020)] [] g l (fun r g1 l2 => ∃ z3, r = some (iq_i z3) ∧ ((-2147483648 ≤ ((g 10 3) - (g 10 5)) ∧ ((g 10 3) - (g 10 5)) ≤ 2147483647 ∧ -2147483648 ≤ z3 ∧ z3 ≤ 2147483647) ∧
        (((g 10 3) - (g 10 5)) = z3 → (iq_P N xs 72 28 [some (iq_r 10), some (iq_r 1000020), some (iq_i 0)] [] g1 l2 Q)) ∧
        (¬ ((g 10 3) - (g 10 5)) = z3 → (Q (some (iq_i 0)) g1 l2))))))) :
    iq_P N xs 72 0 [some (iq_r 10), some (iq_r 1000020), none] [] g l Q := iq_w_ok (cuts := [28]) 14 0 _ _ _ _ H

-- ScaleForge$Reader.isWord(Ljava/lang/String;)Z at 28
set_option maxRecDepth 20000 in
theorem B72_p28_10_1000020 {N : Nat} {xs : Nat → Int32} {Q : iq_T} (v2 : Int) (g : iq_I) (l : iq_J) (H : iq_P N xs 66 0 [some (iq_r 1000020)] [] g l (fun r g1 l2 => ∃ z3, r = some (iq_i z3) ∧ ((-2147483648 ≤ v2 ∧ v2 ≤ 2147483647 ∧ -2147483648 ≤ z3 ∧ z3 ≤ 2147483647) ∧
      (z3 ≤ v2 → (Q (some (iq_i 1)) g1 l2)) ∧
      (v2 < z3 → (iq_P N xs 56 0 [some (iq_r 10), some (iq_i ((g1 10 5) + v2))] [] g1 l2 (fun r g4 l5 => ∃ z6, r = some (iq_i z6) ∧ (iq_P N xs 71 0 [some (iq_r 1000020), some (iq_i v2)] [] g4 l5 (fun r g7 l8 => ∃ z9, r = some (iq_i z9) ∧ ((-2147483648 ≤ z6 ∧ z6 ≤ 2147483647 ∧ -2147483648 ≤ z9 ∧ z9 ≤ 2147483647) ∧
            (z6 = z9 → (iq_P N xs 72 28 [some (iq_r 10), some (iq_r 1000020), some (iq_i (v2 + 1))] [] g7 l8 Q)) ∧
            (¬ z6 = z9 → (Q (some (iq_i 0)) g7 l8))))))))))) :
    iq_P N xs 72 28 [some (iq_r 10), some (iq_r 1000020), some (iq_i v2)] [] g l Q := iq_w_ok (cuts := [28]) 16 28 _ _ _ _ H

-- ScaleForge$Reader.isWord(Ljava/lang/String;)Z at 0
set_option maxRecDepth 20000 in
theorem B72_10_1000021 {N : Nat} {xs : Nat → Int32} {Q : iq_T} (g : iq_I) (l : iq_J) (H : (-2147483648 ≤ (g 10 4) ∧ (g 10 4) ≤ 2147483647) ∧
    (¬ (g 10 4) = (1 : Int) → (Q (some (iq_i 0)) g l)) ∧
    ((g 10 4) = (1 : Int) → (iq_P N xs 66 0 [some (iq_r 1000021)] [] g l (fun r g1 l2 => ∃ z3, r = some (iq_i z3) ∧ ((-2147483648 ≤ ((g 10 3) - (g 10 5)) ∧ ((g 10 3) - (g 10 5)) ≤ 2147483647 ∧ -2147483648 ≤ z3 ∧ z3 ≤ 2147483647) ∧
        (((g 10 3) - (g 10 5)) = z3 → (iq_P N xs 72 28 [some (iq_r 10), some (iq_r 1000021), some (iq_i 0)] [] g1 l2 Q)) ∧
        (¬ ((g 10 3) - (g 10 5)) = z3 → (Q (some (iq_i 0)) g1 l2))))))) :
    iq_P N xs 72 0 [some (iq_r 10), some (iq_r 1000021), none] [] g l Q := iq_w_ok (cuts := [28]) 14 0 _ _ _ _ H

-- ScaleForge$Reader.isWord(Ljava/lang/String;)Z at 28
set_option maxRecDepth 20000 in
theorem B72_p28_10_1000021 {N : Nat} {xs : Nat → Int32} {Q : iq_T} (v2 : Int) (g : iq_I) (l : iq_J) (H : iq_P N xs 66 0 [some (iq_r 1000021)] [] g l (fun r g1 l2 => ∃ z3, r = some (iq_i z3) ∧ ((-2147483648 ≤ v2 ∧ v2 ≤ 2147483647 ∧ -2147483648 ≤ z3 ∧ z3 ≤ 2147483647) ∧
      (z3 ≤ v2 → (Q (some (iq_i 1)) g1 l2)) ∧
      (v2 < z3 → (iq_P N xs 56 0 [some (iq_r 10), some (iq_i ((g1 10 5) + v2))] [] g1 l2 (fun r g4 l5 => ∃ z6, r = some (iq_i z6) ∧ (iq_P N xs 71 0 [some (iq_r 1000021), some (iq_i v2)] [] g4 l5 (fun r g7 l8 => ∃ z9, r = some (iq_i z9) ∧ ((-2147483648 ≤ z6 ∧ z6 ≤ 2147483647 ∧ -2147483648 ≤ z9 ∧ z9 ≤ 2147483647) ∧
            (z6 = z9 → (iq_P N xs 72 28 [some (iq_r 10), some (iq_r 1000021), some (iq_i (v2 + 1))] [] g7 l8 Q)) ∧
            (¬ z6 = z9 → (Q (some (iq_i 0)) g7 l8))))))))))) :
    iq_P N xs 72 28 [some (iq_r 10), some (iq_r 1000021), some (iq_i v2)] [] g l Q := iq_w_ok (cuts := [28]) 16 28 _ _ _ _ H

-- ScaleForge$Reader.isWord(Ljava/lang/String;)Z at 0
set_option maxRecDepth 20000 in
theorem B72_10_1000022 {N : Nat} {xs : Nat → Int32} {Q : iq_T} (g : iq_I) (l : iq_J) (H : (-2147483648 ≤ (g 10 4) ∧ (g 10 4) ≤ 2147483647) ∧
    (¬ (g 10 4) = (1 : Int) → (Q (some (iq_i 0)) g l)) ∧
    ((g 10 4) = (1 : Int) → (iq_P N xs 66 0 [some (iq_r 1000022)] [] g l (fun r g1 l2 => ∃ z3, r = some (iq_i z3) ∧ ((-2147483648 ≤ ((g 10 3) - (g 10 5)) ∧ ((g 10 3) - (g 10 5)) ≤ 2147483647 ∧ -2147483648 ≤ z3 ∧ z3 ≤ 2147483647) ∧
        (((g 10 3) - (g 10 5)) = z3 → (iq_P N xs 72 28 [some (iq_r 10), some (iq_r 1000022), some (iq_i 0)] [] g1 l2 Q)) ∧
        (¬ ((g 10 3) - (g 10 5)) = z3 → (Q (some (iq_i 0)) g1 l2))))))) :
    iq_P N xs 72 0 [some (iq_r 10), some (iq_r 1000022), none] [] g l Q := iq_w_ok (cuts := [28]) 14 0 _ _ _ _ H

-- ScaleForge$Reader.isWord(Ljava/lang/String;)Z at 28
set_option maxRecDepth 20000 in
theorem B72_p28_10_1000022 {N : Nat} {xs : Nat → Int32} {Q : iq_T} (v2 : Int) (g : iq_I) (l : iq_J) (H : iq_P N xs 66 0 [some (iq_r 1000022)] [] g l (fun r g1 l2 => ∃ z3, r = some (iq_i z3) ∧ ((-2147483648 ≤ v2 ∧ v2 ≤ 2147483647 ∧ -2147483648 ≤ z3 ∧ z3 ≤ 2147483647) ∧
      (z3 ≤ v2 → (Q (some (iq_i 1)) g1 l2)) ∧
      (v2 < z3 → (iq_P N xs 56 0 [some (iq_r 10), some (iq_i ((g1 10 5) + v2))] [] g1 l2 (fun r g4 l5 => ∃ z6, r = some (iq_i z6) ∧ (iq_P N xs 71 0 [some (iq_r 1000022), some (iq_i v2)] [] g4 l5 (fun r g7 l8 => ∃ z9, r = some (iq_i z9) ∧ ((-2147483648 ≤ z6 ∧ z6 ≤ 2147483647 ∧ -2147483648 ≤ z9 ∧ z9 ≤ 2147483647) ∧
            (z6 = z9 → (iq_P N xs 72 28 [some (iq_r 10), some (iq_r 1000022), some (iq_i (v2 + 1))] [] g7 l8 Q)) ∧
            (¬ z6 = z9 → (Q (some (iq_i 0)) g7 l8))))))))))) :
    iq_P N xs 72 28 [some (iq_r 10), some (iq_r 1000022), some (iq_i v2)] [] g l Q := iq_w_ok (cuts := [28]) 16 28 _ _ _ _ H

-- ScaleForge$Reader.isWord(Ljava/lang/String;)Z at 0
set_option maxRecDepth 20000 in
theorem B72_10_1000023 {N : Nat} {xs : Nat → Int32} {Q : iq_T} (g : iq_I) (l : iq_J) (H : (-2147483648 ≤ (g 10 4) ∧ (g 10 4) ≤ 2147483647) ∧
    (¬ (g 10 4) = (1 : Int) → (Q (some (iq_i 0)) g l)) ∧
    ((g 10 4) = (1 : Int) → (iq_P N xs 66 0 [some (iq_r 1000023)] [] g l (fun r g1 l2 => ∃ z3, r = some (iq_i z3) ∧ ((-2147483648 ≤ ((g 10 3) - (g 10 5)) ∧ ((g 10 3) - (g 10 5)) ≤ 2147483647 ∧ -2147483648 ≤ z3 ∧ z3 ≤ 2147483647) ∧
        (((g 10 3) - (g 10 5)) = z3 → (iq_P N xs 72 28 [some (iq_r 10), some (iq_r 1000023), some (iq_i 0)] [] g1 l2 Q)) ∧
        (¬ ((g 10 3) - (g 10 5)) = z3 → (Q (some (iq_i 0)) g1 l2))))))) :
    iq_P N xs 72 0 [some (iq_r 10), some (iq_r 1000023), none] [] g l Q := iq_w_ok (cuts := [28]) 14 0 _ _ _ _ H

-- ScaleForge$Reader.isWord(Ljava/lang/String;)Z at 28
set_option maxRecDepth 20000 in
theorem B72_p28_10_1000023 {N : Nat} {xs : Nat → Int32} {Q : iq_T} (v2 : Int) (g : iq_I) (l : iq_J) (H : iq_P N xs 66 0 [some (iq_r 1000023)] [] g l (fun r g1 l2 => ∃ z3, r = some (iq_i z3) ∧ ((-2147483648 ≤ v2 ∧ v2 ≤ 2147483647 ∧ -2147483648 ≤ z3 ∧ z3 ≤ 2147483647) ∧
      (z3 ≤ v2 → (Q (some (iq_i 1)) g1 l2)) ∧
      (v2 < z3 → (iq_P N xs 56 0 [some (iq_r 10), some (iq_i ((g1 10 5) + v2))] [] g1 l2 (fun r g4 l5 => ∃ z6, r = some (iq_i z6) ∧ (iq_P N xs 71 0 [some (iq_r 1000023), some (iq_i v2)] [] g4 l5 (fun r g7 l8 => ∃ z9, r = some (iq_i z9) ∧ ((-2147483648 ≤ z6 ∧ z6 ≤ 2147483647 ∧ -2147483648 ≤ z9 ∧ z9 ≤ 2147483647) ∧
            (z6 = z9 → (iq_P N xs 72 28 [some (iq_r 10), some (iq_r 1000023), some (iq_i (v2 + 1))] [] g7 l8 Q)) ∧
            (¬ z6 = z9 → (Q (some (iq_i 0)) g7 l8))))))))))) :
    iq_P N xs 72 28 [some (iq_r 10), some (iq_r 1000023), some (iq_i v2)] [] g l Q := iq_w_ok (cuts := [28]) 16 28 _ _ _ _ H

-- ScaleForge$Reader.isWord(Ljava/lang/String;)Z at 0
set_option maxRecDepth 20000 in
theorem B72_10_1000024 {N : Nat} {xs : Nat → Int32} {Q : iq_T} (g : iq_I) (l : iq_J) (H : (-2147483648 ≤ (g 10 4) ∧ (g 10 4) ≤ 2147483647) ∧
    (¬ (g 10 4) = (1 : Int) → (Q (some (iq_i 0)) g l)) ∧
    ((g 10 4) = (1 : Int) → (iq_P N xs 66 0 [some (iq_r 1000024)] [] g l (fun r g1 l2 => ∃ z3, r = some (iq_i z3) ∧ ((-2147483648 ≤ ((g 10 3) - (g 10 5)) ∧ ((g 10 3) - (g 10 5)) ≤ 2147483647 ∧ -2147483648 ≤ z3 ∧ z3 ≤ 2147483647) ∧
        (((g 10 3) - (g 10 5)) = z3 → (iq_P N xs 72 28 [some (iq_r 10), some (iq_r 1000024), some (iq_i 0)] [] g1 l2 Q)) ∧
        (¬ ((g 10 3) - (g 10 5)) = z3 → (Q (some (iq_i 0)) g1 l2))))))) :
    iq_P N xs 72 0 [some (iq_r 10), some (iq_r 1000024), none] [] g l Q := iq_w_ok (cuts := [28]) 14 0 _ _ _ _ H

-- ScaleForge$Reader.isWord(Ljava/lang/String;)Z at 28
set_option maxRecDepth 20000 in
theorem B72_p28_10_1000024 {N : Nat} {xs : Nat → Int32} {Q : iq_T} (v2 : Int) (g : iq_I) (l : iq_J) (H : iq_P N xs 66 0 [some (iq_r 1000024)] [] g l (fun r g1 l2 => ∃ z3, r = some (iq_i z3) ∧ ((-2147483648 ≤ v2 ∧ v2 ≤ 2147483647 ∧ -2147483648 ≤ z3 ∧ z3 ≤ 2147483647) ∧
      (z3 ≤ v2 → (Q (some (iq_i 1)) g1 l2)) ∧
      (v2 < z3 → (iq_P N xs 56 0 [some (iq_r 10), some (iq_i ((g1 10 5) + v2))] [] g1 l2 (fun r g4 l5 => ∃ z6, r = some (iq_i z6) ∧ (iq_P N xs 71 0 [some (iq_r 1000024), some (iq_i v2)] [] g4 l5 (fun r g7 l8 => ∃ z9, r = some (iq_i z9) ∧ ((-2147483648 ≤ z6 ∧ z6 ≤ 2147483647 ∧ -2147483648 ≤ z9 ∧ z9 ≤ 2147483647) ∧
            (z6 = z9 → (iq_P N xs 72 28 [some (iq_r 10), some (iq_r 1000024), some (iq_i (v2 + 1))] [] g7 l8 Q)) ∧
            (¬ z6 = z9 → (Q (some (iq_i 0)) g7 l8))))))))))) :
    iq_P N xs 72 28 [some (iq_r 10), some (iq_r 1000024), some (iq_i v2)] [] g l Q := iq_w_ok (cuts := [28]) 16 28 _ _ _ _ H

-- ScaleForge$Reader.isWord(Ljava/lang/String;)Z at 0
set_option maxRecDepth 20000 in
theorem B72_10_1000025 {N : Nat} {xs : Nat → Int32} {Q : iq_T} (g : iq_I) (l : iq_J) (H : (-2147483648 ≤ (g 10 4) ∧ (g 10 4) ≤ 2147483647) ∧
    (¬ (g 10 4) = (1 : Int) → (Q (some (iq_i 0)) g l)) ∧
    ((g 10 4) = (1 : Int) → (iq_P N xs 66 0 [some (iq_r 1000025)] [] g l (fun r g1 l2 => ∃ z3, r = some (iq_i z3) ∧ ((-2147483648 ≤ ((g 10 3) - (g 10 5)) ∧ ((g 10 3) - (g 10 5)) ≤ 2147483647 ∧ -2147483648 ≤ z3 ∧ z3 ≤ 2147483647) ∧
        (((g 10 3) - (g 10 5)) = z3 → (iq_P N xs 72 28 [some (iq_r 10), some (iq_r 1000025), some (iq_i 0)] [] g1 l2 Q)) ∧
        (¬ ((g 10 3) - (g 10 5)) = z3 → (Q (some (iq_i 0)) g1 l2))))))) :
    iq_P N xs 72 0 [some (iq_r 10), some (iq_r 1000025), none] [] g l Q := iq_w_ok (cuts := [28]) 14 0 _ _ _ _ H

-- ScaleForge$Reader.isWord(Ljava/lang/String;)Z at 28
set_option maxRecDepth 20000 in
theorem B72_p28_10_1000025 {N : Nat} {xs : Nat → Int32} {Q : iq_T} (v2 : Int) (g : iq_I) (l : iq_J) (H : iq_P N xs 66 0 [some (iq_r 1000025)] [] g l (fun r g1 l2 => ∃ z3, r = some (iq_i z3) ∧ ((-2147483648 ≤ v2 ∧ v2 ≤ 2147483647 ∧ -2147483648 ≤ z3 ∧ z3 ≤ 2147483647) ∧
      (z3 ≤ v2 → (Q (some (iq_i 1)) g1 l2)) ∧
      (v2 < z3 → (iq_P N xs 56 0 [some (iq_r 10), some (iq_i ((g1 10 5) + v2))] [] g1 l2 (fun r g4 l5 => ∃ z6, r = some (iq_i z6) ∧ (iq_P N xs 71 0 [some (iq_r 1000025), some (iq_i v2)] [] g4 l5 (fun r g7 l8 => ∃ z9, r = some (iq_i z9) ∧ ((-2147483648 ≤ z6 ∧ z6 ≤ 2147483647 ∧ -2147483648 ≤ z9 ∧ z9 ≤ 2147483647) ∧
            (z6 = z9 → (iq_P N xs 72 28 [some (iq_r 10), some (iq_r 1000025), some (iq_i (v2 + 1))] [] g7 l8 Q)) ∧
            (¬ z6 = z9 → (Q (some (iq_i 0)) g7 l8))))))))))) :
    iq_P N xs 72 28 [some (iq_r 10), some (iq_r 1000025), some (iq_i v2)] [] g l Q := iq_w_ok (cuts := [28]) 16 28 _ _ _ _ H

-- ScaleForge$Reader.isWord(Ljava/lang/String;)Z at 0
set_option maxRecDepth 20000 in
theorem B72_10_1000026 {N : Nat} {xs : Nat → Int32} {Q : iq_T} (g : iq_I) (l : iq_J) (H : (-2147483648 ≤ (g 10 4) ∧ (g 10 4) ≤ 2147483647) ∧
    (¬ (g 10 4) = (1 : Int) → (Q (some (iq_i 0)) g l)) ∧
    ((g 10 4) = (1 : Int) → (iq_P N xs 66 0 [some (iq_r 1000026)] [] g l (fun r g1 l2 => ∃ z3, r = some (iq_i z3) ∧ ((-2147483648 ≤ ((g 10 3) - (g 10 5)) ∧ ((g 10 3) - (g 10 5)) ≤ 2147483647 ∧ -2147483648 ≤ z3 ∧ z3 ≤ 2147483647) ∧
        (((g 10 3) - (g 10 5)) = z3 → (iq_P N xs 72 28 [some (iq_r 10), some (iq_r 1000026), some (iq_i 0)] [] g1 l2 Q)) ∧
        (¬ ((g 10 3) - (g 10 5)) = z3 → (Q (some (iq_i 0)) g1 l2))))))) :
    iq_P N xs 72 0 [some (iq_r 10), some (iq_r 1000026), none] [] g l Q := iq_w_ok (cuts := [28]) 14 0 _ _ _ _ H

-- ScaleForge$Reader.isWord(Ljava/lang/String;)Z at 28
set_option maxRecDepth 20000 in
theorem B72_p28_10_1000026 {N : Nat} {xs : Nat → Int32} {Q : iq_T} (v2 : Int) (g : iq_I) (l : iq_J) (H : iq_P N xs 66 0 [some (iq_r 1000026)] [] g l (fun r g1 l2 => ∃ z3, r = some (iq_i z3) ∧ ((-2147483648 ≤ v2 ∧ v2 ≤ 2147483647 ∧ -2147483648 ≤ z3 ∧ z3 ≤ 2147483647) ∧
      (z3 ≤ v2 → (Q (some (iq_i 1)) g1 l2)) ∧
      (v2 < z3 → (iq_P N xs 56 0 [some (iq_r 10), some (iq_i ((g1 10 5) + v2))] [] g1 l2 (fun r g4 l5 => ∃ z6, r = some (iq_i z6) ∧ (iq_P N xs 71 0 [some (iq_r 1000026), some (iq_i v2)] [] g4 l5 (fun r g7 l8 => ∃ z9, r = some (iq_i z9) ∧ ((-2147483648 ≤ z6 ∧ z6 ≤ 2147483647 ∧ -2147483648 ≤ z9 ∧ z9 ≤ 2147483647) ∧
            (z6 = z9 → (iq_P N xs 72 28 [some (iq_r 10), some (iq_r 1000026), some (iq_i (v2 + 1))] [] g7 l8 Q)) ∧
            (¬ z6 = z9 → (Q (some (iq_i 0)) g7 l8))))))))))) :
    iq_P N xs 72 28 [some (iq_r 10), some (iq_r 1000026), some (iq_i v2)] [] g l Q := iq_w_ok (cuts := [28]) 16 28 _ _ _ _ H

-- ScaleForge$Reader.isWord(Ljava/lang/String;)Z at 0
set_option maxRecDepth 20000 in
theorem B72_10_1000027 {N : Nat} {xs : Nat → Int32} {Q : iq_T} (g : iq_I) (l : iq_J) (H : (-2147483648 ≤ (g 10 4) ∧ (g 10 4) ≤ 2147483647) ∧
    (¬ (g 10 4) = (1 : Int) → (Q (some (iq_i 0)) g l)) ∧
    ((g 10 4) = (1 : Int) → (iq_P N xs 66 0 [some (iq_r 1000027)] [] g l (fun r g1 l2 => ∃ z3, r = some (iq_i z3) ∧ ((-2147483648 ≤ ((g 10 3) - (g 10 5)) ∧ ((g 10 3) - (g 10 5)) ≤ 2147483647 ∧ -2147483648 ≤ z3 ∧ z3 ≤ 2147483647) ∧
        (((g 10 3) - (g 10 5)) = z3 → (iq_P N xs 72 28 [some (iq_r 10), some (iq_r 1000027), some (iq_i 0)] [] g1 l2 Q)) ∧
        (¬ ((g 10 3) - (g 10 5)) = z3 → (Q (some (iq_i 0)) g1 l2))))))) :
    iq_P N xs 72 0 [some (iq_r 10), some (iq_r 1000027), none] [] g l Q := iq_w_ok (cuts := [28]) 14 0 _ _ _ _ H

-- ScaleForge$Reader.isWord(Ljava/lang/String;)Z at 28
set_option maxRecDepth 20000 in
theorem B72_p28_10_1000027 {N : Nat} {xs : Nat → Int32} {Q : iq_T} (v2 : Int) (g : iq_I) (l : iq_J) (H : iq_P N xs 66 0 [some (iq_r 1000027)] [] g l (fun r g1 l2 => ∃ z3, r = some (iq_i z3) ∧ ((-2147483648 ≤ v2 ∧ v2 ≤ 2147483647 ∧ -2147483648 ≤ z3 ∧ z3 ≤ 2147483647) ∧
      (z3 ≤ v2 → (Q (some (iq_i 1)) g1 l2)) ∧
      (v2 < z3 → (iq_P N xs 56 0 [some (iq_r 10), some (iq_i ((g1 10 5) + v2))] [] g1 l2 (fun r g4 l5 => ∃ z6, r = some (iq_i z6) ∧ (iq_P N xs 71 0 [some (iq_r 1000027), some (iq_i v2)] [] g4 l5 (fun r g7 l8 => ∃ z9, r = some (iq_i z9) ∧ ((-2147483648 ≤ z6 ∧ z6 ≤ 2147483647 ∧ -2147483648 ≤ z9 ∧ z9 ≤ 2147483647) ∧
            (z6 = z9 → (iq_P N xs 72 28 [some (iq_r 10), some (iq_r 1000027), some (iq_i (v2 + 1))] [] g7 l8 Q)) ∧
            (¬ z6 = z9 → (Q (some (iq_i 0)) g7 l8))))))))))) :
    iq_P N xs 72 28 [some (iq_r 10), some (iq_r 1000027), some (iq_i v2)] [] g l Q := iq_w_ok (cuts := [28]) 16 28 _ _ _ _ H

-- ScaleForge$Reader.isWord(Ljava/lang/String;)Z at 0
set_option maxRecDepth 20000 in
theorem B72_10_1000028 {N : Nat} {xs : Nat → Int32} {Q : iq_T} (g : iq_I) (l : iq_J) (H : (-2147483648 ≤ (g 10 4) ∧ (g 10 4) ≤ 2147483647) ∧
    (¬ (g 10 4) = (1 : Int) → (Q (some (iq_i 0)) g l)) ∧
    ((g 10 4) = (1 : Int) → (iq_P N xs 66 0 [some (iq_r 1000028)] [] g l (fun r g1 l2 => ∃ z3, r = some (iq_i z3) ∧ ((-2147483648 ≤ ((g 10 3) - (g 10 5)) ∧ ((g 10 3) - (g 10 5)) ≤ 2147483647 ∧ -2147483648 ≤ z3 ∧ z3 ≤ 2147483647) ∧
        (((g 10 3) - (g 10 5)) = z3 → (iq_P N xs 72 28 [some (iq_r 10), some (iq_r 1000028), some (iq_i 0)] [] g1 l2 Q)) ∧
        (¬ ((g 10 3) - (g 10 5)) = z3 → (Q (some (iq_i 0)) g1 l2))))))) :
    iq_P N xs 72 0 [some (iq_r 10), some (iq_r 1000028), none] [] g l Q := iq_w_ok (cuts := [28]) 14 0 _ _ _ _ H

-- ScaleForge$Reader.isWord(Ljava/lang/String;)Z at 28
set_option maxRecDepth 20000 in
theorem B72_p28_10_1000028 {N : Nat} {xs : Nat → Int32} {Q : iq_T} (v2 : Int) (g : iq_I) (l : iq_J) (H : iq_P N xs 66 0 [some (iq_r 1000028)] [] g l (fun r g1 l2 => ∃ z3, r = some (iq_i z3) ∧ ((-2147483648 ≤ v2 ∧ v2 ≤ 2147483647 ∧ -2147483648 ≤ z3 ∧ z3 ≤ 2147483647) ∧
      (z3 ≤ v2 → (Q (some (iq_i 1)) g1 l2)) ∧
      (v2 < z3 → (iq_P N xs 56 0 [some (iq_r 10), some (iq_i ((g1 10 5) + v2))] [] g1 l2 (fun r g4 l5 => ∃ z6, r = some (iq_i z6) ∧ (iq_P N xs 71 0 [some (iq_r 1000028), some (iq_i v2)] [] g4 l5 (fun r g7 l8 => ∃ z9, r = some (iq_i z9) ∧ ((-2147483648 ≤ z6 ∧ z6 ≤ 2147483647 ∧ -2147483648 ≤ z9 ∧ z9 ≤ 2147483647) ∧
            (z6 = z9 → (iq_P N xs 72 28 [some (iq_r 10), some (iq_r 1000028), some (iq_i (v2 + 1))] [] g7 l8 Q)) ∧
            (¬ z6 = z9 → (Q (some (iq_i 0)) g7 l8))))))))))) :
    iq_P N xs 72 28 [some (iq_r 10), some (iq_r 1000028), some (iq_i v2)] [] g l Q := iq_w_ok (cuts := [28]) 16 28 _ _ _ _ H

-- ScaleForge$Reader.isWord(Ljava/lang/String;)Z at 0
set_option maxRecDepth 20000 in
theorem B72_10_1000029 {N : Nat} {xs : Nat → Int32} {Q : iq_T} (g : iq_I) (l : iq_J) (H : (-2147483648 ≤ (g 10 4) ∧ (g 10 4) ≤ 2147483647) ∧
    (¬ (g 10 4) = (1 : Int) → (Q (some (iq_i 0)) g l)) ∧
    ((g 10 4) = (1 : Int) → (iq_P N xs 66 0 [some (iq_r 1000029)] [] g l (fun r g1 l2 => ∃ z3, r = some (iq_i z3) ∧ ((-2147483648 ≤ ((g 10 3) - (g 10 5)) ∧ ((g 10 3) - (g 10 5)) ≤ 2147483647 ∧ -2147483648 ≤ z3 ∧ z3 ≤ 2147483647) ∧
        (((g 10 3) - (g 10 5)) = z3 → (iq_P N xs 72 28 [some (iq_r 10), some (iq_r 1000029), some (iq_i 0)] [] g1 l2 Q)) ∧
        (¬ ((g 10 3) - (g 10 5)) = z3 → (Q (some (iq_i 0)) g1 l2))))))) :
    iq_P N xs 72 0 [some (iq_r 10), some (iq_r 1000029), none] [] g l Q := iq_w_ok (cuts := [28]) 14 0 _ _ _ _ H

-- ScaleForge$Reader.isWord(Ljava/lang/String;)Z at 28
set_option maxRecDepth 20000 in
theorem B72_p28_10_1000029 {N : Nat} {xs : Nat → Int32} {Q : iq_T} (v2 : Int) (g : iq_I) (l : iq_J) (H : iq_P N xs 66 0 [some (iq_r 1000029)] [] g l (fun r g1 l2 => ∃ z3, r = some (iq_i z3) ∧ ((-2147483648 ≤ v2 ∧ v2 ≤ 2147483647 ∧ -2147483648 ≤ z3 ∧ z3 ≤ 2147483647) ∧
      (z3 ≤ v2 → (Q (some (iq_i 1)) g1 l2)) ∧
      (v2 < z3 → (iq_P N xs 56 0 [some (iq_r 10), some (iq_i ((g1 10 5) + v2))] [] g1 l2 (fun r g4 l5 => ∃ z6, r = some (iq_i z6) ∧ (iq_P N xs 71 0 [some (iq_r 1000029), some (iq_i v2)] [] g4 l5 (fun r g7 l8 => ∃ z9, r = some (iq_i z9) ∧ ((-2147483648 ≤ z6 ∧ z6 ≤ 2147483647 ∧ -2147483648 ≤ z9 ∧ z9 ≤ 2147483647) ∧
            (z6 = z9 → (iq_P N xs 72 28 [some (iq_r 10), some (iq_r 1000029), some (iq_i (v2 + 1))] [] g7 l8 Q)) ∧
            (¬ z6 = z9 → (Q (some (iq_i 0)) g7 l8))))))))))) :
    iq_P N xs 72 28 [some (iq_r 10), some (iq_r 1000029), some (iq_i v2)] [] g l Q := iq_w_ok (cuts := [28]) 16 28 _ _ _ _ H

-- ScaleForge$Reader.isWord(Ljava/lang/String;)Z at 0
set_option maxRecDepth 20000 in
theorem B72_10_1000030 {N : Nat} {xs : Nat → Int32} {Q : iq_T} (g : iq_I) (l : iq_J) (H : (-2147483648 ≤ (g 10 4) ∧ (g 10 4) ≤ 2147483647) ∧
    (¬ (g 10 4) = (1 : Int) → (Q (some (iq_i 0)) g l)) ∧
    ((g 10 4) = (1 : Int) → (iq_P N xs 66 0 [some (iq_r 1000030)] [] g l (fun r g1 l2 => ∃ z3, r = some (iq_i z3) ∧ ((-2147483648 ≤ ((g 10 3) - (g 10 5)) ∧ ((g 10 3) - (g 10 5)) ≤ 2147483647 ∧ -2147483648 ≤ z3 ∧ z3 ≤ 2147483647) ∧
        (((g 10 3) - (g 10 5)) = z3 → (iq_P N xs 72 28 [some (iq_r 10), some (iq_r 1000030), some (iq_i 0)] [] g1 l2 Q)) ∧
        (¬ ((g 10 3) - (g 10 5)) = z3 → (Q (some (iq_i 0)) g1 l2))))))) :
    iq_P N xs 72 0 [some (iq_r 10), some (iq_r 1000030), none] [] g l Q := iq_w_ok (cuts := [28]) 14 0 _ _ _ _ H

-- ScaleForge$Reader.isWord(Ljava/lang/String;)Z at 28
set_option maxRecDepth 20000 in
theorem B72_p28_10_1000030 {N : Nat} {xs : Nat → Int32} {Q : iq_T} (v2 : Int) (g : iq_I) (l : iq_J) (H : iq_P N xs 66 0 [some (iq_r 1000030)] [] g l (fun r g1 l2 => ∃ z3, r = some (iq_i z3) ∧ ((-2147483648 ≤ v2 ∧ v2 ≤ 2147483647 ∧ -2147483648 ≤ z3 ∧ z3 ≤ 2147483647) ∧
      (z3 ≤ v2 → (Q (some (iq_i 1)) g1 l2)) ∧
      (v2 < z3 → (iq_P N xs 56 0 [some (iq_r 10), some (iq_i ((g1 10 5) + v2))] [] g1 l2 (fun r g4 l5 => ∃ z6, r = some (iq_i z6) ∧ (iq_P N xs 71 0 [some (iq_r 1000030), some (iq_i v2)] [] g4 l5 (fun r g7 l8 => ∃ z9, r = some (iq_i z9) ∧ ((-2147483648 ≤ z6 ∧ z6 ≤ 2147483647 ∧ -2147483648 ≤ z9 ∧ z9 ≤ 2147483647) ∧
            (z6 = z9 → (iq_P N xs 72 28 [some (iq_r 10), some (iq_r 1000030), some (iq_i (v2 + 1))] [] g7 l8 Q)) ∧
            (¬ z6 = z9 → (Q (some (iq_i 0)) g7 l8))))))))))) :
    iq_P N xs 72 28 [some (iq_r 10), some (iq_r 1000030), some (iq_i v2)] [] g l Q := iq_w_ok (cuts := [28]) 16 28 _ _ _ _ H

-- ScaleForge$Reader.isWord(Ljava/lang/String;)Z at 0
set_option maxRecDepth 20000 in
theorem B72_10_1000031 {N : Nat} {xs : Nat → Int32} {Q : iq_T} (g : iq_I) (l : iq_J) (H : (-2147483648 ≤ (g 10 4) ∧ (g 10 4) ≤ 2147483647) ∧
    (¬ (g 10 4) = (1 : Int) → (Q (some (iq_i 0)) g l)) ∧
    ((g 10 4) = (1 : Int) → (iq_P N xs 66 0 [some (iq_r 1000031)] [] g l (fun r g1 l2 => ∃ z3, r = some (iq_i z3) ∧ ((-2147483648 ≤ ((g 10 3) - (g 10 5)) ∧ ((g 10 3) - (g 10 5)) ≤ 2147483647 ∧ -2147483648 ≤ z3 ∧ z3 ≤ 2147483647) ∧
        (((g 10 3) - (g 10 5)) = z3 → (iq_P N xs 72 28 [some (iq_r 10), some (iq_r 1000031), some (iq_i 0)] [] g1 l2 Q)) ∧
        (¬ ((g 10 3) - (g 10 5)) = z3 → (Q (some (iq_i 0)) g1 l2))))))) :
    iq_P N xs 72 0 [some (iq_r 10), some (iq_r 1000031), none] [] g l Q := iq_w_ok (cuts := [28]) 14 0 _ _ _ _ H

-- ScaleForge$Reader.isWord(Ljava/lang/String;)Z at 28
set_option maxRecDepth 20000 in
theorem B72_p28_10_1000031 {N : Nat} {xs : Nat → Int32} {Q : iq_T} (v2 : Int) (g : iq_I) (l : iq_J) (H : iq_P N xs 66 0 [some (iq_r 1000031)] [] g l (fun r g1 l2 => ∃ z3, r = some (iq_i z3) ∧ ((-2147483648 ≤ v2 ∧ v2 ≤ 2147483647 ∧ -2147483648 ≤ z3 ∧ z3 ≤ 2147483647) ∧
      (z3 ≤ v2 → (Q (some (iq_i 1)) g1 l2)) ∧
      (v2 < z3 → (iq_P N xs 56 0 [some (iq_r 10), some (iq_i ((g1 10 5) + v2))] [] g1 l2 (fun r g4 l5 => ∃ z6, r = some (iq_i z6) ∧ (iq_P N xs 71 0 [some (iq_r 1000031), some (iq_i v2)] [] g4 l5 (fun r g7 l8 => ∃ z9, r = some (iq_i z9) ∧ ((-2147483648 ≤ z6 ∧ z6 ≤ 2147483647 ∧ -2147483648 ≤ z9 ∧ z9 ≤ 2147483647) ∧
            (z6 = z9 → (iq_P N xs 72 28 [some (iq_r 10), some (iq_r 1000031), some (iq_i (v2 + 1))] [] g7 l8 Q)) ∧
            (¬ z6 = z9 → (Q (some (iq_i 0)) g7 l8))))))))))) :
    iq_P N xs 72 28 [some (iq_r 10), some (iq_r 1000031), some (iq_i v2)] [] g l Q := iq_w_ok (cuts := [28]) 16 28 _ _ _ _ H

-- ScaleForge$Reader.isWord(Ljava/lang/String;)Z at 0
set_option maxRecDepth 20000 in
theorem B72_10_1000032 {N : Nat} {xs : Nat → Int32} {Q : iq_T} (g : iq_I) (l : iq_J) (H : (-2147483648 ≤ (g 10 4) ∧ (g 10 4) ≤ 2147483647) ∧
    (¬ (g 10 4) = (1 : Int) → (Q (some (iq_i 0)) g l)) ∧
    ((g 10 4) = (1 : Int) → (iq_P N xs 66 0 [some (iq_r 1000032)] [] g l (fun r g1 l2 => ∃ z3, r = some (iq_i z3) ∧ ((-2147483648 ≤ ((g 10 3) - (g 10 5)) ∧ ((g 10 3) - (g 10 5)) ≤ 2147483647 ∧ -2147483648 ≤ z3 ∧ z3 ≤ 2147483647) ∧
        (((g 10 3) - (g 10 5)) = z3 → (iq_P N xs 72 28 [some (iq_r 10), some (iq_r 1000032), some (iq_i 0)] [] g1 l2 Q)) ∧
        (¬ ((g 10 3) - (g 10 5)) = z3 → (Q (some (iq_i 0)) g1 l2))))))) :
    iq_P N xs 72 0 [some (iq_r 10), some (iq_r 1000032), none] [] g l Q := iq_w_ok (cuts := [28]) 14 0 _ _ _ _ H

-- ScaleForge$Reader.isWord(Ljava/lang/String;)Z at 28
set_option maxRecDepth 20000 in
theorem B72_p28_10_1000032 {N : Nat} {xs : Nat → Int32} {Q : iq_T} (v2 : Int) (g : iq_I) (l : iq_J) (H : iq_P N xs 66 0 [some (iq_r 1000032)] [] g l (fun r g1 l2 => ∃ z3, r = some (iq_i z3) ∧ ((-2147483648 ≤ v2 ∧ v2 ≤ 2147483647 ∧ -2147483648 ≤ z3 ∧ z3 ≤ 2147483647) ∧
      (z3 ≤ v2 → (Q (some (iq_i 1)) g1 l2)) ∧
      (v2 < z3 → (iq_P N xs 56 0 [some (iq_r 10), some (iq_i ((g1 10 5) + v2))] [] g1 l2 (fun r g4 l5 => ∃ z6, r = some (iq_i z6) ∧ (iq_P N xs 71 0 [some (iq_r 1000032), some (iq_i v2)] [] g4 l5 (fun r g7 l8 => ∃ z9, r = some (iq_i z9) ∧ ((-2147483648 ≤ z6 ∧ z6 ≤ 2147483647 ∧ -2147483648 ≤ z9 ∧ z9 ≤ 2147483647) ∧
            (z6 = z9 → (iq_P N xs 72 28 [some (iq_r 10), some (iq_r 1000032), some (iq_i (v2 + 1))] [] g7 l8 Q)) ∧
            (¬ z6 = z9 → (Q (some (iq_i 0)) g7 l8))))))))))) :
    iq_P N xs 72 28 [some (iq_r 10), some (iq_r 1000032), some (iq_i v2)] [] g l Q := iq_w_ok (cuts := [28]) 16 28 _ _ _ _ H

-- ScaleForge$ScaleText.partNow()I at 0
set_option maxRecDepth 20000 in
theorem B73_12 {N : Nat} {xs : Nat → Int32} {Q : iq_T} (g : iq_I) (l : iq_J) (H : iq_P N xs 72 0 [some (iq_r 10), some (iq_r 1000010), none] [] g l (fun r g1 l2 => ∃ z3, r = some (iq_i z3) ∧ ((-2147483648 ≤ z3 ∧ z3 ≤ 2147483647) ∧
      (z3 = (0 : Int) → (iq_P N xs 72 0 [some (iq_r 10), some (iq_r 1000011), none] [] g1 l2 (fun r g4 l5 => ∃ z6, r = some (iq_i z6) ∧ ((-2147483648 ≤ z6 ∧ z6 ≤ 2147483647) ∧
          (z6 = (0 : Int) → (iq_P N xs 72 0 [some (iq_r 10), some (iq_r 1000012), none] [] g4 l5 (fun r g7 l8 => ∃ z9, r = some (iq_i z9) ∧ ((-2147483648 ≤ z9 ∧ z9 ≤ 2147483647) ∧
              (z9 = (0 : Int) → (iq_P N xs 72 0 [some (iq_r 10), some (iq_r 1000013), none] [] g7 l8 (fun r g10 l11 => ∃ z12, r = some (iq_i z12) ∧ ((-2147483648 ≤ z12 ∧ z12 ≤ 2147483647) ∧
                  (z12 = (0 : Int) → (iq_P N xs 72 0 [some (iq_r 10), some (iq_r 1000014), none] [] g10 l11 (fun r g13 l14 => ∃ z15, r = some (iq_i z15) ∧ ((-2147483648 ≤ z15 ∧ z15 ≤ 2147483647) ∧
                      (z15 = (0 : Int) → (iq_P N xs 72 0 [some (iq_r 10), some (iq_r 1000015), none] [] g13 l14 (fun r g16 l17 => ∃ z18, r = some (iq_i z18) ∧ ((-2147483648 ≤ z18 ∧ z18 ≤ 2147483647) ∧
                          (z18 = (0 : Int) → (iq_P N xs 72 0 [some (iq_r 10), some (iq_r 1000016), none] [] g16 l17 (fun r g19 l20 => ∃ z21, r = some (iq_i z21) ∧ ((-2147483648 ≤ z21 ∧ z21 ≤ 2147483647) ∧
                              (z21 = (0 : Int) → (iq_P N xs 73 99 [some (iq_r 12)] [] g19 l20 Q)) ∧
                              (¬ z21 = (0 : Int) → (iq_P N xs 73 96 [some (iq_r 12)] [] g19 l20 Q)))))) ∧
                          (¬ z18 = (0 : Int) → (Q (some (iq_i 5)) g16 l17)))))) ∧
                      (¬ z15 = (0 : Int) → (Q (some (iq_i 4)) g13 l14)))))) ∧
                  (¬ z12 = (0 : Int) → (Q (some (iq_i 3)) g10 l11)))))) ∧
              (¬ z9 = (0 : Int) → (Q (some (iq_i 2)) g7 l8)))))) ∧
          (¬ z6 = (0 : Int) → (Q (some (iq_i 1)) g4 l5)))))) ∧
      (¬ z3 = (0 : Int) → (Q (some (iq_i 0)) g1 l2))))) :
    iq_P N xs 73 0 [some (iq_r 12)] [] g l Q := iq_w_ok (cuts := [96, 99]) 35 0 _ _ _ _ H

-- ScaleForge$ScaleText.partNow()I at 96
set_option maxRecDepth 20000 in
theorem B73_p96_12 {N : Nat} {xs : Nat → Int32} {Q : iq_T} (g : iq_I) (l : iq_J) (H : Q (some (iq_i 6)) g l) :
    iq_P N xs 73 96 [some (iq_r 12)] [] g l Q := iq_w_ok (cuts := [96, 99]) 2 96 _ _ _ _ H

-- ScaleForge$ScaleText.partNow()I at 99
set_option maxRecDepth 20000 in
theorem B73_p99_12 {N : Nat} {xs : Nat → Int32} {Q : iq_T} (g : iq_I) (l : iq_J) (H : iq_P N xs 72 0 [some (iq_r 10), some (iq_r 1000017), none] [] g l (fun r g1 l2 => ∃ z3, r = some (iq_i z3) ∧ ((-2147483648 ≤ z3 ∧ z3 ≤ 2147483647) ∧
      (z3 = (0 : Int) → (iq_P N xs 72 0 [some (iq_r 10), some (iq_r 1000018), none] [] g1 l2 (fun r g4 l5 => ∃ z6, r = some (iq_i z6) ∧ ((-2147483648 ≤ z6 ∧ z6 ≤ 2147483647) ∧
          (z6 = (0 : Int) → (iq_P N xs 72 0 [some (iq_r 10), some (iq_r 1000019), none] [] g4 l5 (fun r g7 l8 => ∃ z9, r = some (iq_i z9) ∧ ((-2147483648 ≤ z9 ∧ z9 ≤ 2147483647) ∧
              (z9 = (0 : Int) → (Q (some (iq_i (-1))) g7 l8)) ∧
              (¬ z9 = (0 : Int) → (Q (some (iq_i 9)) g7 l8)))))) ∧
          (¬ z6 = (0 : Int) → (Q (some (iq_i 8)) g4 l5)))))) ∧
      (¬ z3 = (0 : Int) → (Q (some (iq_i 7)) g1 l2))))) :
    iq_P N xs 73 99 [some (iq_r 12)] [] g l Q := iq_w_ok (cuts := [96, 99]) 18 99 _ _ _ _ H

-- ScaleForge$ScaleText.isTooLate(I)Z at 0
set_option maxRecDepth 20000 in
theorem B75_12 {N : Nat} {xs : Nat → Int32} {Q : iq_T} (a0 : Int) (g : iq_I) (l : iq_J) (H : (-2147483648 ≤ a0 ∧ a0 ≤ 2147483647) ∧
    (¬ a0 = (1 : Int) → ((-2147483648 ≤ a0 ∧ a0 ≤ 2147483647) ∧
      (a0 = (9 : Int) → (Q (some (iq_i 0)) g l)) ∧
      (¬ a0 = (9 : Int) → (iq_P N xs 74 0 [some (iq_l (l 12 2)), none, some (iq_i a0)] [] g l (fun r g1 l2 => ∃ z3, r = some (iq_i z3) ∧ ((-2147483648 ≤ z3 ∧ z3 ≤ 2147483647) ∧
          (z3 = (0 : Int) → (Q (some (iq_i 0)) g1 l2)) ∧
          (¬ z3 = (0 : Int) → (Q (some (iq_i 1)) g1 l2)))))))) ∧
    (a0 = (1 : Int) → (iq_P N xs 6 0 [some (iq_i 2)] [] g l (fun r g4 l5 => ∃ x6, r = some (iq_l x6) ∧ (iq_P N xs 6 0 [some (iq_i 5)] [] g4 l5 (fun r g7 l8 => ∃ x9, r = some (iq_l x9) ∧ (iq_P N xs 6 0 [some (iq_i 7)] [] g7 l8 (fun r g10 l11 => ∃ x12, r = some (iq_l x12) ∧ (iq_P N xs 6 0 [some (iq_i 8)] [] g10 l11 (fun r g13 l14 => ∃ x15, r = some (iq_l x15) ∧ (iq_P N xs 6 0 [some (iq_i 9)] [] g13 l14 (fun r g16 l17 => ∃ x18, r = some (iq_l x18) ∧ (iq_P N xs 6 0 [some (iq_i 1)] [] g16 l17 (fun r g19 l20 => ∃ x21, r = some (iq_l x21) ∧ ((-2147483648 ≤ (iq_lc ((l17 12 2) &&& (((((x6 ||| x9) ||| x12) ||| x15) ||| x18) ||| x21)) (0 : Int64)) ∧ (iq_lc ((l17 12 2) &&& (((((x6 ||| x9) ||| x12) ||| x15) ||| x18) ||| x21)) (0 : Int64)) ≤ 2147483647) ∧
                  ((iq_lc ((l17 12 2) &&& (((((x6 ||| x9) ||| x12) ||| x15) ||| x18) ||| x21)) (0 : Int64)) = (0 : Int) → (Q (some (iq_i 0)) g19 l20)) ∧
                  (¬ (iq_lc ((l17 12 2) &&& (((((x6 ||| x9) ||| x12) ||| x15) ||| x18) ||| x21)) (0 : Int64)) = (0 : Int) → (Q (some (iq_i 1)) g19 l20))))))))))))))))) :
    iq_P N xs 75 0 [some (iq_r 12), some (iq_i a0), none, none] [] g l Q := iq_w_ok (cuts := []) 31 0 _ _ _ _ H

-- ScaleForge$Reader.isSignNow(C)Z at 0
set_option maxRecDepth 20000 in
theorem B76_10 {N : Nat} {xs : Nat → Int32} {Q : iq_T} (a0 : Int) (g : iq_I) (l : iq_J) (H : (-2147483648 ≤ (g 10 4) ∧ (g 10 4) ≤ 2147483647) ∧
    (¬ (g 10 4) = (3 : Int) → (Q (some (iq_i 0)) g l)) ∧
    ((g 10 4) = (3 : Int) → ((-2147483648 ≤ (g 10 6) ∧ (g 10 6) ≤ 2147483647 ∧ -2147483648 ≤ a0 ∧ a0 ≤ 2147483647) ∧
      (¬ (g 10 6) = a0 → (Q (some (iq_i 0)) g l)) ∧
      ((g 10 6) = a0 → (Q (some (iq_i 1)) g l))))) :
    iq_P N xs 76 0 [some (iq_r 10), some (iq_i a0)] [] g l Q := iq_w_ok (cuts := []) 11 0 _ _ _ _ H

-- ScaleForge$ScaleText.takeSounds()Z at 0
set_option maxRecDepth 20000 in
theorem B78_12 {N : Nat} {xs : Nat → Int32} {Q : iq_T} (g : iq_I) (l : iq_J) (H : iq_P N xs 78 2 [some (iq_r 12), some (iq_i 0)] [] g l Q) :
    iq_P N xs 78 0 [some (iq_r 12), none] [] g l Q := iq_w_ok (cuts := [2, 132]) 2 0 _ _ _ _ H

-- ScaleForge$ScaleText.takeSounds()Z at 2
set_option maxRecDepth 20000 in
theorem B78_p2_12 {N : Nat} {xs : Nat → Int32} {Q : iq_T} (v1 : Int) (g : iq_I) (l : iq_J) (H : (-2147483648 ≤ v1 ∧ v1 ≤ 2147483647) ∧
    ((900 : Int) < v1 → (iq_P N xs 63 0 [some (iq_r 10), some (iq_i 2)] [] g l (fun r g1 l2 => ∃ z3, r = some (iq_i z3) ∧ ((z3 = 0 ∨ z3 = 1) ∧ Q (some (iq_i z3)) g1 l2)))) ∧
    (v1 ≤ (900 : Int) → (iq_P N xs 64 0 [some (iq_r 10), none] [] g l (fun r g4 l5 => ∃ z6, r = some (iq_i z6) ∧ ((-2147483648 ≤ z6 ∧ z6 ≤ 2147483647) ∧
        (¬ z6 = (0 : Int) → (iq_P N xs 76 0 [some (iq_r 10), some (iq_i 59)] [] g4 l5 (fun r g7 l8 => ∃ z9, r = some (iq_i z9) ∧ ((-2147483648 ≤ z9 ∧ z9 ≤ 2147483647) ∧
            (z9 = (0 : Int) → ((-2147483648 ≤ (g7 10 4) ∧ (g7 10 4) ≤ 2147483647) ∧
              ((g7 10 4) = (2 : Int) → (iq_P N xs 77 0 [some (iq_r 13), some (iq_i (g7 10 6))] [] g7 l8 (fun r g10 l11 => ∃ z12, r = some (iq_i z12) ∧ ((-2147483648 ≤ z12 ∧ z12 ≤ 2147483647) ∧
                  (¬ z12 = (0 : Int) → (iq_P N xs 74 0 [some (iq_l (l11 13 3)), none, some (iq_i (g10 10 6))] [] g10 l11 (fun r g13 l14 => ∃ z15, r = some (iq_i z15) ∧ ((-2147483648 ≤ z15 ∧ z15 ≤ 2147483647) ∧
                      (z15 = (0 : Int) → (iq_P N xs 6 0 [some (iq_i (g13 10 6))] [] g13 l14 (fun r g16 l17 => ∃ x18, r = some (iq_l x18) ∧ (iq_P N xs 78 132 [some (iq_r 12), some (iq_i v1)] [] g16 (iq_uz l17 13 3 ((l14 13 3) ||| x18)) Q)))) ∧
                      (¬ z15 = (0 : Int) → (iq_P N xs 63 0 [some (iq_r 10), some (iq_i 5)] [] g13 l14 (fun r g19 l20 => ∃ z21, r = some (iq_i z21) ∧ ((z21 = 0 ∨ z21 = 1) ∧ Q (some (iq_i z21)) g19 l20)))))))) ∧
                  (z12 = (0 : Int) → (iq_P N xs 63 0 [some (iq_r 10), some (iq_i 4)] [] g10 l11 (fun r g22 l23 => ∃ z24, r = some (iq_i z24) ∧ ((z24 = 0 ∨ z24 = 1) ∧ Q (some (iq_i z24)) g22 l23)))))))) ∧
              (¬ (g7 10 4) = (2 : Int) → (iq_P N xs 63 0 [some (iq_r 10), some (iq_i 2)] [] g7 l8 (fun r g25 l26 => ∃ z27, r = some (iq_i z27) ∧ ((z27 = 0 ∨ z27 = 1) ∧ Q (some (iq_i z27)) g25 l26)))))) ∧
            (¬ z9 = (0 : Int) → (Q (some (iq_i 1)) g7 l8)))))) ∧
        (z6 = (0 : Int) → (Q (some (iq_i 0)) g4 l5))))))) :
    iq_P N xs 78 2 [some (iq_r 12), some (iq_i v1)] [] g l Q := iq_w_ok (cuts := [2, 132]) 42 2 _ _ _ _ H

-- ScaleForge$ScaleText.takeSounds()Z at 132
set_option maxRecDepth 20000 in
theorem B78_p132_12 {N : Nat} {xs : Nat → Int32} {Q : iq_T} (v1 : Int) (g : iq_I) (l : iq_J) (H : iq_P N xs 78 2 [some (iq_r 12), some (iq_i (v1 + 1))] [] g l Q) :
    iq_P N xs 78 132 [some (iq_r 12), some (iq_i v1)] [] g l Q := iq_w_ok (cuts := [2, 132]) 2 132 _ _ _ _ H

-- ScaleForge$Reader.takeNumber(II)Z at 0
set_option maxRecDepth 20000 in
theorem B82_10 {N : Nat} {xs : Nat → Int32} {Q : iq_T} (a0 : Int) (a1 : Int) (g : iq_I) (l : iq_J) (H : iq_P N xs 64 0 [some (iq_r 10), none] [] g l (fun r g1 l2 => ∃ z3, r = some (iq_i z3) ∧ ((-2147483648 ≤ z3 ∧ z3 ≤ 2147483647) ∧
      (¬ z3 = (0 : Int) → ((-2147483648 ≤ (g1 10 4) ∧ (g1 10 4) ≤ 2147483647) ∧
        ((g1 10 4) = (2 : Int) → ((-2147483648 ≤ (g1 10 6) ∧ (g1 10 6) ≤ 2147483647 ∧ -2147483648 ≤ a0 ∧ a0 ≤ 2147483647) ∧
          ((g1 10 6) < a0 → (iq_P N xs 63 0 [some (iq_r 10), some (iq_i 4)] [] g1 l2 (fun r g4 l5 => ∃ z6, r = some (iq_i z6) ∧ ((-2147483648 ≤ z6 ∧ z6 ≤ 2147483647) ∧
              (z6 = (0 : Int) → (Q (some (iq_i 0)) g4 l5)) ∧
              (¬ z6 = (0 : Int) → (Q (some (iq_i 1)) g4 l5)))))) ∧
          (a0 ≤ (g1 10 6) → ((-2147483648 ≤ (g1 10 6) ∧ (g1 10 6) ≤ 2147483647 ∧ -2147483648 ≤ a1 ∧ a1 ≤ 2147483647) ∧
            ((g1 10 6) ≤ a1 → (Q (some (iq_i 1)) g1 l2)) ∧
            (a1 < (g1 10 6) → (iq_P N xs 63 0 [some (iq_r 10), some (iq_i 4)] [] g1 l2 (fun r g7 l8 => ∃ z9, r = some (iq_i z9) ∧ ((-2147483648 ≤ z9 ∧ z9 ≤ 2147483647) ∧
                (z9 = (0 : Int) → (Q (some (iq_i 0)) g7 l8)) ∧
                (¬ z9 = (0 : Int) → (Q (some (iq_i 1)) g7 l8)))))))))) ∧
        (¬ (g1 10 4) = (2 : Int) → (iq_P N xs 63 0 [some (iq_r 10), some (iq_i 2)] [] g1 l2 (fun r g10 l11 => ∃ z12, r = some (iq_i z12) ∧ ((z12 = 0 ∨ z12 = 1) ∧ Q (some (iq_i z12)) g10 l11)))))) ∧
      (z3 = (0 : Int) → (Q (some (iq_i 0)) g1 l2))))) :
    iq_P N xs 82 0 [some (iq_r 10), some (iq_i a0), some (iq_i a1)] [] g l Q := iq_w_ok (cuts := []) 22 0 _ _ _ _ H
