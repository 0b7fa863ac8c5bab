/-! What must hold that a stretch of a method ends well: methods 61 to 70. -/
-- ScaleForge$Reader.passNumber()V at 0
set_option maxRecDepth 20000 in
theorem B61_10 {N : Nat} {xs : Nat → Int32} {Q : iq_T} (g : iq_I) (l : iq_J) (H : iq_P N xs 61 10 [some (iq_r 10)] [] (iq_uz (iq_uz g 10 4 2) 10 6 0) l Q) :
    iq_P N xs 61 0 [some (iq_r 10)] [] g l Q := iq_w_ok (cuts := [10, 88]) 6 0 _ _ _ _ H

-- ScaleForge$Reader.passNumber()V at 10
set_option maxRecDepth 20000 in
theorem B61_p10_10 {N : Nat} {xs : Nat → Int32} {Q : iq_T} (g : iq_I) (l : iq_J) (H : (-2147483648 ≤ (g 10 3) ∧ (g 10 3) ≤ 2147483647 ∧ -2147483648 ≤ (g 10 2) ∧ (g 10 2) ≤ 2147483647) ∧
    ((g 10 2) ≤ (g 10 3) → ((-2147483648 ≤ ((g 10 3) - (g 10 5)) ∧ ((g 10 3) - (g 10 5)) ≤ 2147483647) ∧
      (((g 10 3) - (g 10 5)) ≤ (4 : Int) → (Q (none) g l)) ∧
      ((4 : Int) < ((g 10 3) - (g 10 5)) → (Q (none) (iq_uz g 10 4 4) l)))) ∧
    ((g 10 3) < (g 10 2) → (iq_P N xs 56 0 [some (iq_r 10), some (iq_i (g 10 3))] [] g l (fun r g1 l2 => ∃ z3, r = some (iq_i z3) ∧ (iq_P N xs 60 0 [some (iq_i z3)] [] g1 l2 (fun r g4 l5 => ∃ z6, r = some (iq_i z6) ∧ ((-2147483648 ≤ z6 ∧ z6 ≤ 2147483647) ∧
          (z6 = (0 : Int) → ((-2147483648 ≤ ((g4 10 3) - (g4 10 5)) ∧ ((g4 10 3) - (g4 10 5)) ≤ 2147483647) ∧
            (((g4 10 3) - (g4 10 5)) ≤ (4 : Int) → (Q (none) g4 l5)) ∧
            ((4 : Int) < ((g4 10 3) - (g4 10 5)) → (Q (none) (iq_uz g4 10 4 4) l5)))) ∧
          (¬ z6 = (0 : Int) → ((-2147483648 ≤ ((g4 10 3) - (g4 10 5)) ∧ ((g4 10 3) - (g4 10 5)) ≤ 2147483647) ∧
            ((4 : Int) ≤ ((g4 10 3) - (g4 10 5)) → (iq_P N xs 61 88 [some (iq_r 10)] [] (iq_uz (iq_uz g4 10 6 (g4 10 6)) 10 3 ((g4 10 3) + 1)) l5 Q)) ∧
            (((g4 10 3) - (g4 10 5)) < (4 : Int) → (iq_P N xs 56 0 [some (iq_r 10), some (iq_i (g4 10 3))] [] g4 l5 (fun r g7 l8 => ∃ z9, r = some (iq_i z9) ∧ (iq_P N xs 61 88 [some (iq_r 10)] [] (iq_uz (iq_uz g7 10 6 ((((g4 10 6) * 10) + z9) - 48)) 10 3 ((g7 10 3) + 1)) l8 Q))))))))))))) :
    iq_P N xs 61 10 [some (iq_r 10)] [] g l Q := iq_w_ok (cuts := [10, 88]) 38 10 _ _ _ _ H

-- ScaleForge$Reader.passNumber()V at 88
set_option maxRecDepth 20000 in
theorem B61_p88_10 {N : Nat} {xs : Nat → Int32} {Q : iq_T} (g : iq_I) (l : iq_J) (H : iq_P N xs 61 10 [some (iq_r 10)] [] g l Q) :
    iq_P N xs 61 88 [some (iq_r 10)] [] g l Q := iq_w_ok (cuts := [10, 88]) 1 88 _ _ _ _ H

-- ScaleForge$Reader.isSign(I)Z at 0
set_option maxRecDepth 20000 in
theorem B62 {N : Nat} {xs : Nat → Int32} {Q : iq_T} (a0 : Int) (g : iq_I) (l : iq_J) (H : (-2147483648 ≤ a0 ∧ a0 ≤ 2147483647) ∧
    (a0 = (59 : Int) → (Q (some (iq_i 1)) g l)) ∧
    (¬ a0 = (59 : Int) → ((-2147483648 ≤ a0 ∧ a0 ≤ 2147483647) ∧
      (a0 = (60 : Int) → (Q (some (iq_i 1)) g l)) ∧
      (¬ a0 = (60 : Int) → ((-2147483648 ≤ a0 ∧ a0 ≤ 2147483647) ∧
        (a0 = (62 : Int) → (Q (some (iq_i 1)) g l)) ∧
        (¬ a0 = (62 : Int) → ((-2147483648 ≤ a0 ∧ a0 ≤ 2147483647) ∧
          (¬ a0 = (61 : Int) → (Q (some (iq_i 0)) g l)) ∧
          (a0 = (61 : Int) → (Q (some (iq_i 1)) g l))))))))) :
    iq_P N xs 62 0 [some (iq_i a0)] [] g l Q := iq_w_ok (cuts := []) 15 0 _ _ _ _ H

-- ScaleForge$Reader.blame(I)Z at 0
set_option maxRecDepth 20000 in
theorem B63_10 {N : Nat} {xs : Nat → Int32} {Q : iq_T} (a0 : Int) (g : iq_I) (l : iq_J) (H : Q (some (iq_i 0)) (iq_uz (iq_uz g 10 7 a0) 10 8 (g 10 5)) l) :
    iq_P N xs 63 0 [some (iq_r 10), some (iq_i a0)] [] g l Q := iq_w_ok (cuts := []) 9 0 _ _ _ _ H

-- ScaleForge$Reader.next()Z at 0
set_option maxRecDepth 20000 in
theorem B64_10 {N : Nat} {xs : Nat → Int32} {Q : iq_T} (g : iq_I) (l : iq_J) (H : (-2147483648 ≤ (g 10 3) ∧ (g 10 3) ≤ 2147483647 ∧ -2147483648 ≤ (g 10 2) ∧ (g 10 2) ≤ 2147483647) ∧
    ((g 10 2) ≤ (g 10 3) → (iq_P N xs 64 38 [some (iq_r 10), none] [] g l Q)) ∧
    ((g 10 3) < (g 10 2) → (iq_P N xs 56 0 [some (iq_r 10), some (iq_i (g 10 3))] [] g l (fun r g1 l2 => ∃ z3, r = some (iq_i z3) ∧ (iq_P N xs 57 0 [some (iq_i z3)] [] g1 l2 (fun r g4 l5 => ∃ z6, r = some (iq_i z6) ∧ ((-2147483648 ≤ z6 ∧ z6 ≤ 2147483647) ∧
          (z6 = (0 : Int) → (iq_P N xs 64 38 [some (iq_r 10), none] [] g4 l5 Q)) ∧
          (¬ z6 = (0 : Int) → (iq_P N xs 64 0 [some (iq_r 10), none] [] (iq_uz g4 10 3 ((g4 10 3) + 1)) l5 Q))))))))) :
    iq_P N xs 64 0 [some (iq_r 10), none] [] g l Q := iq_w_ok (cuts := [0, 38, 109, 119, 132, 137, 145, 153]) 18 0 _ _ _ _ H

-- ScaleForge$Reader.next()Z at 0
set_option maxRecDepth 20000 in
theorem B64_p0_10 {N : Nat} {xs : Nat → Int32} {Q : iq_T} (g : iq_I) (l : iq_J) (H : (-2147483648 ≤ (g 10 3) ∧ (g 10 3) ≤ 2147483647 ∧ -2147483648 ≤ (g 10 2) ∧ (g 10 2) ≤ 2147483647) ∧
    ((g 10 2) ≤ (g 10 3) → (iq_P N xs 64 38 [some (iq_r 10), none] [] g l Q)) ∧
    ((g 10 3) < (g 10 2) → (iq_P N xs 56 0 [some (iq_r 10), some (iq_i (g 10 3))] [] g l (fun r g1 l2 => ∃ z3, r = some (iq_i z3) ∧ (iq_P N xs 57 0 [some (iq_i z3)] [] g1 l2 (fun r g4 l5 => ∃ z6, r = some (iq_i z6) ∧ ((-2147483648 ≤ z6 ∧ z6 ≤ 2147483647) ∧
          (z6 = (0 : Int) → (iq_P N xs 64 38 [some (iq_r 10), none] [] g4 l5 Q)) ∧
          (¬ z6 = (0 : Int) → (iq_P N xs 64 0 [some (iq_r 10), none] [] (iq_uz g4 10 3 ((g4 10 3) + 1)) l5 Q))))))))) :
    iq_P N xs 64 0 [some (iq_r 10), none] [] g l Q := iq_w_ok (cuts := [0, 38, 109, 119, 132, 137, 145, 153]) 18 0 _ _ _ _ H

-- ScaleForge$Reader.next()Z at 38
set_option maxRecDepth 20000 in
theorem B64_p38_10 {N : Nat} {xs : Nat → Int32} {Q : iq_T} (g : iq_I) (l : iq_J) (H : iq_P N xs 56 0 [some (iq_r 10), some (iq_i (g 10 3))] [] (iq_uz g 10 5 (g 10 3)) l (fun r g1 l2 => ∃ z3, r = some (iq_i z3) ∧ ((-2147483648 ≤ (g1 10 3) ∧ (g1 10 3) ≤ 2147483647 ∧ -2147483648 ≤ (g1 10 2) ∧ (g1 10 2) ≤ 2147483647) ∧
      ((g1 10 3) < (g1 10 2) → (iq_P N xs 58 0 [some (iq_i z3)] [] g1 l2 (fun r g4 l5 => ∃ z6, r = some (iq_i z6) ∧ ((-2147483648 ≤ z6 ∧ z6 ≤ 2147483647) ∧
          (z6 = (0 : Int) → (iq_P N xs 60 0 [some (iq_i z3)] [] g4 l5 (fun r g7 l8 => ∃ z9, r = some (iq_i z9) ∧ ((-2147483648 ≤ z9 ∧ z9 ≤ 2147483647) ∧
              (z9 = (0 : Int) → (iq_P N xs 62 0 [some (iq_i z3)] [] g7 l8 (fun r g10 l11 => ∃ z12, r = some (iq_i z12) ∧ ((-2147483648 ≤ z12 ∧ z12 ≤ 2147483647) ∧
                  (z12 = (0 : Int) → (iq_P N xs 64 132 [some (iq_r 10), some (iq_i z3)] [] g10 l11 Q)) ∧
                  (¬ z12 = (0 : Int) → (iq_P N xs 64 109 [some (iq_r 10), some (iq_i z3)] [] g10 l11 Q)))))) ∧
              (¬ z9 = (0 : Int) → (iq_P N xs 61 0 [some (iq_r 10)] [] g7 l8 (fun r g13 l14 => r = none ∧ (iq_P N xs 64 137 [some (iq_r 10), some (iq_i z3)] [] g13 l14 Q)))))))) ∧
          (¬ z6 = (0 : Int) → (iq_P N xs 59 0 [some (iq_r 10)] [] g4 l5 (fun r g15 l16 => r = none ∧ (iq_P N xs 64 137 [some (iq_r 10), some (iq_i z3)] [] g15 l16 Q)))))))) ∧
      ((g1 10 2) ≤ (g1 10 3) → (iq_P N xs 64 137 [some (iq_r 10), some (iq_i z3)] [] (iq_uz g1 10 4 0) l2 Q))))) :
    iq_P N xs 64 38 [some (iq_r 10), none] [] g l Q := iq_w_ok (cuts := [0, 38, 109, 119, 132, 137, 145, 153]) 23 38 _ _ _ _ H

-- ScaleForge$Reader.next()Z at 109
set_option maxRecDepth 20000 in
theorem B64_p109_10 {N : Nat} {xs : Nat → Int32} {Q : iq_T} (v1 : Int) (g : iq_I) (l : iq_J) (H : iq_P N xs 64 119 [some (iq_r 10), some (iq_i v1)] [] (iq_uz (iq_uz g 10 4 3) 10 6 v1) l Q) :
    iq_P N xs 64 109 [some (iq_r 10), some (iq_i v1)] [] g l Q := iq_w_ok (cuts := [0, 38, 109, 119, 132, 137, 145, 153]) 6 109 _ _ _ _ H

-- ScaleForge$Reader.next()Z at 119
set_option maxRecDepth 20000 in
theorem B64_p119_10 {N : Nat} {xs : Nat → Int32} {Q : iq_T} (v1 : Int) (g : iq_I) (l : iq_J) (H : iq_P N xs 64 137 [some (iq_r 10), some (iq_i v1)] [] (iq_uz g 10 3 ((g 10 3) + 1)) l Q) :
    iq_P N xs 64 119 [some (iq_r 10), some (iq_i v1)] [] g l Q := iq_w_ok (cuts := [0, 38, 109, 119, 132, 137, 145, 153]) 7 119 _ _ _ _ H

-- ScaleForge$Reader.next()Z at 132
set_option maxRecDepth 20000 in
theorem B64_p132_10 {N : Nat} {xs : Nat → Int32} {Q : iq_T} (v1 : Int) (g : iq_I) (l : iq_J) (H : iq_P N xs 64 137 [some (iq_r 10), some (iq_i v1)] [] (iq_uz g 10 4 4) l Q) :
    iq_P N xs 64 132 [some (iq_r 10), some (iq_i v1)] [] g l Q := iq_w_ok (cuts := [0, 38, 109, 119, 132, 137, 145, 153]) 3 132 _ _ _ _ H

-- ScaleForge$Reader.next()Z at 137
set_option maxRecDepth 20000 in
theorem B64_p137_10 {N : Nat} {xs : Nat → Int32} {Q : iq_T} (v1 : Int) (g : iq_I) (l : iq_J) (H : (-2147483648 ≤ (g 10 4) ∧ (g 10 4) ≤ 2147483647) ∧
    (¬ (g 10 4) = (4 : Int) → (iq_P N xs 64 153 [some (iq_r 10), some (iq_i v1)] [] g l Q)) ∧
    ((g 10 4) = (4 : Int) → (iq_P N xs 64 145 [some (iq_r 10), some (iq_i v1)] [] g l Q))) :
    iq_P N xs 64 137 [some (iq_r 10), some (iq_i v1)] [] g l Q := iq_w_ok (cuts := [0, 38, 109, 119, 132, 137, 145, 153]) 4 137 _ _ _ _ H

-- ScaleForge$Reader.next()Z at 145
set_option maxRecDepth 20000 in
theorem B64_p145_10 {N : Nat} {xs : Nat → Int32} {Q : iq_T} (v1 : Int) (g : iq_I) (l : iq_J) (H : iq_P N xs 63 0 [some (iq_r 10), some (iq_i 1)] [] g l (fun r g1 l2 => ∃ z3, r = some (iq_i z3) ∧ ((-2147483648 ≤ z3 ∧ z3 ≤ 2147483647) ∧
      (z3 = (0 : Int) → (Q (some (iq_i 0)) g1 l2)) ∧
      (¬ z3 = (0 : Int) → (iq_P N xs 64 153 [some (iq_r 10), some (iq_i v1)] [] g1 l2 Q))))) :
    iq_P N xs 64 145 [some (iq_r 10), some (iq_i v1)] [] g l Q := iq_w_ok (cuts := [0, 38, 109, 119, 132, 137, 145, 153]) 6 145 _ _ _ _ H

-- ScaleForge$Reader.next()Z at 153
set_option maxRecDepth 20000 in
theorem B64_p153_10 {N : Nat} {xs : Nat → Int32} {Q : iq_T} (v1 : Int) (g : iq_I) (l : iq_J) (H : Q (some (iq_i 1)) g l) :
    iq_P N xs 64 153 [some (iq_r 10), some (iq_i v1)] [] g l Q := iq_w_ok (cuts := [0, 38, 109, 119, 132, 137, 145, 153]) 3 153 _ _ _ _ H

-- java/lang/String.coder()B at 0
set_option maxRecDepth 20000 in
theorem B65_1000010 {N : Nat} {xs : Nat → Int32} {Q : iq_T} (g : iq_I) (l : iq_J) (H : (-128 ≤ (0 : Int) ∧ (0 : Int) ≤ 127) ∧ Q (some (iq_i 0)) g l) :
    iq_P N xs 65 0 [some (iq_r 1000010)] [] g l Q := iq_w_ok (cuts := []) 6 0 _ _ _ _ H

-- java/lang/String.coder()B at 0
set_option maxRecDepth 20000 in
theorem B65_1000011 {N : Nat} {xs : Nat → Int32} {Q : iq_T} (g : iq_I) (l : iq_J) (H : (-128 ≤ (0 : Int) ∧ (0 : Int) ≤ 127) ∧ Q (some (iq_i 0)) g l) :
    iq_P N xs 65 0 [some (iq_r 1000011)] [] g l Q := iq_w_ok (cuts := []) 6 0 _ _ _ _ H

-- java/lang/String.coder()B at 0
set_option maxRecDepth 20000 in
theorem B65_1000012 {N : Nat} {xs : Nat → Int32} {Q : iq_T} (g : iq_I) (l : iq_J) (H : (-128 ≤ (0 : Int) ∧ (0 : Int) ≤ 127) ∧ Q (some (iq_i 0)) g l) :
    iq_P N xs 65 0 [some (iq_r 1000012)] [] g l Q := iq_w_ok (cuts := []) 6 0 _ _ _ _ H

-- java/lang/String.coder()B at 0
set_option maxRecDepth 20000 in
theorem B65_1000013 {N : Nat} {xs : Nat → Int32} {Q : iq_T} (g : iq_I) (l : iq_J) (H : (-128 ≤ (0 : Int) ∧ (0 : Int) ≤ 127) ∧ Q (some (iq_i 0)) g l) :
    iq_P N xs 65 0 [some (iq_r 1000013)] [] g l Q := iq_w_ok (cuts := []) 6 0 _ _ _ _ H

-- java/lang/String.coder()B at 0
set_option maxRecDepth 20000 in
theorem B65_1000014 {N : Nat} {xs : Nat → Int32} {Q : iq_T} (g : iq_I) (l : iq_J) (H : (-128 ≤ (0 : Int) ∧ (0 : Int) ≤ 127) ∧ Q (some (iq_i 0)) g l) :
    iq_P N xs 65 0 [some (iq_r 1000014)] [] g l Q := iq_w_ok (cuts := []) 6 0 _ _ _ _ H

-- java/lang/String.coder()B at 0
set_option maxRecDepth 20000 in
theorem B65_1000015 {N : Nat} {xs : Nat → Int32} {Q : iq_T} (g : iq_I) (l : iq_J) (H : (-128 ≤ (0 : Int) ∧ (0 : Int) ≤ 127) ∧ Q (some (iq_i 0)) g l) :
    iq_P N xs 65 0 [some (iq_r 1000015)] [] g l Q := iq_w_ok (cuts := []) 6 0 _ _ _ _ H

-- java/lang/String.coder()B at 0
set_option maxRecDepth 20000 in
theorem B65_1000016 {N : Nat} {xs : Nat → Int32} {Q : iq_T} (g : iq_I) (l : iq_J) (H : (-128 ≤ (0 : Int) ∧ (0 : Int) ≤ 127) ∧ Q (some (iq_i 0)) g l) :
    iq_P N xs 65 0 [some (iq_r 1000016)] [] g l Q := iq_w_ok (cuts := []) 6 0 _ _ _ _ H

-- java/lang/String.coder()B at 0
set_option maxRecDepth 20000 in
theorem B65_1000017 {N : Nat} {xs : Nat → Int32} {Q : iq_T} (g : iq_I) (l : iq_J) (H : (-128 ≤ (0 : Int) ∧ (0 : Int) ≤ 127) ∧ Q (some (iq_i 0)) g l) :
    iq_P N xs 65 0 [some (iq_r 1000017)] [] g l Q := iq_w_ok (cuts := []) 6 0 _ _ _ _ H

-- java/lang/String.coder()B at 0
set_option maxRecDepth 20000 in
theorem B65_1000018 {N : Nat} {xs : Nat → Int32} {Q : iq_T} (g : iq_I) (l : iq_J) (H : (-128 ≤ (0 : Int) ∧ (0 : Int) ≤ 127) ∧ Q (some (iq_i 0)) g l) :
    iq_P N xs 65 0 [some (iq_r 1000018)] [] g l Q := iq_w_ok (cuts := []) 6 0 _ _ _ _ H

-- java/lang/String.coder()B at 0
set_option maxRecDepth 20000 in
theorem B65_1000019 {N : Nat} {xs : Nat → Int32} {Q : iq_T} (g : iq_I) (l : iq_J) (H : (-128 ≤ (0 : Int) ∧ (0 : Int) ≤ 127) ∧ Q (some (iq_i 0)) g l) :
    iq_P N xs 65 0 [some (iq_r 1000019)] [] g l Q := iq_w_ok (cuts := []) 6 0 _ _ _ _ H

-- java/lang/String.coder()B at 0
set_option maxRecDepth 20000 in
theorem B65_1000020 {N : Nat} {xs : Nat → Int32} {Q : iq_T} (g : iq_I) (l : iq_J) (H : (-128 ≤ (0 : Int) ∧ (0 : Int) ≤ 127) ∧ Q (some (iq_i 0)) g l) :
    iq_P N xs 65 0 [some (iq_r 1000020)] [] g l Q := iq_w_ok (cuts := []) 6 0 _ _ _ _ H

-- java/lang/String.coder()B at 0
set_option maxRecDepth 20000 in
theorem B65_1000021 {N : Nat} {xs : Nat → Int32} {Q : iq_T} (g : iq_I) (l : iq_J) (H : (-128 ≤ (0 : Int) ∧ (0 : Int) ≤ 127) ∧ Q (some (iq_i 0)) g l) :
    iq_P N xs 65 0 [some (iq_r 1000021)] [] g l Q := iq_w_ok (cuts := []) 6 0 _ _ _ _ H

-- java/lang/String.coder()B at 0
set_option maxRecDepth 20000 in
theorem B65_1000022 {N : Nat} {xs : Nat → Int32} {Q : iq_T} (g : iq_I) (l : iq_J) (H : (-128 ≤ (0 : Int) ∧ (0 : Int) ≤ 127) ∧ Q (some (iq_i 0)) g l) :
    iq_P N xs 65 0 [some (iq_r 1000022)] [] g l Q := iq_w_ok (cuts := []) 6 0 _ _ _ _ H

-- java/lang/String.coder()B at 0
set_option maxRecDepth 20000 in
theorem B65_1000023 {N : Nat} {xs : Nat → Int32} {Q : iq_T} (g : iq_I) (l : iq_J) (H : (-128 ≤ (0 : Int) ∧ (0 : Int) ≤ 127) ∧ Q (some (iq_i 0)) g l) :
    iq_P N xs 65 0 [some (iq_r 1000023)] [] g l Q := iq_w_ok (cuts := []) 6 0 _ _ _ _ H

-- java/lang/String.coder()B at 0
set_option maxRecDepth 20000 in
theorem B65_1000024 {N : Nat} {xs : Nat → Int32} {Q : iq_T} (g : iq_I) (l : iq_J) (H : (-128 ≤ (0 : Int) ∧ (0 : Int) ≤ 127) ∧ Q (some (iq_i 0)) g l) :
    iq_P N xs 65 0 [some (iq_r 1000024)] [] g l Q := iq_w_ok (cuts := []) 6 0 _ _ _ _ H

-- java/lang/String.coder()B at 0
set_option maxRecDepth 20000 in
theorem B65_1000025 {N : Nat} {xs : Nat → Int32} {Q : iq_T} (g : iq_I) (l : iq_J) (H : (-128 ≤ (0 : Int) ∧ (0 : Int) ≤ 127) ∧ Q (some (iq_i 0)) g l) :
    iq_P N xs 65 0 [some (iq_r 1000025)] [] g l Q := iq_w_ok (cuts := []) 6 0 _ _ _ _ H

-- java/lang/String.coder()B at 0
set_option maxRecDepth 20000 in
theorem B65_1000026 {N : Nat} {xs : Nat → Int32} {Q : iq_T} (g : iq_I) (l : iq_J) (H : (-128 ≤ (0 : Int) ∧ (0 : Int) ≤ 127) ∧ Q (some (iq_i 0)) g l) :
    iq_P N xs 65 0 [some (iq_r 1000026)] [] g l Q := iq_w_ok (cuts := []) 6 0 _ _ _ _ H

-- java/lang/String.coder()B at 0
set_option maxRecDepth 20000 in
theorem B65_1000027 {N : Nat} {xs : Nat → Int32} {Q : iq_T} (g : iq_I) (l : iq_J) (H : (-128 ≤ (0 : Int) ∧ (0 : Int) ≤ 127) ∧ Q (some (iq_i 0)) g l) :
    iq_P N xs 65 0 [some (iq_r 1000027)] [] g l Q := iq_w_ok (cuts := []) 6 0 _ _ _ _ H

-- java/lang/String.coder()B at 0
set_option maxRecDepth 20000 in
theorem B65_1000028 {N : Nat} {xs : Nat → Int32} {Q : iq_T} (g : iq_I) (l : iq_J) (H : (-128 ≤ (0 : Int) ∧ (0 : Int) ≤ 127) ∧ Q (some (iq_i 0)) g l) :
    iq_P N xs 65 0 [some (iq_r 1000028)] [] g l Q := iq_w_ok (cuts := []) 6 0 _ _ _ _ H

-- java/lang/String.coder()B at 0
set_option maxRecDepth 20000 in
theorem B65_1000029 {N : Nat} {xs : Nat → Int32} {Q : iq_T} (g : iq_I) (l : iq_J) (H : (-128 ≤ (0 : Int) ∧ (0 : Int) ≤ 127) ∧ Q (some (iq_i 0)) g l) :
    iq_P N xs 65 0 [some (iq_r 1000029)] [] g l Q := iq_w_ok (cuts := []) 6 0 _ _ _ _ H

-- java/lang/String.coder()B at 0
set_option maxRecDepth 20000 in
theorem B65_1000030 {N : Nat} {xs : Nat → Int32} {Q : iq_T} (g : iq_I) (l : iq_J) (H : (-128 ≤ (0 : Int) ∧ (0 : Int) ≤ 127) ∧ Q (some (iq_i 0)) g l) :
    iq_P N xs 65 0 [some (iq_r 1000030)] [] g l Q := iq_w_ok (cuts := []) 6 0 _ _ _ _ H

-- java/lang/String.coder()B at 0
set_option maxRecDepth 20000 in
theorem B65_1000031 {N : Nat} {xs : Nat → Int32} {Q : iq_T} (g : iq_I) (l : iq_J) (H : (-128 ≤ (0 : Int) ∧ (0 : Int) ≤ 127) ∧ Q (some (iq_i 0)) g l) :
    iq_P N xs 65 0 [some (iq_r 1000031)] [] g l Q := iq_w_ok (cuts := []) 6 0 _ _ _ _ H

-- java/lang/String.coder()B at 0
set_option maxRecDepth 20000 in
theorem B65_1000032 {N : Nat} {xs : Nat → Int32} {Q : iq_T} (g : iq_I) (l : iq_J) (H : (-128 ≤ (0 : Int) ∧ (0 : Int) ≤ 127) ∧ Q (some (iq_i 0)) g l) :
    iq_P N xs 65 0 [some (iq_r 1000032)] [] g l Q := iq_w_ok (cuts := []) 6 0 _ _ _ _ H

-- java/lang/String.coder()B at 0
set_option maxRecDepth 20000 in
theorem B65_1000033 {N : Nat} {xs : Nat → Int32} {Q : iq_T} (g : iq_I) (l : iq_J) (H : (-128 ≤ (0 : Int) ∧ (0 : Int) ≤ 127) ∧ Q (some (iq_i 0)) g l) :
    iq_P N xs 65 0 [some (iq_r 1000033)] [] g l Q := iq_w_ok (cuts := []) 6 0 _ _ _ _ H

-- java/lang/String.length()I at 0
set_option maxRecDepth 20000 in
theorem B66_1000010 {N : Nat} {xs : Nat → Int32} {Q : iq_T} (g : iq_I) (l : iq_J) (H : iq_P N xs 65 0 [some (iq_r 1000010)] [] g l (fun r g1 l2 => ∃ z3, r = some (iq_i z3) ∧ (Q (some (iq_i (iq_shr 4 z3))) g1 l2))) :
    iq_P N xs 66 0 [some (iq_r 1000010)] [] g l Q := iq_w_ok (cuts := []) 7 0 _ _ _ _ H

-- java/lang/String.length()I at 0
set_option maxRecDepth 20000 in
theorem B66_1000011 {N : Nat} {xs : Nat → Int32} {Q : iq_T} (g : iq_I) (l : iq_J) (H : iq_P N xs 65 0 [some (iq_r 1000011)] [] g l (fun r g1 l2 => ∃ z3, r = some (iq_i z3) ∧ (Q (some (iq_i (iq_shr 6 z3))) g1 l2))) :
    iq_P N xs 66 0 [some (iq_r 1000011)] [] g l Q := iq_w_ok (cuts := []) 7 0 _ _ _ _ H

-- java/lang/String.length()I at 0
set_option maxRecDepth 20000 in
theorem B66_1000012 {N : Nat} {xs : Nat → Int32} {Q : iq_T} (g : iq_I) (l : iq_J) (H : iq_P N xs 65 0 [some (iq_r 1000012)] [] g l (fun r g1 l2 => ∃ z3, r = some (iq_i z3) ∧ (Q (some (iq_i (iq_shr 9 z3))) g1 l2))) :
    iq_P N xs 66 0 [some (iq_r 1000012)] [] g l Q := iq_w_ok (cuts := []) 7 0 _ _ _ _ H

-- java/lang/String.length()I at 0
set_option maxRecDepth 20000 in
theorem B66_1000013 {N : Nat} {xs : Nat → Int32} {Q : iq_T} (g : iq_I) (l : iq_J) (H : iq_P N xs 65 0 [some (iq_r 1000013)] [] g l (fun r g1 l2 => ∃ z3, r = some (iq_i z3) ∧ (Q (some (iq_i (iq_shr 6 z3))) g1 l2))) :
    iq_P N xs 66 0 [some (iq_r 1000013)] [] g l Q := iq_w_ok (cuts := []) 7 0 _ _ _ _ H

-- java/lang/String.length()I at 0
set_option maxRecDepth 20000 in
theorem B66_1000014 {N : Nat} {xs : Nat → Int32} {Q : iq_T} (g : iq_I) (l : iq_J) (H : iq_P N xs 65 0 [some (iq_r 1000014)] [] g l (fun r g1 l2 => ∃ z3, r = some (iq_i z3) ∧ (Q (some (iq_i (iq_shr 4 z3))) g1 l2))) :
    iq_P N xs 66 0 [some (iq_r 1000014)] [] g l Q := iq_w_ok (cuts := []) 7 0 _ _ _ _ H

-- java/lang/String.length()I at 0
set_option maxRecDepth 20000 in
theorem B66_1000015 {N : Nat} {xs : Nat → Int32} {Q : iq_T} (g : iq_I) (l : iq_J) (H : iq_P N xs 65 0 [some (iq_r 1000015)] [] g l (fun r g1 l2 => ∃ z3, r = some (iq_i z3) ∧ (Q (some (iq_i (iq_shr 4 z3))) g1 l2))) :
    iq_P N xs 66 0 [some (iq_r 1000015)] [] g l Q := iq_w_ok (cuts := []) 7 0 _ _ _ _ H

-- java/lang/String.length()I at 0
set_option maxRecDepth 20000 in
theorem B66_1000016 {N : Nat} {xs : Nat → Int32} {Q : iq_T} (g : iq_I) (l : iq_J) (H : iq_P N xs 65 0 [some (iq_r 1000016)] [] g l (fun r g1 l2 => ∃ z3, r = some (iq_i z3) ∧ (Q (some (iq_i (iq_shr 8 z3))) g1 l2))) :
    iq_P N xs 66 0 [some (iq_r 1000016)] [] g l Q := iq_w_ok (cuts := []) 7 0 _ _ _ _ H

-- java/lang/String.length()I at 0
set_option maxRecDepth 20000 in
theorem B66_1000017 {N : Nat} {xs : Nat → Int32} {Q : iq_T} (g : iq_I) (l : iq_J) (H : iq_P N xs 65 0 [some (iq_r 1000017)] [] g l (fun r g1 l2 => ∃ z3, r = some (iq_i z3) ∧ (Q (some (iq_i (iq_shr 5 z3))) g1 l2))) :
    iq_P N xs 66 0 [some (iq_r 1000017)] [] g l Q := iq_w_ok (cuts := []) 7 0 _ _ _ _ H

-- java/lang/String.length()I at 0
set_option maxRecDepth 20000 in
theorem B66_1000018 {N : Nat} {xs : Nat → Int32} {Q : iq_T} (g : iq_I) (l : iq_J) (H : iq_P N xs 65 0 [some (iq_r 1000018)] [] g l (fun r g1 l2 => ∃ z3, r = some (iq_i z3) ∧ (Q (some (iq_i (iq_shr 2 z3))) g1 l2))) :
    iq_P N xs 66 0 [some (iq_r 1000018)] [] g l Q := iq_w_ok (cuts := []) 7 0 _ _ _ _ H

-- java/lang/String.length()I at 0
set_option maxRecDepth 20000 in
theorem B66_1000019 {N : Nat} {xs : Nat → Int32} {Q : iq_T} (g : iq_I) (l : iq_J) (H : iq_P N xs 65 0 [some (iq_r 1000019)] [] g l (fun r g1 l2 => ∃ z3, r = some (iq_i z3) ∧ (Q (some (iq_i (iq_shr 6 z3))) g1 l2))) :
    iq_P N xs 66 0 [some (iq_r 1000019)] [] g l Q := iq_w_ok (cuts := []) 7 0 _ _ _ _ H

-- java/lang/String.length()I at 0
set_option maxRecDepth 20000 in
theorem B66_1000020 {N : Nat} {xs : Nat → Int32} {Q : iq_T} (g : iq_I) (l : iq_J) (H : iq_P N xs 65 0 [some (iq_r 1000020)] [] g l (fun r g1 l2 => ∃ z3, r = some (iq_i z3) ∧ (Q (some (iq_i (iq_shr 3 z3))) g1 l2))) :
    iq_P N xs 66 0 [some (iq_r 1000020)] [] g l Q := iq_w_ok (cuts := []) 7 0 _ _ _ _ H

-- java/lang/String.length()I at 0
set_option maxRecDepth 20000 in
theorem B66_1000021 {N : Nat} {xs : Nat → Int32} {Q : iq_T} (g : iq_I) (l : iq_J) (H : iq_P N xs 65 0 [some (iq_r 1000021)] [] g l (fun r g1 l2 => ∃ z3, r = some (iq_i z3) ∧ (Q (some (iq_i (iq_shr 5 z3))) g1 l2))) :
    iq_P N xs 66 0 [some (iq_r 1000021)] [] g l Q := iq_w_ok (cuts := []) 7 0 _ _ _ _ H

-- java/lang/String.length()I at 0
set_option maxRecDepth 20000 in
theorem B66_1000022 {N : Nat} {xs : Nat → Int32} {Q : iq_T} (g : iq_I) (l : iq_J) (H : iq_P N xs 65 0 [some (iq_r 1000022)] [] g l (fun r g1 l2 => ∃ z3, r = some (iq_i z3) ∧ (Q (some (iq_i (iq_shr 4 z3))) g1 l2))) :
    iq_P N xs 66 0 [some (iq_r 1000022)] [] g l Q := iq_w_ok (cuts := []) 7 0 _ _ _ _ H

-- java/lang/String.length()I at 0
set_option maxRecDepth 20000 in
theorem B66_1000023 {N : Nat} {xs : Nat → Int32} {Q : iq_T} (g : iq_I) (l : iq_J) (H : iq_P N xs 65 0 [some (iq_r 1000023)] [] g l (fun r g1 l2 => ∃ z3, r = some (iq_i z3) ∧ (Q (some (iq_i (iq_shr 4 z3))) g1 l2))) :
    iq_P N xs 66 0 [some (iq_r 1000023)] [] g l Q := iq_w_ok (cuts := []) 7 0 _ _ _ _ H

-- java/lang/String.length()I at 0
set_option maxRecDepth 20000 in
theorem B66_1000024 {N : Nat} {xs : Nat → Int32} {Q : iq_T} (g : iq_I) (l : iq_J) (H : iq_P N xs 65 0 [some (iq_r 1000024)] [] g l (fun r g1 l2 => ∃ z3, r = some (iq_i z3) ∧ (Q (some (iq_i (iq_shr 3 z3))) g1 l2))) :
    iq_P N xs 66 0 [some (iq_r 1000024)] [] g l Q := iq_w_ok (cuts := []) 7 0 _ _ _ _ H

-- java/lang/String.length()I at 0
set_option maxRecDepth 20000 in
theorem B66_1000025 {N : Nat} {xs : Nat → Int32} {Q : iq_T} (g : iq_I) (l : iq_J) (H : iq_P N xs 65 0 [some (iq_r 1000025)] [] g l (fun r g1 l2 => ∃ z3, r = some (iq_i z3) ∧ (Q (some (iq_i (iq_shr 4 z3))) g1 l2))) :
    iq_P N xs 66 0 [some (iq_r 1000025)] [] g l Q := iq_w_ok (cuts := []) 7 0 _ _ _ _ H

-- java/lang/String.length()I at 0
set_option maxRecDepth 20000 in
theorem B66_1000026 {N : Nat} {xs : Nat → Int32} {Q : iq_T} (g : iq_I) (l : iq_J) (H : iq_P N xs 65 0 [some (iq_r 1000026)] [] g l (fun r g1 l2 => ∃ z3, r = some (iq_i z3) ∧ (Q (some (iq_i (iq_shr 4 z3))) g1 l2))) :
    iq_P N xs 66 0 [some (iq_r 1000026)] [] g l Q := iq_w_ok (cuts := []) 7 0 _ _ _ _ H

-- java/lang/String.length()I at 0
set_option maxRecDepth 20000 in
theorem B66_1000027 {N : Nat} {xs : Nat → Int32} {Q : iq_T} (g : iq_I) (l : iq_J) (H : iq_P N xs 65 0 [some (iq_r 1000027)] [] g l (fun r g1 l2 => ∃ z3, r = some (iq_i z3) ∧ (Q (some (iq_i (iq_shr 4 z3))) g1 l2))) :
    iq_P N xs 66 0 [some (iq_r 1000027)] [] g l Q := iq_w_ok (cuts := []) 7 0 _ _ _ _ H

-- java/lang/String.length()I at 0
set_option maxRecDepth 20000 in
theorem B66_1000028 {N : Nat} {xs : Nat → Int32} {Q : iq_T} (g : iq_I) (l : iq_J) (H : iq_P N xs 65 0 [some (iq_r 1000028)] [] g l (fun r g1 l2 => ∃ z3, r = some (iq_i z3) ∧ (Q (some (iq_i (iq_shr 5 z3))) g1 l2))) :
    iq_P N xs 66 0 [some (iq_r 1000028)] [] g l Q := iq_w_ok (cuts := []) 7 0 _ _ _ _ H

-- java/lang/String.length()I at 0
set_option maxRecDepth 20000 in
theorem B66_1000029 {N : Nat} {xs : Nat → Int32} {Q : iq_T} (g : iq_I) (l : iq_J) (H : iq_P N xs 65 0 [some (iq_r 1000029)] [] g l (fun r g1 l2 => ∃ z3, r = some (iq_i z3) ∧ (Q (some (iq_i (iq_shr 4 z3))) g1 l2))) :
    iq_P N xs 66 0 [some (iq_r 1000029)] [] g l Q := iq_w_ok (cuts := []) 7 0 _ _ _ _ H

-- java/lang/String.length()I at 0
set_option maxRecDepth 20000 in
theorem B66_1000030 {N : Nat} {xs : Nat → Int32} {Q : iq_T} (g : iq_I) (l : iq_J) (H : iq_P N xs 65 0 [some (iq_r 1000030)] [] g l (fun r g1 l2 => ∃ z3, r = some (iq_i z3) ∧ (Q (some (iq_i (iq_shr 3 z3))) g1 l2))) :
    iq_P N xs 66 0 [some (iq_r 1000030)] [] g l Q := iq_w_ok (cuts := []) 7 0 _ _ _ _ H

-- java/lang/String.length()I at 0
set_option maxRecDepth 20000 in
theorem B66_1000031 {N : Nat} {xs : Nat → Int32} {Q : iq_T} (g : iq_I) (l : iq_J) (H : iq_P N xs 65 0 [some (iq_r 1000031)] [] g l (fun r g1 l2 => ∃ z3, r = some (iq_i z3) ∧ (Q (some (iq_i (iq_shr 6 z3))) g1 l2))) :
    iq_P N xs 66 0 [some (iq_r 1000031)] [] g l Q := iq_w_ok (cuts := []) 7 0 _ _ _ _ H

-- java/lang/String.length()I at 0
set_option maxRecDepth 20000 in
theorem B66_1000032 {N : Nat} {xs : Nat → Int32} {Q : iq_T} (g : iq_I) (l : iq_J) (H : iq_P N xs 65 0 [some (iq_r 1000032)] [] g l (fun r g1 l2 => ∃ z3, r = some (iq_i z3) ∧ (Q (some (iq_i (iq_shr 6 z3))) g1 l2))) :
    iq_P N xs 66 0 [some (iq_r 1000032)] [] g l Q := iq_w_ok (cuts := []) 7 0 _ _ _ _ H

-- java/lang/String.length()I at 0
set_option maxRecDepth 20000 in
theorem B66_1000033 {N : Nat} {xs : Nat → Int32} {Q : iq_T} (g : iq_I) (l : iq_J) (H : iq_P N xs 65 0 [some (iq_r 1000033)] [] g l (fun r g1 l2 => ∃ z3, r = some (iq_i z3) ∧ (Q (some (iq_i (iq_shr 121 z3))) g1 l2))) :
    iq_P N xs 66 0 [some (iq_r 1000033)] [] g l Q := iq_w_ok (cuts := []) 7 0 _ _ _ _ H

-- java/lang/String.isLatin1()Z at 0
set_option maxRecDepth 20000 in
theorem B67_1000010 {N : Nat} {xs : Nat → Int32} {Q : iq_T} (g : iq_I) (l : iq_J) (H : Q (some (iq_i 1)) g l) :
    iq_P N xs 67 0 [some (iq_r 1000010)] [] g l Q := iq_w_ok (cuts := []) 8 0 _ _ _ _ H

-- java/lang/String.isLatin1()Z at 0
set_option maxRecDepth 20000 in
theorem B67_1000011 {N : Nat} {xs : Nat → Int32} {Q : iq_T} (g : iq_I) (l : iq_J) (H : Q (some (iq_i 1)) g l) :
    iq_P N xs 67 0 [some (iq_r 1000011)] [] g l Q := iq_w_ok (cuts := []) 8 0 _ _ _ _ H

-- java/lang/String.isLatin1()Z at 0
set_option maxRecDepth 20000 in
theorem B67_1000012 {N : Nat} {xs : Nat → Int32} {Q : iq_T} (g : iq_I) (l : iq_J) (H : Q (some (iq_i 1)) g l) :
    iq_P N xs 67 0 [some (iq_r 1000012)] [] g l Q := iq_w_ok (cuts := []) 8 0 _ _ _ _ H

-- java/lang/String.isLatin1()Z at 0
set_option maxRecDepth 20000 in
theorem B67_1000013 {N : Nat} {xs : Nat → Int32} {Q : iq_T} (g : iq_I) (l : iq_J) (H : Q (some (iq_i 1)) g l) :
    iq_P N xs 67 0 [some (iq_r 1000013)] [] g l Q := iq_w_ok (cuts := []) 8 0 _ _ _ _ H

-- java/lang/String.isLatin1()Z at 0
set_option maxRecDepth 20000 in
theorem B67_1000014 {N : Nat} {xs : Nat → Int32} {Q : iq_T} (g : iq_I) (l : iq_J) (H : Q (some (iq_i 1)) g l) :
    iq_P N xs 67 0 [some (iq_r 1000014)] [] g l Q := iq_w_ok (cuts := []) 8 0 _ _ _ _ H

-- java/lang/String.isLatin1()Z at 0
set_option maxRecDepth 20000 in
theorem B67_1000015 {N : Nat} {xs : Nat → Int32} {Q : iq_T} (g : iq_I) (l : iq_J) (H : Q (some (iq_i 1)) g l) :
    iq_P N xs 67 0 [some (iq_r 1000015)] [] g l Q := iq_w_ok (cuts := []) 8 0 _ _ _ _ H

-- java/lang/String.isLatin1()Z at 0
set_option maxRecDepth 20000 in
theorem B67_1000016 {N : Nat} {xs : Nat → Int32} {Q : iq_T} (g : iq_I) (l : iq_J) (H : Q (some (iq_i 1)) g l) :
    iq_P N xs 67 0 [some (iq_r 1000016)] [] g l Q := iq_w_ok (cuts := []) 8 0 _ _ _ _ H

-- java/lang/String.isLatin1()Z at 0
set_option maxRecDepth 20000 in
theorem B67_1000017 {N : Nat} {xs : Nat → Int32} {Q : iq_T} (g : iq_I) (l : iq_J) (H : Q (some (iq_i 1)) g l) :
    iq_P N xs 67 0 [some (iq_r 1000017)] [] g l Q := iq_w_ok (cuts := []) 8 0 _ _ _ _ H

-- java/lang/String.isLatin1()Z at 0
set_option maxRecDepth 20000 in
theorem B67_1000018 {N : Nat} {xs : Nat → Int32} {Q : iq_T} (g : iq_I) (l : iq_J) (H : Q (some (iq_i 1)) g l) :
    iq_P N xs 67 0 [some (iq_r 1000018)] [] g l Q := iq_w_ok (cuts := []) 8 0 _ _ _ _ H

-- java/lang/String.isLatin1()Z at 0
set_option maxRecDepth 20000 in
theorem B67_1000019 {N : Nat} {xs : Nat → Int32} {Q : iq_T} (g : iq_I) (l : iq_J) (H : Q (some (iq_i 1)) g l) :
    iq_P N xs 67 0 [some (iq_r 1000019)] [] g l Q := iq_w_ok (cuts := []) 8 0 _ _ _ _ H

-- java/lang/String.isLatin1()Z at 0
set_option maxRecDepth 20000 in
theorem B67_1000020 {N : Nat} {xs : Nat → Int32} {Q : iq_T} (g : iq_I) (l : iq_J) (H : Q (some (iq_i 1)) g l) :
    iq_P N xs 67 0 [some (iq_r 1000020)] [] g l Q := iq_w_ok (cuts := []) 8 0 _ _ _ _ H

-- java/lang/String.isLatin1()Z at 0
set_option maxRecDepth 20000 in
theorem B67_1000021 {N : Nat} {xs : Nat → Int32} {Q : iq_T} (g : iq_I) (l : iq_J) (H : Q (some (iq_i 1)) g l) :
    iq_P N xs 67 0 [some (iq_r 1000021)] [] g l Q := iq_w_ok (cuts := []) 8 0 _ _ _ _ H

-- java/lang/String.isLatin1()Z at 0
set_option maxRecDepth 20000 in
theorem B67_1000022 {N : Nat} {xs : Nat → Int32} {Q : iq_T} (g : iq_I) (l : iq_J) (H : Q (some (iq_i 1)) g l) :
    iq_P N xs 67 0 [some (iq_r 1000022)] [] g l Q := iq_w_ok (cuts := []) 8 0 _ _ _ _ H

-- java/lang/String.isLatin1()Z at 0
set_option maxRecDepth 20000 in
theorem B67_1000023 {N : Nat} {xs : Nat → Int32} {Q : iq_T} (g : iq_I) (l : iq_J) (H : Q (some (iq_i 1)) g l) :
    iq_P N xs 67 0 [some (iq_r 1000023)] [] g l Q := iq_w_ok (cuts := []) 8 0 _ _ _ _ H

-- java/lang/String.isLatin1()Z at 0
set_option maxRecDepth 20000 in
theorem B67_1000024 {N : Nat} {xs : Nat → Int32} {Q : iq_T} (g : iq_I) (l : iq_J) (H : Q (some (iq_i 1)) g l) :
    iq_P N xs 67 0 [some (iq_r 1000024)] [] g l Q := iq_w_ok (cuts := []) 8 0 _ _ _ _ H

-- java/lang/String.isLatin1()Z at 0
set_option maxRecDepth 20000 in
theorem B67_1000025 {N : Nat} {xs : Nat → Int32} {Q : iq_T} (g : iq_I) (l : iq_J) (H : Q (some (iq_i 1)) g l) :
    iq_P N xs 67 0 [some (iq_r 1000025)] [] g l Q := iq_w_ok (cuts := []) 8 0 _ _ _ _ H

-- java/lang/String.isLatin1()Z at 0
set_option maxRecDepth 20000 in
theorem B67_1000026 {N : Nat} {xs : Nat → Int32} {Q : iq_T} (g : iq_I) (l : iq_J) (H : Q (some (iq_i 1)) g l) :
    iq_P N xs 67 0 [some (iq_r 1000026)] [] g l Q := iq_w_ok (cuts := []) 8 0 _ _ _ _ H

-- java/lang/String.isLatin1()Z at 0
set_option maxRecDepth 20000 in
theorem B67_1000027 {N : Nat} {xs : Nat → Int32} {Q : iq_T} (g : iq_I) (l : iq_J) (H : Q (some (iq_i 1)) g l) :
    iq_P N xs 67 0 [some (iq_r 1000027)] [] g l Q := iq_w_ok (cuts := []) 8 0 _ _ _ _ H

-- java/lang/String.isLatin1()Z at 0
set_option maxRecDepth 20000 in
theorem B67_1000028 {N : Nat} {xs : Nat → Int32} {Q : iq_T} (g : iq_I) (l : iq_J) (H : Q (some (iq_i 1)) g l) :
    iq_P N xs 67 0 [some (iq_r 1000028)] [] g l Q := iq_w_ok (cuts := []) 8 0 _ _ _ _ H

-- java/lang/String.isLatin1()Z at 0
set_option maxRecDepth 20000 in
theorem B67_1000029 {N : Nat} {xs : Nat → Int32} {Q : iq_T} (g : iq_I) (l : iq_J) (H : Q (some (iq_i 1)) g l) :
    iq_P N xs 67 0 [some (iq_r 1000029)] [] g l Q := iq_w_ok (cuts := []) 8 0 _ _ _ _ H

-- java/lang/String.isLatin1()Z at 0
set_option maxRecDepth 20000 in
theorem B67_1000030 {N : Nat} {xs : Nat → Int32} {Q : iq_T} (g : iq_I) (l : iq_J) (H : Q (some (iq_i 1)) g l) :
    iq_P N xs 67 0 [some (iq_r 1000030)] [] g l Q := iq_w_ok (cuts := []) 8 0 _ _ _ _ H

-- java/lang/String.isLatin1()Z at 0
set_option maxRecDepth 20000 in
theorem B67_1000031 {N : Nat} {xs : Nat → Int32} {Q : iq_T} (g : iq_I) (l : iq_J) (H : Q (some (iq_i 1)) g l) :
    iq_P N xs 67 0 [some (iq_r 1000031)] [] g l Q := iq_w_ok (cuts := []) 8 0 _ _ _ _ H

-- java/lang/String.isLatin1()Z at 0
set_option maxRecDepth 20000 in
theorem B67_1000032 {N : Nat} {xs : Nat → Int32} {Q : iq_T} (g : iq_I) (l : iq_J) (H : Q (some (iq_i 1)) g l) :
    iq_P N xs 67 0 [some (iq_r 1000032)] [] g l Q := iq_w_ok (cuts := []) 8 0 _ _ _ _ H

-- java/lang/String.isLatin1()Z at 0
set_option maxRecDepth 20000 in
theorem B67_1000033 {N : Nat} {xs : Nat → Int32} {Q : iq_T} (g : iq_I) (l : iq_J) (H : Q (some (iq_i 1)) g l) :
    iq_P N xs 67 0 [some (iq_r 1000033)] [] g l Q := iq_w_ok (cuts := []) 8 0 _ _ _ _ H

-- java/lang/String.checkIndex(II)V at 0
set_option maxRecDepth 20000 in
theorem B69 {N : Nat} {xs : Nat → Int32} {Q : iq_T} (a0 : Int) (a1 : Int) (g : iq_I) (l : iq_J) (H : iq_P N xs 68 0 [some (iq_i a0), some (iq_i a1), some (iq_r 1999999)] [] g l (fun r g1 l2 => ∃ z3, r = some (iq_i z3) ∧ (Q (none) g1 l2))) :
    iq_P N xs 69 0 [some (iq_i a0), some (iq_i a1)] [] g l Q := iq_w_ok (cuts := []) 6 0 _ _ _ _ H

-- java/lang/StringLatin1.charAt([BI)C at 0
set_option maxRecDepth 20000 in
theorem B70_1000060 {N : Nat} {xs : Nat → Int32} {Q : iq_T} (a0 : Int) (g : iq_I) (l : iq_J) (H : iq_P N xs 69 0 [some (iq_i a0), some (iq_i 4)] [] g l (fun r g1 l2 => r = none ∧ ((0 ≤ a0 ∧ a0 < 4 ∧ a0 ≤ 65536) ∧ ((0 ≤ (iq_i2c (iq_and (((ij_sb.getD 0 []).getD (Int.toNat a0) 0).toInt) 255)) ∧ (iq_i2c (iq_and (((ij_sb.getD 0 []).getD (Int.toNat a0) 0).toInt) 255)) ≤ 65535) ∧ Q (some (iq_i (iq_i2c (iq_and (((ij_sb.getD 0 []).getD (Int.toNat a0) 0).toInt) 255)))) g1 l2)))) :
    iq_P N xs 70 0 [some (iq_r 1000060), some (iq_i a0)] [] g l Q := iq_w_ok (cuts := []) 11 0 _ _ _ _ H

-- java/lang/StringLatin1.charAt([BI)C at 0
set_option maxRecDepth 20000 in
theorem B70_1000061 {N : Nat} {xs : Nat → Int32} {Q : iq_T} (a0 : Int) (g : iq_I) (l : iq_J) (H : iq_P N xs 69 0 [some (iq_i a0), some (iq_i 6)] [] g l (fun r g1 l2 => r = none ∧ ((0 ≤ a0 ∧ a0 < 6 ∧ a0 ≤ 65536) ∧ ((0 ≤ (iq_i2c (iq_and (((ij_sb.getD 1 []).getD (Int.toNat a0) 0).toInt) 255)) ∧ (iq_i2c (iq_and (((ij_sb.getD 1 []).getD (Int.toNat a0) 0).toInt) 255)) ≤ 65535) ∧ Q (some (iq_i (iq_i2c (iq_and (((ij_sb.getD 1 []).getD (Int.toNat a0) 0).toInt) 255)))) g1 l2)))) :
    iq_P N xs 70 0 [some (iq_r 1000061), some (iq_i a0)] [] g l Q := iq_w_ok (cuts := []) 11 0 _ _ _ _ H

-- java/lang/StringLatin1.charAt([BI)C at 0
set_option maxRecDepth 20000 in
theorem B70_1000062 {N : Nat} {xs : Nat → Int32} {Q : iq_T} (a0 : Int) (g : iq_I) (l : iq_J) (H : iq_P N xs 69 0 [some (iq_i a0), some (iq_i 9)] [] g l (fun r g1 l2 => r = none ∧ ((0 ≤ a0 ∧ a0 < 9 ∧ a0 ≤ 65536) ∧ ((0 ≤ (iq_i2c (iq_and (((ij_sb.getD 2 []).getD (Int.toNat a0) 0).toInt) 255)) ∧ (iq_i2c (iq_and (((ij_sb.getD 2 []).getD (Int.toNat a0) 0).toInt) 255)) ≤ 65535) ∧ Q (some (iq_i (iq_i2c (iq_and (((ij_sb.getD 2 []).getD (Int.toNat a0) 0).toInt) 255)))) g1 l2)))) :
    iq_P N xs 70 0 [some (iq_r 1000062), some (iq_i a0)] [] g l Q := iq_w_ok (cuts := []) 11 0 _ _ _ _ H

-- java/lang/StringLatin1.charAt([BI)C at 0
set_option maxRecDepth 20000 in
theorem B70_1000063 {N : Nat} {xs : Nat → Int32} {Q : iq_T} (a0 : Int) (g : iq_I) (l : iq_J) (H : iq_P N xs 69 0 [some (iq_i a0), some (iq_i 6)] [] g l (fun r g1 l2 => r = none ∧ ((0 ≤ a0 ∧ a0 < 6 ∧ a0 ≤ 65536) ∧ ((0 ≤ (iq_i2c (iq_and (((ij_sb.getD 3 []).getD (Int.toNat a0) 0).toInt) 255)) ∧ (iq_i2c (iq_and (((ij_sb.getD 3 []).getD (Int.toNat a0) 0).toInt) 255)) ≤ 65535) ∧ Q (some (iq_i (iq_i2c (iq_and (((ij_sb.getD 3 []).getD (Int.toNat a0) 0).toInt) 255)))) g1 l2)))) :
    iq_P N xs 70 0 [some (iq_r 1000063), some (iq_i a0)] [] g l Q := iq_w_ok (cuts := []) 11 0 _ _ _ _ H

-- java/lang/StringLatin1.charAt([BI)C at 0
set_option maxRecDepth 20000 in
theorem B70_1000064 {N : Nat} {xs : Nat → Int32} {Q : iq_T} (a0 : Int) (g : iq_I) (l : iq_J) (H : iq_P N xs 69 0 [some (iq_i a0), some (iq_i 4)] [] g l (fun r g1 l2 => r = none ∧ ((0 ≤ a0 ∧ a0 < 4 ∧ a0 ≤ 65536) ∧ ((0 ≤ (iq_i2c (iq_and (((ij_sb.getD 4 []).getD (Int.toNat a0) 0).toInt) 255)) ∧ (iq_i2c (iq_and (((ij_sb.getD 4 []).getD (Int.toNat a0) 0).toInt) 255)) ≤ 65535) ∧ Q (some (iq_i (iq_i2c (iq_and (((ij_sb.getD 4 []).getD (Int.toNat a0) 0).toInt) 255)))) g1 l2)))) :
    iq_P N xs 70 0 [some (iq_r 1000064), some (iq_i a0)] [] g l Q := iq_w_ok (cuts := []) 11 0 _ _ _ _ H

-- java/lang/StringLatin1.charAt([BI)C at 0
set_option maxRecDepth 20000 in
theorem B70_1000065 {N : Nat} {xs : Nat → Int32} {Q : iq_T} (a0 : Int) (g : iq_I) (l : iq_J) (H : iq_P N xs 69 0 [some (iq_i a0), some (iq_i 4)] [] g l (fun r g1 l2 => r = none ∧ ((0 ≤ a0 ∧ a0 < 4 ∧ a0 ≤ 65536) ∧ ((0 ≤ (iq_i2c (iq_and (((ij_sb.getD 5 []).getD (Int.toNat a0) 0).toInt) 255)) ∧ (iq_i2c (iq_and (((ij_sb.getD 5 []).getD (Int.toNat a0) 0).toInt) 255)) ≤ 65535) ∧ Q (some (iq_i (iq_i2c (iq_and (((ij_sb.getD 5 []).getD (Int.toNat a0) 0).toInt) 255)))) g1 l2)))) :
    iq_P N xs 70 0 [some (iq_r 1000065), some (iq_i a0)] [] g l Q := iq_w_ok (cuts := []) 11 0 _ _ _ _ H

-- java/lang/StringLatin1.charAt([BI)C at 0
set_option maxRecDepth 20000 in
theorem B70_1000066 {N : Nat} {xs : Nat → Int32} {Q : iq_T} (a0 : Int) (g : iq_I) (l : iq_J) (H : iq_P N xs 69 0 [some (iq_i a0), some (iq_i 8)] [] g l (fun r g1 l2 => r = none ∧ ((0 ≤ a0 ∧ a0 < 8 ∧ a0 ≤ 65536) ∧ ((0 ≤ (iq_i2c (iq_and (((ij_sb.getD 6 []).getD (Int.toNat a0) 0).toInt) 255)) ∧ (iq_i2c (iq_and (((ij_sb.getD 6 []).getD (Int.toNat a0) 0).toInt) 255)) ≤ 65535) ∧ Q (some (iq_i (iq_i2c (iq_and (((ij_sb.getD 6 []).getD (Int.toNat a0) 0).toInt) 255)))) g1 l2)))) :
    iq_P N xs 70 0 [some (iq_r 1000066), some (iq_i a0)] [] g l Q := iq_w_ok (cuts := []) 11 0 _ _ _ _ H

-- java/lang/StringLatin1.charAt([BI)C at 0
set_option maxRecDepth 20000 in
theorem B70_1000067 {N : Nat} {xs : Nat → Int32} {Q : iq_T} (a0 : Int) (g : iq_I) (l : iq_J) (H : iq_P N xs 69 0 [some (iq_i a0), some (iq_i 5)] [] g l (fun r g1 l2 => r = none ∧ ((0 ≤ a0 ∧ a0 < 5 ∧ a0 ≤ 65536) ∧ ((0 ≤ (iq_i2c (iq_and (((ij_sb.getD 7 []).getD (Int.toNat a0) 0).toInt) 255)) ∧ (iq_i2c (iq_and (((ij_sb.getD 7 []).getD (Int.toNat a0) 0).toInt) 255)) ≤ 65535) ∧ Q (some (iq_i (iq_i2c (iq_and (((ij_sb.getD 7 []).getD (Int.toNat a0) 0).toInt) 255)))) g1 l2)))) :
    iq_P N xs 70 0 [some (iq_r 1000067), some (iq_i a0)] [] g l Q := iq_w_ok (cuts := []) 11 0 _ _ _ _ H

-- java/lang/StringLatin1.charAt([BI)C at 0
set_option maxRecDepth 20000 in
theorem B70_1000068 {N : Nat} {xs : Nat → Int32} {Q : iq_T} (a0 : Int) (g : iq_I) (l : iq_J) (H : iq_P N xs 69 0 [some (iq_i a0), some (iq_i 2)] [] g l (fun r g1 l2 => r = none ∧ ((0 ≤ a0 ∧ a0 < 2 ∧ a0 ≤ 65536) ∧ ((0 ≤ (iq_i2c (iq_and (((ij_sb.getD 8 []).getD (Int.toNat a0) 0).toInt) 255)) ∧ (iq_i2c (iq_and (((ij_sb.getD 8 []).getD (Int.toNat a0) 0).toInt) 255)) ≤ 65535) ∧ Q (some (iq_i (iq_i2c (iq_and (((ij_sb.getD 8 []).getD (Int.toNat a0) 0).toInt) 255)))) g1 l2)))) :
    iq_P N xs 70 0 [some (iq_r 1000068), some (iq_i a0)] [] g l Q := iq_w_ok (cuts := []) 11 0 _ _ _ _ H

-- java/lang/StringLatin1.charAt([BI)C at 0
set_option maxRecDepth 20000 in
theorem B70_1000069 {N : Nat} {xs : Nat → Int32} {Q : iq_T} (a0 : Int) (g : iq_I) (l : iq_J) (H : iq_P N xs 69 0 [some (iq_i a0), some (iq_i 6)] [] g l (fun r g1 l2 => r = none ∧ ((0 ≤ a0 ∧ a0 < 6 ∧ a0 ≤ 65536) ∧ ((0 ≤ (iq_i2c (iq_and (((ij_sb.getD 9 []).getD (Int.toNat a0) 0).toInt) 255)) ∧ (iq_i2c (iq_and (((ij_sb.getD 9 []).getD (Int.toNat a0) 0).toInt) 255)) ≤ 65535) ∧ Q (some (iq_i (iq_i2c (iq_and (((ij_sb.getD 9 []).getD (Int.toNat a0) 0).toInt) 255)))) g1 l2)))) :
    iq_P N xs 70 0 [some (iq_r 1000069), some (iq_i a0)] [] g l Q := iq_w_ok (cuts := []) 11 0 _ _ _ _ H
