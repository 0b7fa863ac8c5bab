/-! What must hold that a stretch of a method ends well: methods 183 to 231. -/
-- ScaleForge.lift(I)I at 0
set_option maxRecDepth 20000 in
theorem B183_0 {N : Nat} {xs : Nat → Int32} {Q : iq_T} (a0 : Int) (g : iq_I) (l : iq_J) (H : iq_P N xs 77 0 [some (iq_r 23), some (iq_i a0)] [] g l (fun r g1 l2 => ∃ z3, r = some (iq_i z3) ∧ ((-2147483648 ≤ z3 ∧ z3 ≤ 2147483647) ∧
      (¬ z3 = (0 : Int) → (iq_P N xs 182 0 [some (iq_r 23), some (iq_i a0)] [] g1 l2 (fun r g4 l5 => ∃ z6, r = some (iq_i z6) ∧ ((-2147483648 ≤ z6 ∧ z6 ≤ 2147483647) ∧
          (z6 = (0 : Int) → (iq_P N xs 44 0 [some (iq_r 0), some (iq_i 7)] [] g4 l5 (fun r g7 l8 => ∃ z9, r = some (iq_i z9) ∧ (Q (some (iq_i z9)) g7 l8)))) ∧
          (¬ z6 = (0 : Int) → (iq_P N xs 88 0 [some (iq_l (l5 23 3)), none] [] g4 l5 (fun r g10 l11 => ∃ z12, r = some (iq_i z12) ∧ (iq_P N xs 90 0 [some (iq_r 0), some (iq_i z12)] [] g10 l11 (fun r g13 l14 => ∃ z15, r = some (iq_i z15) ∧ (Q (some (iq_i z15)) g13 l14)))))))))) ∧
      (z3 = (0 : Int) → (iq_P N xs 44 0 [some (iq_r 0), some (iq_i 1)] [] g1 l2 (fun r g16 l17 => ∃ z18, r = some (iq_i z18) ∧ (Q (some (iq_i z18)) g16 l17))))))) :
    iq_P N xs 183 0 [some (iq_r 0), some (iq_i a0)] [] g l Q := iq_w_ok (cuts := []) 18 0 _ _ _ _ H

-- ScaleForgeModel.lifts(I)Z at 0
set_option maxRecDepth 20000 in
theorem B184_77 {N : Nat} {xs : Nat → Int32} {Q : iq_T} (a0 : Int) (g : iq_I) (l : iq_J) (H : iq_P N xs 158 0 [some (iq_r 77), some (iq_i a0)] [] g l (fun r g1 l2 => ∃ z3, r = some (iq_i z3) ∧ ((-2147483648 ≤ z3 ∧ z3 ≤ 2147483647) ∧
      (z3 = (0 : Int) → (Q (some (iq_i 0)) g1 l2)) ∧
      (¬ z3 = (0 : Int) → (iq_P N xs 143 0 [some (iq_r 77), some (iq_i a0)] [] g1 l2 (fun r g4 l5 => ∃ z6, r = some (iq_i z6) ∧ ((-2147483648 ≤ z6 ∧ z6 ≤ 2147483647) ∧
          (¬ z6 = (0 : Int) → ((0 ≤ (20 + a0) ∧ (20 + a0) < 2392) ∧ (Q (some (iq_i 1)) (iq_uz g4 78 (20 + a0) 0) l5))) ∧
          (z6 = (0 : Int) → (Q (some (iq_i 0)) g4 l5))))))))) :
    iq_P N xs 184 0 [some (iq_r 77), some (iq_i a0)] [] g l Q := iq_w_ok (cuts := []) 17 0 _ _ _ _ H

-- ScaleForgeModel.lift(I)I at 0
set_option maxRecDepth 20000 in
theorem B185_77 {N : Nat} {xs : Nat → Int32} {Q : iq_T} (a0 : Int) (g : iq_I) (l : iq_J) (H : iq_P N xs 158 0 [some (iq_r 77), some (iq_i a0)] [] g l (fun r g1 l2 => ∃ z3, r = some (iq_i z3) ∧ ((-2147483648 ≤ z3 ∧ z3 ≤ 2147483647) ∧
      (¬ z3 = (0 : Int) → (iq_P N xs 184 0 [some (iq_r 77), some (iq_i a0)] [] g1 l2 (fun r g4 l5 => ∃ z6, r = some (iq_i z6) ∧ ((-2147483648 ≤ z6 ∧ z6 ≤ 2147483647) ∧
          (z6 = (0 : Int) → (iq_P N xs 98 0 [some (iq_r 77), some (iq_i 7)] [] g4 l5 (fun r g7 l8 => ∃ z9, r = some (iq_i z9) ∧ (Q (some (iq_i z9)) g7 l8)))) ∧
          (¬ z6 = (0 : Int) → (iq_P N xs 144 0 [some (iq_r 77), none, none] [] g4 l5 (fun r g10 l11 => ∃ z12, r = some (iq_i z12) ∧ (iq_P N xs 115 0 [some (iq_r 77), some (iq_i z12)] [] g10 l11 (fun r g13 l14 => ∃ z15, r = some (iq_i z15) ∧ (Q (some (iq_i z15)) g13 l14)))))))))) ∧
      (z3 = (0 : Int) → (iq_P N xs 98 0 [some (iq_r 77), some (iq_i 1)] [] g1 l2 (fun r g16 l17 => ∃ z18, r = some (iq_i z18) ∧ (Q (some (iq_i z18)) g16 l17))))))) :
    iq_P N xs 185 0 [some (iq_r 77), some (iq_i a0)] [] g l Q := iq_w_ok (cuts := []) 14 0 _ _ _ _ H

-- ScaleForge.sift()I at 0
set_option maxRecDepth 20000 in
theorem B186_0 {N : Nat} {xs : Nat → Int32} {Q : iq_T} (g : iq_I) (l : iq_J) (H : iq_P N xs 88 0 [some (iq_l (l 23 3)), none] [] g l (fun r g1 l2 => ∃ z3, r = some (iq_i z3) ∧ (iq_P N xs 88 0 [some (iq_l ((l2 23 3) &&& (l2 23 4))), none] [] g1 (iq_uz l2 23 3 ((l2 23 3) &&& (l2 23 4))) (fun r g4 l5 => ∃ z6, r = some (iq_i z6) ∧ (iq_P N xs 90 0 [some (iq_r 0), some (iq_i (z3 - z6))] [] g4 l5 (fun r g7 l8 => ∃ z9, r = some (iq_i z9) ∧ (Q (some (iq_i z9)) g7 l8))))))) :
    iq_P N xs 186 0 [some (iq_r 0), none] [] g l Q := iq_w_ok (cuts := []) 23 0 _ _ _ _ H

-- ScaleForgeModel.sift()I at 0
set_option maxRecDepth 20000 in
theorem B187_77 {N : Nat} {xs : Nat → Int32} {Q : iq_T} (g : iq_I) (l : iq_J) (H : iq_P N xs 114 0 [some (iq_r 77)] [] g l (fun r g1 l2 => r = none ∧ (iq_P N xs 187 8 [some (iq_r 77), some (iq_i 0), some (iq_i 0)] [] g1 l2 Q))) :
    iq_P N xs 187 0 [some (iq_r 77), none, none] [] g l Q := iq_w_ok (cuts := [8]) 6 0 _ _ _ _ H

-- ScaleForgeModel.sift()I at 8
set_option maxRecDepth 20000 in
theorem B187_p8_77 {N : Nat} {xs : Nat → Int32} {Q : iq_T} (v1 : Int) (v2 : Int) (g : iq_I) (l : iq_J) (H : (-2147483648 ≤ v2 ∧ v2 ≤ 2147483647 ∧ -2147483648 ≤ (g 78 1) ∧ (g 78 1) ≤ 2147483647) ∧
    ((g 78 1) ≤ v2 → (iq_P N xs 115 0 [some (iq_r 77), some (iq_i v1)] [] g l (fun r g1 l2 => ∃ z3, r = some (iq_i z3) ∧ (Q (some (iq_i z3)) g1 l2)))) ∧
    (v2 < (g 78 1) → ((0 ≤ v2 ∧ v2 < 60) ∧ ((-2147483648 ≤ (g 87 v2) ∧ (g 87 v2) ≤ 2147483647) ∧
      (¬ (g 87 v2) = (-1 : Int) → (iq_P N xs 187 8 [some (iq_r 77), some (iq_i (v1 + 0)), some (iq_i (v2 + 1))] [] g l Q)) ∧
      ((g 87 v2) = (-1 : Int) → (iq_P N xs 184 0 [some (iq_r 77), some (iq_i v2)] [] g l (fun r g4 l5 => ∃ z6, r = some (iq_i z6) ∧ ((-2147483648 ≤ z6 ∧ z6 ≤ 2147483647) ∧
          (z6 = (0 : Int) → (iq_P N xs 187 8 [some (iq_r 77), some (iq_i (v1 + 0)), some (iq_i (v2 + 1))] [] g4 l5 Q)) ∧
          (¬ z6 = (0 : Int) → (iq_P N xs 187 8 [some (iq_r 77), some (iq_i (v1 + 1)), some (iq_i (v2 + 1))] [] g4 l5 Q)))))))))) :
    iq_P N xs 187 8 [some (iq_r 77), some (iq_i v1), some (iq_i v2)] [] g l Q := iq_w_ok (cuts := [8]) 23 8 _ _ _ _ H

-- ScaleForge$Bits.turn(JII)J at 0
set_option maxRecDepth 20000 in
theorem B188 {N : Nat} {xs : Nat → Int32} {Q : iq_T} (a0 : Int64) (a1 : Int) (a2 : Int) (g : iq_I) (l : iq_J) (H : iq_P N xs 7 0 [some (iq_i a2)] [] g l (fun r g1 l2 => ∃ x3, r = some (iq_l x3) ∧ (Q (some (iq_l (((iq_lsl a0 a1) ||| (iq_lsr a0 (a2 - a1))) &&& x3))) g1 l2))) :
    iq_P N xs 188 0 [some (iq_l a0), none, some (iq_i a1), some (iq_i a2)] [] g l Q := iq_w_ok (cuts := []) 13 0 _ _ _ _ H

-- ScaleForge$Scale.fitting()I at 0
set_option maxRecDepth 20000 in
theorem B189_23 {N : Nat} {xs : Nat → Int32} {Q : iq_T} (g : iq_I) (l : iq_J) (H : iq_P N xs 88 0 [some (iq_l ((l 23 3) &&& (l 23 4))), none] [] g l (fun r g1 l2 => ∃ z3, r = some (iq_i z3) ∧ (Q (some (iq_i z3)) g1 l2))) :
    iq_P N xs 189 0 [some (iq_r 23)] [] g l Q := iq_w_ok (cuts := []) 7 0 _ _ _ _ H

-- ScaleForge$Scale.fitting()I at 0
set_option maxRecDepth 20000 in
theorem B189_44 {N : Nat} {xs : Nat → Int32} {Q : iq_T} (g : iq_I) (l : iq_J) (H : iq_P N xs 88 0 [some (iq_l ((l 44 3) &&& (l 44 4))), none] [] g l (fun r g1 l2 => ∃ z3, r = some (iq_i z3) ∧ (Q (some (iq_i z3)) g1 l2))) :
    iq_P N xs 189 0 [some (iq_r 44)] [] g l Q := iq_w_ok (cuts := []) 7 0 _ _ _ _ H

-- ScaleForge.glide(I)I at 0
set_option maxRecDepth 20000 in
theorem B190_0 {N : Nat} {xs : Nat → Int32} {Q : iq_T} (a0 : Int) (g : iq_I) (l : iq_J) (H : (-2147483648 ≤ a0 ∧ a0 ≤ 2147483647) ∧
    (a0 < (0 : Int) → (iq_P N xs 44 0 [some (iq_r 0), some (iq_i 1)] [] g l (fun r g1 l2 => ∃ z3, r = some (iq_i z3) ∧ (Q (some (iq_i z3)) g1 l2)))) ∧
    ((0 : Int) ≤ a0 → ((-2147483648 ≤ a0 ∧ a0 ≤ 2147483647) ∧
      (a0 < (60 : Int) → (iq_P N xs 5 0 [some (iq_r 23), some (iq_i a0), none] [] g l (fun r g4 l5 => ∃ z6, r = some (iq_i z6) ∧ (iq_P N xs 80 0 [some (iq_r 23)] [] g4 l5 (fun r g7 l8 => ∃ z9, r = some (iq_i z9) ∧ (iq_P N xs 188 0 [some (iq_l (l 23 3)), none, some (iq_i z6), some (iq_i z9)] [] g7 l8 (fun r g10 l11 => ∃ x12, r = some (iq_l x12) ∧ (iq_P N xs 189 0 [some (iq_r 23)] [] g10 (iq_uz l11 23 3 x12) (fun r g13 l14 => ∃ z15, r = some (iq_i z15) ∧ (iq_P N xs 90 0 [some (iq_r 0), some (iq_i z15)] [] g13 l14 (fun r g16 l17 => ∃ z18, r = some (iq_i z18) ∧ (Q (some (iq_i z18)) g16 l17)))))))))))) ∧
      ((60 : Int) ≤ a0 → (iq_P N xs 44 0 [some (iq_r 0), some (iq_i 1)] [] g l (fun r g19 l20 => ∃ z21, r = some (iq_i z21) ∧ (Q (some (iq_i z21)) g19 l20))))))) :
    iq_P N xs 190 0 [some (iq_r 0), some (iq_i a0)] [] g l Q := iq_w_ok (cuts := []) 25 0 _ _ _ _ H

-- ScaleForgeModel.keeps(I)V at 0
set_option maxRecDepth 20000 in
theorem B191_77 {N : Nat} {xs : Nat → Int32} {Q : iq_T} (a0 : Int) (g : iq_I) (l : iq_J) (H : iq_P N xs 191 2 [some (iq_r 77), some (iq_i a0), some (iq_i 0)] [] g l Q) :
    iq_P N xs 191 0 [some (iq_r 77), some (iq_i a0), none] [] g l Q := iq_w_ok (cuts := [2]) 2 0 _ _ _ _ H

-- ScaleForgeModel.keeps(I)V at 2
set_option maxRecDepth 20000 in
theorem B191_p2_77 {N : Nat} {xs : Nat → Int32} {Q : iq_T} (v1 : Int) (v2 : Int) (g : iq_I) (l : iq_J) (H : (-2147483648 ≤ v2 ∧ v2 ≤ 2147483647) ∧
    ((92 : Int) ≤ v2 → (Q (none) g l)) ∧
    (v2 < (92 : Int) → ((0 ≤ v2 ∧ v2 < 2392) ∧ ((0 ≤ (v1 + v2) ∧ (v1 + v2) < 2392) ∧ (iq_P N xs 191 2 [some (iq_r 77), some (iq_i v1), some (iq_i (v2 + 1))] [] (iq_uz g 78 (v1 + v2) (g 78 v2)) l Q))))) :
    iq_P N xs 191 2 [some (iq_r 77), some (iq_i v1), some (iq_i v2)] [] g l Q := iq_w_ok (cuts := [2]) 15 2 _ _ _ _ H

-- ScaleForgeModel.laysChain(II)V at 0
set_option maxRecDepth 20000 in
theorem B192_77 {N : Nat} {xs : Nat → Int32} {Q : iq_T} (a0 : Int) (a1 : Int) (g : iq_I) (l : iq_J) (H : iq_P N xs 192 10 [some (iq_r 77), some (iq_i a0), some (iq_i a1), some (iq_i (g 78 5)), some (iq_i 0)] [] g l Q) :
    iq_P N xs 192 0 [some (iq_r 77), some (iq_i a0), some (iq_i a1), none, none] [] g l Q := iq_w_ok (cuts := [10, 41]) 7 0 _ _ _ _ H

-- ScaleForgeModel.laysChain(II)V at 10
set_option maxRecDepth 20000 in
theorem B192_p10_77 {N : Nat} {xs : Nat → Int32} {Q : iq_T} (v1 : Int) (v2 : Int) (v3 : Int) (v4 : Int) (g : iq_I) (l : iq_J) (H : (-2147483648 ≤ v4 ∧ v4 ≤ 2147483647) ∧
    ((60 : Int) ≤ v4 → (iq_P N xs 192 41 [some (iq_r 77), some (iq_i v1), some (iq_i v2), some (iq_i v3), some (iq_i 0)] [] (iq_uz g 78 5 v2) l Q)) ∧
    (v4 < (60 : Int) → ((0 ≤ v4 ∧ v4 < 60) ∧ (iq_P N xs 192 10 [some (iq_r 77), some (iq_i v1), some (iq_i v2), some (iq_i v3), some (iq_i (v4 + 1))] [] (iq_uz g 89 v4 0) l Q)))) :
    iq_P N xs 192 10 [some (iq_r 77), some (iq_i v1), some (iq_i v2), some (iq_i v3), some (iq_i v4)] [] g l Q := iq_w_ok (cuts := [10, 41]) 10 10 _ _ _ _ H

-- ScaleForgeModel.laysChain(II)V at 41
set_option maxRecDepth 20000 in
theorem B192_p41_77 {N : Nat} {xs : Nat → Int32} {Q : iq_T} (v1 : Int) (v2 : Int) (v3 : Int) (v4 : Int) (g : iq_I) (l : iq_J) (H : (-2147483648 ≤ v4 ∧ v4 ≤ 2147483647 ∧ -2147483648 ≤ (g 78 3) ∧ (g 78 3) ≤ 2147483647) ∧
    ((g 78 3) ≤ v4 → (Q (none) (iq_uz g 78 5 v3) l)) ∧
    (v4 < (g 78 3) → (iq_P N xs 112 0 [some (iq_r 77), some (iq_i v4), some (iq_i v1)] [] g l (fun r g1 l2 => ∃ z3, r = some (iq_i z3) ∧ ((0 ≤ z3 ∧ z3 < 60) ∧ (iq_P N xs 192 41 [some (iq_r 77), some (iq_i v1), some (iq_i v2), some (iq_i v3), some (iq_i (v4 + 1))] [] (iq_uz g1 89 z3 1) l2 Q)))))) :
    iq_P N xs 192 41 [some (iq_r 77), some (iq_i v1), some (iq_i v2), some (iq_i v3), some (iq_i v4)] [] g l Q := iq_w_ok (cuts := [10, 41]) 16 41 _ _ _ _ H

-- ScaleForgeModel.fitBy()I at 0
set_option maxRecDepth 20000 in
theorem B193_77 {N : Nat} {xs : Nat → Int32} {Q : iq_T} (g : iq_I) (l : iq_J) (H : iq_P N xs 193 4 [some (iq_r 77), some (iq_i 0), some (iq_i 0)] [] g l Q) :
    iq_P N xs 193 0 [some (iq_r 77), none, none] [] g l Q := iq_w_ok (cuts := [4]) 4 0 _ _ _ _ H

-- ScaleForgeModel.fitBy()I at 4
set_option maxRecDepth 20000 in
theorem B193_p4_77 {N : Nat} {xs : Nat → Int32} {Q : iq_T} (v1 : Int) (v2 : Int) (g : iq_I) (l : iq_J) (H : (-2147483648 ≤ v2 ∧ v2 ≤ 2147483647) ∧
    ((60 : Int) ≤ v2 → (Q (some (iq_i v1)) g l)) ∧
    (v2 < (60 : Int) → ((0 ≤ v2 ∧ v2 < 60) ∧ ((-2147483648 ≤ (g 89 v2) ∧ (g 89 v2) ≤ 2147483647) ∧
      ((g 89 v2) = (0 : Int) → (iq_P N xs 193 4 [some (iq_r 77), some (iq_i (v1 + 0)), some (iq_i (v2 + 1))] [] g l Q)) ∧
      (¬ (g 89 v2) = (0 : Int) → (iq_P N xs 143 0 [some (iq_r 77), some (iq_i v2)] [] g l (fun r g1 l2 => ∃ z3, r = some (iq_i z3) ∧ (iq_P N xs 193 4 [some (iq_r 77), some (iq_i (v1 + z3)), some (iq_i (v2 + 1))] [] g1 l2 Q)))))))) :
    iq_P N xs 193 4 [some (iq_r 77), some (iq_i v1), some (iq_i v2)] [] g l Q := iq_w_ok (cuts := [4]) 17 4 _ _ _ _ H

-- ScaleForgeModel.fitNow()I at 0
set_option maxRecDepth 20000 in
theorem B194_77 {N : Nat} {xs : Nat → Int32} {Q : iq_T} (g : iq_I) (l : iq_J) (H : iq_P N xs 192 0 [some (iq_r 77), some (iq_i (g 78 2)), some (iq_i (g 78 5)), none, none] [] g l (fun r g1 l2 => r = none ∧ (iq_P N xs 193 0 [some (iq_r 77), none, none] [] g1 l2 (fun r g3 l4 => ∃ z5, r = some (iq_i z5) ∧ (Q (some (iq_i z5)) g3 l4))))) :
    iq_P N xs 194 0 [some (iq_r 77)] [] g l Q := iq_w_ok (cuts := []) 13 0 _ _ _ _ H

-- ScaleForgeModel.glide(I)I at 0
set_option maxRecDepth 20000 in
theorem B195_77 {N : Nat} {xs : Nat → Int32} {Q : iq_T} (a0 : Int) (g : iq_I) (l : iq_J) (H : iq_P N xs 149 0 [some (iq_l (iq_i2l a0)), none, some (iq_l (0 : Int64)), none, some (iq_l (Int64.ofNat 59)), none] [] g l (fun r g1 l2 => ∃ z3, r = some (iq_i z3) ∧ ((-2147483648 ≤ z3 ∧ z3 ≤ 2147483647) ∧
      (¬ z3 = (0 : Int) → (iq_P N xs 191 0 [some (iq_r 77), some (iq_i 2300), none] [] g1 l2 (fun r g4 l5 => r = none ∧ (iq_P N xs 195 27 [some (iq_r 77), some (iq_i a0), some (iq_i 0)] [] g4 l5 Q)))) ∧
      (z3 = (0 : Int) → (iq_P N xs 98 0 [some (iq_r 77), some (iq_i 1)] [] g1 l2 (fun r g6 l7 => ∃ z8, r = some (iq_i z8) ∧ (Q (some (iq_i z8)) g6 l7))))))) :
    iq_P N xs 195 0 [some (iq_r 77), some (iq_i a0), none] [] g l Q := iq_w_ok (cuts := [27, 51]) 11 0 _ _ _ _ H

-- ScaleForgeModel.glide(I)I at 27
set_option maxRecDepth 20000 in
theorem B195_p27_77 {N : Nat} {xs : Nat → Int32} {Q : iq_T} (v1 : Int) (v2 : Int) (g : iq_I) (l : iq_J) (H : (-2147483648 ≤ v2 ∧ v2 ≤ 2147483647) ∧
    ((60 : Int) ≤ v2 → (iq_P N xs 195 51 [some (iq_r 77), some (iq_i v1), some (iq_i 0)] [] g l Q)) ∧
    (v2 < (60 : Int) → ((0 ≤ (20 + v2) ∧ (20 + v2) < 2392) ∧ (iq_P N xs 195 27 [some (iq_r 77), some (iq_i v1), some (iq_i (v2 + 1))] [] (iq_uz g 78 (20 + v2) 0) l Q)))) :
    iq_P N xs 195 27 [some (iq_r 77), some (iq_i v1), some (iq_i v2)] [] g l Q := iq_w_ok (cuts := [27, 51]) 12 27 _ _ _ _ H

-- ScaleForgeModel.glide(I)I at 51
set_option maxRecDepth 20000 in
theorem B195_p51_77 {N : Nat} {xs : Nat → Int32} {Q : iq_T} (v1 : Int) (v2 : Int) (g : iq_I) (l : iq_J) (H : (-2147483648 ≤ v2 ∧ v2 ≤ 2147483647 ∧ -2147483648 ≤ (g 78 1) ∧ (g 78 1) ≤ 2147483647) ∧
    ((g 78 1) ≤ v2 → (iq_P N xs 194 0 [some (iq_r 77)] [] g l (fun r g1 l2 => ∃ z3, r = some (iq_i z3) ∧ (iq_P N xs 115 0 [some (iq_r 77), some (iq_i z3)] [] g1 l2 (fun r g4 l5 => ∃ z6, r = some (iq_i z6) ∧ (Q (some (iq_i z6)) g4 l5)))))) ∧
    (v2 < (g 78 1) → ((0 ≤ (2320 + v2) ∧ (2320 + v2) < 2392) ∧ ((-2147483648 ≤ (g 78 (2320 + v2)) ∧ (g 78 (2320 + v2)) ≤ 2147483647) ∧
      (¬ (g 78 (2320 + v2)) = (1 : Int) → (iq_P N xs 195 51 [some (iq_r 77), some (iq_i v1), some (iq_i (v2 + 1))] [] g l Q)) ∧
      ((g 78 (2320 + v2)) = (1 : Int) → (iq_P N xs 111 0 [some (iq_i (v2 + v1)), some (iq_i (g 78 1)), none] [] g l (fun r g7 l8 => ∃ z9, r = some (iq_i z9) ∧ ((0 ≤ (20 + z9) ∧ (20 + z9) < 2392) ∧ (iq_P N xs 195 51 [some (iq_r 77), some (iq_i v1), some (iq_i (v2 + 1))] [] (iq_uz g7 78 (20 + z9) 1) l8 Q))))))))) :
    iq_P N xs 195 51 [some (iq_r 77), some (iq_i v1), some (iq_i v2)] [] g l Q := iq_w_ok (cuts := [27, 51]) 30 51 _ _ _ _ H

-- ScaleForge.flip()I at 0
set_option maxRecDepth 20000 in
theorem B196_0 {N : Nat} {xs : Nat → Int32} {Q : iq_T} (g : iq_I) (l : iq_J) (H : iq_P N xs 135 0 [some (iq_r 23), some (iq_i 4)] [] g l (fun r g1 l2 => ∃ z3, r = some (iq_i z3) ∧ (iq_P N xs 135 0 [some (iq_r 23), some (iq_i 3)] [] g1 l2 (fun r g4 l5 => ∃ z6, r = some (iq_i z6) ∧ ((-2147483648 ≤ z3 ∧ z3 ≤ 2147483647 ∧ -2147483648 ≤ z6 ∧ z6 ≤ 2147483647) ∧
        (z3 < z6 → (iq_P N xs 135 0 [some (iq_r 23), some (iq_i 2)] [] g4 l5 (fun r g7 l8 => ∃ z9, r = some (iq_i z9) ∧ (iq_P N xs 5 0 [some (iq_r 23), some (iq_i (-z9)), none] [] g7 l8 (fun r g10 l11 => ∃ z12, r = some (iq_i z12) ∧ (iq_P N xs 83 0 [some (iq_r 23), some (iq_i 2), some (iq_i z12)] [] g10 l11 (fun r g13 l14 => r = none ∧ (iq_P N xs 83 0 [some (iq_r 23), some (iq_i 4), some (iq_i ((z6 - 1) - z3))] [] g13 l14 (fun r g15 l16 => r = none ∧ (iq_P N xs 9 0 [some (iq_r 23), none] [] g15 l16 (fun r g17 l18 => r = none ∧ (iq_P N xs 89 0 [some (iq_r 23)] [] g17 l18 (fun r g19 l20 => ∃ z21, r = some (iq_i z21) ∧ (iq_P N xs 90 0 [some (iq_r 0), some (iq_i z21)] [] g19 l20 (fun r g22 l23 => ∃ z24, r = some (iq_i z24) ∧ (Q (some (iq_i z24)) g22 l23)))))))))))))))) ∧
        (z6 ≤ z3 → (iq_P N xs 44 0 [some (iq_r 0), some (iq_i 7)] [] g4 l5 (fun r g25 l26 => ∃ z27, r = some (iq_i z27) ∧ (Q (some (iq_i z27)) g25 l26))))))))) :
    iq_P N xs 196 0 [some (iq_r 0), none, none] [] g l Q := iq_w_ok (cuts := []) 43 0 _ _ _ _ H

-- ScaleForgeModel.flip()I at 0
set_option maxRecDepth 20000 in
theorem B197_77 {N : Nat} {xs : Nat → Int32} {Q : iq_T} (g : iq_I) (l : iq_J) (H : (-2147483648 ≤ (g 78 4) ∧ (g 78 4) ≤ 2147483647 ∧ -2147483648 ≤ (g 78 3) ∧ (g 78 3) ≤ 2147483647) ∧
    ((g 78 4) < (g 78 3) → (iq_P N xs 111 0 [some (iq_i (-(g 78 2))), some (iq_i (g 78 1)), none] [] g l (fun r g1 l2 => ∃ z3, r = some (iq_i z3) ∧ (iq_P N xs 114 0 [some (iq_r 77)] [] (iq_uz (iq_uz g1 78 2 z3) 78 4 (((g1 78 3) - 1) - (g1 78 4))) l2 (fun r g4 l5 => r = none ∧ (iq_P N xs 115 0 [some (iq_r 77), some (iq_i (g4 77 26))] [] g4 l5 (fun r g6 l7 => ∃ z8, r = some (iq_i z8) ∧ (Q (some (iq_i z8)) g6 l7)))))))) ∧
    ((g 78 3) ≤ (g 78 4) → (iq_P N xs 98 0 [some (iq_r 77), some (iq_i 7)] [] g l (fun r g9 l10 => ∃ z11, r = some (iq_i z11) ∧ (Q (some (iq_i z11)) g9 l10))))) :
    iq_P N xs 197 0 [some (iq_r 77)] [] g l Q := iq_w_ok (cuts := []) 45 0 _ _ _ _ H

-- ScaleForge.soundAt(I)I at 0
set_option maxRecDepth 20000 in
theorem B198_0 {N : Nat} {xs : Nat → Int32} {Q : iq_T} (a0 : Int) (g : iq_I) (l : iq_J) (H : iq_P N xs 166 0 [some (iq_l (l 23 3)), none, some (iq_i a0), none, none] [] g l (fun r g1 l2 => ∃ z3, r = some (iq_i z3) ∧ (iq_P N xs 167 0 [some (iq_r 0), some (iq_i z3)] [] g1 l2 (fun r g4 l5 => ∃ z6, r = some (iq_i z6) ∧ (Q (some (iq_i z6)) g4 l5))))) :
    iq_P N xs 198 0 [some (iq_r 0), some (iq_i a0)] [] g l Q := iq_w_ok (cuts := []) 8 0 _ _ _ _ H

-- ScaleForgeModel.soundAt(I)I at 0
set_option maxRecDepth 20000 in
theorem B199_77 {N : Nat} {xs : Nat → Int32} {Q : iq_T} (a0 : Int) (g : iq_I) (l : iq_J) (H : iq_P N xs 199 4 [some (iq_r 77), some (iq_i a0), some (iq_i 0), some (iq_i 0)] [] g l Q) :
    iq_P N xs 199 0 [some (iq_r 77), some (iq_i a0), none, none] [] g l Q := iq_w_ok (cuts := [4]) 4 0 _ _ _ _ H

-- ScaleForgeModel.soundAt(I)I at 4
set_option maxRecDepth 20000 in
theorem B199_p4_77 {N : Nat} {xs : Nat → Int32} {Q : iq_T} (v1 : Int) (v2 : Int) (v3 : Int) (g : iq_I) (l : iq_J) (H : (-2147483648 ≤ v3 ∧ v3 ≤ 2147483647) ∧
    ((60 : Int) ≤ v3 → (iq_P N xs 98 0 [some (iq_r 77), some (iq_i 6)] [] g l (fun r g1 l2 => ∃ z3, r = some (iq_i z3) ∧ (Q (some (iq_i z3)) g1 l2)))) ∧
    (v3 < (60 : Int) → (iq_P N xs 143 0 [some (iq_r 77), some (iq_i v3)] [] g l (fun r g4 l5 => ∃ z6, r = some (iq_i z6) ∧ ((-2147483648 ≤ z6 ∧ z6 ≤ 2147483647) ∧
        (¬ z6 = (0 : Int) → ((-2147483648 ≤ v2 ∧ v2 ≤ 2147483647 ∧ -2147483648 ≤ v1 ∧ v1 ≤ 2147483647) ∧
          (¬ v2 = v1 → (iq_P N xs 199 4 [some (iq_r 77), some (iq_i v1), some (iq_i (v2 + 1)), some (iq_i (v3 + 1))] [] g4 l5 Q)) ∧
          (v2 = v1 → (iq_P N xs 115 0 [some (iq_r 77), some (iq_i v3)] [] g4 l5 (fun r g7 l8 => ∃ z9, r = some (iq_i z9) ∧ (Q (some (iq_i z9)) g7 l8)))))) ∧
        (z6 = (0 : Int) → (iq_P N xs 199 4 [some (iq_r 77), some (iq_i v1), some (iq_i v2), some (iq_i (v3 + 1))] [] g4 l5 Q))))))) :
    iq_P N xs 199 4 [some (iq_r 77), some (iq_i v1), some (iq_i v2), some (iq_i v3)] [] g l Q := iq_w_ok (cuts := [4]) 14 4 _ _ _ _ H

-- ScaleForge$Scale.pressedAt(I)I at 0
set_option maxRecDepth 20000 in
theorem B200_23 {N : Nat} {xs : Nat → Int32} {Q : iq_T} (a0 : Int) (g : iq_I) (l : iq_J) (H : (-2147483648 ≤ a0 ∧ a0 ≤ 2147483647) ∧
    (a0 < (0 : Int) → (Q (some (iq_i (-1))) g l)) ∧
    ((0 : Int) ≤ a0 → ((-2147483648 ≤ a0 ∧ a0 ≤ 2147483647 ∧ -2147483648 ≤ (g 23 2) ∧ (g 23 2) ≤ 2147483647) ∧
      ((g 23 2) ≤ a0 → (Q (some (iq_i (-1))) g l)) ∧
      (a0 < (g 23 2) → ((-2147483648 ≤ a0 ∧ a0 ≤ 2147483647) ∧
        ((12 : Int) ≤ a0 → (Q (some (iq_i (-1))) g l)) ∧
        (a0 < (12 : Int) → ((0 ≤ a0 ∧ a0 < 12) ∧ (Q (some (iq_i (g 25 a0))) g l)))))))) :
    iq_P N xs 200 0 [some (iq_r 23), some (iq_i a0)] [] g l Q := iq_w_ok (cuts := []) 17 0 _ _ _ _ H

-- ScaleForge.recent(I)I at 0
set_option maxRecDepth 20000 in
theorem B201_0 {N : Nat} {xs : Nat → Int32} {Q : iq_T} (a0 : Int) (g : iq_I) (l : iq_J) (H : iq_P N xs 200 0 [some (iq_r 23), some (iq_i a0)] [] g l (fun r g1 l2 => ∃ z3, r = some (iq_i z3) ∧ (iq_P N xs 167 0 [some (iq_r 0), some (iq_i z3)] [] g1 l2 (fun r g4 l5 => ∃ z6, r = some (iq_i z6) ∧ (Q (some (iq_i z6)) g4 l5))))) :
    iq_P N xs 201 0 [some (iq_r 0), some (iq_i a0)] [] g l Q := iq_w_ok (cuts := []) 7 0 _ _ _ _ H

-- ScaleForgeModel.recent(I)I at 0
set_option maxRecDepth 20000 in
theorem B202_77 {N : Nat} {xs : Nat → Int32} {Q : iq_T} (a0 : Int) (g : iq_I) (l : iq_J) (H : (-2147483648 ≤ a0 ∧ a0 ≤ 2147483647) ∧
    (a0 < (0 : Int) → (iq_P N xs 98 0 [some (iq_r 77), some (iq_i 6)] [] g l (fun r g1 l2 => ∃ z3, r = some (iq_i z3) ∧ (Q (some (iq_i z3)) g1 l2)))) ∧
    ((0 : Int) ≤ a0 → ((-2147483648 ≤ a0 ∧ a0 ≤ 2147483647 ∧ -2147483648 ≤ (g 78 9) ∧ (g 78 9) ≤ 2147483647) ∧
      (a0 < (g 78 9) → ((0 ≤ (80 + a0) ∧ (80 + a0) < 2392) ∧ (iq_P N xs 115 0 [some (iq_r 77), some (iq_i (g 78 (80 + a0)))] [] g l (fun r g4 l5 => ∃ z6, r = some (iq_i z6) ∧ (Q (some (iq_i z6)) g4 l5))))) ∧
      ((g 78 9) ≤ a0 → (iq_P N xs 98 0 [some (iq_r 77), some (iq_i 6)] [] g l (fun r g7 l8 => ∃ z9, r = some (iq_i z9) ∧ (Q (some (iq_i z9)) g7 l8))))))) :
    iq_P N xs 202 0 [some (iq_r 77), some (iq_i a0)] [] g l Q := iq_w_ok (cuts := []) 17 0 _ _ _ _ H

-- ScaleForge$Ring.spanSorts(I)I at 0
set_option maxRecDepth 20000 in
theorem B203_31 {N : Nat} {xs : Nat → Int32} {Q : iq_T} (a0 : Int) (g : iq_I) (l : iq_J) (H : (-2147483648 ≤ (g 31 3) ∧ (g 31 3) ≤ 2147483647) ∧
    ((1 : Int) ≤ (g 31 3) → (iq_P N xs 203 15 [some (iq_r 31), some (iq_i a0), some (iq_l (0 : Int64)), none, some (iq_i 0)] [] g l Q)) ∧
    ((g 31 3) < (1 : Int) → (Q (some (iq_i 0)) g l))) :
    iq_P N xs 203 0 [some (iq_r 31), some (iq_i a0), none, none, none] [] g l Q := iq_w_ok (cuts := [15]) 8 0 _ _ _ _ H

-- ScaleForge$Ring.spanSorts(I)I at 15
set_option maxRecDepth 20000 in
theorem B203_p15_31 {N : Nat} {xs : Nat → Int32} {Q : iq_T} (v1 : Int) (v2 : Int64) (v4 : Int) (g : iq_I) (l : iq_J) (H : (-2147483648 ≤ v4 ∧ v4 ≤ 2147483647 ∧ -2147483648 ≤ (g 31 3) ∧ (g 31 3) ≤ 2147483647) ∧
    ((g 31 3) ≤ v4 → (iq_P N xs 88 0 [some (iq_l v2), none] [] g l (fun r g1 l2 => ∃ z3, r = some (iq_i z3) ∧ (Q (some (iq_i z3)) g1 l2)))) ∧
    (v4 < (g 31 3) → ((-2147483648 < (v4 + v1) ∧ (v4 + v1) ≤ 2147483647 ∧ -2147483648 ≤ (g 31 3) ∧ (g 31 3) ≤ 2147483647 ∧ ¬ (g 31 3) = 0) ∧ (iq_P N xs 139 0 [some (iq_r 31), some (iq_i v4), some (iq_i (Int.tmod (v4 + v1) (g 31 3))), none] [] g l (fun r g4 l5 => ∃ z6, r = some (iq_i z6) ∧ (iq_P N xs 6 0 [some (iq_i z6)] [] g4 l5 (fun r g7 l8 => ∃ x9, r = some (iq_l x9) ∧ (iq_P N xs 203 15 [some (iq_r 31), some (iq_i v1), some (iq_l (v2 ||| x9)), none, some (iq_i (v4 + 1))] [] g7 l8 Q)))))))) :
    iq_P N xs 203 15 [some (iq_r 31), some (iq_i v1), some (iq_l v2), none, some (iq_i v4)] [] g l Q := iq_w_ok (cuts := [15]) 19 15 _ _ _ _ H

-- ScaleForge.variety(I)I at 0
set_option maxRecDepth 20000 in
theorem B204_0 {N : Nat} {xs : Nat → Int32} {Q : iq_T} (a0 : Int) (g : iq_I) (l : iq_J) (H : (-2147483648 ≤ a0 ∧ a0 ≤ 2147483647) ∧
    (a0 < (1 : Int) → (iq_P N xs 44 0 [some (iq_r 0), some (iq_i 1)] [] g l (fun r g1 l2 => ∃ z3, r = some (iq_i z3) ∧ (Q (some (iq_i z3)) g1 l2)))) ∧
    ((1 : Int) ≤ a0 → ((-2147483648 ≤ a0 ∧ a0 ≤ 2147483647) ∧
      (a0 ≤ (24 : Int) → (iq_P N xs 137 0 [some (iq_r 0)] [] g l (fun r g4 l5 => iq_P N xs 204 22 [some (iq_r 0), some (iq_i a0)] (r.toList ++ [iq_r 0]) g4 l5 Q))) ∧
      ((24 : Int) < a0 → (iq_P N xs 44 0 [some (iq_r 0), some (iq_i 1)] [] g l (fun r g6 l7 => ∃ z8, r = some (iq_i z8) ∧ (Q (some (iq_i z8)) g6 l7))))))) :
    iq_P N xs 204 0 [some (iq_r 0), some (iq_i a0)] [] g l Q := iq_w_ok (cuts := []) 10 0 _ _ _ _ H

-- ScaleForge.variety(I)I at 22
set_option maxRecDepth 20000 in
theorem B204_q22_31 {N : Nat} {xs : Nat → Int32} {Q : iq_T} (v1 : Int) (g : iq_I) (l : iq_J) (H : iq_P N xs 203 0 [some (iq_r 31), some (iq_i v1), none, none, none] [] g l (fun r g1 l2 => ∃ z3, r = some (iq_i z3) ∧ (iq_P N xs 90 0 [some (iq_r 0), some (iq_i z3)] [] g1 l2 (fun r g4 l5 => ∃ z6, r = some (iq_i z6) ∧ (Q (some (iq_i z6)) g4 l5))))) :
    iq_P N xs 204 22 [some (iq_r 0), some (iq_i v1)] [iq_r 31, iq_r 0] g l Q := iq_w_ok (cuts := []) 4 22 _ _ _ _ H

-- ScaleForgeModel.varietyOf(I)I at 0
set_option maxRecDepth 20000 in
theorem B205_77 {N : Nat} {xs : Nat → Int32} {Q : iq_T} (a0 : Int) (g : iq_I) (l : iq_J) (H : iq_P N xs 205 4 [some (iq_r 77), some (iq_i a0), some (iq_i 0), some (iq_i 0), none, none] [] g l Q) :
    iq_P N xs 205 0 [some (iq_r 77), some (iq_i a0), none, none, none, none] [] g l Q := iq_w_ok (cuts := [4, 18]) 4 0 _ _ _ _ H

-- ScaleForgeModel.varietyOf(I)I at 4
set_option maxRecDepth 20000 in
theorem B205_p4_77 {N : Nat} {xs : Nat → Int32} {Q : iq_T} (v1 : Int) (v2 : Int) (v3 : Int) (d4 : Option iq_V) (d5 : Option iq_V) (g : iq_I) (l : iq_J) (H : (-2147483648 ≤ v3 ∧ v3 ≤ 2147483647 ∧ -2147483648 ≤ (g 77 26) ∧ (g 77 26) ≤ 2147483647) ∧
    ((g 77 26) ≤ v3 → (Q (some (iq_i v2)) g l)) ∧
    (v3 < (g 77 26) → (iq_P N xs 205 18 [some (iq_r 77), some (iq_i v1), some (iq_i v2), some (iq_i v3), some (iq_i 1), some (iq_i 0)] [] g l Q))) :
    iq_P N xs 205 4 [some (iq_r 77), some (iq_i v1), some (iq_i v2), some (iq_i v3), d4, d5] [] g l Q := iq_w_ok (cuts := [4, 18]) 8 4 _ _ _ _ H

-- ScaleForgeModel.varietyOf(I)I at 18
set_option maxRecDepth 20000 in
theorem B205_p18_77 {N : Nat} {xs : Nat → Int32} {Q : iq_T} (v1 : Int) (v2 : Int) (v3 : Int) (v4 : Int) (v5 : Int) (g : iq_I) (l : iq_J) (H : (-2147483648 ≤ v5 ∧ v5 ≤ 2147483647 ∧ -2147483648 ≤ v3 ∧ v3 ≤ 2147483647) ∧
    (v3 ≤ v5 → ((-2147483648 ≤ v4 ∧ v4 ≤ 2147483647) ∧
      (v4 = (0 : Int) → (iq_P N xs 205 4 [some (iq_r 77), some (iq_i v1), some (iq_i (v2 + 0)), some (iq_i (v3 + 1)), some (iq_i v4), some (iq_i v5)] [] g l Q)) ∧
      (¬ v4 = (0 : Int) → (iq_P N xs 205 4 [some (iq_r 77), some (iq_i v1), some (iq_i (v2 + 1)), some (iq_i (v3 + 1)), some (iq_i v4), some (iq_i v5)] [] g l Q)))) ∧
    (v5 < v3 → ((-2147483648 ≤ v4 ∧ v4 ≤ 2147483647) ∧
      (v4 = (0 : Int) → (iq_P N xs 205 18 [some (iq_r 77), some (iq_i v1), some (iq_i v2), some (iq_i v3), some (iq_i 0), some (iq_i (v5 + 1))] [] g l Q)) ∧
      (¬ v4 = (0 : Int) → (iq_P N xs 164 0 [some (iq_r 77), some (iq_i v5), some (iq_i v1), none, none] [] g l (fun r g1 l2 => ∃ z3, r = some (iq_i z3) ∧ (iq_P N xs 164 0 [some (iq_r 77), some (iq_i v3), some (iq_i v1), none, none] [] g1 l2 (fun r g4 l5 => ∃ z6, r = some (iq_i z6) ∧ ((-2147483648 ≤ z3 ∧ z3 ≤ 2147483647 ∧ -2147483648 ≤ z6 ∧ z6 ≤ 2147483647) ∧
            (z3 = z6 → (iq_P N xs 205 18 [some (iq_r 77), some (iq_i v1), some (iq_i v2), some (iq_i v3), some (iq_i 0), some (iq_i (v5 + 1))] [] g4 l5 Q)) ∧
            (¬ z3 = z6 → (iq_P N xs 205 18 [some (iq_r 77), some (iq_i v1), some (iq_i v2), some (iq_i v3), some (iq_i 1), some (iq_i (v5 + 1))] [] g4 l5 Q))))))))))) :
    iq_P N xs 205 18 [some (iq_r 77), some (iq_i v1), some (iq_i v2), some (iq_i v3), some (iq_i v4), some (iq_i v5)] [] g l Q := iq_w_ok (cuts := [4, 18]) 19 18 _ _ _ _ H

-- ScaleForgeModel.variety(I)I at 0
set_option maxRecDepth 20000 in
theorem B206_77 {N : Nat} {xs : Nat → Int32} {Q : iq_T} (a0 : Int) (g : iq_I) (l : iq_J) (H : iq_P N xs 149 0 [some (iq_l (iq_i2l a0)), none, some (iq_l (1 : Int64)), none, some (iq_l (Int64.ofNat 24)), none] [] g l (fun r g1 l2 => ∃ z3, r = some (iq_i z3) ∧ ((-2147483648 ≤ z3 ∧ z3 ≤ 2147483647) ∧
      (¬ z3 = (0 : Int) → (iq_P N xs 114 0 [some (iq_r 77)] [] g1 l2 (fun r g4 l5 => r = none ∧ (iq_P N xs 205 0 [some (iq_r 77), some (iq_i a0), none, none, none, none] [] g4 l5 (fun r g6 l7 => ∃ z8, r = some (iq_i z8) ∧ (iq_P N xs 115 0 [some (iq_r 77), some (iq_i z8)] [] g6 l7 (fun r g9 l10 => ∃ z11, r = some (iq_i z11) ∧ (Q (some (iq_i z11)) g9 l10)))))))) ∧
      (z3 = (0 : Int) → (iq_P N xs 98 0 [some (iq_r 77), some (iq_i 1)] [] g1 l2 (fun r g12 l13 => ∃ z14, r = some (iq_i z14) ∧ (Q (some (iq_i z14)) g12 l13))))))) :
    iq_P N xs 206 0 [some (iq_r 77), some (iq_i a0)] [] g l Q := iq_w_ok (cuts := []) 14 0 _ _ _ _ H

-- ScaleForge.myhill()I at 0
set_option maxRecDepth 20000 in
theorem B207_0 {N : Nat} {xs : Nat → Int32} {Q : iq_T} (g : iq_I) (l : iq_J) (H : iq_P N xs 137 0 [some (iq_r 0)] [] g l (fun r g1 l2 => iq_P N xs 207 4 [some (iq_r 0), none, none] (r.toList ++ []) g1 l2 Q)) :
    iq_P N xs 207 0 [some (iq_r 0), none, none] [] g l Q := iq_w_ok (cuts := [21]) 2 0 _ _ _ _ H

-- ScaleForge.myhill()I at 4
set_option maxRecDepth 20000 in
theorem B207_q4_31 {N : Nat} {xs : Nat → Int32} {Q : iq_T} (g : iq_I) (l : iq_J) (H : (-2147483648 ≤ (g 31 3) ∧ (g 31 3) ≤ 2147483647) ∧
    ((2 : Int) ≤ (g 31 3) → (iq_P N xs 207 21 [some (iq_r 0), some (iq_r 31), some (iq_i 1)] [] g l Q)) ∧
    ((g 31 3) < (2 : Int) → (iq_P N xs 90 0 [some (iq_r 0), some (iq_i 0)] [] g l (fun r g1 l2 => ∃ z3, r = some (iq_i z3) ∧ (Q (some (iq_i z3)) g1 l2))))) :
    iq_P N xs 207 4 [some (iq_r 0), none, none] [iq_r 31] g l Q := iq_w_ok (cuts := [21]) 9 4 _ _ _ _ H

-- ScaleForge.myhill()I at 21
set_option maxRecDepth 20000 in
theorem B207_p21_31 {N : Nat} {xs : Nat → Int32} {Q : iq_T} (v2 : Int) (g : iq_I) (l : iq_J) (H : (-2147483648 ≤ v2 ∧ v2 ≤ 2147483647 ∧ -2147483648 ≤ (g 31 3) ∧ (g 31 3) ≤ 2147483647) ∧
    ((g 31 3) ≤ v2 → (iq_P N xs 90 0 [some (iq_r 0), some (iq_i 1)] [] g l (fun r g1 l2 => ∃ z3, r = some (iq_i z3) ∧ (Q (some (iq_i z3)) g1 l2)))) ∧
    (v2 < (g 31 3) → (iq_P N xs 203 0 [some (iq_r 31), some (iq_i v2), none, none, none] [] g l (fun r g4 l5 => ∃ z6, r = some (iq_i z6) ∧ ((-2147483648 ≤ z6 ∧ z6 ≤ 2147483647) ∧
        (z6 = (2 : Int) → (iq_P N xs 207 21 [some (iq_r 0), some (iq_r 31), some (iq_i (v2 + 1))] [] g4 l5 Q)) ∧
        (¬ z6 = (2 : Int) → (iq_P N xs 90 0 [some (iq_r 0), some (iq_i 0)] [] g4 l5 (fun r g7 l8 => ∃ z9, r = some (iq_i z9) ∧ (Q (some (iq_i z9)) g7 l8))))))))) :
    iq_P N xs 207 21 [some (iq_r 0), some (iq_r 31), some (iq_i v2)] [] g l Q := iq_w_ok (cuts := [21]) 13 21 _ _ _ _ H

-- ScaleForgeModel.myhill()I at 0
set_option maxRecDepth 20000 in
theorem B208_77 {N : Nat} {xs : Nat → Int32} {Q : iq_T} (g : iq_I) (l : iq_J) (H : iq_P N xs 114 0 [some (iq_r 77)] [] g l (fun r g1 l2 => r = none ∧ ((-2147483648 ≤ (g1 77 26) ∧ (g1 77 26) ≤ 2147483647) ∧
      ((g1 77 26) ≤ (1 : Int) → (iq_P N xs 208 20 [some (iq_r 77), some (iq_i 0), some (iq_i 1)] [] g1 l2 Q)) ∧
      ((1 : Int) < (g1 77 26) → (iq_P N xs 208 20 [some (iq_r 77), some (iq_i 1), some (iq_i 1)] [] g1 l2 Q))))) :
    iq_P N xs 208 0 [some (iq_r 77), none, none] [] g l Q := iq_w_ok (cuts := [20]) 11 0 _ _ _ _ H

-- ScaleForgeModel.myhill()I at 20
set_option maxRecDepth 20000 in
theorem B208_p20_77 {N : Nat} {xs : Nat → Int32} {Q : iq_T} (v1 : Int) (v2 : Int) (g : iq_I) (l : iq_J) (H : (-2147483648 ≤ v2 ∧ v2 ≤ 2147483647 ∧ -2147483648 ≤ (g 77 26) ∧ (g 77 26) ≤ 2147483647) ∧
    ((g 77 26) ≤ v2 → ((-2147483648 ≤ v1 ∧ v1 ≤ 2147483647) ∧
      (v1 = (0 : Int) → (iq_P N xs 115 0 [some (iq_r 77), some (iq_i 0)] [] g l (fun r g1 l2 => ∃ z3, r = some (iq_i z3) ∧ (Q (some (iq_i z3)) g1 l2)))) ∧
      (¬ v1 = (0 : Int) → (iq_P N xs 115 0 [some (iq_r 77), some (iq_i 1)] [] g l (fun r g4 l5 => ∃ z6, r = some (iq_i z6) ∧ (Q (some (iq_i z6)) g4 l5)))))) ∧
    (v2 < (g 77 26) → ((-2147483648 ≤ v1 ∧ v1 ≤ 2147483647) ∧
      (v1 = (0 : Int) → ((-2147483648 ≤ v1 ∧ v1 ≤ 2147483647) ∧
        (v1 = (0 : Int) → (iq_P N xs 115 0 [some (iq_r 77), some (iq_i 0)] [] g l (fun r g7 l8 => ∃ z9, r = some (iq_i z9) ∧ (Q (some (iq_i z9)) g7 l8)))) ∧
        (¬ v1 = (0 : Int) → (iq_P N xs 115 0 [some (iq_r 77), some (iq_i 1)] [] g l (fun r g10 l11 => ∃ z12, r = some (iq_i z12) ∧ (Q (some (iq_i z12)) g10 l11)))))) ∧
      (¬ v1 = (0 : Int) → (iq_P N xs 205 0 [some (iq_r 77), some (iq_i v2), none, none, none, none] [] g l (fun r g13 l14 => ∃ z15, r = some (iq_i z15) ∧ ((-2147483648 ≤ z15 ∧ z15 ≤ 2147483647) ∧
          (¬ z15 = (2 : Int) → (iq_P N xs 208 20 [some (iq_r 77), some (iq_i 0), some (iq_i (v2 + 1))] [] g13 l14 Q)) ∧
          (z15 = (2 : Int) → (iq_P N xs 208 20 [some (iq_r 77), some (iq_i 1), some (iq_i (v2 + 1))] [] g13 l14 Q))))))))) :
    iq_P N xs 208 20 [some (iq_r 77), some (iq_i v1), some (iq_i v2)] [] g l Q := iq_w_ok (cuts := [20]) 16 20 _ _ _ _ H

-- ScaleForge.wellFormed()J at 0
set_option maxRecDepth 20000 in
theorem B209_0 {N : Nat} {xs : Nat → Int32} {Q : iq_T} (g : iq_I) (l : iq_J) (H : iq_P N xs 209 4 [some (iq_r 0), some (iq_l (0 : Int64)), none, some (iq_i 2), none, none] [] g l Q) :
    iq_P N xs 209 0 [some (iq_r 0), none, none, none, none, none] [] g l Q := iq_w_ok (cuts := [4]) 4 0 _ _ _ _ H

-- ScaleForge.wellFormed()J at 4
set_option maxRecDepth 20000 in
theorem B209_p4_0 {N : Nat} {xs : Nat → Int32} {Q : iq_T} (v1 : Int64) (v3 : Int) (d4 : Option iq_V) (g : iq_I) (l : iq_J) (H : (-2147483648 ≤ v3 ∧ v3 ≤ 2147483647) ∧
    ((24 : Int) < v3 → (Q (some (iq_l v1)) g l)) ∧
    (v3 ≤ (24 : Int) → (iq_P N xs 135 0 [some (iq_r 23), some (iq_i 2)] [] g l (fun r g1 l2 => ∃ z3, r = some (iq_i z3) ∧ (iq_P N xs 135 0 [some (iq_r 23), some (iq_i 5)] [] g1 l2 (fun r g4 l5 => ∃ z6, r = some (iq_i z6) ∧ (iq_P N xs 8 0 [some (iq_r 23), some (iq_i z3), some (iq_i z6), some (iq_i v3), none, none, none, none] [] g4 l5 (fun r g7 l8 => ∃ x9, r = some (iq_l x9) ∧ (iq_P N xs 88 0 [some (iq_l x9), none] [] g7 l8 (fun r g10 l11 => ∃ z12, r = some (iq_i z12) ∧ ((-2147483648 ≤ z12 ∧ z12 ≤ 2147483647 ∧ -2147483648 ≤ v3 ∧ v3 ≤ 2147483647) ∧
              (¬ z12 = v3 → (iq_P N xs 209 4 [some (iq_r 0), some (iq_l v1), none, some (iq_i (v3 + 1)), some (iq_l x9), none] [] g10 l11 Q)) ∧
              (z12 = v3 → (iq_P N xs 80 0 [some (iq_r 23)] [] g10 l11 (fun r g13 l14 => ∃ z15, r = some (iq_i z15) ∧ (iq_P N xs 136 0 [some (iq_r 31), some (iq_l x9), none, some (iq_i z15), none] [] g13 l14 (fun r g16 l17 => r = none ∧ (iq_P N xs 141 0 [some (iq_r 31), none, none, none] [] g16 l17 (fun r g18 l19 => ∃ x20, r = some (iq_l x20) ∧ (iq_P N xs 88 0 [some (iq_l x20), none] [] g18 l19 (fun r g21 l22 => ∃ z23, r = some (iq_i z23) ∧ ((-2147483648 ≤ z23 ∧ z23 ≤ 2147483647) ∧
                        ((2 : Int) < z23 → (iq_P N xs 209 4 [some (iq_r 0), some (iq_l (v1 ||| (0 : Int64))), none, some (iq_i (v3 + 1)), some (iq_l x9), none] [] g21 l22 Q)) ∧
                        (z23 ≤ (2 : Int) → (iq_P N xs 6 0 [some (iq_i v3)] [] g21 l22 (fun r g24 l25 => ∃ x26, r = some (iq_l x26) ∧ (iq_P N xs 209 4 [some (iq_r 0), some (iq_l (v1 ||| x26)), none, some (iq_i (v3 + 1)), some (iq_l x9), none] [] g24 l25 Q))))))))))))))))))))))))) :
    iq_P N xs 209 4 [some (iq_r 0), some (iq_l v1), none, some (iq_i v3), d4, none] [] g l Q := iq_w_ok (cuts := [4]) 41 4 _ _ _ _ H

-- ScaleForge.lengths()I at 0
set_option maxRecDepth 20000 in
theorem B210_0 {N : Nat} {xs : Nat → Int32} {Q : iq_T} (g : iq_I) (l : iq_J) (H : iq_P N xs 209 0 [some (iq_r 0), none, none, none, none, none] [] g l (fun r g1 l2 => ∃ x3, r = some (iq_l x3) ∧ (iq_P N xs 88 0 [some (iq_l x3), none] [] g1 l2 (fun r g4 l5 => ∃ z6, r = some (iq_i z6) ∧ (iq_P N xs 90 0 [some (iq_r 0), some (iq_i z6)] [] g4 l5 (fun r g7 l8 => ∃ z9, r = some (iq_i z9) ∧ (Q (some (iq_i z9)) g7 l8))))))) :
    iq_P N xs 210 0 [some (iq_r 0)] [] g l Q := iq_w_ok (cuts := []) 6 0 _ _ _ _ H

-- ScaleForgeModel.wellFormed(I)I at 0
set_option maxRecDepth 20000 in
theorem B211_77 {N : Nat} {xs : Nat → Int32} {Q : iq_T} (a0 : Int) (g : iq_I) (l : iq_J) (H : iq_P N xs 211 4 [some (iq_r 77), some (iq_i a0), some (iq_i 0), some (iq_i 2)] [] g l Q) :
    iq_P N xs 211 0 [some (iq_r 77), some (iq_i a0), none, none] [] g l Q := iq_w_ok (cuts := [4]) 4 0 _ _ _ _ H

-- ScaleForgeModel.wellFormed(I)I at 4
set_option maxRecDepth 20000 in
theorem B211_p4_77 {N : Nat} {xs : Nat → Int32} {Q : iq_T} (v1 : Int) (v2 : Int) (v3 : Int) (g : iq_I) (l : iq_J) (H : (-2147483648 ≤ v3 ∧ v3 ≤ 2147483647) ∧
    ((24 : Int) < v3 → (Q (some (iq_i v2)) g l)) ∧
    (v3 ≤ (24 : Int) → (iq_P N xs 113 0 [some (iq_r 77), some (iq_i v3), some (iq_i (g 78 2)), none, none, none, none] [] g l (fun r g1 l2 => r = none ∧ ((-2147483648 ≤ (g1 77 26) ∧ (g1 77 26) ≤ 2147483647 ∧ -2147483648 ≤ v3 ∧ v3 ≤ 2147483647) ∧
        ((g1 77 26) < v3 → (iq_P N xs 211 4 [some (iq_r 77), some (iq_i v1), some (iq_i v2), some (iq_i (v3 + 1))] [] g1 l2 Q)) ∧
        (v3 ≤ (g1 77 26) → ((-2147483648 ≤ (g1 77 27) ∧ (g1 77 27) ≤ 2147483647) ∧
          ((g1 77 27) ≤ (2 : Int) → ((-2147483648 ≤ v2 ∧ v2 ≤ 2147483647 ∧ -2147483648 ≤ v1 ∧ v1 ≤ 2147483647) ∧
            (¬ v2 = v1 → (iq_P N xs 211 4 [some (iq_r 77), some (iq_i v1), some (iq_i (v2 + 1)), some (iq_i (v3 + 1))] [] g1 l2 Q)) ∧
            (v2 = v1 → (Q (some (iq_i v3)) g1 l2)))) ∧
          ((2 : Int) < (g1 77 27) → (iq_P N xs 211 4 [some (iq_r 77), some (iq_i v1), some (iq_i v2), some (iq_i (v3 + 1))] [] g1 l2 Q))))))))) :
    iq_P N xs 211 4 [some (iq_r 77), some (iq_i v1), some (iq_i v2), some (iq_i v3)] [] g l Q := iq_w_ok (cuts := [4]) 24 4 _ _ _ _ H

-- ScaleForgeModel.lengths()I at 0
set_option maxRecDepth 20000 in
theorem B212_77 {N : Nat} {xs : Nat → Int32} {Q : iq_T} (g : iq_I) (l : iq_J) (H : iq_P N xs 211 0 [some (iq_r 77), some (iq_i 24), none, none] [] g l (fun r g1 l2 => ∃ z3, r = some (iq_i z3) ∧ (iq_P N xs 115 0 [some (iq_r 77), some (iq_i z3)] [] g1 l2 (fun r g4 l5 => ∃ z6, r = some (iq_i z6) ∧ (Q (some (iq_i z6)) g4 l5))))) :
    iq_P N xs 212 0 [some (iq_r 77)] [] g l Q := iq_w_ok (cuts := []) 6 0 _ _ _ _ H

-- ScaleForge.lengthAt(I)I at 0
set_option maxRecDepth 20000 in
theorem B213_0 {N : Nat} {xs : Nat → Int32} {Q : iq_T} (a0 : Int) (g : iq_I) (l : iq_J) (H : iq_P N xs 209 0 [some (iq_r 0), none, none, none, none, none] [] g l (fun r g1 l2 => ∃ x3, r = some (iq_l x3) ∧ (iq_P N xs 166 0 [some (iq_l x3), none, some (iq_i a0), none, none] [] g1 l2 (fun r g4 l5 => ∃ z6, r = some (iq_i z6) ∧ (iq_P N xs 167 0 [some (iq_r 0), some (iq_i z6)] [] g4 l5 (fun r g7 l8 => ∃ z9, r = some (iq_i z9) ∧ (Q (some (iq_i z9)) g7 l8))))))) :
    iq_P N xs 213 0 [some (iq_r 0), some (iq_i a0)] [] g l Q := iq_w_ok (cuts := []) 7 0 _ _ _ _ H

-- ScaleForgeModel.lengthAt(I)I at 0
set_option maxRecDepth 20000 in
theorem B214_77 {N : Nat} {xs : Nat → Int32} {Q : iq_T} (a0 : Int) (g : iq_I) (l : iq_J) (H : iq_P N xs 211 0 [some (iq_r 77), some (iq_i 24), none, none] [] g l (fun r g1 l2 => ∃ z3, r = some (iq_i z3) ∧ ((-2147483648 ≤ a0 ∧ a0 ≤ 2147483647) ∧
      (a0 < (0 : Int) → (iq_P N xs 98 0 [some (iq_r 77), some (iq_i 6)] [] g1 l2 (fun r g4 l5 => ∃ z6, r = some (iq_i z6) ∧ (Q (some (iq_i z6)) g4 l5)))) ∧
      ((0 : Int) ≤ a0 → ((-2147483648 ≤ a0 ∧ a0 ≤ 2147483647 ∧ -2147483648 ≤ z3 ∧ z3 ≤ 2147483647) ∧
        (a0 < z3 → (iq_P N xs 211 0 [some (iq_r 77), some (iq_i a0), none, none] [] g1 l2 (fun r g7 l8 => ∃ z9, r = some (iq_i z9) ∧ (iq_P N xs 115 0 [some (iq_r 77), some (iq_i z9)] [] g7 l8 (fun r g10 l11 => ∃ z12, r = some (iq_i z12) ∧ (Q (some (iq_i z12)) g10 l11)))))) ∧
        (z3 ≤ a0 → (iq_P N xs 98 0 [some (iq_r 77), some (iq_i 6)] [] g1 l2 (fun r g13 l14 => ∃ z15, r = some (iq_i z15) ∧ (Q (some (iq_i z15)) g13 l14))))))))) :
    iq_P N xs 214 0 [some (iq_r 77), some (iq_i a0), none] [] g l Q := iq_w_ok (cuts := []) 15 0 _ _ _ _ H

-- ScaleForge$Ring.modeOf(I)J at 0
set_option maxRecDepth 20000 in
theorem B215_31 {N : Nat} {xs : Nat → Int32} {Q : iq_T} (a0 : Int) (g : iq_I) (l : iq_J) (H : iq_P N xs 138 0 [some (iq_r 31), some (iq_i a0)] [] g l (fun r g1 l2 => ∃ z3, r = some (iq_i z3) ∧ ((-2147483648 ≤ z3 ∧ z3 ≤ 2147483647) ∧
      (z3 ≤ (0 : Int) → (Q (some (iq_l (l2 31 1))) g1 l2)) ∧
      ((0 : Int) < z3 → (iq_P N xs 188 0 [some (iq_l (l2 31 1)), none, some (iq_i ((g1 31 2) - z3)), some (iq_i (g1 31 2))] [] g1 l2 (fun r g4 l5 => ∃ x6, r = some (iq_l x6) ∧ (Q (some (iq_l x6)) g4 l5))))))) :
    iq_P N xs 215 0 [some (iq_r 31), some (iq_i a0), none] [] g l Q := iq_w_ok (cuts := []) 17 0 _ _ _ _ H

-- ScaleForge.modes()I at 0
set_option maxRecDepth 20000 in
theorem B216_0 {N : Nat} {xs : Nat → Int32} {Q : iq_T} (g : iq_I) (l : iq_J) (H : iq_P N xs 137 0 [some (iq_r 0)] [] g l (fun r g1 l2 => iq_P N xs 216 4 [some (iq_r 0), none, none, none, none, none] (r.toList ++ []) g1 l2 Q)) :
    iq_P N xs 216 0 [some (iq_r 0), none, none, none, none, none] [] g l Q := iq_w_ok (cuts := [9, 23]) 2 0 _ _ _ _ H

-- ScaleForge.modes()I at 4
set_option maxRecDepth 20000 in
theorem B216_q4_31 {N : Nat} {xs : Nat → Int32} {Q : iq_T} (g : iq_I) (l : iq_J) (H : iq_P N xs 216 9 [some (iq_r 0), some (iq_r 31), some (iq_i 0), some (iq_i 0), none, none] [] g l Q) :
    iq_P N xs 216 4 [some (iq_r 0), none, none, none, none, none] [iq_r 31] g l Q := iq_w_ok (cuts := [9, 23]) 5 4 _ _ _ _ H

-- ScaleForge.modes()I at 9
set_option maxRecDepth 20000 in
theorem B216_p9_31 {N : Nat} {xs : Nat → Int32} {Q : iq_T} (v2 : Int) (v3 : Int) (d4 : Option iq_V) (d5 : Option iq_V) (g : iq_I) (l : iq_J) (H : (-2147483648 ≤ v3 ∧ v3 ≤ 2147483647 ∧ -2147483648 ≤ (g 31 3) ∧ (g 31 3) ≤ 2147483647) ∧
    ((g 31 3) ≤ v3 → (iq_P N xs 90 0 [some (iq_r 0), some (iq_i v2)] [] g l (fun r g1 l2 => ∃ z3, r = some (iq_i z3) ∧ (Q (some (iq_i z3)) g1 l2)))) ∧
    (v3 < (g 31 3) → (iq_P N xs 216 23 [some (iq_r 0), some (iq_r 31), some (iq_i v2), some (iq_i v3), some (iq_i 1), some (iq_i 0)] [] g l Q))) :
    iq_P N xs 216 9 [some (iq_r 0), some (iq_r 31), some (iq_i v2), some (iq_i v3), d4, d5] [] g l Q := iq_w_ok (cuts := [9, 23]) 8 9 _ _ _ _ H

-- ScaleForge.modes()I at 23
set_option maxRecDepth 20000 in
theorem B216_p23_31 {N : Nat} {xs : Nat → Int32} {Q : iq_T} (v2 : Int) (v3 : Int) (v4 : Int) (v5 : Int) (g : iq_I) (l : iq_J) (H : (-2147483648 ≤ v5 ∧ v5 ≤ 2147483647 ∧ -2147483648 ≤ v3 ∧ v3 ≤ 2147483647) ∧
    (v3 ≤ v5 → ((-2147483648 ≤ v4 ∧ v4 ≤ 2147483647) ∧
      (v4 = (0 : Int) → (iq_P N xs 216 9 [some (iq_r 0), some (iq_r 31), some (iq_i (v2 + 0)), some (iq_i (v3 + 1)), some (iq_i v4), some (iq_i v5)] [] g l Q)) ∧
      (¬ v4 = (0 : Int) → (iq_P N xs 216 9 [some (iq_r 0), some (iq_r 31), some (iq_i (v2 + 1)), some (iq_i (v3 + 1)), some (iq_i v4), some (iq_i v5)] [] g l Q)))) ∧
    (v5 < v3 → ((-2147483648 ≤ v4 ∧ v4 ≤ 2147483647) ∧
      (v4 = (0 : Int) → ((-2147483648 ≤ v4 ∧ v4 ≤ 2147483647) ∧
        (v4 = (0 : Int) → (iq_P N xs 216 9 [some (iq_r 0), some (iq_r 31), some (iq_i (v2 + 0)), some (iq_i (v3 + 1)), some (iq_i v4), some (iq_i v5)] [] g l Q)) ∧
        (¬ v4 = (0 : Int) → (iq_P N xs 216 9 [some (iq_r 0), some (iq_r 31), some (iq_i (v2 + 1)), some (iq_i (v3 + 1)), some (iq_i v4), some (iq_i v5)] [] g l Q)))) ∧
      (¬ v4 = (0 : Int) → (iq_P N xs 215 0 [some (iq_r 31), some (iq_i v5), none] [] g l (fun r g1 l2 => ∃ x3, r = some (iq_l x3) ∧ (iq_P N xs 215 0 [some (iq_r 31), some (iq_i v3), none] [] g1 l2 (fun r g4 l5 => ∃ x6, r = some (iq_l x6) ∧ ((-2147483648 ≤ (iq_lc x3 x6) ∧ (iq_lc x3 x6) ≤ 2147483647) ∧
            ((iq_lc x3 x6) = (0 : Int) → (iq_P N xs 216 23 [some (iq_r 0), some (iq_r 31), some (iq_i v2), some (iq_i v3), some (iq_i 0), some (iq_i (v5 + 1))] [] g4 l5 Q)) ∧
            (¬ (iq_lc x3 x6) = (0 : Int) → (iq_P N xs 216 23 [some (iq_r 0), some (iq_r 31), some (iq_i v2), some (iq_i v3), some (iq_i 1), some (iq_i (v5 + 1))] [] g4 l5 Q))))))))))) :
    iq_P N xs 216 23 [some (iq_r 0), some (iq_r 31), some (iq_i v2), some (iq_i v3), some (iq_i v4), some (iq_i v5)] [] g l Q := iq_w_ok (cuts := [9, 23]) 18 23 _ _ _ _ H

-- ScaleForgeModel.areAlike(II)Z at 0
set_option maxRecDepth 20000 in
theorem B217_77 {N : Nat} {xs : Nat → Int32} {Q : iq_T} (a0 : Int) (a1 : Int) (g : iq_I) (l : iq_J) (H : iq_P N xs 217 2 [some (iq_r 77), some (iq_i a0), some (iq_i a1), some (iq_i 0)] [] g l Q) :
    iq_P N xs 217 0 [some (iq_r 77), some (iq_i a0), some (iq_i a1), none] [] g l Q := iq_w_ok (cuts := [2]) 2 0 _ _ _ _ H

-- ScaleForgeModel.areAlike(II)Z at 2
set_option maxRecDepth 20000 in
theorem B217_p2_77 {N : Nat} {xs : Nat → Int32} {Q : iq_T} (v1 : Int) (v2 : Int) (v3 : Int) (g : iq_I) (l : iq_J) (H : (-2147483648 ≤ v3 ∧ v3 ≤ 2147483647 ∧ -2147483648 ≤ (g 77 26) ∧ (g 77 26) ≤ 2147483647) ∧
    ((g 77 26) ≤ v3 → (Q (some (iq_i 1)) g l)) ∧
    (v3 < (g 77 26) → ((-2147483648 < (v1 + v3) ∧ (v1 + v3) ≤ 2147483647 ∧ -2147483648 ≤ (g 77 26) ∧ (g 77 26) ≤ 2147483647 ∧ ¬ (g 77 26) = 0) ∧ ((0 ≤ (Int.tmod (v1 + v3) (g 77 26)) ∧ (Int.tmod (v1 + v3) (g 77 26)) < 24) ∧ ((-2147483648 < (v2 + v3) ∧ (v2 + v3) ≤ 2147483647 ∧ -2147483648 ≤ (g 77 26) ∧ (g 77 26) ≤ 2147483647 ∧ ¬ (g 77 26) = 0) ∧ ((0 ≤ (Int.tmod (v2 + v3) (g 77 26)) ∧ (Int.tmod (v2 + v3) (g 77 26)) < 24) ∧ ((-2147483648 ≤ (g 86 (Int.tmod (v1 + v3) (g 77 26))) ∧ (g 86 (Int.tmod (v1 + v3) (g 77 26))) ≤ 2147483647 ∧ -2147483648 ≤ (g 86 (Int.tmod (v2 + v3) (g 77 26))) ∧ (g 86 (Int.tmod (v2 + v3) (g 77 26))) ≤ 2147483647) ∧
      ((g 86 (Int.tmod (v1 + v3) (g 77 26))) = (g 86 (Int.tmod (v2 + v3) (g 77 26))) → (iq_P N xs 217 2 [some (iq_r 77), some (iq_i v1), some (iq_i v2), some (iq_i (v3 + 1))] [] g l Q)) ∧
      (¬ (g 86 (Int.tmod (v1 + v3) (g 77 26))) = (g 86 (Int.tmod (v2 + v3) (g 77 26))) → (Q (some (iq_i 0)) g l))))))))) :
    iq_P N xs 217 2 [some (iq_r 77), some (iq_i v1), some (iq_i v2), some (iq_i v3)] [] g l Q := iq_w_ok (cuts := [2]) 25 2 _ _ _ _ H

-- ScaleForgeModel.modes()I at 0
set_option maxRecDepth 20000 in
theorem B218_77 {N : Nat} {xs : Nat → Int32} {Q : iq_T} (g : iq_I) (l : iq_J) (H : iq_P N xs 114 0 [some (iq_r 77)] [] g l (fun r g1 l2 => r = none ∧ (iq_P N xs 218 8 [some (iq_r 77), some (iq_i 0), some (iq_i 0), none, none] [] g1 l2 Q))) :
    iq_P N xs 218 0 [some (iq_r 77), none, none, none, none] [] g l Q := iq_w_ok (cuts := [8, 21]) 6 0 _ _ _ _ H

-- ScaleForgeModel.modes()I at 8
set_option maxRecDepth 20000 in
theorem B218_p8_77 {N : Nat} {xs : Nat → Int32} {Q : iq_T} (v1 : Int) (v2 : Int) (d3 : Option iq_V) (d4 : Option iq_V) (g : iq_I) (l : iq_J) (H : (-2147483648 ≤ v2 ∧ v2 ≤ 2147483647 ∧ -2147483648 ≤ (g 77 26) ∧ (g 77 26) ≤ 2147483647) ∧
    ((g 77 26) ≤ v2 → (iq_P N xs 115 0 [some (iq_r 77), some (iq_i v1)] [] g l (fun r g1 l2 => ∃ z3, r = some (iq_i z3) ∧ (Q (some (iq_i z3)) g1 l2)))) ∧
    (v2 < (g 77 26) → (iq_P N xs 218 21 [some (iq_r 77), some (iq_i v1), some (iq_i v2), some (iq_i 1), some (iq_i 0)] [] g l Q))) :
    iq_P N xs 218 8 [some (iq_r 77), some (iq_i v1), some (iq_i v2), d3, d4] [] g l Q := iq_w_ok (cuts := [8, 21]) 8 8 _ _ _ _ H

-- ScaleForgeModel.modes()I at 21
set_option maxRecDepth 20000 in
theorem B218_p21_77 {N : Nat} {xs : Nat → Int32} {Q : iq_T} (v1 : Int) (v2 : Int) (v3 : Int) (v4 : Int) (g : iq_I) (l : iq_J) (H : (-2147483648 ≤ v4 ∧ v4 ≤ 2147483647 ∧ -2147483648 ≤ v2 ∧ v2 ≤ 2147483647) ∧
    (v2 ≤ v4 → ((-2147483648 ≤ v3 ∧ v3 ≤ 2147483647) ∧
      (v3 = (0 : Int) → (iq_P N xs 218 8 [some (iq_r 77), some (iq_i (v1 + 0)), some (iq_i (v2 + 1)), some (iq_i v3), some (iq_i v4)] [] g l Q)) ∧
      (¬ v3 = (0 : Int) → (iq_P N xs 218 8 [some (iq_r 77), some (iq_i (v1 + 1)), some (iq_i (v2 + 1)), some (iq_i v3), some (iq_i v4)] [] g l Q)))) ∧
    (v4 < v2 → ((-2147483648 ≤ v3 ∧ v3 ≤ 2147483647) ∧
      (v3 = (0 : Int) → (iq_P N xs 218 21 [some (iq_r 77), some (iq_i v1), some (iq_i v2), some (iq_i 0), some (iq_i (v4 + 1))] [] g l Q)) ∧
      (¬ v3 = (0 : Int) → (iq_P N xs 217 0 [some (iq_r 77), some (iq_i v2), some (iq_i v4), none] [] g l (fun r g1 l2 => ∃ z3, r = some (iq_i z3) ∧ ((-2147483648 ≤ z3 ∧ z3 ≤ 2147483647) ∧
          (¬ z3 = (0 : Int) → (iq_P N xs 218 21 [some (iq_r 77), some (iq_i v1), some (iq_i v2), some (iq_i 0), some (iq_i (v4 + 1))] [] g1 l2 Q)) ∧
          (z3 = (0 : Int) → (iq_P N xs 218 21 [some (iq_r 77), some (iq_i v1), some (iq_i v2), some (iq_i 1), some (iq_i (v4 + 1))] [] g1 l2 Q))))))))) :
    iq_P N xs 218 21 [some (iq_r 77), some (iq_i v1), some (iq_i v2), some (iq_i v3), some (iq_i v4)] [] g l Q := iq_w_ok (cuts := [8, 21]) 15 21 _ _ _ _ H

-- ScaleForge.alike(II)I at 0
set_option maxRecDepth 20000 in
theorem B219_0 {N : Nat} {xs : Nat → Int32} {Q : iq_T} (a0 : Int) (a1 : Int) (g : iq_I) (l : iq_J) (H : iq_P N xs 151 0 [some (iq_r 0), some (iq_i a0)] [] g l (fun r g1 l2 => ∃ z3, r = some (iq_i z3) ∧ ((-2147483648 ≤ z3 ∧ z3 ≤ 2147483647) ∧
      (z3 = (0 : Int) → (iq_P N xs 44 0 [some (iq_r 0), some (iq_i 1)] [] g1 l2 (fun r g4 l5 => ∃ z6, r = some (iq_i z6) ∧ (Q (some (iq_i z6)) g4 l5)))) ∧
      (¬ z3 = (0 : Int) → (iq_P N xs 151 0 [some (iq_r 0), some (iq_i a1)] [] g1 l2 (fun r g7 l8 => ∃ z9, r = some (iq_i z9) ∧ ((-2147483648 ≤ z9 ∧ z9 ≤ 2147483647) ∧
          (¬ z9 = (0 : Int) → (iq_P N xs 137 0 [some (iq_r 0)] [] g7 l8 (fun r g10 l11 => iq_P N xs 219 26 [some (iq_r 0), some (iq_i a0), some (iq_i a1), none] (r.toList ++ []) g10 l11 Q))) ∧
          (z9 = (0 : Int) → (iq_P N xs 44 0 [some (iq_r 0), some (iq_i 1)] [] g7 l8 (fun r g12 l13 => ∃ z14, r = some (iq_i z14) ∧ (Q (some (iq_i z14)) g12 l13))))))))))) :
    iq_P N xs 219 0 [some (iq_r 0), some (iq_i a0), some (iq_i a1), none] [] g l Q := iq_w_ok (cuts := []) 12 0 _ _ _ _ H

-- ScaleForge.alike(II)I at 26
set_option maxRecDepth 20000 in
theorem B219_q26_31 {N : Nat} {xs : Nat → Int32} {Q : iq_T} (v1 : Int) (v2 : Int) (g : iq_I) (l : iq_J) (H : iq_P N xs 215 0 [some (iq_r 31), some (iq_i v1), none] [] g l (fun r g1 l2 => ∃ x3, r = some (iq_l x3) ∧ (iq_P N xs 215 0 [some (iq_r 31), some (iq_i v2), none] [] g1 l2 (fun r g4 l5 => ∃ x6, r = some (iq_l x6) ∧ ((-2147483648 ≤ (iq_lc x3 x6) ∧ (iq_lc x3 x6) ≤ 2147483647) ∧
        (¬ (iq_lc x3 x6) = (0 : Int) → (iq_P N xs 90 0 [some (iq_r 0), some (iq_i 0)] [] g4 l5 (fun r g7 l8 => ∃ z9, r = some (iq_i z9) ∧ (Q (some (iq_i z9)) g7 l8)))) ∧
        ((iq_lc x3 x6) = (0 : Int) → (iq_P N xs 90 0 [some (iq_r 0), some (iq_i 1)] [] g4 l5 (fun r g10 l11 => ∃ z12, r = some (iq_i z12) ∧ (Q (some (iq_i z12)) g10 l11))))))))) :
    iq_P N xs 219 26 [some (iq_r 0), some (iq_i v1), some (iq_i v2), none] [iq_r 31] g l Q := iq_w_ok (cuts := []) 14 26 _ _ _ _ H

-- ScaleForgeModel.alike(II)I at 0
set_option maxRecDepth 20000 in
theorem B220_77 {N : Nat} {xs : Nat → Int32} {Q : iq_T} (a0 : Int) (a1 : Int) (g : iq_I) (l : iq_J) (H : iq_P N xs 153 0 [some (iq_r 77), some (iq_i a0)] [] g l (fun r g1 l2 => ∃ z3, r = some (iq_i z3) ∧ ((-2147483648 ≤ z3 ∧ z3 ≤ 2147483647) ∧
      (z3 = (0 : Int) → (iq_P N xs 98 0 [some (iq_r 77), some (iq_i 1)] [] g1 l2 (fun r g4 l5 => ∃ z6, r = some (iq_i z6) ∧ (Q (some (iq_i z6)) g4 l5)))) ∧
      (¬ z3 = (0 : Int) → (iq_P N xs 153 0 [some (iq_r 77), some (iq_i a1)] [] g1 l2 (fun r g7 l8 => ∃ z9, r = some (iq_i z9) ∧ ((-2147483648 ≤ z9 ∧ z9 ≤ 2147483647) ∧
          (¬ z9 = (0 : Int) → (iq_P N xs 217 0 [some (iq_r 77), some (iq_i a0), some (iq_i a1), none] [] g7 l8 (fun r g10 l11 => ∃ z12, r = some (iq_i z12) ∧ ((-2147483648 ≤ z12 ∧ z12 ≤ 2147483647) ∧
              (z12 = (0 : Int) → (iq_P N xs 115 0 [some (iq_r 77), some (iq_i 0)] [] g10 l11 (fun r g13 l14 => ∃ z15, r = some (iq_i z15) ∧ (Q (some (iq_i z15)) g13 l14)))) ∧
              (¬ z12 = (0 : Int) → (iq_P N xs 115 0 [some (iq_r 77), some (iq_i 1)] [] g10 l11 (fun r g16 l17 => ∃ z18, r = some (iq_i z18) ∧ (Q (some (iq_i z18)) g16 l17)))))))) ∧
          (z9 = (0 : Int) → (iq_P N xs 98 0 [some (iq_r 77), some (iq_i 1)] [] g7 l8 (fun r g19 l20 => ∃ z21, r = some (iq_i z21) ∧ (Q (some (iq_i z21)) g19 l20))))))))))) :
    iq_P N xs 220 0 [some (iq_r 77), some (iq_i a0), some (iq_i a1)] [] g l Q := iq_w_ok (cuts := []) 18 0 _ _ _ _ H

-- ScaleForge$Ring.brightnessOf(I)I at 0
set_option maxRecDepth 20000 in
theorem B221_31 {N : Nat} {xs : Nat → Int32} {Q : iq_T} (a0 : Int) (g : iq_I) (l : iq_J) (H : iq_P N xs 221 4 [some (iq_r 31), some (iq_i a0), some (iq_i 0), some (iq_i 0)] [] g l Q) :
    iq_P N xs 221 0 [some (iq_r 31), some (iq_i a0), none, none] [] g l Q := iq_w_ok (cuts := [4]) 4 0 _ _ _ _ H

-- ScaleForge$Ring.brightnessOf(I)I at 4
set_option maxRecDepth 20000 in
theorem B221_p4_31 {N : Nat} {xs : Nat → Int32} {Q : iq_T} (v1 : Int) (v2 : Int) (v3 : Int) (g : iq_I) (l : iq_J) (H : (-2147483648 ≤ v3 ∧ v3 ≤ 2147483647 ∧ -2147483648 ≤ (g 31 3) ∧ (g 31 3) ≤ 2147483647) ∧
    ((g 31 3) ≤ v3 → (Q (some (iq_i v2)) g l)) ∧
    (v3 < (g 31 3) → (iq_P N xs 139 0 [some (iq_r 31), some (iq_i v1), some (iq_i v3), none] [] g l (fun r g1 l2 => ∃ z3, r = some (iq_i z3) ∧ (iq_P N xs 221 4 [some (iq_r 31), some (iq_i v1), some (iq_i (v2 + z3)), some (iq_i (v3 + 1))] [] g1 l2 Q))))) :
    iq_P N xs 221 4 [some (iq_r 31), some (iq_i v1), some (iq_i v2), some (iq_i v3)] [] g l Q := iq_w_ok (cuts := [4]) 13 4 _ _ _ _ H

-- ScaleForge.brightness(I)I at 0
set_option maxRecDepth 20000 in
theorem B222_0 {N : Nat} {xs : Nat → Int32} {Q : iq_T} (a0 : Int) (g : iq_I) (l : iq_J) (H : iq_P N xs 151 0 [some (iq_r 0), some (iq_i a0)] [] g l (fun r g1 l2 => ∃ z3, r = some (iq_i z3) ∧ ((-2147483648 ≤ z3 ∧ z3 ≤ 2147483647) ∧
      (z3 = (0 : Int) → (iq_P N xs 44 0 [some (iq_r 0), some (iq_i 1)] [] g1 l2 (fun r g4 l5 => ∃ z6, r = some (iq_i z6) ∧ (Q (some (iq_i z6)) g4 l5)))) ∧
      (¬ z3 = (0 : Int) → (iq_P N xs 137 0 [some (iq_r 0)] [] g1 l2 (fun r g7 l8 => iq_P N xs 222 13 [some (iq_r 0), some (iq_i a0)] (r.toList ++ [iq_r 0]) g7 l8 Q)))))) :
    iq_P N xs 222 0 [some (iq_r 0), some (iq_i a0)] [] g l Q := iq_w_ok (cuts := []) 8 0 _ _ _ _ H

-- ScaleForge.brightness(I)I at 13
set_option maxRecDepth 20000 in
theorem B222_q13_31 {N : Nat} {xs : Nat → Int32} {Q : iq_T} (v1 : Int) (g : iq_I) (l : iq_J) (H : iq_P N xs 221 0 [some (iq_r 31), some (iq_i v1), none, none] [] g l (fun r g1 l2 => ∃ z3, r = some (iq_i z3) ∧ (iq_P N xs 90 0 [some (iq_r 0), some (iq_i z3)] [] g1 l2 (fun r g4 l5 => ∃ z6, r = some (iq_i z6) ∧ (Q (some (iq_i z6)) g4 l5))))) :
    iq_P N xs 222 13 [some (iq_r 0), some (iq_i v1)] [iq_r 31, iq_r 0] g l Q := iq_w_ok (cuts := []) 5 13 _ _ _ _ H

-- ScaleForgeModel.brightnessOf(I)I at 0
set_option maxRecDepth 20000 in
theorem B223_77 {N : Nat} {xs : Nat → Int32} {Q : iq_T} (a0 : Int) (g : iq_I) (l : iq_J) (H : iq_P N xs 223 4 [some (iq_r 77), some (iq_i a0), some (iq_i 0), some (iq_i 1)] [] g l Q) :
    iq_P N xs 223 0 [some (iq_r 77), some (iq_i a0), none, none] [] g l Q := iq_w_ok (cuts := [4]) 4 0 _ _ _ _ H

-- ScaleForgeModel.brightnessOf(I)I at 4
set_option maxRecDepth 20000 in
theorem B223_p4_77 {N : Nat} {xs : Nat → Int32} {Q : iq_T} (v1 : Int) (v2 : Int) (v3 : Int) (g : iq_I) (l : iq_J) (H : (-2147483648 ≤ v3 ∧ v3 ≤ 2147483647 ∧ -2147483648 ≤ (g 77 26) ∧ (g 77 26) ≤ 2147483647) ∧
    ((g 77 26) ≤ v3 → (Q (some (iq_i v2)) g l)) ∧
    (v3 < (g 77 26) → (iq_P N xs 164 0 [some (iq_r 77), some (iq_i v1), some (iq_i v3), none, none] [] g l (fun r g1 l2 => ∃ z3, r = some (iq_i z3) ∧ (iq_P N xs 223 4 [some (iq_r 77), some (iq_i v1), some (iq_i (v2 + z3)), some (iq_i (v3 + 1))] [] g1 l2 Q))))) :
    iq_P N xs 223 4 [some (iq_r 77), some (iq_i v1), some (iq_i v2), some (iq_i v3)] [] g l Q := iq_w_ok (cuts := [4]) 13 4 _ _ _ _ H

-- ScaleForgeModel.brightness(I)I at 0
set_option maxRecDepth 20000 in
theorem B224_77 {N : Nat} {xs : Nat → Int32} {Q : iq_T} (a0 : Int) (g : iq_I) (l : iq_J) (H : iq_P N xs 153 0 [some (iq_r 77), some (iq_i a0)] [] g l (fun r g1 l2 => ∃ z3, r = some (iq_i z3) ∧ ((-2147483648 ≤ z3 ∧ z3 ≤ 2147483647) ∧
      (z3 = (0 : Int) → (iq_P N xs 98 0 [some (iq_r 77), some (iq_i 1)] [] g1 l2 (fun r g4 l5 => ∃ z6, r = some (iq_i z6) ∧ (Q (some (iq_i z6)) g4 l5)))) ∧
      (¬ z3 = (0 : Int) → (iq_P N xs 223 0 [some (iq_r 77), some (iq_i a0), none, none] [] g1 l2 (fun r g7 l8 => ∃ z9, r = some (iq_i z9) ∧ (iq_P N xs 115 0 [some (iq_r 77), some (iq_i z9)] [] g7 l8 (fun r g10 l11 => ∃ z12, r = some (iq_i z12) ∧ (Q (some (iq_i z12)) g10 l11))))))))) :
    iq_P N xs 224 0 [some (iq_r 77), some (iq_i a0)] [] g l Q := iq_w_ok (cuts := []) 11 0 _ _ _ _ H

-- ScaleForge.darkerThan(II)I at 0
set_option maxRecDepth 20000 in
theorem B225_0 {N : Nat} {xs : Nat → Int32} {Q : iq_T} (a0 : Int) (a1 : Int) (g : iq_I) (l : iq_J) (H : iq_P N xs 225 5 [some (iq_r 0), some (iq_i a0), some (iq_i a1), some (iq_i 0), some (iq_i 0), none] [] g l Q) :
    iq_P N xs 225 0 [some (iq_r 0), some (iq_i a0), some (iq_i a1), none, none, none] [] g l Q := iq_w_ok (cuts := [5]) 4 0 _ _ _ _ H

-- ScaleForge.darkerThan(II)I at 5
set_option maxRecDepth 20000 in
theorem B225_p5_0 {N : Nat} {xs : Nat → Int32} {Q : iq_T} (v1 : Int) (v2 : Int) (v3 : Int) (v4 : Int) (d5 : Option iq_V) (g : iq_I) (l : iq_J) (H : (-2147483648 ≤ v4 ∧ v4 ≤ 2147483647 ∧ -2147483648 ≤ v2 ∧ v2 ≤ 2147483647) ∧
    (v2 ≤ v4 → (Q (some (iq_i v3)) g l)) ∧
    (v4 < v2 → ((-2147483648 ≤ v4 ∧ v4 ≤ 2147483647) ∧
      ((60 : Int) ≤ v4 → (Q (some (iq_i v3)) g l)) ∧
      (v4 < (60 : Int) → ((-2147483648 ≤ v1 ∧ v1 ≤ 2147483647) ∧
        ((60 : Int) ≤ v1 → (Q (some (iq_i v3)) g l)) ∧
        (v1 < (60 : Int) → ((0 ≤ v4 ∧ v4 < 60) ∧ ((0 ≤ v1 ∧ v1 < 60) ∧ ((-2147483648 ≤ (iq_lc (l 39 v4) (l 39 v1)) ∧ (iq_lc (l 39 v4) (l 39 v1)) ≤ 2147483647) ∧
          ((iq_lc (l 39 v4) (l 39 v1)) < (0 : Int) → (iq_P N xs 225 5 [some (iq_r 0), some (iq_i v1), some (iq_i v2), some (iq_i (v3 + 1)), some (iq_i (v4 + 1)), some (iq_i 1)] [] g l Q)) ∧
          ((0 : Int) ≤ (iq_lc (l 39 v4) (l 39 v1)) → ((0 ≤ v4 ∧ v4 < 60) ∧ ((0 ≤ v1 ∧ v1 < 60) ∧ ((-2147483648 ≤ (iq_lc (l 39 v4) (l 39 v1)) ∧ (iq_lc (l 39 v4) (l 39 v1)) ≤ 2147483647) ∧
            (¬ (iq_lc (l 39 v4) (l 39 v1)) = (0 : Int) → (iq_P N xs 225 5 [some (iq_r 0), some (iq_i v1), some (iq_i v2), some (iq_i (v3 + 0)), some (iq_i (v4 + 1)), some (iq_i 0)] [] g l Q)) ∧
            ((iq_lc (l 39 v4) (l 39 v1)) = (0 : Int) → ((-2147483648 ≤ v4 ∧ v4 ≤ 2147483647 ∧ -2147483648 ≤ v1 ∧ v1 ≤ 2147483647) ∧
              (v1 ≤ v4 → (iq_P N xs 225 5 [some (iq_r 0), some (iq_i v1), some (iq_i v2), some (iq_i (v3 + 0)), some (iq_i (v4 + 1)), some (iq_i 0)] [] g l Q)) ∧
              (v4 < v1 → (iq_P N xs 225 5 [some (iq_r 0), some (iq_i v1), some (iq_i v2), some (iq_i (v3 + 1)), some (iq_i (v4 + 1)), some (iq_i 1)] [] g l Q))))))))))))))))) :
    iq_P N xs 225 5 [some (iq_r 0), some (iq_i v1), some (iq_i v2), some (iq_i v3), some (iq_i v4), d5] [] g l Q := iq_w_ok (cuts := [5]) 48 5 _ _ _ _ H

-- ScaleForge.modeBy(I)I at 0
set_option maxRecDepth 20000 in
theorem B226_0 {N : Nat} {xs : Nat → Int32} {Q : iq_T} (a0 : Int) (g : iq_I) (l : iq_J) (H : iq_P N xs 151 0 [some (iq_r 0), some (iq_i a0)] [] g l (fun r g1 l2 => ∃ z3, r = some (iq_i z3) ∧ ((-2147483648 ≤ z3 ∧ z3 ≤ 2147483647) ∧
      (¬ z3 = (0 : Int) → (iq_P N xs 137 0 [some (iq_r 0)] [] g1 l2 (fun r g4 l5 => iq_P N xs 226 19 [some (iq_r 0), some (iq_i a0), none, none] (r.toList ++ []) g4 l5 Q))) ∧
      (z3 = (0 : Int) → (iq_P N xs 44 0 [some (iq_r 0), some (iq_i 6)] [] g1 l2 (fun r g6 l7 => ∃ z8, r = some (iq_i z8) ∧ (Q (some (iq_i z8)) g6 l7))))))) :
    iq_P N xs 226 0 [some (iq_r 0), some (iq_i a0), none, none] [] g l Q := iq_w_ok (cuts := [22, 59]) 8 0 _ _ _ _ H

-- ScaleForge.modeBy(I)I at 19
set_option maxRecDepth 20000 in
theorem B226_q19_31 {N : Nat} {xs : Nat → Int32} {Q : iq_T} (v1 : Int) (g : iq_I) (l : iq_J) (H : iq_P N xs 226 22 [some (iq_r 0), some (iq_i v1), some (iq_r 31), some (iq_i 0)] [] g l Q) :
    iq_P N xs 226 19 [some (iq_r 0), some (iq_i v1), none, none] [iq_r 31] g l Q := iq_w_ok (cuts := [22, 59]) 3 19 _ _ _ _ H

-- ScaleForge.modeBy(I)I at 22
set_option maxRecDepth 20000 in
theorem B226_p22_31 {N : Nat} {xs : Nat → Int32} {Q : iq_T} (v1 : Int) (v3 : Int) (g : iq_I) (l : iq_J) (H : (-2147483648 ≤ v3 ∧ v3 ≤ 2147483647 ∧ -2147483648 ≤ (g 31 3) ∧ (g 31 3) ≤ 2147483647) ∧
    ((g 31 3) ≤ v3 → (iq_P N xs 226 59 [some (iq_r 0), some (iq_i v1), some (iq_r 31), some (iq_i 0)] [] g l Q)) ∧
    (v3 < (g 31 3) → ((-2147483648 ≤ v3 ∧ v3 ≤ 2147483647) ∧
      ((60 : Int) ≤ v3 → (iq_P N xs 226 59 [some (iq_r 0), some (iq_i v1), some (iq_r 31), some (iq_i 0)] [] g l Q)) ∧
      (v3 < (60 : Int) → (iq_P N xs 221 0 [some (iq_r 31), some (iq_i v3), none, none] [] g l (fun r g1 l2 => ∃ z3, r = some (iq_i z3) ∧ ((0 ≤ v3 ∧ v3 < 60) ∧ (iq_P N xs 226 22 [some (iq_r 0), some (iq_i v1), some (iq_r 31), some (iq_i (v3 + 1))] [] g1 (iq_uz l2 39 v3 (iq_i2l z3)) Q)))))))) :
    iq_P N xs 226 22 [some (iq_r 0), some (iq_i v1), some (iq_r 31), some (iq_i v3)] [] g l Q := iq_w_ok (cuts := [22, 59]) 19 22 _ _ _ _ H

-- ScaleForge.modeBy(I)I at 59
set_option maxRecDepth 20000 in
theorem B226_p59_31 {N : Nat} {xs : Nat → Int32} {Q : iq_T} (v1 : Int) (v3 : Int) (g : iq_I) (l : iq_J) (H : (-2147483648 ≤ v3 ∧ v3 ≤ 2147483647 ∧ -2147483648 ≤ (g 31 3) ∧ (g 31 3) ≤ 2147483647) ∧
    ((g 31 3) ≤ v3 → (iq_P N xs 44 0 [some (iq_r 0), some (iq_i 6)] [] g l (fun r g1 l2 => ∃ z3, r = some (iq_i z3) ∧ (Q (some (iq_i z3)) g1 l2)))) ∧
    (v3 < (g 31 3) → (iq_P N xs 225 0 [some (iq_r 0), some (iq_i v3), some (iq_i (g 31 3)), none, none, none] [] g l (fun r g4 l5 => ∃ z6, r = some (iq_i z6) ∧ ((-2147483648 ≤ z6 ∧ z6 ≤ 2147483647 ∧ -2147483648 ≤ v1 ∧ v1 ≤ 2147483647) ∧
        (¬ z6 = v1 → (iq_P N xs 226 59 [some (iq_r 0), some (iq_i v1), some (iq_r 31), some (iq_i (v3 + 1))] [] g4 l5 Q)) ∧
        (z6 = v1 → (iq_P N xs 90 0 [some (iq_r 0), some (iq_i v3)] [] g4 l5 (fun r g7 l8 => ∃ z9, r = some (iq_i z9) ∧ (Q (some (iq_i z9)) g7 l8))))))))) :
    iq_P N xs 226 59 [some (iq_r 0), some (iq_i v1), some (iq_r 31), some (iq_i v3)] [] g l Q := iq_w_ok (cuts := [22, 59]) 15 59 _ _ _ _ H

-- ScaleForgeModel.modeBy(I)I at 0
set_option maxRecDepth 20000 in
theorem B227_77 {N : Nat} {xs : Nat → Int32} {Q : iq_T} (a0 : Int) (g : iq_I) (l : iq_J) (H : iq_P N xs 153 0 [some (iq_r 77), some (iq_i a0)] [] g l (fun r g1 l2 => ∃ z3, r = some (iq_i z3) ∧ ((-2147483648 ≤ z3 ∧ z3 ≤ 2147483647) ∧
      (¬ z3 = (0 : Int) → (iq_P N xs 227 17 [some (iq_r 77), some (iq_i a0), some (iq_i 0), none, none] [] g1 l2 Q)) ∧
      (z3 = (0 : Int) → (iq_P N xs 98 0 [some (iq_r 77), some (iq_i 6)] [] g1 l2 (fun r g4 l5 => ∃ z6, r = some (iq_i z6) ∧ (Q (some (iq_i z6)) g4 l5))))))) :
    iq_P N xs 227 0 [some (iq_r 77), some (iq_i a0), none, none, none] [] g l Q := iq_w_ok (cuts := [17, 30]) 8 0 _ _ _ _ H

-- ScaleForgeModel.modeBy(I)I at 17
set_option maxRecDepth 20000 in
theorem B227_p17_77 {N : Nat} {xs : Nat → Int32} {Q : iq_T} (v1 : Int) (v2 : Int) (d3 : Option iq_V) (d4 : Option iq_V) (g : iq_I) (l : iq_J) (H : (-2147483648 ≤ v2 ∧ v2 ≤ 2147483647 ∧ -2147483648 ≤ (g 77 26) ∧ (g 77 26) ≤ 2147483647) ∧
    ((g 77 26) ≤ v2 → (iq_P N xs 98 0 [some (iq_r 77), some (iq_i 6)] [] g l (fun r g1 l2 => ∃ z3, r = some (iq_i z3) ∧ (Q (some (iq_i z3)) g1 l2)))) ∧
    (v2 < (g 77 26) → (iq_P N xs 227 30 [some (iq_r 77), some (iq_i v1), some (iq_i v2), some (iq_i 0), some (iq_i 0)] [] g l Q))) :
    iq_P N xs 227 17 [some (iq_r 77), some (iq_i v1), some (iq_i v2), d3, d4] [] g l Q := iq_w_ok (cuts := [17, 30]) 8 17 _ _ _ _ H

-- ScaleForgeModel.modeBy(I)I at 30
set_option maxRecDepth 20000 in
theorem B227_p30_77 {N : Nat} {xs : Nat → Int32} {Q : iq_T} (v1 : Int) (v2 : Int) (v3 : Int) (v4 : Int) (g : iq_I) (l : iq_J) (H : (-2147483648 ≤ v4 ∧ v4 ≤ 2147483647 ∧ -2147483648 ≤ (g 77 26) ∧ (g 77 26) ≤ 2147483647) ∧
    ((g 77 26) ≤ v4 → ((-2147483648 ≤ v3 ∧ v3 ≤ 2147483647 ∧ -2147483648 ≤ v1 ∧ v1 ≤ 2147483647) ∧
      (¬ v3 = v1 → (iq_P N xs 227 17 [some (iq_r 77), some (iq_i v1), some (iq_i (v2 + 1)), some (iq_i v3), some (iq_i v4)] [] g l Q)) ∧
      (v3 = v1 → (iq_P N xs 115 0 [some (iq_r 77), some (iq_i v2)] [] g l (fun r g1 l2 => ∃ z3, r = some (iq_i z3) ∧ (Q (some (iq_i z3)) g1 l2)))))) ∧
    (v4 < (g 77 26) → (iq_P N xs 223 0 [some (iq_r 77), some (iq_i v4), none, none] [] g l (fun r g4 l5 => ∃ z6, r = some (iq_i z6) ∧ (iq_P N xs 223 0 [some (iq_r 77), some (iq_i v2), none, none] [] g4 l5 (fun r g7 l8 => ∃ z9, r = some (iq_i z9) ∧ ((-2147483648 ≤ z6 ∧ z6 ≤ 2147483647 ∧ -2147483648 ≤ z9 ∧ z9 ≤ 2147483647) ∧
          (z6 < z9 → (iq_P N xs 227 30 [some (iq_r 77), some (iq_i v1), some (iq_i v2), some (iq_i (v3 + 1)), some (iq_i (v4 + 1))] [] g7 l8 Q)) ∧
          (z9 ≤ z6 → (iq_P N xs 223 0 [some (iq_r 77), some (iq_i v4), none, none] [] g7 l8 (fun r g10 l11 => ∃ z12, r = some (iq_i z12) ∧ (iq_P N xs 223 0 [some (iq_r 77), some (iq_i v2), none, none] [] g10 l11 (fun r g13 l14 => ∃ z15, r = some (iq_i z15) ∧ ((-2147483648 ≤ z12 ∧ z12 ≤ 2147483647 ∧ -2147483648 ≤ z15 ∧ z15 ≤ 2147483647) ∧
                (¬ z12 = z15 → (iq_P N xs 227 30 [some (iq_r 77), some (iq_i v1), some (iq_i v2), some (iq_i (v3 + 0)), some (iq_i (v4 + 1))] [] g13 l14 Q)) ∧
                (z12 = z15 → ((-2147483648 ≤ v4 ∧ v4 ≤ 2147483647 ∧ -2147483648 ≤ v2 ∧ v2 ≤ 2147483647) ∧
                  (v2 ≤ v4 → (iq_P N xs 227 30 [some (iq_r 77), some (iq_i v1), some (iq_i v2), some (iq_i (v3 + 0)), some (iq_i (v4 + 1))] [] g13 l14 Q)) ∧
                  (v4 < v2 → (iq_P N xs 227 30 [some (iq_r 77), some (iq_i v1), some (iq_i v2), some (iq_i (v3 + 1)), some (iq_i (v4 + 1))] [] g13 l14 Q))))))))))))))))) :
    iq_P N xs 227 30 [some (iq_r 77), some (iq_i v1), some (iq_i v2), some (iq_i v3), some (iq_i v4)] [] g l Q := iq_w_ok (cuts := [17, 30]) 28 30 _ _ _ _ H

-- ScaleForge$Scale.nominalOf(I)I at 0
set_option maxRecDepth 20000 in
theorem B228_23 {N : Nat} {xs : Nat → Int32} {Q : iq_T} (a0 : Int) (g : iq_I) (l : iq_J) (H : (-2147483648 ≤ (g 24 6) ∧ (g 24 6) ≤ 2147483647) ∧
    ((g 24 6) ≤ (0 : Int) → (Q (some (iq_i 0)) g l)) ∧
    ((0 : Int) < (g 24 6) → (iq_P N xs 4 0 [some (iq_i a0), some (iq_i (g 24 6)), none] [] g l (fun r g1 l2 => ∃ z3, r = some (iq_i z3) ∧ (Q (some (iq_i z3)) g1 l2))))) :
    iq_P N xs 228 0 [some (iq_r 23), some (iq_i a0)] [] g l Q := iq_w_ok (cuts := []) 13 0 _ _ _ _ H

-- ScaleForge.nominal(I)I at 0
set_option maxRecDepth 20000 in
theorem B229_0 {N : Nat} {xs : Nat → Int32} {Q : iq_T} (a0 : Int) (g : iq_I) (l : iq_J) (H : iq_P N xs 146 0 [some (iq_i a0)] [] g l (fun r g1 l2 => ∃ z3, r = some (iq_i z3) ∧ ((-2147483648 ≤ z3 ∧ z3 ≤ 2147483647) ∧
      (z3 = (0 : Int) → (iq_P N xs 228 0 [some (iq_r 23), some (iq_i a0)] [] g1 l2 (fun r g4 l5 => ∃ z6, r = some (iq_i z6) ∧ (iq_P N xs 90 0 [some (iq_r 0), some (iq_i z6)] [] g4 l5 (fun r g7 l8 => ∃ z9, r = some (iq_i z9) ∧ (Q (some (iq_i z9)) g7 l8)))))) ∧
      (¬ z3 = (0 : Int) → (iq_P N xs 44 0 [some (iq_r 0), some (iq_i 1)] [] g1 l2 (fun r g10 l11 => ∃ z12, r = some (iq_i z12) ∧ (Q (some (iq_i z12)) g10 l11))))))) :
    iq_P N xs 229 0 [some (iq_r 0), some (iq_i a0)] [] g l Q := iq_w_ok (cuts := []) 10 0 _ _ _ _ H

-- ScaleForgeModel.nominalOf(I)I at 0
set_option maxRecDepth 20000 in
theorem B230_77 {N : Nat} {xs : Nat → Int32} {Q : iq_T} (a0 : Int) (g : iq_I) (l : iq_J) (H : iq_P N xs 111 0 [some (iq_i a0), some (iq_i (g 78 6)), none] [] g l (fun r g1 l2 => ∃ z3, r = some (iq_i z3) ∧ (Q (some (iq_i z3)) g1 l2))) :
    iq_P N xs 230 0 [some (iq_r 77), some (iq_i a0)] [] g l Q := iq_w_ok (cuts := []) 7 0 _ _ _ _ H

-- ScaleForgeModel.nominal(I)I at 0
set_option maxRecDepth 20000 in
theorem B231_77 {N : Nat} {xs : Nat → Int32} {Q : iq_T} (a0 : Int) (g : iq_I) (l : iq_J) (H : iq_P N xs 149 0 [some (iq_l (iq_i2l a0)), none, some (iq_l (Int64.ofNat 18446744073709551556)), none, some (iq_l (Int64.ofNat 60)), none] [] g l (fun r g1 l2 => ∃ z3, r = some (iq_i z3) ∧ ((-2147483648 ≤ z3 ∧ z3 ≤ 2147483647) ∧
      (z3 = (0 : Int) → (iq_P N xs 98 0 [some (iq_r 77), some (iq_i 1)] [] g1 l2 (fun r g4 l5 => ∃ z6, r = some (iq_i z6) ∧ (Q (some (iq_i z6)) g4 l5)))) ∧
      (¬ z3 = (0 : Int) → (iq_P N xs 230 0 [some (iq_r 77), some (iq_i a0)] [] g1 l2 (fun r g7 l8 => ∃ z9, r = some (iq_i z9) ∧ (iq_P N xs 115 0 [some (iq_r 77), some (iq_i z9)] [] g7 l8 (fun r g10 l11 => ∃ z12, r = some (iq_i z12) ∧ (Q (some (iq_i z12)) g10 l11))))))))) :
    iq_P N xs 231 0 [some (iq_r 77), some (iq_i a0)] [] g l Q := iq_w_ok (cuts := []) 13 0 _ _ _ _ H
