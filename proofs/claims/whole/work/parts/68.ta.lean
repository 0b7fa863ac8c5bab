/-! Stretches of trayAt. -/
-- ScaleForge.trayAt(I)LScaleForge$Tray; at 0
set_option maxRecDepth 20000 in
theorem B27_0 {N : Nat} {xs : Nat → Int32} {Q : iq_T} (a0 : Int) (g : iq_I) (l : iq_J) (H : (-2147483648 ≤ a0 ∧ a0 ≤ 2147483647) ∧
    (a0 < (0 : Int) → (Q (some (iq_n)) g l)) ∧
    ((0 : Int) ≤ a0 → ((-2147483648 ≤ a0 ∧ a0 ≤ 2147483647) ∧
      ((4 : Int) ≤ a0 → (Q (some (iq_n)) g l)) ∧
      (a0 < (4 : Int) → (iq_P N xs 27 13 [some (iq_r 0), some (iq_i a0)] [] g l Q))))) :
    iq_P N xs 27 0 [some (iq_r 0), some (iq_i a0)] [] g l Q := iq_w_ok (cuts := [13]) 9 0 _ _ _ _ H

-- ScaleForge.trayAt(I)LScaleForge$Tray; at 13
set_option maxRecDepth 20000 in
theorem B27_c0 {N : Nat} {xs : Nat → Int32} {Q : iq_T} (g : iq_I) (l : iq_J) (H : (0 ≤ (0 : Int) ∧ (0 : Int) < 4) ∧ (Q (some (iq_r 2)) g l)) :
    iq_P N xs 27 13 [some (iq_r 0), some (iq_i 0)] [] g l Q := iq_w_ok (cuts := []) 6 13 _ _ _ _ H

-- ScaleForge.trayAt(I)LScaleForge$Tray; at 13
set_option maxRecDepth 20000 in
theorem B27_c1 {N : Nat} {xs : Nat → Int32} {Q : iq_T} (g : iq_I) (l : iq_J) (H : (0 ≤ (1 : Int) ∧ (1 : Int) < 4) ∧ (Q (some (iq_r 4)) g l)) :
    iq_P N xs 27 13 [some (iq_r 0), some (iq_i 1)] [] g l Q := iq_w_ok (cuts := []) 6 13 _ _ _ _ H

-- ScaleForge.trayAt(I)LScaleForge$Tray; at 13
set_option maxRecDepth 20000 in
theorem B27_c2 {N : Nat} {xs : Nat → Int32} {Q : iq_T} (g : iq_I) (l : iq_J) (H : (0 ≤ (2 : Int) ∧ (2 : Int) < 4) ∧ (Q (some (iq_r 6)) g l)) :
    iq_P N xs 27 13 [some (iq_r 0), some (iq_i 2)] [] g l Q := iq_w_ok (cuts := []) 6 13 _ _ _ _ H

-- ScaleForge.trayAt(I)LScaleForge$Tray; at 13
set_option maxRecDepth 20000 in
theorem B27_c3 {N : Nat} {xs : Nat → Int32} {Q : iq_T} (g : iq_I) (l : iq_J) (H : (0 ≤ (3 : Int) ∧ (3 : Int) < 4) ∧ (Q (some (iq_r 8)) g l)) :
    iq_P N xs 27 13 [some (iq_r 0), some (iq_i 3)] [] g l Q := iq_w_ok (cuts := []) 6 13 _ _ _ _ H
