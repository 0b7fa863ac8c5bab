-- the loop of ScaleForge$Scale.stacked(III)J at 22
def w8_23 : Nat → Int32 → Int32 → Int32 → Int64 → Int32 → Int32 → (Nat → Nat → Int32) → (Nat → Nat → Int64) → Int64 × (Nat → Nat → Int32) × (Nat → Nat → Int64)
  | 0, _, _, _, _, _, _, hi, hl => (0, hi, hl)
  | n + 1, v1, v2, v3, v4, v6, v7, hi, hl => if v3 ≤ v7 then ((v4, hi, hl)) else (if (v6 + v1) < (hi 24 1) then (w8_23 n v1 v2 v3 (v4 ||| (f6 v6 hi hl)) ((v6 + v1) - 0) (v7 + 1) hi hl) else (w8_23 n v1 v2 v3 (v4 ||| (f6 v6 hi hl)) ((v6 + v1) - (hi 24 1)) (v7 + 1) hi hl))
def e8_23 : Nat → Int32 → Int32 → Int32 → Int64 → Int32 → Int32 → (Nat → Nat → Int32) → (Nat → Nat → Int64) → Prop
  | 0, _, _, _, _, _, _, _, _ => False
  | n + 1, v1, v2, v3, v4, v6, v7, hi, hl => if v3 ≤ v7 then (True) else (if (v6 + v1) < (hi 24 1) then (e8_23 n v1 v2 v3 (v4 ||| (f6 v6 hi hl)) ((v6 + v1) - 0) (v7 + 1) hi hl) else (e8_23 n v1 v2 v3 (v4 ||| (f6 v6 hi hl)) ((v6 + v1) - (hi 24 1)) (v7 + 1) hi hl))
set_option maxRecDepth 10000 in
theorem l8_23 {N : Nat} {xs : Nat → Int32} {Q : Option Value → ij_H → Prop} (n : Nat) : ∀ (v1 : Int32) (v2 : Int32) (v3 : Int32) (v4 : Int64) (v6 : Int32) (v7 : Int32) (hi : Nat → Nat → Int32) (hl : Nat → Nat → Int64), e8_23 n v1 v2 v3 v4 v6 v7 hi hl → Q (some (.long (w8_23 n v1 v2 v3 v4 v6 v7 hi hl).1)) (ij_SH, (w8_23 n v1 v2 v3 v4 v6 v7 hi hl).2.1, (w8_23 n v1 v2 v3 v4 v6 v7 hi hl).2.2, ij_HR) → ij_R (ij_xt N xs) 8 22 [some (.ref 23), some (.int v1), some (.int v2), some (.int v3), some (.long v4), none, some (.int v6), some (.int v7)] [] (ij_SH, hi, hl, ij_HR) Q := by
  induction n with
  | zero => intro v1 v2 v3 v4 v6 v7 hi hl he; exact he.elim
  | succ n ih =>
    intro v1 v2 v3 v4 v6 v7 hi hl he q
    rw [e8_23] at he
    rw [w8_23] at q
    refine ij_br 3 (v3 ≤ v7) 76 28 [some (.ref 23), some (.int v1), some (.int v2), some (.int v3), some (.long v4), none, some (.int v6), some (.int v7)] [] (ij_SH, hi, hl, ij_HR) (fun n => rfl) (fun c1 => ?_) (fun c1 => ?_)
    · skip
      rw [if_pos c1] at he q
      exact ij_ret 2 (some (.long v4)) (ij_SH, hi, hl, ij_HR) (fun n => rfl) q
    · skip
      rw [if_neg c1] at he q
      refine ij_call 3 6 [some (.int v6)] [.long v4] 35 [some (.ref 23), some (.int v1), some (.int v2), some (.int v3), some (.long v4), none, some (.int v6), some (.int v7)] (ij_SH, hi, hl, ij_HR) (fun n => rfl) (t6 v6 ?_)
      -- back
      refine ij_br 13 ((v6 + v1) < (hi 24 1)) 66 57 [some (.ref 23), some (.int v1), some (.int v2), some (.int v3), some (.long ((v4 ||| (f6 v6 hi hl)))), none, some (.int ((v6 + v1))), some (.int v7)] [.int ((v6 + v1))] (ij_SH, hi, hl, ij_HR) (fun n => rfl) (fun c2 => ?_) (fun c2 => ?_)
      · skip
        rw [if_pos c2] at he q
        refine ij_go 5 22 [some (.ref 23), some (.int v1), some (.int v2), some (.int v3), some (.long ((v4 ||| (f6 v6 hi hl)))), none, some (.int (((v6 + v1) - 0))), some (.int ((v7 + 1)))] [] (ij_SH, hi, hl, ij_HR) (fun n => rfl) ?_
        exact ih v1 v2 v3 (v4 ||| (f6 v6 hi hl)) ((v6 + v1) - 0) (v7 + 1) hi hl he q
      · skip
        rw [if_neg c2] at he q
        refine ij_go 9 22 [some (.ref 23), some (.int v1), some (.int v2), some (.int v3), some (.long ((v4 ||| (f6 v6 hi hl)))), none, some (.int (((v6 + v1) - (hi 24 1)))), some (.int ((v7 + 1)))] [] (ij_SH, hi, hl, ij_HR) (fun n => rfl) ?_
        exact ih v1 v2 v3 (v4 ||| (f6 v6 hi hl)) ((v6 + v1) - (hi 24 1)) (v7 + 1) hi hl he q
-- the loop of ScaleForge$Scale.stacked(III)J at 22
def w8_44 : Nat → Int32 → Int32 → Int32 → Int64 → Int32 → Int32 → (Nat → Nat → Int32) → (Nat → Nat → Int64) → Int64 × (Nat → Nat → Int32) × (Nat → Nat → Int64)
  | 0, _, _, _, _, _, _, hi, hl => (0, hi, hl)
  | n + 1, v1, v2, v3, v4, v6, v7, hi, hl => if v3 ≤ v7 then ((v4, hi, hl)) else (if (v6 + v1) < (hi 45 1) then (w8_44 n v1 v2 v3 (v4 ||| (f6 v6 hi hl)) ((v6 + v1) - 0) (v7 + 1) hi hl) else (w8_44 n v1 v2 v3 (v4 ||| (f6 v6 hi hl)) ((v6 + v1) - (hi 45 1)) (v7 + 1) hi hl))
def e8_44 : Nat → Int32 → Int32 → Int32 → Int64 → Int32 → Int32 → (Nat → Nat → Int32) → (Nat → Nat → Int64) → Prop
  | 0, _, _, _, _, _, _, _, _ => False
  | n + 1, v1, v2, v3, v4, v6, v7, hi, hl => if v3 ≤ v7 then (True) else (if (v6 + v1) < (hi 45 1) then (e8_44 n v1 v2 v3 (v4 ||| (f6 v6 hi hl)) ((v6 + v1) - 0) (v7 + 1) hi hl) else (e8_44 n v1 v2 v3 (v4 ||| (f6 v6 hi hl)) ((v6 + v1) - (hi 45 1)) (v7 + 1) hi hl))
set_option maxRecDepth 10000 in
theorem l8_44 {N : Nat} {xs : Nat → Int32} {Q : Option Value → ij_H → Prop} (n : Nat) : ∀ (v1 : Int32) (v2 : Int32) (v3 : Int32) (v4 : Int64) (v6 : Int32) (v7 : Int32) (hi : Nat → Nat → Int32) (hl : Nat → Nat → Int64), e8_44 n v1 v2 v3 v4 v6 v7 hi hl → Q (some (.long (w8_44 n v1 v2 v3 v4 v6 v7 hi hl).1)) (ij_SH, (w8_44 n v1 v2 v3 v4 v6 v7 hi hl).2.1, (w8_44 n v1 v2 v3 v4 v6 v7 hi hl).2.2, ij_HR) → ij_R (ij_xt N xs) 8 22 [some (.ref 44), some (.int v1), some (.int v2), some (.int v3), some (.long v4), none, some (.int v6), some (.int v7)] [] (ij_SH, hi, hl, ij_HR) Q := by
  induction n with
  | zero => intro v1 v2 v3 v4 v6 v7 hi hl he; exact he.elim
  | succ n ih =>
    intro v1 v2 v3 v4 v6 v7 hi hl he q
    rw [e8_44] at he
    rw [w8_44] at q
    refine ij_br 3 (v3 ≤ v7) 76 28 [some (.ref 44), some (.int v1), some (.int v2), some (.int v3), some (.long v4), none, some (.int v6), some (.int v7)] [] (ij_SH, hi, hl, ij_HR) (fun n => rfl) (fun c1 => ?_) (fun c1 => ?_)
    · skip
      rw [if_pos c1] at he q
      exact ij_ret 2 (some (.long v4)) (ij_SH, hi, hl, ij_HR) (fun n => rfl) q
    · skip
      rw [if_neg c1] at he q
      refine ij_call 3 6 [some (.int v6)] [.long v4] 35 [some (.ref 44), some (.int v1), some (.int v2), some (.int v3), some (.long v4), none, some (.int v6), some (.int v7)] (ij_SH, hi, hl, ij_HR) (fun n => rfl) (t6 v6 ?_)
      -- back
      refine ij_br 13 ((v6 + v1) < (hi 45 1)) 66 57 [some (.ref 44), some (.int v1), some (.int v2), some (.int v3), some (.long ((v4 ||| (f6 v6 hi hl)))), none, some (.int ((v6 + v1))), some (.int v7)] [.int ((v6 + v1))] (ij_SH, hi, hl, ij_HR) (fun n => rfl) (fun c2 => ?_) (fun c2 => ?_)
      · skip
        rw [if_pos c2] at he q
        refine ij_go 5 22 [some (.ref 44), some (.int v1), some (.int v2), some (.int v3), some (.long ((v4 ||| (f6 v6 hi hl)))), none, some (.int (((v6 + v1) - 0))), some (.int ((v7 + 1)))] [] (ij_SH, hi, hl, ij_HR) (fun n => rfl) ?_
        exact ih v1 v2 v3 (v4 ||| (f6 v6 hi hl)) ((v6 + v1) - 0) (v7 + 1) hi hl he q
      · skip
        rw [if_neg c2] at he q
        refine ij_go 9 22 [some (.ref 44), some (.int v1), some (.int v2), some (.int v3), some (.long ((v4 ||| (f6 v6 hi hl)))), none, some (.int (((v6 + v1) - (hi 45 1)))), some (.int ((v7 + 1)))] [] (ij_SH, hi, hl, ij_HR) (fun n => rfl) ?_
        exact ih v1 v2 v3 (v4 ||| (f6 v6 hi hl)) ((v6 + v1) - (hi 45 1)) (v7 + 1) hi hl he q
-- the loop of ScaleForge$Scale.stacked(III)J at 22
def w8_13 : Nat → Int32 → Int32 → Int32 → Int64 → Int32 → Int32 → (Nat → Nat → Int32) → (Nat → Nat → Int64) → Int64 × (Nat → Nat → Int32) × (Nat → Nat → Int64)
  | 0, _, _, _, _, _, _, hi, hl => (0, hi, hl)
  | n + 1, v1, v2, v3, v4, v6, v7, hi, hl => if v3 ≤ v7 then ((v4, hi, hl)) else (if (v6 + v1) < (hi 14 1) then (w8_13 n v1 v2 v3 (v4 ||| (f6 v6 hi hl)) ((v6 + v1) - 0) (v7 + 1) hi hl) else (w8_13 n v1 v2 v3 (v4 ||| (f6 v6 hi hl)) ((v6 + v1) - (hi 14 1)) (v7 + 1) hi hl))
def e8_13 : Nat → Int32 → Int32 → Int32 → Int64 → Int32 → Int32 → (Nat → Nat → Int32) → (Nat → Nat → Int64) → Prop
  | 0, _, _, _, _, _, _, _, _ => False
  | n + 1, v1, v2, v3, v4, v6, v7, hi, hl => if v3 ≤ v7 then (True) else (if (v6 + v1) < (hi 14 1) then (e8_13 n v1 v2 v3 (v4 ||| (f6 v6 hi hl)) ((v6 + v1) - 0) (v7 + 1) hi hl) else (e8_13 n v1 v2 v3 (v4 ||| (f6 v6 hi hl)) ((v6 + v1) - (hi 14 1)) (v7 + 1) hi hl))
set_option maxRecDepth 10000 in
theorem l8_13 {N : Nat} {xs : Nat → Int32} {Q : Option Value → ij_H → Prop} (n : Nat) : ∀ (v1 : Int32) (v2 : Int32) (v3 : Int32) (v4 : Int64) (v6 : Int32) (v7 : Int32) (hi : Nat → Nat → Int32) (hl : Nat → Nat → Int64), e8_13 n v1 v2 v3 v4 v6 v7 hi hl → Q (some (.long (w8_13 n v1 v2 v3 v4 v6 v7 hi hl).1)) (ij_SH, (w8_13 n v1 v2 v3 v4 v6 v7 hi hl).2.1, (w8_13 n v1 v2 v3 v4 v6 v7 hi hl).2.2, ij_HR) → ij_R (ij_xt N xs) 8 22 [some (.ref 13), some (.int v1), some (.int v2), some (.int v3), some (.long v4), none, some (.int v6), some (.int v7)] [] (ij_SH, hi, hl, ij_HR) Q := by
  induction n with
  | zero => intro v1 v2 v3 v4 v6 v7 hi hl he; exact he.elim
  | succ n ih =>
    intro v1 v2 v3 v4 v6 v7 hi hl he q
    rw [e8_13] at he
    rw [w8_13] at q
    refine ij_br 3 (v3 ≤ v7) 76 28 [some (.ref 13), some (.int v1), some (.int v2), some (.int v3), some (.long v4), none, some (.int v6), some (.int v7)] [] (ij_SH, hi, hl, ij_HR) (fun n => rfl) (fun c1 => ?_) (fun c1 => ?_)
    · skip
      rw [if_pos c1] at he q
      exact ij_ret 2 (some (.long v4)) (ij_SH, hi, hl, ij_HR) (fun n => rfl) q
    · skip
      rw [if_neg c1] at he q
      refine ij_call 3 6 [some (.int v6)] [.long v4] 35 [some (.ref 13), some (.int v1), some (.int v2), some (.int v3), some (.long v4), none, some (.int v6), some (.int v7)] (ij_SH, hi, hl, ij_HR) (fun n => rfl) (t6 v6 ?_)
      -- back
      refine ij_br 13 ((v6 + v1) < (hi 14 1)) 66 57 [some (.ref 13), some (.int v1), some (.int v2), some (.int v3), some (.long ((v4 ||| (f6 v6 hi hl)))), none, some (.int ((v6 + v1))), some (.int v7)] [.int ((v6 + v1))] (ij_SH, hi, hl, ij_HR) (fun n => rfl) (fun c2 => ?_) (fun c2 => ?_)
      · skip
        rw [if_pos c2] at he q
        refine ij_go 5 22 [some (.ref 13), some (.int v1), some (.int v2), some (.int v3), some (.long ((v4 ||| (f6 v6 hi hl)))), none, some (.int (((v6 + v1) - 0))), some (.int ((v7 + 1)))] [] (ij_SH, hi, hl, ij_HR) (fun n => rfl) ?_
        exact ih v1 v2 v3 (v4 ||| (f6 v6 hi hl)) ((v6 + v1) - 0) (v7 + 1) hi hl he q
      · skip
        rw [if_neg c2] at he q
        refine ij_go 9 22 [some (.ref 13), some (.int v1), some (.int v2), some (.int v3), some (.long ((v4 ||| (f6 v6 hi hl)))), none, some (.int (((v6 + v1) - (hi 14 1)))), some (.int ((v7 + 1)))] [] (ij_SH, hi, hl, ij_HR) (fun n => rfl) ?_
        exact ih v1 v2 v3 (v4 ||| (f6 v6 hi hl)) ((v6 + v1) - (hi 14 1)) (v7 + 1) hi hl he q
-- the loop of ScaleForge$Reader.passWord()V at 5
def w59_10 : Nat → (Nat → Nat → Int32) → (Nat → Nat → Int64) → Int32 × (Nat → Nat → Int32) × (Nat → Nat → Int64)
  | 0, hi, hl => (0, hi, hl)
  | n + 1, hi, hl => if (hi 10 2) ≤ (hi 10 3) then ((0, hi, hl)) else (if (f56_10 (hi 10 3) hi hl) < 97 then ((0, hi, hl)) else (if 122 < (f56_10 (hi 10 3) hi hl) then ((0, hi, hl)) else (w59_10 n  (ij_ui hi 10 3 ((hi 10 3) + 1)) hl)))
def e59_10 : Nat → (Nat → Nat → Int32) → (Nat → Nat → Int64) → Prop
  | 0, _, _ => False
  | n + 1, hi, hl => if (hi 10 2) ≤ (hi 10 3) then (True) else (if (f56_10 (hi 10 3) hi hl) < 97 then (True) else (if 122 < (f56_10 (hi 10 3) hi hl) then (True) else (e59_10 n  (ij_ui hi 10 3 ((hi 10 3) + 1)) hl)))
set_option maxRecDepth 10000 in
theorem l59_10 {N : Nat} {xs : Nat → Int32} {Q : Option Value → ij_H → Prop} (n : Nat) : ∀  (hi : Nat → Nat → Int32) (hl : Nat → Nat → Int64), e59_10 n  hi hl → Q (none) (ij_SH, (w59_10 n  hi hl).2.1, (w59_10 n  hi hl).2.2, ij_HR) → ij_R (ij_xt N xs) 59 5 [some (.ref 10)] [] (ij_SH, hi, hl, ij_HR) Q := by
  induction n with
  | zero => intro  hi hl he; exact he.elim
  | succ n ih =>
    intro  hi hl he q
    rw [e59_10] at he
    rw [w59_10] at q
    refine ij_br 5 ((hi 10 2) ≤ (hi 10 3)) 43 16 [some (.ref 10)] [] (ij_SH, hi, hl, ij_HR) (fun n => rfl) (fun c1 => ?_) (fun c1 => ?_)
    · skip
      rw [if_pos c1] at he q
      exact ij_ret 1 (none) (ij_SH, hi, hl, ij_HR) (fun n => rfl) q
    · skip
      rw [if_neg c1] at he q
      refine ij_call 4 56 [some (.ref 10), some (.int ((hi 10 3)))] [] 24 [some (.ref 10)] (ij_SH, hi, hl, ij_HR) (fun n => rfl) (t56_10 (hi 10 3) ?_)
      -- back
      refine ij_call 1 58 [some (.int ((f56_10 (hi 10 3) hi hl)))] [] 27 [some (.ref 10)] (ij_SH, hi, hl, ij_HR) (fun n => rfl) (s58 (f56_10 (hi 10 3) hi hl) (fun c2 => ?_) (fun c3 c4 => ?_) (fun c5 c6 => ?_))
      · skip
        rw [if_pos c2] at he q
        exact ij_ret 2 (none) (ij_SH, hi, hl, ij_HR) (fun n => rfl) q
      · skip
        rw [if_neg c3, if_pos c4] at he q
        exact ij_ret 2 (none) (ij_SH, hi, hl, ij_HR) (fun n => rfl) q
      · skip
        rw [if_neg c5, if_neg c6] at he q
        refine ij_go 8 5 [some (.ref 10)] [] (ij_SH, (ij_ui hi 10 3 ((hi 10 3) + 1)), hl, ij_HR) (fun n => rfl) ?_
        exact ih  (ij_ui hi 10 3 ((hi 10 3) + 1)) hl he q
-- the loop of ScaleForge$Reader.passNumber()V at 10
def w61_10 : Nat → (Nat → Nat → Int32) → (Nat → Nat → Int64) → Int32 × (Nat → Nat → Int32) × (Nat → Nat → Int64)
  | 0, hi, hl => (0, hi, hl)
  | n + 1, hi, hl => if (hi 10 2) ≤ (hi 10 3) then (if ((hi 10 3) - (hi 10 5)) ≤ 4 then ((0, hi, hl)) else ((0, (ij_ui hi 10 4 4), hl))) else (if (f56_10 (hi 10 3) hi hl) < 48 then (if ((hi 10 3) - (hi 10 5)) ≤ 4 then ((0, hi, hl)) else ((0, (ij_ui hi 10 4 4), hl))) else (if 57 < (f56_10 (hi 10 3) hi hl) then (if ((hi 10 3) - (hi 10 5)) ≤ 4 then ((0, hi, hl)) else ((0, (ij_ui hi 10 4 4), hl))) else (if 4 ≤ ((hi 10 3) - (hi 10 5)) then (w61_10 n  (ij_ui (ij_ui hi 10 6 (hi 10 6)) 10 3 ((hi 10 3) + 1)) hl) else (w61_10 n  (ij_ui (ij_ui hi 10 6 ((((hi 10 6) * 10) + (f56_10 (hi 10 3) hi hl)) - 48)) 10 3 ((hi 10 3) + 1)) hl))))
def e61_10 : Nat → (Nat → Nat → Int32) → (Nat → Nat → Int64) → Prop
  | 0, _, _ => False
  | n + 1, hi, hl => if (hi 10 2) ≤ (hi 10 3) then (if ((hi 10 3) - (hi 10 5)) ≤ 4 then (True) else (True)) else (if (f56_10 (hi 10 3) hi hl) < 48 then (if ((hi 10 3) - (hi 10 5)) ≤ 4 then (True) else (True)) else (if 57 < (f56_10 (hi 10 3) hi hl) then (if ((hi 10 3) - (hi 10 5)) ≤ 4 then (True) else (True)) else (if 4 ≤ ((hi 10 3) - (hi 10 5)) then (e61_10 n  (ij_ui (ij_ui hi 10 6 (hi 10 6)) 10 3 ((hi 10 3) + 1)) hl) else (e61_10 n  (ij_ui (ij_ui hi 10 6 ((((hi 10 6) * 10) + (f56_10 (hi 10 3) hi hl)) - 48)) 10 3 ((hi 10 3) + 1)) hl))))
set_option maxRecDepth 10000 in
theorem l61_10 {N : Nat} {xs : Nat → Int32} {Q : Option Value → ij_H → Prop} (n : Nat) : ∀  (hi : Nat → Nat → Int32) (hl : Nat → Nat → Int64), e61_10 n  hi hl → Q (none) (ij_SH, (w61_10 n  hi hl).2.1, (w61_10 n  hi hl).2.2, ij_HR) → ij_R (ij_xt N xs) 61 10 [some (.ref 10)] [] (ij_SH, hi, hl, ij_HR) Q := by
  induction n with
  | zero => intro  hi hl he; exact he.elim
  | succ n ih =>
    intro  hi hl he q
    rw [e61_10] at he
    rw [w61_10] at q
    refine ij_br 5 ((hi 10 2) ≤ (hi 10 3)) 91 21 [some (.ref 10)] [] (ij_SH, hi, hl, ij_HR) (fun n => rfl) (fun c1 => ?_) (fun c1 => ?_)
    · skip
      rw [if_pos c1] at he q
      refine ij_br 7 (((hi 10 3) - (hi 10 5)) ≤ 4) 109 104 [some (.ref 10)] [] (ij_SH, hi, hl, ij_HR) (fun n => rfl) (fun c2 => ?_) (fun c2 => ?_)
      · skip
        rw [if_pos c2] at he q
        exact ij_ret 1 (none) (ij_SH, hi, hl, ij_HR) (fun n => rfl) q
      · skip
        rw [if_neg c2] at he q
        exact ij_ret 4 (none) (ij_SH, (ij_ui hi 10 4 4), hl, ij_HR) (fun n => rfl) q
    · skip
      rw [if_neg c1] at he q
      refine ij_call 4 56 [some (.ref 10), some (.int ((hi 10 3)))] [] 29 [some (.ref 10)] (ij_SH, hi, hl, ij_HR) (fun n => rfl) (t56_10 (hi 10 3) ?_)
      -- back
      refine ij_call 1 60 [some (.int ((f56_10 (hi 10 3) hi hl)))] [] 32 [some (.ref 10)] (ij_SH, hi, hl, ij_HR) (fun n => rfl) (s60 (f56_10 (hi 10 3) hi hl) (fun c3 => ?_) (fun c4 c5 => ?_) (fun c6 c7 => ?_))
      · skip
        rw [if_pos c3] at he q
        refine ij_br 8 (((hi 10 3) - (hi 10 5)) ≤ 4) 109 104 [some (.ref 10)] [] (ij_SH, hi, hl, ij_HR) (fun n => rfl) (fun c8 => ?_) (fun c8 => ?_)
        · skip
          rw [if_pos c8] at he q
          exact ij_ret 1 (none) (ij_SH, hi, hl, ij_HR) (fun n => rfl) q
        · skip
          rw [if_neg c8] at he q
          exact ij_ret 4 (none) (ij_SH, (ij_ui hi 10 4 4), hl, ij_HR) (fun n => rfl) q
      · skip
        rw [if_neg c4, if_pos c5] at he q
        refine ij_br 8 (((hi 10 3) - (hi 10 5)) ≤ 4) 109 104 [some (.ref 10)] [] (ij_SH, hi, hl, ij_HR) (fun n => rfl) (fun c9 => ?_) (fun c9 => ?_)
        · skip
          rw [if_pos c9] at he q
          exact ij_ret 1 (none) (ij_SH, hi, hl, ij_HR) (fun n => rfl) q
        · skip
          rw [if_neg c9] at he q
          exact ij_ret 4 (none) (ij_SH, (ij_ui hi 10 4 4), hl, ij_HR) (fun n => rfl) q
      · skip
        rw [if_neg c6, if_neg c7] at he q
        refine ij_br 9 (4 ≤ ((hi 10 3) - (hi 10 5))) 71 49 [some (.ref 10)] [.ref 10] (ij_SH, hi, hl, ij_HR) (fun n => rfl) (fun c10 => ?_) (fun c10 => ?_)
        · skip
          rw [if_pos c10] at he q
          refine ij_go 10 10 [some (.ref 10)] [] (ij_SH, (ij_ui (ij_ui hi 10 6 (hi 10 6)) 10 3 ((hi 10 3) + 1)), hl, ij_HR) (fun n => rfl) ?_
          exact ih  (ij_ui (ij_ui hi 10 6 (hi 10 6)) 10 3 ((hi 10 3) + 1)) hl he q
        · skip
          rw [if_neg c10] at he q
          refine ij_call 8 56 [some (.ref 10), some (.int ((hi 10 3)))] [.int (((hi 10 6) * 10)), .ref 10] 64 [some (.ref 10)] (ij_SH, hi, hl, ij_HR) (fun n => rfl) (t56_10 (hi 10 3) ?_)
          -- back
          refine ij_go 12 10 [some (.ref 10)] [] (ij_SH, (ij_ui (ij_ui hi 10 6 ((((hi 10 6) * 10) + (f56_10 (hi 10 3) hi hl)) - 48)) 10 3 ((hi 10 3) + 1)), hl, ij_HR) (fun n => rfl) ?_
          exact ih  (ij_ui (ij_ui hi 10 6 ((((hi 10 6) * 10) + (f56_10 (hi 10 3) hi hl)) - 48)) 10 3 ((hi 10 3) + 1)) hl he q
-- the loop of ScaleForge$Ring.brightnessOf(I)I at 4
def w221_31 : Nat → Int32 → Int32 → Int32 → (Nat → Nat → Int32) → (Nat → Nat → Int64) → Int32 × (Nat → Nat → Int32) × (Nat → Nat → Int64)
  | 0, _, _, _, hi, hl => (0, hi, hl)
  | n + 1, v1, v2, v3, hi, hl => if (hi 31 3) ≤ v3 then ((v2, hi, hl)) else (w221_31 n v1 (v2 + (f139_31 v1 v3 hi hl)) (v3 + 1) hi hl)
def e221_31 : Nat → Int32 → Int32 → Int32 → (Nat → Nat → Int32) → (Nat → Nat → Int64) → Prop
  | 0, _, _, _, _, _ => False
  | n + 1, v1, v2, v3, hi, hl => if (hi 31 3) ≤ v3 then (True) else (e221_31 n v1 (v2 + (f139_31 v1 v3 hi hl)) (v3 + 1) hi hl)
set_option maxRecDepth 10000 in
theorem l221_31 {N : Nat} {xs : Nat → Int32} {Q : Option Value → ij_H → Prop} (n : Nat) : ∀ (v1 : Int32) (v2 : Int32) (v3 : Int32) (hi : Nat → Nat → Int32) (hl : Nat → Nat → Int64), e221_31 n v1 v2 v3 hi hl → Q (some (.int (w221_31 n v1 v2 v3 hi hl).1)) (ij_SH, (w221_31 n v1 v2 v3 hi hl).2.1, (w221_31 n v1 v2 v3 hi hl).2.2, ij_HR) → ij_R (ij_xt N xs) 221 4 [some (.ref 31), some (.int v1), some (.int v2), some (.int v3)] [] (ij_SH, hi, hl, ij_HR) Q := by
  induction n with
  | zero => intro v1 v2 v3 hi hl he; exact he.elim
  | succ n ih =>
    intro v1 v2 v3 hi hl he q
    rw [e221_31] at he
    rw [w221_31] at q
    refine ij_br 4 ((hi 31 3) ≤ v3) 27 12 [some (.ref 31), some (.int v1), some (.int v2), some (.int v3)] [] (ij_SH, hi, hl, ij_HR) (fun n => rfl) (fun c1 => ?_) (fun c1 => ?_)
    · skip
      rw [if_pos c1] at he q
      exact ij_ret 2 (some (.int v2)) (ij_SH, hi, hl, ij_HR) (fun n => rfl) q
    · skip
      rw [if_neg c1] at he q
      refine ij_call 5 139 [some (.ref 31), some (.int v1), some (.int v3), none] [.int v2] 19 [some (.ref 31), some (.int v1), some (.int v2), some (.int v3)] (ij_SH, hi, hl, ij_HR) (fun n => rfl) (t139_31 v1 v3 ?_)
      -- back
      refine ij_go 4 4 [some (.ref 31), some (.int v1), some (.int ((v2 + (f139_31 v1 v3 hi hl)))), some (.int ((v3 + 1)))] [] (ij_SH, hi, hl, ij_HR) (fun n => rfl) ?_
      exact ih v1 (v2 + (f139_31 v1 v3 hi hl)) (v3 + 1) hi hl he q
-- the loop of ScaleForge$Ring.farther(II)J at 7
def w293_31 : Nat → Int32 → Int32 → Int64 → Int32 → (Nat → Nat → Int32) → (Nat → Nat → Int64) → Int64 × (Nat → Nat → Int32) × (Nat → Nat → Int64)
  | 0, _, _, _, _, hi, hl => (0, hi, hl)
  | n + 1, v1, v2, v3, v5, hi, hl => if (hi 31 3) ≤ v5 then ((v3, hi, hl)) else (w293_31 n v1 v2 (v3 ||| (f6 ((f138_31 v5 hi hl) - (f138_31 v1 hi hl)) hi hl)) (v5 + 1) hi hl)
def e293_31 : Nat → Int32 → Int32 → Int64 → Int32 → (Nat → Nat → Int32) → (Nat → Nat → Int64) → Prop
  | 0, _, _, _, _, _, _ => False
  | n + 1, v1, v2, v3, v5, hi, hl => if (hi 31 3) ≤ v5 then (True) else (e293_31 n v1 v2 (v3 ||| (f6 ((f138_31 v5 hi hl) - (f138_31 v1 hi hl)) hi hl)) (v5 + 1) hi hl)
set_option maxRecDepth 10000 in
theorem l293_31 {N : Nat} {xs : Nat → Int32} {Q : Option Value → ij_H → Prop} (n : Nat) : ∀ (v1 : Int32) (v2 : Int32) (v3 : Int64) (v5 : Int32) (hi : Nat → Nat → Int32) (hl : Nat → Nat → Int64), e293_31 n v1 v2 v3 v5 hi hl → Q (some (.long (w293_31 n v1 v2 v3 v5 hi hl).1)) (ij_SH, (w293_31 n v1 v2 v3 v5 hi hl).2.1, (w293_31 n v1 v2 v3 v5 hi hl).2.2, ij_HR) → ij_R (ij_xt N xs) 293 7 [some (.ref 31), some (.int v1), some (.int v2), some (.long v3), none, some (.int v5)] [] (ij_SH, hi, hl, ij_HR) Q := by
  induction n with
  | zero => intro v1 v2 v3 v5 hi hl he; exact he.elim
  | succ n ih =>
    intro v1 v2 v3 v5 hi hl he q
    rw [e293_31] at he
    rw [w293_31] at q
    refine ij_br 4 ((hi 31 3) ≤ v5) 40 16 [some (.ref 31), some (.int v1), some (.int v2), some (.long v3), none, some (.int v5)] [] (ij_SH, hi, hl, ij_HR) (fun n => rfl) (fun c1 => ?_) (fun c1 => ?_)
    · skip
      rw [if_pos c1] at he q
      exact ij_ret 2 (some (.long v3)) (ij_SH, hi, hl, ij_HR) (fun n => rfl) q
    · skip
      rw [if_neg c1] at he q
      refine ij_call 4 138 [some (.ref 31), some (.int v5)] [.long v3] 23 [some (.ref 31), some (.int v1), some (.int v2), some (.long v3), none, some (.int v5)] (ij_SH, hi, hl, ij_HR) (fun n => rfl) (t138_31 v5 ?_)
      -- back
      refine ij_call 3 138 [some (.ref 31), some (.int v1)] [.int ((f138_31 v5 hi hl)), .long v3] 28 [some (.ref 31), some (.int v1), some (.int v2), some (.long v3), none, some (.int v5)] (ij_SH, hi, hl, ij_HR) (fun n => rfl) (t138_31 v1 ?_)
      -- back
      refine ij_call 2 6 [some (.int (((f138_31 v5 hi hl) - (f138_31 v1 hi hl))))] [.long v3] 32 [some (.ref 31), some (.int v1), some (.int v2), some (.long v3), none, some (.int v5)] (ij_SH, hi, hl, ij_HR) (fun n => rfl) (t6 ((f138_31 v5 hi hl) - (f138_31 v1 hi hl)) ?_)
      -- back
      refine ij_go 4 7 [some (.ref 31), some (.int v1), some (.int v2), some (.long ((v3 ||| (f6 ((f138_31 v5 hi hl) - (f138_31 v1 hi hl)) hi hl)))), none, some (.int ((v5 + 1)))] [] (ij_SH, hi, hl, ij_HR) (fun n => rfl) ?_
      exact ih v1 v2 (v3 ||| (f6 ((f138_31 v5 hi hl) - (f138_31 v1 hi hl)) hi hl)) (v5 + 1) hi hl he q
