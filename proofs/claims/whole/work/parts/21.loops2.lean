-- the loop of ScaleForgeModel.plain(I)V at 2
def w19_77 : Nat → Int32 → Int32 → (Nat → Nat → Int32) → (Nat → Nat → Int64) → Int32 × (Nat → Nat → Int32) × (Nat → Nat → Int64)
  | 0, _, _, hi, hl => (0, hi, hl)
  | n + 1, v1, v2, hi, hl => if 460 ≤ v2 then ((0, (ij_ui (ij_ui (ij_ui (ij_ui (ij_ui (ij_ui (ij_ui (ij_ui hi 78 ((v1 + 0)).toNatClampNeg 4) 78 ((v1 + 1)).toNatClampNeg 12) 78 ((v1 + 2)).toNatClampNeg 7) 78 ((v1 + 3)).toNatClampNeg 7) 78 ((v1 + 6)).toNatClampNeg 7) 78 ((v1 + 7)).toNatClampNeg 2) 78 ((v1 + 8)).toNatClampNeg 1) 78 ((v1 + 10)).toNatClampNeg (-1)), hl)) else (w19_77 n v1 (v2 + 1) (ij_ui hi 78 ((v1 + v2)).toNatClampNeg 0) hl)
def e19_77 : Nat → Int32 → Int32 → (Nat → Nat → Int32) → (Nat → Nat → Int64) → Prop
  | 0, _, _, _, _ => False
  | n + 1, v1, v2, hi, hl => if 460 ≤ v2 then ((¬ ((v1 + 0) < 0 ∨ 2392 ≤ ((v1 + 0) : Int32).toNatClampNeg)) ∧ (¬ ((v1 + 1) < 0 ∨ 2392 ≤ ((v1 + 1) : Int32).toNatClampNeg)) ∧ (¬ ((v1 + 2) < 0 ∨ 2392 ≤ ((v1 + 2) : Int32).toNatClampNeg)) ∧ (¬ ((v1 + 3) < 0 ∨ 2392 ≤ ((v1 + 3) : Int32).toNatClampNeg)) ∧ (¬ ((v1 + 6) < 0 ∨ 2392 ≤ ((v1 + 6) : Int32).toNatClampNeg)) ∧ (¬ ((v1 + 7) < 0 ∨ 2392 ≤ ((v1 + 7) : Int32).toNatClampNeg)) ∧ (¬ ((v1 + 8) < 0 ∨ 2392 ≤ ((v1 + 8) : Int32).toNatClampNeg)) ∧ (¬ ((v1 + 10) < 0 ∨ 2392 ≤ ((v1 + 10) : Int32).toNatClampNeg)) ∧ (True)) else ((¬ ((v1 + v2) < 0 ∨ 2392 ≤ ((v1 + v2) : Int32).toNatClampNeg)) ∧ (e19_77 n v1 (v2 + 1) (ij_ui hi 78 ((v1 + v2)).toNatClampNeg 0) hl))
set_option maxRecDepth 10000 in
theorem l19_77 {N : Nat} {xs : Nat → Int32} {Q : Option Value → ij_H → Prop} (n : Nat) : ∀ (v1 : Int32) (v2 : Int32) (hi : Nat → Nat → Int32) (hl : Nat → Nat → Int64), e19_77 n v1 v2 hi hl → Q (none) (ij_SH, (w19_77 n v1 v2 hi hl).2.1, (w19_77 n v1 v2 hi hl).2.2, ij_HR) → ij_R (ij_xt N xs) 19 2 [some (.ref 77), some (.int v1), some (.int v2)] [] (ij_SH, hi, hl, ij_HR) Q := by
  induction n with
  | zero => intro v1 v2 hi hl he; exact he.elim
  | succ n ih =>
    intro v1 v2 hi hl he q
    rw [e19_77] at he
    rw [w19_77] at q
    refine ij_br 3 (460 ≤ v2) 24 9 [some (.ref 77), some (.int v1), some (.int v2)] [] (ij_SH, hi, hl, ij_HR) (fun n => rfl) (fun c1 => ?_) (fun c1 => ?_)
    · skip
      rw [if_pos c1] at he q
      refine ij_go 6 32 [some (.ref 77), some (.int v1), some (.int v2)] [.int (4), .int ((v1 + 0)), .ref 78] (ij_SH, hi, hl, ij_HR) (fun n => rfl) ?_
      obtain ⟨hb0, he⟩ := he
      refine ij_ias rfl rfl rfl hb0 ?_
      refine ij_go 6 42 [some (.ref 77), some (.int v1), some (.int v2)] [.int (12), .int ((v1 + 1)), .ref 78] (ij_SH, (ij_ui hi 78 ((v1 + 0)).toNatClampNeg 4), hl, ij_HR) (fun n => rfl) ?_
      obtain ⟨hb1, he⟩ := he
      refine ij_ias rfl rfl rfl hb1 ?_
      refine ij_go 6 52 [some (.ref 77), some (.int v1), some (.int v2)] [.int (7), .int ((v1 + 2)), .ref 78] (ij_SH, (ij_ui (ij_ui hi 78 ((v1 + 0)).toNatClampNeg 4) 78 ((v1 + 1)).toNatClampNeg 12), hl, ij_HR) (fun n => rfl) ?_
      obtain ⟨hb2, he⟩ := he
      refine ij_ias rfl rfl rfl hb2 ?_
      refine ij_go 6 62 [some (.ref 77), some (.int v1), some (.int v2)] [.int (7), .int ((v1 + 3)), .ref 78] (ij_SH, (ij_ui (ij_ui (ij_ui hi 78 ((v1 + 0)).toNatClampNeg 4) 78 ((v1 + 1)).toNatClampNeg 12) 78 ((v1 + 2)).toNatClampNeg 7), hl, ij_HR) (fun n => rfl) ?_
      obtain ⟨hb3, he⟩ := he
      refine ij_ias rfl rfl rfl hb3 ?_
      refine ij_go 6 73 [some (.ref 77), some (.int v1), some (.int v2)] [.int (7), .int ((v1 + 6)), .ref 78] (ij_SH, (ij_ui (ij_ui (ij_ui (ij_ui hi 78 ((v1 + 0)).toNatClampNeg 4) 78 ((v1 + 1)).toNatClampNeg 12) 78 ((v1 + 2)).toNatClampNeg 7) 78 ((v1 + 3)).toNatClampNeg 7), hl, ij_HR) (fun n => rfl) ?_
      obtain ⟨hb4, he⟩ := he
      refine ij_ias rfl rfl rfl hb4 ?_
      refine ij_go 6 83 [some (.ref 77), some (.int v1), some (.int v2)] [.int (2), .int ((v1 + 7)), .ref 78] (ij_SH, (ij_ui (ij_ui (ij_ui (ij_ui (ij_ui hi 78 ((v1 + 0)).toNatClampNeg 4) 78 ((v1 + 1)).toNatClampNeg 12) 78 ((v1 + 2)).toNatClampNeg 7) 78 ((v1 + 3)).toNatClampNeg 7) 78 ((v1 + 6)).toNatClampNeg 7), hl, ij_HR) (fun n => rfl) ?_
      obtain ⟨hb5, he⟩ := he
      refine ij_ias rfl rfl rfl hb5 ?_
      refine ij_go 6 93 [some (.ref 77), some (.int v1), some (.int v2)] [.int (1), .int ((v1 + 8)), .ref 78] (ij_SH, (ij_ui (ij_ui (ij_ui (ij_ui (ij_ui (ij_ui hi 78 ((v1 + 0)).toNatClampNeg 4) 78 ((v1 + 1)).toNatClampNeg 12) 78 ((v1 + 2)).toNatClampNeg 7) 78 ((v1 + 3)).toNatClampNeg 7) 78 ((v1 + 6)).toNatClampNeg 7) 78 ((v1 + 7)).toNatClampNeg 2), hl, ij_HR) (fun n => rfl) ?_
      obtain ⟨hb6, he⟩ := he
      refine ij_ias rfl rfl rfl hb6 ?_
      refine ij_go 6 103 [some (.ref 77), some (.int v1), some (.int v2)] [.int ((-1)), .int ((v1 + 10)), .ref 78] (ij_SH, (ij_ui (ij_ui (ij_ui (ij_ui (ij_ui (ij_ui (ij_ui hi 78 ((v1 + 0)).toNatClampNeg 4) 78 ((v1 + 1)).toNatClampNeg 12) 78 ((v1 + 2)).toNatClampNeg 7) 78 ((v1 + 3)).toNatClampNeg 7) 78 ((v1 + 6)).toNatClampNeg 7) 78 ((v1 + 7)).toNatClampNeg 2) 78 ((v1 + 8)).toNatClampNeg 1), hl, ij_HR) (fun n => rfl) ?_
      obtain ⟨hb7, he⟩ := he
      refine ij_ias rfl rfl rfl hb7 ?_
      exact ij_ret 1 (none) (ij_SH, (ij_ui (ij_ui (ij_ui (ij_ui (ij_ui (ij_ui (ij_ui (ij_ui hi 78 ((v1 + 0)).toNatClampNeg 4) 78 ((v1 + 1)).toNatClampNeg 12) 78 ((v1 + 2)).toNatClampNeg 7) 78 ((v1 + 3)).toNatClampNeg 7) 78 ((v1 + 6)).toNatClampNeg 7) 78 ((v1 + 7)).toNatClampNeg 2) 78 ((v1 + 8)).toNatClampNeg 1) 78 ((v1 + 10)).toNatClampNeg (-1)), hl, ij_HR) (fun n => rfl) q
    · skip
      rw [if_neg c1] at he q
      refine ij_go 6 17 [some (.ref 77), some (.int v1), some (.int v2)] [.int (0), .int ((v1 + v2)), .ref 78] (ij_SH, hi, hl, ij_HR) (fun n => rfl) ?_
      obtain ⟨hb8, he⟩ := he
      refine ij_ias rfl rfl rfl hb8 ?_
      refine ij_go 2 2 [some (.ref 77), some (.int v1), some (.int ((v2 + 1)))] [] (ij_SH, (ij_ui hi 78 ((v1 + v2)).toNatClampNeg 0), hl, ij_HR) (fun n => rfl) ?_
      exact ih v1 (v2 + 1) (ij_ui hi 78 ((v1 + v2)).toNatClampNeg 0) hl he q
-- the loop of ScaleForge$Tray.empty(II)V at 12
def w29_2 : Nat → Int32 → Int32 → Int32 → (Nat → Nat → Int32) → (Nat → Nat → Int64) → Int32 × (Nat → Nat → Int32) × (Nat → Nat → Int64)
  | 0, _, _, _, hi, hl => (0, hi, hl)
  | n + 1, v1, v2, v3, hi, hl => if 60 ≤ v3 then ((0, hi, hl)) else (w29_2 n v1 v2 (v3 + 1) hi (ij_ul hl 3 (v3).toNatClampNeg 0))
def e29_2 : Nat → Int32 → Int32 → Int32 → (Nat → Nat → Int32) → (Nat → Nat → Int64) → Prop
  | 0, _, _, _, _, _ => False
  | n + 1, v1, v2, v3, hi, hl => if 60 ≤ v3 then (True) else ((¬ (v3 < 0 ∨ 60 ≤ (v3 : Int32).toNatClampNeg)) ∧ (e29_2 n v1 v2 (v3 + 1) hi (ij_ul hl 3 (v3).toNatClampNeg 0)))
set_option maxRecDepth 10000 in
theorem l29_2 {N : Nat} {xs : Nat → Int32} {Q : Option Value → ij_H → Prop} (n : Nat) : ∀ (v1 : Int32) (v2 : Int32) (v3 : Int32) (hi : Nat → Nat → Int32) (hl : Nat → Nat → Int64), e29_2 n v1 v2 v3 hi hl → Q (none) (ij_SH, (w29_2 n v1 v2 v3 hi hl).2.1, (w29_2 n v1 v2 v3 hi hl).2.2, ij_HR) → ij_R (ij_xt N xs) 29 12 [some (.ref 2), some (.int v1), some (.int v2), some (.int v3)] [] (ij_SH, hi, hl, ij_HR) Q := by
  induction n with
  | zero => intro v1 v2 v3 hi hl he; exact he.elim
  | succ n ih =>
    intro v1 v2 v3 hi hl he q
    rw [e29_2] at he
    rw [w29_2] at q
    refine ij_br 5 (60 ≤ v3) 34 21 [some (.ref 2), some (.int v1), some (.int v2), some (.int v3)] [] (ij_SH, hi, hl, ij_HR) (fun n => rfl) (fun c1 => ?_) (fun c1 => ?_)
    · skip
      rw [if_pos c1] at he q
      exact ij_ret 1 (none) (ij_SH, hi, hl, ij_HR) (fun n => rfl) q
    · skip
      rw [if_neg c1] at he q
      refine ij_go 4 27 [some (.ref 2), some (.int v1), some (.int v2), some (.int v3)] [.long (0), .int v3, .ref 3] (ij_SH, hi, hl, ij_HR) (fun n => rfl) ?_
      obtain ⟨hb0, he⟩ := he
      refine ij_las rfl rfl rfl hb0 ?_
      refine ij_go 2 12 [some (.ref 2), some (.int v1), some (.int v2), some (.int ((v3 + 1)))] [] (ij_SH, hi, (ij_ul hl 3 (v3).toNatClampNeg 0), ij_HR) (fun n => rfl) ?_
      exact ih v1 v2 (v3 + 1) hi (ij_ul hl 3 (v3).toNatClampNeg 0) he q
-- the loop of ScaleForge$Tray.empty(II)V at 12
def w29_4 : Nat → Int32 → Int32 → Int32 → (Nat → Nat → Int32) → (Nat → Nat → Int64) → Int32 × (Nat → Nat → Int32) × (Nat → Nat → Int64)
  | 0, _, _, _, hi, hl => (0, hi, hl)
  | n + 1, v1, v2, v3, hi, hl => if 60 ≤ v3 then ((0, hi, hl)) else (w29_4 n v1 v2 (v3 + 1) hi (ij_ul hl 5 (v3).toNatClampNeg 0))
def e29_4 : Nat → Int32 → Int32 → Int32 → (Nat → Nat → Int32) → (Nat → Nat → Int64) → Prop
  | 0, _, _, _, _, _ => False
  | n + 1, v1, v2, v3, hi, hl => if 60 ≤ v3 then (True) else ((¬ (v3 < 0 ∨ 60 ≤ (v3 : Int32).toNatClampNeg)) ∧ (e29_4 n v1 v2 (v3 + 1) hi (ij_ul hl 5 (v3).toNatClampNeg 0)))
set_option maxRecDepth 10000 in
theorem l29_4 {N : Nat} {xs : Nat → Int32} {Q : Option Value → ij_H → Prop} (n : Nat) : ∀ (v1 : Int32) (v2 : Int32) (v3 : Int32) (hi : Nat → Nat → Int32) (hl : Nat → Nat → Int64), e29_4 n v1 v2 v3 hi hl → Q (none) (ij_SH, (w29_4 n v1 v2 v3 hi hl).2.1, (w29_4 n v1 v2 v3 hi hl).2.2, ij_HR) → ij_R (ij_xt N xs) 29 12 [some (.ref 4), some (.int v1), some (.int v2), some (.int v3)] [] (ij_SH, hi, hl, ij_HR) Q := by
  induction n with
  | zero => intro v1 v2 v3 hi hl he; exact he.elim
  | succ n ih =>
    intro v1 v2 v3 hi hl he q
    rw [e29_4] at he
    rw [w29_4] at q
    refine ij_br 5 (60 ≤ v3) 34 21 [some (.ref 4), some (.int v1), some (.int v2), some (.int v3)] [] (ij_SH, hi, hl, ij_HR) (fun n => rfl) (fun c1 => ?_) (fun c1 => ?_)
    · skip
      rw [if_pos c1] at he q
      exact ij_ret 1 (none) (ij_SH, hi, hl, ij_HR) (fun n => rfl) q
    · skip
      rw [if_neg c1] at he q
      refine ij_go 4 27 [some (.ref 4), some (.int v1), some (.int v2), some (.int v3)] [.long (0), .int v3, .ref 5] (ij_SH, hi, hl, ij_HR) (fun n => rfl) ?_
      obtain ⟨hb0, he⟩ := he
      refine ij_las rfl rfl rfl hb0 ?_
      refine ij_go 2 12 [some (.ref 4), some (.int v1), some (.int v2), some (.int ((v3 + 1)))] [] (ij_SH, hi, (ij_ul hl 5 (v3).toNatClampNeg 0), ij_HR) (fun n => rfl) ?_
      exact ih v1 v2 (v3 + 1) hi (ij_ul hl 5 (v3).toNatClampNeg 0) he q
-- the loop of ScaleForge$Tray.empty(II)V at 12
def w29_6 : Nat → Int32 → Int32 → Int32 → (Nat → Nat → Int32) → (Nat → Nat → Int64) → Int32 × (Nat → Nat → Int32) × (Nat → Nat → Int64)
  | 0, _, _, _, hi, hl => (0, hi, hl)
  | n + 1, v1, v2, v3, hi, hl => if 60 ≤ v3 then ((0, hi, hl)) else (w29_6 n v1 v2 (v3 + 1) hi (ij_ul hl 7 (v3).toNatClampNeg 0))
def e29_6 : Nat → Int32 → Int32 → Int32 → (Nat → Nat → Int32) → (Nat → Nat → Int64) → Prop
  | 0, _, _, _, _, _ => False
  | n + 1, v1, v2, v3, hi, hl => if 60 ≤ v3 then (True) else ((¬ (v3 < 0 ∨ 60 ≤ (v3 : Int32).toNatClampNeg)) ∧ (e29_6 n v1 v2 (v3 + 1) hi (ij_ul hl 7 (v3).toNatClampNeg 0)))
set_option maxRecDepth 10000 in
theorem l29_6 {N : Nat} {xs : Nat → Int32} {Q : Option Value → ij_H → Prop} (n : Nat) : ∀ (v1 : Int32) (v2 : Int32) (v3 : Int32) (hi : Nat → Nat → Int32) (hl : Nat → Nat → Int64), e29_6 n v1 v2 v3 hi hl → Q (none) (ij_SH, (w29_6 n v1 v2 v3 hi hl).2.1, (w29_6 n v1 v2 v3 hi hl).2.2, ij_HR) → ij_R (ij_xt N xs) 29 12 [some (.ref 6), some (.int v1), some (.int v2), some (.int v3)] [] (ij_SH, hi, hl, ij_HR) Q := by
  induction n with
  | zero => intro v1 v2 v3 hi hl he; exact he.elim
  | succ n ih =>
    intro v1 v2 v3 hi hl he q
    rw [e29_6] at he
    rw [w29_6] at q
    refine ij_br 5 (60 ≤ v3) 34 21 [some (.ref 6), some (.int v1), some (.int v2), some (.int v3)] [] (ij_SH, hi, hl, ij_HR) (fun n => rfl) (fun c1 => ?_) (fun c1 => ?_)
    · skip
      rw [if_pos c1] at he q
      exact ij_ret 1 (none) (ij_SH, hi, hl, ij_HR) (fun n => rfl) q
    · skip
      rw [if_neg c1] at he q
      refine ij_go 4 27 [some (.ref 6), some (.int v1), some (.int v2), some (.int v3)] [.long (0), .int v3, .ref 7] (ij_SH, hi, hl, ij_HR) (fun n => rfl) ?_
      obtain ⟨hb0, he⟩ := he
      refine ij_las rfl rfl rfl hb0 ?_
      refine ij_go 2 12 [some (.ref 6), some (.int v1), some (.int v2), some (.int ((v3 + 1)))] [] (ij_SH, hi, (ij_ul hl 7 (v3).toNatClampNeg 0), ij_HR) (fun n => rfl) ?_
      exact ih v1 v2 (v3 + 1) hi (ij_ul hl 7 (v3).toNatClampNeg 0) he q
-- the loop of ScaleForge$Tray.empty(II)V at 12
def w29_8 : Nat → Int32 → Int32 → Int32 → (Nat → Nat → Int32) → (Nat → Nat → Int64) → Int32 × (Nat → Nat → Int32) × (Nat → Nat → Int64)
  | 0, _, _, _, hi, hl => (0, hi, hl)
  | n + 1, v1, v2, v3, hi, hl => if 60 ≤ v3 then ((0, hi, hl)) else (w29_8 n v1 v2 (v3 + 1) hi (ij_ul hl 9 (v3).toNatClampNeg 0))
def e29_8 : Nat → Int32 → Int32 → Int32 → (Nat → Nat → Int32) → (Nat → Nat → Int64) → Prop
  | 0, _, _, _, _, _ => False
  | n + 1, v1, v2, v3, hi, hl => if 60 ≤ v3 then (True) else ((¬ (v3 < 0 ∨ 60 ≤ (v3 : Int32).toNatClampNeg)) ∧ (e29_8 n v1 v2 (v3 + 1) hi (ij_ul hl 9 (v3).toNatClampNeg 0)))
set_option maxRecDepth 10000 in
theorem l29_8 {N : Nat} {xs : Nat → Int32} {Q : Option Value → ij_H → Prop} (n : Nat) : ∀ (v1 : Int32) (v2 : Int32) (v3 : Int32) (hi : Nat → Nat → Int32) (hl : Nat → Nat → Int64), e29_8 n v1 v2 v3 hi hl → Q (none) (ij_SH, (w29_8 n v1 v2 v3 hi hl).2.1, (w29_8 n v1 v2 v3 hi hl).2.2, ij_HR) → ij_R (ij_xt N xs) 29 12 [some (.ref 8), some (.int v1), some (.int v2), some (.int v3)] [] (ij_SH, hi, hl, ij_HR) Q := by
  induction n with
  | zero => intro v1 v2 v3 hi hl he; exact he.elim
  | succ n ih =>
    intro v1 v2 v3 hi hl he q
    rw [e29_8] at he
    rw [w29_8] at q
    refine ij_br 5 (60 ≤ v3) 34 21 [some (.ref 8), some (.int v1), some (.int v2), some (.int v3)] [] (ij_SH, hi, hl, ij_HR) (fun n => rfl) (fun c1 => ?_) (fun c1 => ?_)
    · skip
      rw [if_pos c1] at he q
      exact ij_ret 1 (none) (ij_SH, hi, hl, ij_HR) (fun n => rfl) q
    · skip
      rw [if_neg c1] at he q
      refine ij_go 4 27 [some (.ref 8), some (.int v1), some (.int v2), some (.int v3)] [.long (0), .int v3, .ref 9] (ij_SH, hi, hl, ij_HR) (fun n => rfl) ?_
      obtain ⟨hb0, he⟩ := he
      refine ij_las rfl rfl rfl hb0 ?_
      refine ij_go 2 12 [some (.ref 8), some (.int v1), some (.int v2), some (.int ((v3 + 1)))] [] (ij_SH, hi, (ij_ul hl 9 (v3).toNatClampNeg 0), ij_HR) (fun n => rfl) ?_
      exact ih v1 v2 (v3 + 1) hi (ij_ul hl 9 (v3).toNatClampNeg 0) he q
-- the loop of ScaleForgeModel.tray(III)Z at 49
def w34_77 : Nat → Int32 → Int32 → Int32 → Int32 → (Nat → Nat → Int32) → (Nat → Nat → Int64) → Int32 × (Nat → Nat → Int32) × (Nat → Nat → Int64)
  | 0, _, _, _, _, hi, hl => (0, hi, hl)
  | n + 1, v1, v2, v3, v4, hi, hl => if v3 ≤ v4 then ((1, (ij_ui hi 77 1 0), hl)) else (w34_77 n v1 v2 v3 (v4 + 1) hi (ij_ul hl 81 (((60 * v1) + v4)).toNatClampNeg 0))
def e34_77 : Nat → Int32 → Int32 → Int32 → Int32 → (Nat → Nat → Int32) → (Nat → Nat → Int64) → Prop
  | 0, _, _, _, _, _, _ => False
  | n + 1, v1, v2, v3, v4, hi, hl => if v3 ≤ v4 then (True) else ((¬ (((60 * v1) + v4) < 0 ∨ 240 ≤ (((60 * v1) + v4) : Int32).toNatClampNeg)) ∧ (e34_77 n v1 v2 v3 (v4 + 1) hi (ij_ul hl 81 (((60 * v1) + v4)).toNatClampNeg 0)))
set_option maxRecDepth 10000 in
theorem l34_77 {N : Nat} {xs : Nat → Int32} {Q : Option Value → ij_H → Prop} (n : Nat) : ∀ (v1 : Int32) (v2 : Int32) (v3 : Int32) (v4 : Int32) (hi : Nat → Nat → Int32) (hl : Nat → Nat → Int64), e34_77 n v1 v2 v3 v4 hi hl → Q (some (.int (w34_77 n v1 v2 v3 v4 hi hl).1)) (ij_SH, (w34_77 n v1 v2 v3 v4 hi hl).2.1, (w34_77 n v1 v2 v3 v4 hi hl).2.2, ij_HR) → ij_R (ij_xt N xs) 34 49 [some (.ref 77), some (.int v1), some (.int v2), some (.int v3), some (.int v4)] [] (ij_SH, hi, hl, ij_HR) Q := by
  induction n with
  | zero => intro v1 v2 v3 v4 hi hl he; exact he.elim
  | succ n ih =>
    intro v1 v2 v3 v4 hi hl he q
    rw [e34_77] at he
    rw [w34_77] at q
    refine ij_br 3 (v3 ≤ v4) 74 55 [some (.ref 77), some (.int v1), some (.int v2), some (.int v3), some (.int v4)] [] (ij_SH, hi, hl, ij_HR) (fun n => rfl) (fun c1 => ?_) (fun c1 => ?_)
    · skip
      rw [if_pos c1] at he q
      refine ij_call 3 33 [some (.ref 77), some (.int (0))] [] 79 [some (.ref 77), some (.int v1), some (.int v2), some (.int v3), some (.int v4)] (ij_SH, hi, hl, ij_HR) (fun n => rfl) (s33_77 0 (fun c2 => ?_) (fun c3 => ?_))
      · skip
        exact ij_ret 1 (some (.int (1))) (ij_SH, (ij_ui hi 77 1 0), hl, ij_HR) (fun n => rfl) q
      · skip
        exact absurd (by decide) c3
    · skip
      rw [if_neg c1] at he q
      refine ij_go 8 67 [some (.ref 77), some (.int v1), some (.int v2), some (.int v3), some (.int v4)] [.long (0), .int (((60 * v1) + v4)), .ref 81] (ij_SH, hi, hl, ij_HR) (fun n => rfl) ?_
      obtain ⟨hb0, he⟩ := he
      refine ij_las rfl rfl rfl hb0 ?_
      refine ij_go 2 49 [some (.ref 77), some (.int v1), some (.int v2), some (.int v3), some (.int ((v4 + 1)))] [] (ij_SH, hi, (ij_ul hl 81 (((60 * v1) + v4)).toNatClampNeg 0), ij_HR) (fun n => rfl) ?_
      exact ih v1 v2 v3 (v4 + 1) hi (ij_ul hl 81 (((60 * v1) + v4)).toNatClampNeg 0) he q
