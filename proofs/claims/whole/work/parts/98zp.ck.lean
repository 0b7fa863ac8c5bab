/-! The constructors, run. -/
def ik_x0 : ij_X := fun k => if k = 1000000 then none else ij_xt 0 (fun _ => 0) k
theorem ik_x0h (L : Nat) (xs : Nat → Int32) (k : Nat) (v : Nat × Nat × (Nat → Int32)) (e : ik_x0 k = some v) : ij_xt L xs k = some v := by
  unfold ik_x0 at e
  by_cases h : k = 1000000
  · rw [if_pos h] at e; cases e
  · rw [if_neg h] at e
    unfold ij_xt at e ⊢
    rw [if_neg h] at e ⊢
    exact e
def ik_w (k : Nat) : Int32 := (ij_sa.getD 0 []).getD k 0
def ik_78 (k : Nat) : Int32 := if k < 9 then ik_w k else if k = 10 then -1 else 0
def ik_is : List (Nat × Nat × Int32) := [(23, 2, 0), (26, 5, 0), (0, 18, 0), (77, 55, 0), (2, 1, 0), (4, 1, 0), (6, 1, 0), (8, 1, 0), (2, 2, -1), (4, 2, -1), (6, 2, -1), (8, 2, -1), (79, 0, 0), (79, 1, 0), (79, 2, 0), (79, 3, 0), (80, 0, -1), (80, 1, -1), (80, 2, -1), (80, 3, -1), (10, 1, 0), (77, 9, 0), (40, 8, 0), (77, 54, 0), (40, 13, 0), (0, 0, 0), (77, 1, 0)]
def ik_ls : List (Nat × Nat × Int64) := [(23, 3, 0), (23, 4, 2773), (0, 1, 0), (77, 2, 0), (0, 2, 1), (77, 3, 1)]
def ik_hr (r : Nat → Nat → Option Nat) (j : Nat) : Bool := match ij_SH[j]? with
  | some (kd, n) => if kd < 100 ∨ 104 ≤ kd then (List.range n).all (fun k => decide (r j k = ij_HR j k)) && (ij_HL j).all (fun p => decide (p.1 < n)) else (ij_HL j).isEmpty
  | none => true
def ik_ok (h : ij_H) : Bool := decide (h.1 = ij_SH) && ((List.range 9).all (fun k => decide (h.2.1 24 k = ik_w k)) && ((List.range 92).all (fun k => decide (h.2.1 78 k = ik_78 k)) && (ik_is.all (fun t => decide (h.2.1 t.1 t.2.1 = t.2.2)) && (ik_ls.all (fun t => decide (h.2.2.1 t.1 t.2.1 = t.2.2)) && (decide (h.2.1 10 7 = h.2.1 77 15) && (decide (h.2.1 10 8 = h.2.1 77 16) && (List.range 106).all (ik_hr h.2.2.2)))))))
noncomputable def ik_r1 : Option (Option Value × ij_H) := ij_run ij_G0 ik_x0 2000 18 0 [some (.ref 0), none] [] (ij_new ij_h0 10 19)
noncomputable def ik_r2 (h : ij_H) : Option (Option Value × ij_H) := ij_run ij_G0 ik_x0 8000 20 0 [some (.ref 77)] [] (ij_new h 11 56)
def ik_cf (a : Option (Option Value × ij_H)) (b : ij_H → Option (Option Value × ij_H)) : Bool := match a with
  | some (none, h1) => decide (h1.1 = ij_SH.take 77) && (match b h1 with
    | some (none, h2) => ik_ok h2
    | _ => false)
  | _ => false
theorem ik_gen {a : Option (Option Value × ij_H)} {b : ij_H → Option (Option Value × ij_H)} (c : ik_cf a b = true) : ∃ h1 h2, a = some (none, h1) ∧ h1.1 = ij_SH.take 77 ∧ b h1 = some (none, h2) ∧ ik_ok h2 = true := by
  unfold ik_cf at c
  split at c
  · next h1 =>
    rw [Bool.and_eq_true] at c
    obtain ⟨c1, c2⟩ := c
    split at c2
    · next h2 e2 => exact ⟨h1, h2, rfl, of_decide_eq_true c1, e2, c2⟩
    · cases c2
  · cases c
set_option maxRecDepth 100000 in
theorem ik_checked : ik_cf ik_r1 ik_r2 = true := by decide +kernel
