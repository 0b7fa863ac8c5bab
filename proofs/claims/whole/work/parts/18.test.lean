set_option maxRecDepth 10000 in
theorem te_1 {xt : ij_X} {hi : Nat → Nat → Int32} {hl : Nat → Nat → Int64} {Q : Option Value → ij_H → Prop} (x : Int32) (q : Q (some (.int (if 0 ≤ x ∧ x < hi 24 1 then 1 else 0))) (ij_SH, hi, hl, ij_HR)) : ij_R xt 77 0 [some (.ref 23), some (.int x)] [] (ij_SH, hi, hl, ij_HR) Q := by
  refine ij_br 2 (x < 0) 18 4 [some (.ref 23), some (.int x)] [] (ij_SH, hi, hl, ij_HR) (fun n => rfl) (fun c => ?_) (fun c => ?_)
  · refine ij_ret 2 (some (.int 0)) (ij_SH, hi, hl, ij_HR) (fun n => rfl) ?_
    sorry
  · refine ij_br 6 (hi 24 1 ≤ x) 18 14 [some (.ref 23), some (.int x)] [] (ij_SH, hi, hl, ij_HR) (fun n => rfl) (fun c => ?_) (fun c => ?_)
    · sorry
    · refine ij_ret 3 (some (.int 1)) (ij_SH, hi, hl, ij_HR) (fun n => rfl) ?_
      sorry
