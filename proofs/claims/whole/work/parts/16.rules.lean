/-! Runs of the small machine, goal first: ij_R: from here the method ends, with an answer and a heap of which Q. -/
theorem ij_mono {G : ij_G} {xt : ij_X} : ∀ (n y pc : Nat) (L : ij_L) (st : List Value) (h : ij_H) (x : Option Value × ij_H), ij_run G xt n y pc L st h = some x → ∀ m, n ≤ m → ij_run G xt m y pc L st h = some x := by
  intro n
  induction n with
  | zero => intro y pc L st h x hr; rw [ij_run] at hr; cases hr
  | succ n ih =>
    intro y pc L st h x hr m hm
    obtain ⟨m, rfl⟩ : ∃ m', m = m' + 1 := ⟨m - 1, by omega⟩
    have hm : n ≤ m := by omega
    rw [ij_run] at hr ⊢
    split at hr
    · cases hr
    · next i len a b c hlk =>
      try rw [hlk]
      try dsimp only
      split at hr
      · next q hq =>
        try rw [hq]
        exact ih _ _ _ _ _ _ hr m hm
      · next hq =>
        try rw [hq]
        try dsimp only
        split at hr
        · next q hq =>
          try rw [hq]
          exact ih _ _ _ _ _ _ hr m hm
        · next hq =>
          try rw [hq]
          try dsimp only
          split at hr
          · next q hq =>
            try rw [hq]
            exact ih _ _ _ _ _ _ hr m hm
          · next hq =>
            try rw [hq]
            try dsimp only
            split at hr
            · next q hq =>
              try rw [hq]
              exact ih _ _ _ _ _ _ hr m hm
            · next hq =>
              try rw [hq]
              try dsimp only
              split at hr
              · next q hq =>
                try rw [hq]
                exact ih _ _ _ _ _ _ hr m hm
              · next hq =>
                try rw [hq]
                try dsimp only
                split at hr
                · next q hq =>
                  try rw [hq]
                  exact ih _ _ _ _ _ _ hr m hm
                · next hq =>
                  try rw [hq]
                  try dsimp only
                  split at hr
                  · next q hq =>
                    try rw [hq]
                    exact hr
                  · next hq =>
                    try rw [hq]
                    try dsimp only
                    split at hr
                    · next q hq =>
                      try rw [hq]
                      try dsimp only
                      split at hr
                      · next l0 hl0 =>
                        try rw [hl0]
                        try dsimp only
                        split at hr
                        · next z hz =>
                          rw [ih _ _ _ _ _ _ hz m hm]
                          exact ih _ _ _ _ _ _ hr m hm
                        · cases hr
                      · cases hr
                    · cases hr
def ij_R (xt : ij_X) (y pc : Nat) (L : ij_L) (st : List Value) (h : ij_H) (Q : Option Value → ij_H → Prop) : Prop := ∃ n r h', ij_run ij_G0 xt n y pc L st h = some (r, h') ∧ Q r h'
section IJ
variable {xt : ij_X} {y pc : Nat} {L : ij_L} {st : List Value} {h : ij_H} {Q : Option Value → ij_H → Prop}
theorem ij_go (k : Nat) (pc' : Nat) (L' : ij_L) (st' : List Value) (h' : ij_H) (e : ∀ n, ij_run ij_G0 xt (n + k) y pc L st h = ij_run ij_G0 xt n y pc' L' st' h') (q : ij_R xt y pc' L' st' h' Q) : ij_R xt y pc L st h Q := by
  obtain ⟨n, r, h1, h2, h3⟩ := q
  exact ⟨n + k, r, h1, by rw [e]; exact h2, h3⟩
theorem ij_br (k : Nat) (c : Prop) {d : Decidable c} (a b : Nat) (L' : ij_L) (st' : List Value) (h' : ij_H) (e : ∀ n, ij_run ij_G0 xt (n + k) y pc L st h = ij_run ij_G0 xt n y (@ite Nat c d a b) L' st' h') (q1 : c → ij_R xt y a L' st' h' Q) (q2 : ¬ c → ij_R xt y b L' st' h' Q) : ij_R xt y pc L st h Q := by
  by_cases hc : c
  · obtain ⟨n, r, h1, h2, h3⟩ := q1 hc
    exact ⟨n + k, r, h1, by rw [e, if_pos hc]; exact h2, h3⟩
  · obtain ⟨n, r, h1, h2, h3⟩ := q2 hc
    exact ⟨n + k, r, h1, by rw [e, if_neg hc]; exact h2, h3⟩
theorem ij_ret (k : Nat) (r : Option Value) (h' : ij_H) (e : ∀ n, ij_run ij_G0 xt (n + k) y pc L st h = some (r, h')) (q : Q r h') : ij_R xt y pc L st h Q := ⟨0 + k, r, h', e 0, q⟩
theorem ij_call (k a : Nat) (l0 : ij_L) (rest : List Value) (pc' : Nat) (L' : ij_L) (h1 : ij_H) (e : ∀ n, ij_run ij_G0 xt (n + k) y pc L st h = (match ij_run ij_G0 xt n a 0 l0 [] h1 with
      | some z => ij_run ij_G0 xt n y pc' L' (z.1.toList ++ rest) z.2
      | none => none)) (q : ij_R xt a 0 l0 [] h1 (fun r h' => ij_R xt y pc' L' (r.toList ++ rest) h' Q)) : ij_R xt y pc L st h Q := by
  obtain ⟨n, r, h2, h3, m, r1, h4, h5, h6⟩ := q
  refine ⟨max n m + k, r1, h4, ?_, h6⟩
  rw [e, ij_mono _ _ _ _ _ _ _ h3 _ (Nat.le_max_left n m)]
  exact ij_mono _ _ _ _ _ _ _ h5 _ (Nat.le_max_right n m)
end IJ
