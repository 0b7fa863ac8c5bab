/-! Runs of the small machine: more outer cells do no harm; references stand only where they may. -/
theorem ik_no {α : Type} {x : α} {P : Prop} (e : (none : Option α) = some x) : P := by cases e
theorem ik_hR1 {tt : Nat → Nat → Nat} {xt xt' : ij_X} {i : Instr} {a b : Nat} {st : List Value} {h : ij_H} {q : List Value} (hx : ∀ k v, xt k = some v → xt' k = some v) (e : ij_hR tt xt i a b st h = some q) : ij_hR tt xt' i a b st h = some q := by
  cases i
  case iaload =>
    rcases st with _ | ⟨v, st⟩
    · exact ik_no e
    cases v
    case int x =>
      rcases st with _ | ⟨w, st⟩
      · exact ik_no e
      cases w
      case ref j =>
        rcases hv : xt j with _ | v
        · dsimp only [ij_hR] at e ⊢
          by_cases hj : j < 1000000
          · rw [if_pos hj] at e ⊢; exact e
          · rw [if_neg hj, hv] at e; exact ik_no e
        · have e2 : xt' j = xt j := by rw [hv]; exact hx _ _ hv
          dsimp only [ij_hR] at e ⊢
          rw [e2]; exact e
      all_goals exact ik_no e
    all_goals exact ik_no e
  case baload =>
    rcases st with _ | ⟨v, st⟩
    · exact ik_no e
    cases v
    case int x =>
      rcases st with _ | ⟨w, st⟩
      · exact ik_no e
      cases w
      case ref j =>
        rcases hv : xt j with _ | v
        · dsimp only [ij_hR] at e ⊢
          by_cases hj : j < 1000000
          · rw [if_pos hj] at e ⊢; exact e
          · rw [if_neg hj, hv] at e; exact ik_no e
        · have e2 : xt' j = xt j := by rw [hv]; exact hx _ _ hv
          dsimp only [ij_hR] at e ⊢
          rw [e2]; exact e
      all_goals exact ik_no e
    all_goals exact ik_no e
  case arraylength =>
    rcases st with _ | ⟨w, st⟩
    · exact ik_no e
    cases w
    case ref j =>
      rcases hv : xt j with _ | v
      · dsimp only [ij_hR] at e ⊢
        by_cases hj : j < 1000000
        · rw [if_pos hj] at e ⊢; exact e
        · rw [if_neg hj, hv] at e; exact ik_no e
      · have e2 : xt' j = xt j := by rw [hv]; exact hx _ _ hv
        dsimp only [ij_hR] at e ⊢
        rw [e2]; exact e
    all_goals exact ik_no e
  all_goals exact e
theorem ik_hR0 {tt : Nat → Nat → Nat} {xt xt' : ij_X} {i : Instr} {a b : Nat} {st : List Value} {h : ij_H} (e : ij_hR tt xt i a b st h = none) : ij_hR tt xt' i a b st h = none ∨ i = .iaload ∨ i = .baload ∨ i = .arraylength := by
  cases i
  case iaload => exact .inr (.inl rfl)
  case baload => exact .inr (.inr (.inl rfl))
  case arraylength => exact .inr (.inr (.inr rfl))
  all_goals exact .inl e
def ik_cp (i : Instr) (a : Nat) : Bool := match i with
  | .invokestatic _ => Nat.beq a 999998
  | _ => false
theorem ik_hW1 {tt : Nat → Nat → Nat} {xt xt' : ij_X} {i : Instr} {a b : Nat} {st : List Value} {h : ij_H} {q : List Value × ij_H} (hx : ∀ k v, xt k = some v → xt' k = some v) (e : ij_hW tt xt i a b st h = some q) : ij_hW tt xt' i a b st h = some q := by
  cases i
  case invokestatic =>
    dsimp only [ij_hW] at e ⊢
    split at e
    · next n dp d sp s r =>
      rcases hv : xt s with _ | v
      · by_cases hs : s < 1000000
        · simp only [hs, if_true] at e ⊢
          exact e
        · exfalso
          simp only [hs, if_false, hv] at e
          (repeat' split at e) <;> cases e
      · have e2 : xt' s = xt s := by rw [hv]; exact hx _ _ hv
        try dsimp only
        rw [e2]
        exact e
    · exact ik_no e
  all_goals exact e
theorem ik_hW0 {tt : Nat → Nat → Nat} {xt xt' : ij_X} {i : Instr} {a b : Nat} {st : List Value} {h : ij_H} (e : ij_hW tt xt i a b st h = none) : ij_hW tt xt' i a b st h = none ∨ ik_cp i a = true := by
  cases i
  case invokestatic =>
    by_cases ha : a = 999998
    · subst ha; exact .inr rfl
    · left
      dsimp only [ij_hW]
      split
      · exact absurd rfl ha
      · rfl
  all_goals exact .inl e
def ik_cc (q : Nat × ij_E) : Bool := !(Nat.beq q.2.2.2.1 999998) || !(Nat.beq q.2.2.2.2.2 1 || Nat.beq q.2.2.2.2.2 4)
theorem ik_xt {G : ij_G} {xt xt' : ij_X} (hx : ∀ k v, xt k = some v → xt' k = some v) (hG : ∀ y, (G.1 y).all ik_cc = true) : ∀ (n y pc : Nat) (L : ij_L) (st : List Value) (h : ij_H) (x : Option Value × ij_H), ij_run G xt n y pc L st h = some x → ij_run G xt' n y pc L st h = some x := by
  intro n
  induction n with
  | zero => intro y pc L st h x hr; rw [ij_run] at hr; cases hr
  | succ n ih =>
    intro y pc L st h x hr
    rw [ij_run] at hr ⊢
    split at hr
    · cases hr
    · next i len a b c hlk =>
      try rw [hlk]
      try dsimp only
      split at hr
      · next q hq =>
        try rw [hq]
        exact ih _ _ _ _ _ _ hr
      · next hq =>
        try rw [hq]
        try dsimp only
        split at hr
        · next q hq =>
          try rw [hq]
          exact ih _ _ _ _ _ _ hr
        · next hq =>
          try rw [hq]
          try dsimp only
          split at hr
          · next q hq =>
            try rw [hq]
            exact ih _ _ _ _ _ _ hr
          · next hq =>
            try rw [hq]
            try dsimp only
            split at hr
            · next q hq =>
              rw [ik_hR1 hx hq]
              exact ih _ _ _ _ _ _ hr
            · next hq =>
              rcases ik_hR0 (xt' := xt') hq with hq2 | hi
              · rw [hq2]
                try dsimp only
                split at hr
                · next q hq =>
                  try rw [hq]
                  exact ih _ _ _ _ _ _ hr
                · next hq =>
                  try rw [hq]
                  try dsimp only
                  split at hr
                  · next q hq =>
                    rw [ik_hW1 hx hq]
                    exact ih _ _ _ _ _ _ hr
                  · next hq =>
                    rcases ik_hW0 (xt' := xt') hq with hq2 | hi
                    · rw [hq2]
                      try dsimp only
                      split at hr
                      · next q hq =>
                        try rw [hq]
                        exact hr
                      · next hq =>
                        try rw [hq]
                        try dsimp only
                        split at hr
                        · next q hq =>
                          try rw [hq]
                          try dsimp only
                          split at hr
                          · next l0 hl0 =>
                            try rw [hl0]
                            try dsimp only
                            split at hr
                            · next z hz =>
                              rw [ih _ _ _ _ _ _ hz]
                              exact ih _ _ _ _ _ _ hr
                            · cases hr
                          · cases hr
                        · cases hr
                    · exfalso
                      have ha : a = 999998 := by
                        cases i
                        case invokestatic => exact Nat.eq_of_beq_eq_true hi
                        all_goals cases hi
                      have hcc : ¬ (c = 1 ∨ c = 4) := by
                        have hm := List.all_eq_true.mp (hG y) _ (ij_lookup_mem hlk)
                        subst ha
                        rintro (rfl | rfl) <;> cases hm
                      split at hr
                      · next q hq =>
                        cases i
                        case invokestatic => cases hq
                        all_goals cases hi
                      · split at hr
                        · next q hq =>
                          cases i
                          case invokestatic =>
                            dsimp only [ij_cI] at hq
                            split at hq
                            · next hc => exact hcc hc.1
                            · cases hq
                          all_goals cases hi
                        · cases hr
              · exfalso
                rcases hi with rfl | rfl | rfl
                · exact ik_no hr
                · exact ik_no hr
                · exact ik_no hr
/-- references stand in objects and in arrays of objects, within their size -/
def ik_Z (h : ij_H) : Prop := ∀ j k, (∀ kd n, h.1[j]? = some (kd, n) → ¬ (k < n ∧ (kd < 100 ∨ 104 ≤ kd))) → h.2.2.2 j k = none
theorem ik_Zur {h : ij_H} {j k kd n x : Nat} {f : Nat → Nat → Int32} {w : Nat → Nat → Int64} (hz : ik_Z h) (hs : h.1[j]? = some (kd, n)) (hk : k < n) (hd : kd < 100 ∨ 104 ≤ kd) : ik_Z (h.1, f, w, ij_ur h.2.2.2 j k (some x)) := by
  intro a b hc
  show ij_ur h.2.2.2 j k (some x) a b = none
  have c := hc kd n
  unfold ij_ur
  by_cases ha : a = j
  · subst ha
    rw [if_pos rfl]
    have c := c hs
    unfold va_up
    rw [if_neg (by omega)]
    exact hz a b hc
  · rw [if_neg ha]
    exact hz a b hc
theorem ik_Znew {h : ij_H} {kd n : Nat} (hz : ik_Z h) : ik_Z (ij_new h kd n) := by
  intro a b hc
  show ij_row h.2.2.2 h.1.length (fun _ => none) a b = none
  unfold ij_row
  by_cases ha : a = h.1.length
  · rw [if_pos ha]
  · rw [if_neg ha]
    refine hz a b (fun kd' n' e => hc kd' n' ?_)
    show (h.1 ++ [(kd, n)])[a]? = some (kd', n')
    have hl : a < h.1.length := (List.getElem?_eq_some_iff.mp e).1
    rw [List.getElem?_append_left hl]
    exact e
theorem ik_ZW {tt : Nat → Nat → Nat} {xt : ij_X} {i : Instr} {a b : Nat} {st : List Value} {h : ij_H} {q : List Value × ij_H} (hz : ik_Z h) (e : ij_hW tt xt i a b st h = some q) : ik_Z q.2 := by
  unfold ij_hW at e
  split at e
  · split at e
    · split at e
      · split at e
        · next kd n hk =>
          split at e
          · next hc =>
            rw [Option.map_eq_some_iff] at e
            obtain ⟨m, hm, rfl⟩ := e
            unfold ij_put at hm
            split at hm
            · cases hm; exact hz
            · cases hm; exact hz
            · split at hm
              · cases hm; exact ik_Zur hz hk hc.2.2 (by omega)
              · cases hm
            · split at hm
              · cases hm; exact hz
              · cases hm
            · cases hm
          · cases e
        · cases e
      · cases e
    · cases e
  · (repeat' split at e) <;> first | (cases e; exact hz) | cases e
  · (repeat' split at e) <;> first | (cases e; exact hz) | cases e
  · (repeat' split at e) <;> first | (cases e; exact hz) | cases e
  · split at e
    · split at e
      · split at e
        · next kd n kv nv hk hv =>
          split at e
          · cases e
          · next hc => cases e; exact ik_Zur hz hk (by omega) (by omega)
        · cases e
      · cases e
    · cases e
  · (repeat' split at e) <;> first | (cases e; exact ik_Znew hz) | cases e
  · (repeat' split at e) <;> first | (cases e; exact ik_Znew hz) | cases e
  · (repeat' split at e) <;> first | (cases e; exact ik_Znew hz) | cases e
  · (repeat' split at e) <;> first | (cases e; exact hz) | cases e
  · cases e
theorem ik_Zrun {G : ij_G} {xt : ij_X} : ∀ (n y pc : Nat) (L : ij_L) (st : List Value) (h : ij_H) (x : Option Value × ij_H), ij_run G xt n y pc L st h = some x → ik_Z h → ik_Z x.2 := by
  intro n
  induction n with
  | zero => intro y pc L st h x hr hz; rw [ij_run] at hr; cases hr
  | succ n ih =>
    intro y pc L st h x hr hz
    rw [ij_run] at hr
    split at hr
    · cases hr
    · split at hr
      · exact ih _ _ _ _ _ _ hr hz
      · split at hr
        · exact ih _ _ _ _ _ _ hr hz
        · split at hr
          · exact ih _ _ _ _ _ _ hr hz
          · split at hr
            · exact ih _ _ _ _ _ _ hr hz
            · split at hr
              · exact ih _ _ _ _ _ _ hr hz
              · split at hr
                · next q hq => exact ih _ _ _ _ _ _ hr (ik_ZW hz hq)
                · split at hr
                  · cases hr; exact hz
                  · split at hr
                    · split at hr
                      · split at hr
                        · next z hz2 => exact ih _ _ _ _ _ _ hr (ih _ _ _ _ _ _ hz2 hz)
                        · cases hr
                      · cases hr
                    · cases hr
theorem ik_Z0 : ik_Z ij_h0 := fun _ _ _ => rfl
