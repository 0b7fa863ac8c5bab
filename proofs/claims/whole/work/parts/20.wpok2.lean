/-! The conditions suffice, the other half. -/
section IQE
variable {xt : ij_X} {y pc len a b c : Nat} {i : Instr} {L : ij_L} {st : List Value} {h : ij_H} {Q : Option Value → ij_H → Prop}
theorem iq_e0 {q : ij_L × List Value} (hk : (ij_tab y).lookup pc = some (i, len, a, b, c)) (h0 : ij_sL i L st = some q) (k : ij_R xt y (pc + len) q.1 q.2 h Q) : ij_R xt y pc L st h Q := by
  obtain ⟨n, r, h', e, hq⟩ := k
  refine ⟨n + 1, r, h', ?_, hq⟩
  rw [ij_run, show ij_G0.1 y = ij_tab y from rfl, hk]
  dsimp only
  rw [h0]
  exact e
theorem iq_e1 {q : List Value} (hk : (ij_tab y).lookup pc = some (i, len, a, b, c)) (h0 : ij_sL i L st = none) (h1 : ij_sA i st = some q) (k : ij_R xt y (pc + len) L q h Q) : ij_R xt y pc L st h Q := by
  obtain ⟨n, r, h', e, hq⟩ := k
  refine ⟨n + 1, r, h', ?_, hq⟩
  rw [ij_run, show ij_G0.1 y = ij_tab y from rfl, hk]
  dsimp only
  rw [h0]; dsimp only
  rw [h1]
  exact e
theorem iq_e2 {q : Nat × List Value} (hk : (ij_tab y).lookup pc = some (i, len, a, b, c)) (h0 : ij_sL i L st = none) (h1 : ij_sA i st = none) (h2 : ij_bI i pc st = some q) (k : ij_R xt y q.1 L q.2 h Q) : ij_R xt y pc L st h Q := by
  obtain ⟨n, r, h', e, hq⟩ := k
  refine ⟨n + 1, r, h', ?_, hq⟩
  rw [ij_run, show ij_G0.1 y = ij_tab y from rfl, hk]
  dsimp only
  rw [h0]; dsimp only
  rw [h1]; dsimp only
  rw [h2]
  exact e
theorem iq_e3 {q : List Value} (hk : (ij_tab y).lookup pc = some (i, len, a, b, c)) (h0 : ij_sL i L st = none) (h1 : ij_sA i st = none) (h2 : ij_bI i pc st = none) (h3 : ij_hR ij_tt xt i a b st h = some q) (k : ij_R xt y (pc + len) L q h Q) : ij_R xt y pc L st h Q := by
  obtain ⟨n, r, h', e, hq⟩ := k
  refine ⟨n + 1, r, h', ?_, hq⟩
  rw [ij_run, show ij_G0.1 y = ij_tab y from rfl, hk]
  dsimp only
  rw [h0]; dsimp only
  rw [h1]; dsimp only
  rw [h2]; dsimp only
  rw [h3]
  exact e
theorem iq_e4 {q : List Value} (hk : (ij_tab y).lookup pc = some (i, len, a, b, c)) (h0 : ij_sL i L st = none) (h1 : ij_sA i st = none) (h2 : ij_bI i pc st = none) (h3 : ij_hR ij_tt xt i a b st h = none) (h4 : ij_sB i st = some q) (k : ij_R xt y (pc + len) L q h Q) : ij_R xt y pc L st h Q := by
  obtain ⟨n, r, h', e, hq⟩ := k
  refine ⟨n + 1, r, h', ?_, hq⟩
  rw [ij_run, show ij_G0.1 y = ij_tab y from rfl, hk]
  dsimp only
  rw [h0]; dsimp only
  rw [h1]; dsimp only
  rw [h2]; dsimp only
  rw [h3]; dsimp only
  rw [h4]
  exact e
theorem iq_e5 {q : List Value × ij_H} (hk : (ij_tab y).lookup pc = some (i, len, a, b, c)) (h0 : ij_sL i L st = none) (h1 : ij_sA i st = none) (h2 : ij_bI i pc st = none) (h3 : ij_hR ij_tt xt i a b st h = none) (h4 : ij_sB i st = none) (h5 : ij_hW ij_tt xt i a b st h = some q) (k : ij_R xt y (pc + len) L q.1 q.2 Q) : ij_R xt y pc L st h Q := by
  obtain ⟨n, r, h', e, hq⟩ := k
  refine ⟨n + 1, r, h', ?_, hq⟩
  rw [ij_run, show ij_G0.1 y = ij_tab y from rfl, hk]
  dsimp only
  rw [h0]; dsimp only
  rw [h1]; dsimp only
  rw [h2]; dsimp only
  rw [h3]; dsimp only
  rw [h4]; dsimp only
  rw [h5]
  exact e
theorem iq_e6 {q : Option Value} (hk : (ij_tab y).lookup pc = some (i, len, a, b, c)) (h0 : ij_sL i L st = none) (h1 : ij_sA i st = none) (h2 : ij_bI i pc st = none) (h3 : ij_hR ij_tt xt i a b st h = none) (h4 : ij_sB i st = none) (h5 : ij_hW ij_tt xt i a b st h = none) (h6 : ij_rI (ij_rk y) i st = some q) (k : Q q h) : ij_R xt y pc L st h Q := by
  refine ⟨0 + 1, q, h, ?_, k⟩
  rw [ij_run, show ij_G0.1 y = ij_tab y from rfl, hk]
  dsimp only
  rw [h0]; dsimp only
  rw [h1]; dsimp only
  rw [h2]; dsimp only
  rw [h3]; dsimp only
  rw [h4]; dsimp only
  rw [h5]; dsimp only
  rw [h6]
theorem iq_e7 {q : List Value × List Value} {l0 : ij_L} (hk : (ij_tab y).lookup pc = some (i, len, a, b, c)) (h0 : ij_sL i L st = none) (h1 : ij_sA i st = none) (h2 : ij_bI i pc st = none) (h3 : ij_hR ij_tt xt i a b st h = none) (h4 : ij_sB i st = none) (h5 : ij_hW ij_tt xt i a b st h = none) (h6 : ij_rI (ij_rk y) i st = none) (h7 : ij_cI i b c st h = some q) (h8 : ij_entry (ij_ml a) q.1 = some l0) (k : ij_R xt a 0 l0 [] h (fun r h' => ij_R xt y (pc + 3) L (r.toList ++ q.2) h' Q)) : ij_R xt y pc L st h Q := by
  refine ij_call 1 a l0 q.2 (pc + 3) L h ?_ k
  intro n
  rw [ij_run, show ij_G0.1 y = ij_tab y from rfl, hk]
  dsimp only
  rw [h0]; dsimp only
  rw [h1]; dsimp only
  rw [h2]; dsimp only
  rw [h3]; dsimp only
  rw [h4]; dsimp only
  rw [h5]; dsimp only
  rw [h6]; dsimp only
  rw [h7]; dsimp only
  rw [h8]; rfl
end IQE
theorem iq_cc {k : Jvm.ClassFile.Cond} {x y : Int} {A B : Prop} (hx : -2147483648 ≤ x ∧ x ≤ 2147483647) (hy : -2147483648 ≤ y ∧ y ≤ 2147483647) (h : iq_cp k x y A B) (pc : Nat) (o : Int) (r : List Value) : (ij_bI (.if_icmp k o) pc (.int (Int32.ofInt y) :: .int (Int32.ofInt x) :: r) = some (ij_tg pc o, r) ∧ A) ∨ (ij_bI (.if_icmp k o) pc (.int (Int32.ofInt y) :: .int (Int32.ofInt x) :: r) = some (pc + 3, r) ∧ B) := by
  have e1 := iq_eqi hx.1 hx.2 hy.1 hy.2
  have e2 := iq_lti hx.1 hx.2 hy.1 hy.2
  have e3 := iq_lti hy.1 hy.2 hx.1 hx.2
  have e4 := iq_lei hx.1 hx.2 hy.1 hy.2
  have e5 := iq_lei hy.1 hy.2 hx.1 hx.2
  unfold iq_cp at h
  unfold ij_bI
  cases k <;> dsimp only at h ⊢
  · by_cases c : x = y
    · exact .inl ⟨by rw [if_pos (e1.mpr c)], h.1 c⟩
    · exact .inr ⟨by rw [if_neg (fun t => c (e1.mp t))], h.2 c⟩
  · by_cases c : x = y
    · exact .inr ⟨by rw [if_pos (e1.mpr c)], h.2 c⟩
    · exact .inl ⟨by rw [if_neg (fun t => c (e1.mp t))], h.1 c⟩
  · by_cases c : x < y
    · exact .inl ⟨by rw [if_pos (e2.mpr c)], h.1 c⟩
    · exact .inr ⟨by rw [if_neg (fun t => c (e2.mp t))], h.2 (by omega)⟩
  · by_cases c : y ≤ x
    · exact .inl ⟨by rw [if_pos (e5.mpr c)], h.1 c⟩
    · exact .inr ⟨by rw [if_neg (fun t => c (e5.mp t))], h.2 (by omega)⟩
  · by_cases c : y < x
    · exact .inl ⟨by rw [if_pos (e3.mpr c)], h.1 c⟩
    · exact .inr ⟨by rw [if_neg (fun t => c (e3.mp t))], h.2 (by omega)⟩
  · by_cases c : x ≤ y
    · exact .inl ⟨by rw [if_pos (e4.mpr c)], h.1 c⟩
    · exact .inr ⟨by rw [if_neg (fun t => c (e4.mp t))], h.2 (by omega)⟩
theorem iq_c0 (k : Jvm.ClassFile.Cond) (x : Int32) (o : Int) (pc : Nat) (r : List Value) : ij_bI (.ifCond k o) pc (.int x :: r) = ij_bI (.if_icmp k o) pc (.int (Int32.ofInt 0) :: .int x :: r) := by
  cases k <;> rfl
theorem iq_bif {b : Bool} {p q : Prop} (h : bif b then p else q) : (b = true ∧ p) ∨ (b = false ∧ q) := by
  cases b
  · exact .inr ⟨rfl, h⟩
  · exact .inl ⟨rfl, h⟩
theorem iq_br_ok {k : Jvm.ClassFile.Cond} {x y : Int ⊕ Int} {A B : Prop} (h : iq_br k x y A B) (pc : Nat) (o : Int) (r : List Value) : (ij_bI (.if_icmp k o) pc (.int (Int32.ofInt (iq_iv y)) :: .int (Int32.ofInt (iq_iv x)) :: r) = some (ij_tg pc o, r) ∧ A) ∨ (ij_bI (.if_icmp k o) pc (.int (Int32.ofInt (iq_iv y)) :: .int (Int32.ofInt (iq_iv x)) :: r) = some (pc + 3, r) ∧ B) := by
  unfold iq_br at h
  have hr : ∀ n : Int, iq_rb n = true → -2147483648 ≤ n ∧ n ≤ 2147483647 := by
    intro n hn
    unfold iq_rb at hn
    simpa using hn
  rcases x with x | x <;> rcases y with y | y <;> dsimp only at h
  · obtain ⟨h1, h2⟩ := iq_bf h
    simp only [Bool.and_eq_true] at h1
    have h3 : iq_cp k x y A B := by
      unfold iq_cp
      unfold iq_cd at h2
      cases k <;> dsimp only at h2 ⊢ <;> rcases iq_bif h2 with ⟨e, p⟩ | ⟨e, p⟩ <;> simp at e
      · exact ⟨fun _ => p, fun t => (t e).elim⟩
      · exact ⟨fun t => (e t).elim, fun _ => p⟩
      · exact ⟨fun _ => p, fun t => (e t).elim⟩
      · exact ⟨fun t => (t e).elim, fun _ => p⟩
      · exact ⟨fun _ => p, fun t => by omega⟩
      · exact ⟨fun t => by omega, fun _ => p⟩
      · exact ⟨fun _ => p, fun t => by omega⟩
      · exact ⟨fun t => by omega, fun _ => p⟩
      · exact ⟨fun _ => p, fun t => by omega⟩
      · exact ⟨fun t => by omega, fun _ => p⟩
      · exact ⟨fun _ => p, fun t => by omega⟩
      · exact ⟨fun t => by omega, fun _ => p⟩
    exact iq_cc (hr _ h1.1) (hr _ h1.2) h3 pc o r
  · obtain ⟨h1, h2⟩ := iq_bf h
    exact iq_cc (hr _ h1) h2.1 h2.2 pc o r
  · obtain ⟨h1, h2⟩ := iq_bf h
    exact iq_cc h2.1 (hr _ h1) h2.2 pc o r
  · exact iq_cc ⟨h.1.1, h.1.2.1⟩ h.1.2.2 h.2 pc o r
theorem iq_sw_ok {K : Nat → Prop} {pc : Nat} {x : Int} : ∀ (os : List Int) (v : Int) (j : Nat) (o : Int), iq_sw K pc x v os → os[j]? = some o → x = v + j → K (ij_tg pc o) := by
  intro os
  induction os with
  | nil => intro v j o _ h; simp at h
  | cons o1 os ih =>
    intro v j o h hj hx
    cases j with
    | zero =>
      simp at hj
      rw [← hj]
      exact h.1 (by omega)
    | succ j =>
      simp at hj
      exact ih (v + 1) j o h.2 hj (by omega)
theorem iq_sJ_ok {i : Instr} {pc : Nat} {st : List iq_V} {K : Nat → List iq_V → Prop} (h : iq_sJ i pc st K) : ∃ t q, K t q ∧ ij_bI i pc (st.map iq_lv) = some (t, q.map iq_lv) := by
  unfold iq_sJ at h
  split at h
  · exact ⟨_, _, h, rfl⟩
  · next k o =>
    split at h
    · next x r =>
      rcases iq_br_ok h pc o (r.map iq_lv) with ⟨e, hA⟩ | ⟨e, hB⟩
      · exact ⟨_, _, hA, by rw [← e]; exact iq_c0 _ _ _ _ _⟩
      · exact ⟨_, _, hB, by rw [← e]; exact iq_c0 _ _ _ _ _⟩
    · exact h.elim
  · next k o =>
    split at h
    · next y x r =>
      rcases iq_br_ok h pc o (r.map iq_lv) with ⟨e, hA⟩ | ⟨e, hB⟩
      · exact ⟨_, _, hA, e⟩
      · exact ⟨_, _, hB, e⟩
    · exact h.elim
  · next o =>
    split at h
    · next x r =>
      obtain ⟨h1, h2⟩ := iq_bg h
      refine ⟨_, _, h2, ?_⟩
      have hne : ¬ x = 1999999 := fun e => by rw [e] at h1; cases h1
      show (if x = 1999999 then none else some (pc + 3, _)) = _
      rw [if_neg hne]
    · exact ⟨_, _, h, rfl⟩
    · exact h.elim
  · next o =>
    split at h
    · next x r =>
      obtain ⟨h1, h2⟩ := iq_bg h
      refine ⟨_, _, h2, ?_⟩
      have hne : ¬ x = 1999999 := fun e => by rw [e] at h1; cases h1
      show (if x = 1999999 then none else some (ij_tg pc o, _)) = _
      rw [if_neg hne]
    · exact ⟨_, _, h, rfl⟩
    · exact h.elim
  · next d lo hi os =>
    split at h
    · next x r =>
      obtain ⟨⟨h1, h2, h3⟩, h4, h5⟩ := h
      have ht : (Int32.ofInt (iq_iv x)).toInt = iq_iv x := Int32.toInt_ofInt_of_le (by omega) (by omega)
      by_cases hr : iq_iv x < lo ∨ hi < iq_iv x
      · refine ⟨_, _, h5 hr, ?_⟩
        show (if (Int32.ofInt (iq_iv x)).toInt < lo ∨ hi < (Int32.ofInt (iq_iv x)).toInt then _ else _) = _
        rw [ht, if_pos hr]
      · have hb : (iq_iv x - lo).toNat < os.toList.length := by omega
        obtain ⟨o, ho⟩ : ∃ o, os.toList[(iq_iv x - lo).toNat]? = some o := ⟨_, List.getElem?_eq_getElem hb⟩
        refine ⟨_, _, iq_sw_ok os.toList lo (iq_iv x - lo).toNat o h4 ho (by omega), ?_⟩
        show (if (Int32.ofInt (iq_iv x)).toInt < lo ∨ hi < (Int32.ofInt (iq_iv x)).toInt then _ else (match os[((Int32.ofInt (iq_iv x)).toInt - lo).toNat]? with
          | some o => some (ij_tg pc o, _)
          | none => none)) = _
        rw [ht, if_neg hr]
        rw [Array.getElem?_toList] at ho
        rw [ho]
    · exact h.elim
  · exact h.elim
theorem iq_ix_ok {i : Int ⊕ Int} {n : Nat} {K : Int → Prop} (hn : n ≤ 65536) (h : iq_ix i n K) : 0 ≤ iq_iv i ∧ iq_iv i < n ∧ ¬ (Int32.ofInt (iq_iv i) < 0 ∨ n ≤ (Int32.ofInt (iq_iv i)).toNatClampNeg) ∧ (Int32.ofInt (iq_iv i)).toNatClampNeg = (iq_iv i).toNat ∧ K (iq_iv i) := by
  have h1 : 0 ≤ iq_iv i ∧ iq_iv i < n ∧ K (iq_iv i) := by
    unfold iq_ix at h
    rcases i with m | m
    · obtain ⟨a, b⟩ := iq_bf h
      simp only [Bool.and_eq_true, decide_eq_true_eq] at a
      exact ⟨a.1, a.2, b⟩
    · exact ⟨h.1.1, h.1.2, h.2⟩
  exact ⟨h1.1, h1.2.1, iq_in h1.1 h1.2.1 (by omega), iq_nat h1.1 (by omega), h1.2.2⟩
theorem iq_gz {g : iq_I} {j : Nat} {i : Int} (h : 0 ≤ i) : iq_up g j i.toNat = Int32.ofInt (g j i) := by
  unfold iq_up
  rw [Int.toNat_of_nonneg h]
theorem iq_lz {l : iq_J} {j : Nat} {i : Int} (h : 0 ≤ i) : iq_uq l j i.toNat = l j i := by
  unfold iq_uq
  rw [Int.toNat_of_nonneg h]
