/-! Studies lived, in the model: the loop over the STEPS. -/
def sf_ok (D : Int → Int) (m : Nat) (st : List Nat) : Prop := st.length ≤ 3 ∧ ∀ o, o ∈ st → o < m ∧ ¬ D (6 * o) = 17 ∧ (D (6 * o) = 12 ∨ D (6 * o) = 16)
theorem sf_lp0 {n : Int} {K T M B : Int → Int} {X : iq_I} (S : Int64) (h : ¬ X 0 4 = 0) (f : Nat) : sf_lp n K T M B f X S = (X, S) := by
  cases f with
  | zero => rfl
  | succ f => rw [sf_lp, if_neg h]
theorem sf_PV.ok {D : Int → Int} {m : Nat} {n : Int} {K T M B : Int → Int} (h : sf_PV D m n K T M B) {k : Nat} (hk : k ≤ m) : sf_ok D m (sf_hl D (sf_E D k)) := by
  have h1 := h.2.2.2.1 k hk
  have h2 := sf_hl_len D (sf_E D k)
  refine ⟨by omega, fun o ho => ?_⟩
  obtain ⟨a, b⟩ := sf_hl_mem D _ o ho
  have := sf_E_lt D k o a
  exact ⟨by omega, by omega, b⟩
theorem sf_nae {D : Int → Int} {m : Nat} {n : Int} {K T M B : Int → Int} {g g0 X : iq_I} {S : Int64} (hV : sf_PV D m n K T M B) {k : Nat} (hk : k < m) (hn : ¬ D (6 * k) = 17) (h : sf_J D g0 g (sf_hl D (sf_E D k)) X S) (h3 : X 0 3 = sf_c D k) : sf_ae B X = false := by
  have hmem : ∀ o, o ∈ sf_hl D (sf_E D k) → (sf_c D k : Int) < B (sf_c D o) := fun o ho => hV.ahead hk hn (sf_hl_mem D _ o ho).1
  obtain ⟨-, -, -, -, -, -, dp, s⟩ := h
  rcases hs : sf_hl D (sf_E D k) with _ | ⟨o, r⟩
  · rw [hs] at dp
    simp only [List.length_nil] at dp
    unfold sf_ae
    simp [dp]
  · rw [hs] at dp s hmem
    simp only [List.length_cons] at dp
    rw [sf_ST] at s
    have e7 : X 0 7 - 1 = r.length := by omega
    have et : sf_top X = sf_c D o := by
      unfold sf_top
      rw [e7]
      exact s.1
    have := hmem o List.mem_cons_self
    unfold sf_ae
    rw [et, h3]
    simp
    omega
section ML
variable {N : Nat} {xs : Nat → Int32} {Q : iq_T} {l : iq_J} {D : Int → Int} {g0 : iq_I} {m : Nat} {n : Int} {K T M B : Int → Int}
/-- behind the last row -/
theorem sf_mlE (hV : sf_PV D m n K T M B) (hm : g0 78 10 = m) {v1 : Int} {g X : iq_I} {S : Int64} {d3 d4 : Option iq_V} {f : Nat} (h : sf_J D g0 g (sf_hl D (sf_E D m)) X S) (h3 : X 0 3 = sf_c D m) (h4 : X 0 4 = 0) (h101 : X 0 14 = 0) (hf : 1 ≤ f) (q : ∀ (g' X' : iq_I) (S' : Int64) (st : List Nat) (v2 : Int) (d3 d4 : Option iq_V), sf_J D g0 g' st X' S' → sf_ok D m st → sf_lp n K T M B f X S = (X', S') → iq_P N xs 345 174 [some (iq_r 77), some (iq_i v1), some (iq_i v2), d3, d4] [] g' l Q) : iq_P N xs 345 42 [some (iq_r 77), some (iq_i v1), some (iq_i m), d3, d4] [] g l Q := by
  have e10 : g 78 10 = m := by rw [h.1.2.2 10 (by omega)]; exact hm
  have hm60 := hV.1
  refine B345_p42_77 _ _ _ _ _ _ ?_
  rw [e10]
  refine ⟨by omega, fun _ => ?_, fun h => by omega⟩
  have dp := h.2.2.2.2.2.2.1
  rw [hV.2.2.1] at dp
  have ea : ¬ sf_ae B X = true := by
    unfold sf_ae
    rw [show X 0 7 = 0 from dp]
    simp
  have hn := hV.2.1
  have eg : ¬ sf_go n X = true := by
    unfold sf_go
    simp
    omega
  have eX : sf_tX n K T M B X S = iq_uz (iq_uz (iq_uz X 0 14 0) 0 4 1) 0 9 (X 0 9) := by
    unfold sf_tX
    rw [if_neg ea, if_neg eg]
    unfold sf_cX
    rw [if_neg (by omega)]
  have eS : sf_tS n K M B X S = S := by
    unfold sf_tS
    rw [if_neg ea, if_neg eg]
  refine q g _ S _ _ _ _ (h.x (X' := iq_uz (iq_uz (iq_uz X 0 14 0) 0 4 1) 0 9 (X 0 9)) (fun j hj => by rw [sf_uzn _ hj, sf_uzn _ hj, sf_uzn _ hj]) (fun k hk => ?_)) (hV.ok (Nat.le_refl _)) ?_
  · by_cases c : k = 9
    · rw [c]; simp [iq_uz]
    · have c1 : ¬ k = 4 := by omega
      by_cases c2 : k = 14
      · rw [c2, h101]; simp [iq_uz]
      · simp [iq_uz, c, c1, c2]
  · rw [show f = (f - 1) + 1 by omega, sf_lp1 S h4, eX, eS]
    exact sf_lp0 S (by simp [iq_uz]) _
/-- behind a STEP that is no when, hold, loop, leave -/
theorem sf_p121 {v1 k a z : Int} {g : iq_I} (hr : g 78 (92 + 6 * k) = a) (hk : 0 ≤ k ∧ k < 60) (ha : 0 ≤ a ∧ a < 1500) (n12 : ¬ a = 12) (n13 : ¬ a = 13) (n16 : ¬ a = 16) (hz : z = 0 ∨ z = 1) (q1 : z = 1 → iq_P N xs 342 0 [some (iq_r 77), some (iq_i (k + 1)), none, none, none] [] g l (fun r g1 l2 => ∃ z3, r = some (iq_i z3) ∧ ∃ z4, some (iq_i z3) = some (iq_i z4) ∧ iq_P N xs 345 42 [some (iq_r 77), some (iq_i v1), some (iq_i z4), some (iq_i (92 + 6 * k)), some (iq_i z)] [] g1 l2 Q)) (q0 : z = 0 → iq_P N xs 342 0 [some (iq_r 77), some (iq_i (k + 1)), none, none, none] [] (iq_uz g 101 0 (g 101 0 + 1)) l (fun r g1 l2 => ∃ z3, r = some (iq_i z3) ∧ ∃ z4, some (iq_i z3) = some (iq_i z4) ∧ iq_P N xs 345 42 [some (iq_r 77), some (iq_i v1), some (iq_i z4), some (iq_i (92 + 6 * k)), some (iq_i z)] [] g1 l2 Q)) : iq_P N xs 345 121 [some (iq_r 77), some (iq_i v1), some (iq_i k), some (iq_i (92 + 6 * k)), some (iq_i z)] [] g l Q := by
  refine B345_p121_77 _ _ _ _ _ _ ⟨by omega, fun c => ⟨by omega, ?_⟩, fun c => ⟨by omega, ?_⟩⟩
  · rw [hr]
    refine ⟨by omega, fun _ => B344_77 _ _ _ _ ⟨by omega, ?_⟩, fun h => absurd h n16⟩
    rw [hr]
    exact ⟨by omega, fun _ => ⟨by omega, by omega, fun _ => ⟨by omega, by omega, fun _ => q1 (by omega), fun h => by omega⟩, fun h => absurd h n12⟩, fun h => absurd h n13⟩
  · have e78 : (iq_uz g 101 0 (g 101 0 + 1)) 78 (92 + 6 * k) = a := by rw [sf_uzn g (by decide)]; exact hr
    rw [hr]
    refine ⟨by omega, fun _ => B344_77 _ _ _ _ ⟨by omega, ?_⟩, fun h => absurd h n16⟩
    rw [e78]
    exact ⟨by omega, fun _ => ⟨by omega, by omega, fun _ => ⟨by omega, by omega, fun _ => q0 (by omega), fun h => by omega⟩, fun h => absurd h n12⟩, fun h => absurd h n13⟩
/-- an empty loop -/
theorem sf_el (hV : sf_PV D m n K T M B) (hR : ∀ i, 0 ≤ i → i < 360 → g0 78 (92 + i) = D i) (hm : g0 78 10 = m) {k : Nat} (hk : k + 1 < m) (h16 : D (6 * k) = 16) (h17 : D (6 * (k + 1 : Nat)) = 17) {X : iq_I} {S : Int64} {st : List Nat} (hst : ∀ o, o ∈ st → o < k) {v1 : Int} (q : ∀ (g' : iq_I) (d3 d4 : Option iq_V), sf_J D g0 g' st X S → iq_P N xs 342 2 [some (iq_r 77), some (iq_i v1), some (iq_i (k + 2 : Nat)), d3, d4] [] g' l Q) (v : Nat) : ∀ (g : iq_I) (d3 d4 : Option iq_V), v ≤ 99 → g 100 k = v → sf_J D g0 g st X S → iq_P N xs 342 2 [some (iq_r 77), some (iq_i v1), some (iq_i (k + 1 : Nat)), d3, d4] [] g l Q := by
  have hm60 := hV.1
  obtain ⟨o, c1, c2, c3, c4, c5, c6, c7⟩ := hV.close hk h17
  have Ek : sf_E D (k + 1) = k :: sf_E D k := by rw [sf_E, if_pos (by rw [h16]; decide)]
  rw [Ek] at c1
  injection c1 with c1 _
  subst c1
  have upd : ∀ (g : iq_I) (w : Int), sf_J D g0 g st X S → sf_J D g0 (iq_uz g 100 k w) st X S := by
    intro g w h
    obtain ⟨k1, z, a, c, lg, lo, dp, s⟩ := h
    have eg : ∀ j, ¬ j = 100 → (iq_uz g 100 k w) j = g j := fun j y => sf_uzn g y _ _
    unfold sf_J
    rw [eg 77 (by decide), eg 101 (by decide), eg 104 (by decide), eg 103 (by decide)]
    refine ⟨k1.uz (by omega), ⟨z.1, sf_MSc z.2 (eg 78 (by decide))⟩, a, c, lg, lo, dp, s.congr (fun _ _ => ⟨rfl, rfl⟩) (fun x hx => ?_) (fun _ _ _ => rfl)⟩
    have := hst x hx
    have : ¬ (x : Int) = k := by omega
    simp [iq_uz, this]
  induction v with
  | zero =>
    intro g d3 d4 hv hg h
    have rw0 := h.row hR
    have r0 := rw0 (6 * (k + 1 : Nat)) (by omega) (by omega)
    have r4 := rw0 (6 * (k + 1 : Nat) + 4) (by omega) (by omega)
    rw [← Int.add_assoc, c2] at r4
    have ro := rw0 (6 * k) (by omega) (by omega)
    have e10 : g 78 10 = m := by rw [h.1.2.2 10 (by omega)]; exact hm
    refine B342_p2_77 _ _ _ _ _ _ ?_
    rw [e10, r0, h17, r4, ro, h16]
    refine ⟨by omega, fun h => by omega, fun _ => ⟨by omega, by omega, fun h => absurd rfl h, fun _ => ⟨by omega, by omega, by omega, fun h => absurd rfl h, fun _ => B342_p62_77 _ _ _ _ _ _ ⟨by omega, ?_⟩⟩⟩⟩
    rw [hg]
    refine ⟨by omega, fun _ => B342_p75_77 _ _ _ _ _ _ ⟨by omega, by omega, by omega, ?_⟩, fun h => by omega⟩
    rw [ro, h16]
    refine ⟨by omega, fun _ => B342_p133_77 _ _ _ _ _ _ ?_, fun h => by omega⟩
    rw [show ((k + 1 : Nat) : Int) + 1 = ((k + 2 : Nat) : Int) by omega]
    exact q _ _ _ (upd g _ h)
  | succ v ih =>
    intro g d3 d4 hv hg h
    have rw0 := h.row hR
    have r0 := rw0 (6 * (k + 1 : Nat)) (by omega) (by omega)
    have r4 := rw0 (6 * (k + 1 : Nat) + 4) (by omega) (by omega)
    rw [← Int.add_assoc, c2] at r4
    have ro := rw0 (6 * k) (by omega) (by omega)
    have e10 : g 78 10 = m := by rw [h.1.2.2 10 (by omega)]; exact hm
    refine B342_p2_77 _ _ _ _ _ _ ?_
    rw [e10, r0, h17, r4, ro, h16]
    refine ⟨by omega, fun h => by omega, fun _ => ⟨by omega, by omega, fun h => absurd rfl h, fun _ => ⟨by omega, by omega, by omega, fun h => absurd rfl h, fun _ => B342_p62_77 _ _ _ _ _ _ ⟨by omega, ?_⟩⟩⟩⟩
    rw [hg]
    refine ⟨by omega, fun h => by omega, fun _ => ⟨by omega, by omega, by omega, ?_⟩⟩
    rw [ro, h16]
    refine ⟨by omega, fun _ => B342_p133_77 _ _ _ _ _ _ ?_, fun h => by omega⟩
    rw [show ((k : Nat) : Int) + 1 = ((k + 1 : Nat) : Int) by omega]
    exact ih _ _ _ (by omega) (by simp [iq_uz]) (upd g _ h)
/-- the test of a when -/
theorem sp343 {k : Nat} (hV : sf_PV D m n K T M B) (hR : ∀ i, 0 ≤ i → i < 360 → g0 78 (92 + i) = D i) (hk : k < m) {g X : iq_I} {S : Int64} {st : List Nat} (h : sf_J D g0 g st X S) (hw : 1500 ≤ D (6 * k)) (q1 : sf_so X S (T (sf_c D k)) (M (sf_c D k)) = true → ∀ g' : iq_I, sf_J D g0 g' st X S → Q (some (iq_i 1)) g' l) (q0 : sf_so X S (T (sf_c D k)) (M (sf_c D k)) = false → ∀ g' : iq_I, sf_J D g0 g' st X S → Q (some (iq_i 0)) g' l) : iq_P N xs 343 0 [some (iq_r 77), some (iq_i (92 + 6 * k)), none, none, none] [] g l Q := by
  have hm60 := hV.1
  have rw0 := h.row hR
  have r0 := rw0 (6 * k) (by omega) (by omega)
  have r1 := rw0 (6 * k + 1) (by omega) (by omega)
  rw [← Int.add_assoc] at r1
  have hz := h.2.1
  have p1 := hz.1.1.2.1
  have e1 := hz.2.p 1 (by omega) (by omega)
  have rwk := hV.2.2.2.2.2.2.2 k hk (by omega)
  have hF : 0 ≤ aFit (X 4) S ∧ aFit (X 4) S ≤ 64 := sf_fitR (X 4) S (X 4 2) (X 4 5)
  unfold sf_so at q1 q0
  refine B343_77 _ _ _ ⟨by omega, by omega, ?_⟩
  rw [r0, r1]
  have cs : (D (6 * k) = 1509 ∧ T (sf_c D k) = 0 ∧ M (sf_c D k) = D (6 * k + 1) ∧ (0 ≤ M (sf_c D k) ∧ M (sf_c D k) ≤ 59)) ∨ (D (6 * k) = 1519 ∧ T (sf_c D k) = 1 ∧ M (sf_c D k) = D (6 * k + 1) ∧ (0 ≤ M (sf_c D k) ∧ M (sf_c D k) ≤ 59)) ∨ (D (6 * k) = 1520 ∧ ((D (6 * k + 5) = 60 ∧ T (sf_c D k) = 2) ∨ (D (6 * k + 5) = 62 ∧ T (sf_c D k) = 3) ∨ (D (6 * k + 5) = 61 ∧ T (sf_c D k) = 4)) ∧ M (sf_c D k) = D (6 * k + 2) ∧ (0 ≤ M (sf_c D k) ∧ M (sf_c D k) ≤ 60)) := by
    unfold sf_rww at rwk
    rcases rwk with h | h | h | h | h | h | h | h | h | h | h
    · exact absurd h.1 (by omega)
    · exact absurd h.1 (by omega)
    · exact absurd h.1 (by omega)
    · exact absurd h.1 (by omega)
    · exact absurd h.1 (by omega)
    · exact .inl ⟨h.1, h.2.2⟩
    · exact .inr (.inl ⟨h.1, h.2.2⟩)
    · exact .inr (.inr ⟨h.1, h.2.2⟩)
    · exact absurd h.1 (by omega)
    · exact absurd h.1 (by omega)
    · exact absurd h.1 (by omega)
  rcases cs with ⟨w1, w2, w3, w4⟩ | ⟨w1, w2, w3, w4⟩ | ⟨w1, w2, w3, w4⟩
  · rw [w2, if_pos rfl, w3] at q1 q0
    rw [w3] at w4
    rw [w1]
    refine ⟨by omega, fun h => by omega, fun _ => sp158 (by omega) (by omega) (fun a b => ⟨_, rfl, by omega, fun h => by omega, fun _ => sp143 (by omega) ⟨_, rfl, ?_⟩⟩) (fun a => ⟨_, rfl, by omega, fun _ => q0 ?_ _ h, fun h => by omega⟩)⟩
    · have es := hz.2.s (D (6 * k + 1)) (by omega) (by omega)
      rw [es]
      rcases hb : iq_tb S (D (6 * k + 1)) with _ | _
      · rw [if_neg (by decide)]
        exact ⟨by omega, fun _ => q0 hb _ h, fun h => by omega⟩
      · rw [if_pos rfl]
        exact ⟨by omega, fun h => absurd rfl h, fun _ => q1 hb _ h⟩
    · rcases hb : iq_tb S (D (6 * k + 1)) with _ | _
      · rfl
      · have := hz.1.2.1 _ hb
        omega
  · rw [w2, if_neg (by decide), if_pos rfl, w3] at q1 q0
    rw [w3] at w4
    rw [w1]
    refine ⟨by omega, fun _ => ⟨by omega, fun h => by omega, fun _ => ?_⟩, fun h => by omega⟩
    refine sp114 (iq_pb_congr hz.2.p hz.1.1) (fun g' a b c d e => ⟨rfl, ?_⟩)
    have j' := h.scr (g' := g') (fun j y1 y2 => a j y1 (by omega)) b
    have hz' := j'.2.1
    have e1' := hz'.2.p 1 (by omega) (by omega)
    have hf : iq_dg (iq_ch (g 78 1) (g 78 4) (g 78 2) (g 78 5)) (g 78 3).toNat = iq_f (X 4) := by
      unfold iq_f
      rw [e1, hz.2.p 2 (by omega) (by omega), hz.2.p 3 (by omega) (by omega), hz.2.p 4 (by omega) (by omega), hz.2.p 5 (by omega) (by omega)]
    rw [hf] at c
    refine sp158 (by omega) (by omega) (fun x y => ⟨_, rfl, by omega, fun h => by omega, fun _ => ⟨by omega, ?_⟩⟩) (fun x => ⟨_, rfl, by omega, fun _ => q0 ?_ _ j', fun h => by omega⟩)
    · have cc := c.2.2.1 (D (6 * k + 1)).toNat (by omega)
      rw [show (((D (6 * k + 1)).toNat : Nat) : Int) = D (6 * k + 1) by omega] at cc
      rw [cc]
      have cn := iq_cn_nonneg (iq_f (X 4)) (D (6 * k + 1)).toNat
      rcases hb : iq_f (X 4) (D (6 * k + 1)) with _ | _
      · rw [if_neg (by decide)]
        exact ⟨by omega, fun _ => q0 hb _ j', fun h => absurd rfl h⟩
      · rw [if_pos rfl]
        exact ⟨by omega, fun h => by omega, fun _ => q1 hb _ j'⟩
    · rcases hb : iq_f (X 4) (D (6 * k + 1)) with _ | _
      · rfl
      · have := iq_fR hz.1.1 hb
        omega
  · rw [w1]
    refine ⟨by omega, fun _ => ⟨by omega, fun _ => ?_, fun h => by omega⟩, fun h => by omega⟩
    refine sp194m hz.1 hz.2 (fun g' a => ⟨_, rfl, by omega, ?_⟩)
    have j' := h.scr (g' := g') (fun j y1 y2 => a j (by omega)) (fun i _ _ => by rw [a 77 (by decide)])
    have rw1 := j'.row hR
    have r5 := rw1 (6 * k + 5) (by omega) (by omega)
    have r2 := rw1 (6 * k + 2) (by omega) (by omega)
    rw [← Int.add_assoc] at r5 r2
    rw [r5]
    rcases w2 with ⟨s1, s2⟩ | ⟨s1, s2⟩ | ⟨s1, s2⟩
    · rw [s2, if_neg (by decide), if_neg (by decide), if_pos rfl, w3] at q1 q0
      rw [s1]
      refine ⟨by omega, fun h => absurd rfl h, fun _ => ⟨by omega, ?_⟩⟩
      rw [r2]
      exact ⟨by omega, fun c => B343_p119_77 _ _ _ _ _ _ (q0 (by simp; omega) _ j'), fun c => B343_p115_77 _ _ _ _ _ _ (q1 (by simp; omega) _ j')⟩
    · rw [s2, if_neg (by decide), if_neg (by decide), if_neg (by decide), if_pos rfl, w3] at q1 q0
      rw [s1]
      refine ⟨by omega, fun _ => ⟨by omega, by omega, fun h => absurd rfl h, fun _ => B343_p136_77 _ _ _ _ _ _ ⟨by omega, ?_⟩⟩, fun h => by omega⟩
      rw [r2]
      exact ⟨by omega, fun c => q0 (by simp; omega) _ j', fun c => q1 (by simp; omega) _ j'⟩
    · rw [s2, if_neg (by decide), if_neg (by decide), if_neg (by decide), if_neg (by decide), w3] at q1 q0
      rw [s1]
      refine ⟨by omega, fun _ => ⟨by omega, by omega, fun _ => B343_p157_77 _ _ _ _ _ _ ⟨by omega, ?_⟩, fun h => by omega⟩, fun h => by omega⟩
      rw [r2]
      exact ⟨by omega, fun c => q0 (by simp; omega) _ j', fun c => q1 (by simp; omega) _ j'⟩
end ML
