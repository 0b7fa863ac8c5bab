/-! The constructors' end, and the claim's goal. -/
theorem ik_lk {r : List (Nat × Nat)} {k n : Nat} (h : r.all (fun p => decide (p.1 < n)) = true) (hk : n ≤ k) : r.lookup k = none := by
  induction r with
  | nil => rfl
  | cons p r ih =>
    obtain ⟨a, b⟩ := p
    rw [List.all_cons, Bool.and_eq_true] at h
    have h1 : a < n := of_decide_eq_true h.1
    have h2 : (k == a) = false := by
      rw [beq_eq_false_iff_ne]
      omega
    show (match k == a with
      | true => some b
      | false => r.lookup k) = none
    rw [h2]
    exact ih h.2
theorem ik_far {j : Nat} (h : 106 ≤ j) : ij_HL j = [] := by
  have hb : ∀ c, c ≤ 106 → Nat.blt j c = false := fun c hc => by
    rcases e : Nat.blt j c with _ | _
    · rfl
    · have := Nat.le_of_ble_eq_true e
      omega
  unfold ij_HL
  rw [hb 53 (by omega), hb 80 (by omega), hb 93 (by omega), hb 100 (by omega), hb 103 (by omega), hb 105 (by omega), hb 106 (by omega)]
  rfl
theorem ik_refs {f : Nat → Nat → Int32} {w : Nat → Nat → Int64} {r : Nat → Nat → Option Nat} (hz : ik_Z (ij_SH, f, w, r)) (c : (List.range 106).all (ik_hr r) = true) : r = ij_HR := by
  have len : ij_SH.length = 106 := by decide +kernel
  funext j k
  by_cases hj : j < 106
  · have d := List.all_eq_true.mp c j (List.mem_range.mpr hj)
    unfold ik_hr at d
    split at d
    · next kd n hs =>
      split at d
      · next hc =>
        rw [Bool.and_eq_true] at d
        by_cases hk : k < n
        · exact of_decide_eq_true (List.all_eq_true.mp d.1 k (List.mem_range.mpr hk))
        · have e : r j k = none := hz j k (fun kd2 n2 e2 => by
            have e3 : ij_SH[j]? = some (kd2, n2) := e2
            rw [hs] at e3
            cases e3
            omega)
          rw [e]
          exact (ik_lk d.2 (by omega)).symm
      · next hc =>
        have e : r j k = none := hz j k (fun kd2 n2 e2 => by
          have e3 : ij_SH[j]? = some (kd2, n2) := e2
          rw [hs] at e3
          cases e3
          omega)
        rw [e]
        show none = (ij_HL j).lookup k
        rw [List.isEmpty_iff.mp d]
        rfl
    · next hs =>
      have := List.getElem?_eq_none_iff.mp hs
      omega
  · have e : r j k = none := hz j k (fun kd2 n2 e2 => by
      have e3 : ij_SH[j]? = some (kd2, n2) := e2
      have := (List.getElem?_eq_some_iff.mp e3).1
      omega)
    rw [e]
    show none = (ij_HL j).lookup k
    rw [ik_far (by omega)]
    rfl
theorem ik_tabf {y : Nat} (h : 361 ≤ y) : ij_tab y = ij_t361 := by
  have hb : ∀ c, c ≤ 361 → Nat.blt y c = false := fun c hc => by
    rcases e : Nat.blt y c with _ | _
    · rfl
    · have := Nat.le_of_ble_eq_true e
      omega
  unfold ij_tab
  rw [hb 181 (by omega), hb 271 (by omega), hb 316 (by omega), hb 339 (by omega), hb 350 (by omega), hb 356 (by omega), hb 359 (by omega), hb 360 (by omega), hb 361 (by omega)]
  rfl
set_option maxRecDepth 20000 in
theorem ik_tabs : ∀ y : Nat, y < 362 → (ij_tab y).all ik_cc = true := by decide +kernel
theorem ik_G9 (y : Nat) : (ij_G0.1 y).all ik_cc = true := by
  by_cases h : y < 362
  · exact ik_tabs y h
  · show (ij_tab y).all ik_cc = true
    have e : ij_tab y = ij_tab 361 := by rw [ik_tabf (by omega), ik_tabf (y := 361) (by omega)]
    rw [e]
    exact ik_tabs 361 (by omega)
theorem ik_two (L : Nat) (xs : Nat → Int32) : ∃ (f1 : Nat → Nat → Int32) (w1 : Nat → Nat → Int64) (r1 : Nat → Nat → Option Nat) (f2 : Nat → Nat → Int32) (w2 : Nat → Nat → Int64), ij_run ij_G0 (ij_xt L xs) 2000 18 0 [some (.ref 0), none] [] (ij_new ij_h0 10 19) = some (none, (ij_SH.take 77, f1, w1, r1)) ∧ ij_run ij_G0 (ij_xt L xs) 8000 20 0 [some (.ref 77)] [] (ij_new (ij_SH.take 77, f1, w1, r1) 11 56) = some (none, (ij_SH, f2, w2, ij_HR)) ∧ ik_ok (ij_SH, f2, w2, ij_HR) = true := by
  obtain ⟨h1, h2, e1, s1, e2, c⟩ := ik_gen ik_checked
  obtain ⟨s, f1, w1, r1⟩ := h1
  have s1 : s = ij_SH.take 77 := s1
  subst s1
  obtain ⟨t, f2, w2, r2⟩ := h2
  have c0 := c
  unfold ik_ok at c0
  rw [Bool.and_eq_true] at c0
  have s2 : t = ij_SH := of_decide_eq_true c0.1
  subst s2
  have z1 := ik_Zrun _ _ _ _ _ _ _ e1 (ik_Znew ik_Z0)
  have z2 := ik_Zrun _ _ _ _ _ _ _ e2 (ik_Znew z1)
  have c1 := c0.2
  simp only [Bool.and_eq_true] at c1
  have hr : r2 = ij_HR := ik_refs z2 c1.2.2.2.2.2.2
  subst hr
  exact ⟨f1, w1, r1, f2, w2, ik_xt (ik_x0h L xs) ik_G9 _ _ _ _ _ _ _ e1, ik_xt (ik_x0h L xs) ik_G9 _ _ _ _ _ _ _ e2, c⟩
theorem ik_pb0 : iq_pb sf_P0 := by unfold iq_pb; decide +kernel
theorem ik_tf0 : ∀ t : Nat, t < 64 → iq_tb 2773 (t : Int) = iq_f sf_P0 (t : Int) := by decide +kernel
theorem ik_tf (t : Int) : iq_tb 2773 t = iq_f sf_P0 t := by
  by_cases h : 0 ≤ t ∧ t < 64
  · have e : t = ((t.toNat : Nat) : Int) := by omega
    rw [e]
    exact ik_tf0 _ (by omega)
  · have p1 : sf_P0 1 = 12 := by decide +kernel
    have a : iq_f sf_P0 t = false := by
      rcases hb : iq_f sf_P0 t with _ | _
      · rfl
      · have := iq_fR ik_pb0 hb
        omega
    rw [a]
    by_cases h0 : t < 0
    · exact iq_tb_neg h0
    · exact iq_tb_ge (by omega)
theorem ik_inv {f : Nat → Nat → Int32} {w : Nat → Nat → Int64} {g : iq_I} {l : iq_J} (c : ik_ok (ij_SH, f, w, ij_HR) = true) (G : ∀ (j : Nat) (k : Int), g j k = (f j k.toNat).toInt) (W : ∀ (j : Nat) (k : Int), l j k = w j k.toNat) : sf_INV g l := by
  unfold ik_ok at c
  simp only [Bool.and_eq_true] at c
  obtain ⟨-, c24, c78, ci, cl, c7, c8, -⟩ := c
  have i24 : ∀ k : Nat, k < 9 → f 24 k = ik_w k := fun k hk => of_decide_eq_true (List.all_eq_true.mp c24 k (List.mem_range.mpr hk))
  have i78 : ∀ k : Nat, k < 92 → f 78 k = ik_78 k := fun k hk => of_decide_eq_true (List.all_eq_true.mp c78 k (List.mem_range.mpr hk))
  have ii : ∀ t ∈ ik_is, f t.1 t.2.1 = t.2.2 := fun t ht => of_decide_eq_true (List.all_eq_true.mp ci t ht)
  have il : ∀ t ∈ ik_ls, w t.1 t.2.1 = t.2.2 := fun t ht => of_decide_eq_true (List.all_eq_true.mp cl t ht)
  have v23_2 : g 23 2 = 0 := by
    rw [G, show f 23 (2 : Int).toNat = 0 from ii (23, 2, 0) (List.mem_of_getElem? (i := 0) rfl)]; decide
  have v26_5 : g 26 5 = 0 := by
    rw [G, show f 26 (5 : Int).toNat = 0 from ii (26, 5, 0) (List.mem_of_getElem? (i := 1) rfl)]; decide
  have v0_18 : g 0 18 = 0 := by
    rw [G, show f 0 (18 : Int).toNat = 0 from ii (0, 18, 0) (List.mem_of_getElem? (i := 2) rfl)]; decide
  have v77_55 : g 77 55 = 0 := by
    rw [G, show f 77 (55 : Int).toNat = 0 from ii (77, 55, 0) (List.mem_of_getElem? (i := 3) rfl)]; decide
  have v2_1 : g 2 1 = 0 := by
    rw [G, show f 2 (1 : Int).toNat = 0 from ii (2, 1, 0) (List.mem_of_getElem? (i := 4) rfl)]; decide
  have v4_1 : g 4 1 = 0 := by
    rw [G, show f 4 (1 : Int).toNat = 0 from ii (4, 1, 0) (List.mem_of_getElem? (i := 5) rfl)]; decide
  have v6_1 : g 6 1 = 0 := by
    rw [G, show f 6 (1 : Int).toNat = 0 from ii (6, 1, 0) (List.mem_of_getElem? (i := 6) rfl)]; decide
  have v8_1 : g 8 1 = 0 := by
    rw [G, show f 8 (1 : Int).toNat = 0 from ii (8, 1, 0) (List.mem_of_getElem? (i := 7) rfl)]; decide
  have v2_2 : g 2 2 = -1 := by
    rw [G, show f 2 (2 : Int).toNat = -1 from ii (2, 2, -1) (List.mem_of_getElem? (i := 8) rfl)]; decide
  have v4_2 : g 4 2 = -1 := by
    rw [G, show f 4 (2 : Int).toNat = -1 from ii (4, 2, -1) (List.mem_of_getElem? (i := 9) rfl)]; decide
  have v6_2 : g 6 2 = -1 := by
    rw [G, show f 6 (2 : Int).toNat = -1 from ii (6, 2, -1) (List.mem_of_getElem? (i := 10) rfl)]; decide
  have v8_2 : g 8 2 = -1 := by
    rw [G, show f 8 (2 : Int).toNat = -1 from ii (8, 2, -1) (List.mem_of_getElem? (i := 11) rfl)]; decide
  have v79_0 : g 79 0 = 0 := by
    rw [G, show f 79 (0 : Int).toNat = 0 from ii (79, 0, 0) (List.mem_of_getElem? (i := 12) rfl)]; decide
  have v79_1 : g 79 1 = 0 := by
    rw [G, show f 79 (1 : Int).toNat = 0 from ii (79, 1, 0) (List.mem_of_getElem? (i := 13) rfl)]; decide
  have v79_2 : g 79 2 = 0 := by
    rw [G, show f 79 (2 : Int).toNat = 0 from ii (79, 2, 0) (List.mem_of_getElem? (i := 14) rfl)]; decide
  have v79_3 : g 79 3 = 0 := by
    rw [G, show f 79 (3 : Int).toNat = 0 from ii (79, 3, 0) (List.mem_of_getElem? (i := 15) rfl)]; decide
  have v80_0 : g 80 0 = -1 := by
    rw [G, show f 80 (0 : Int).toNat = -1 from ii (80, 0, -1) (List.mem_of_getElem? (i := 16) rfl)]; decide
  have v80_1 : g 80 1 = -1 := by
    rw [G, show f 80 (1 : Int).toNat = -1 from ii (80, 1, -1) (List.mem_of_getElem? (i := 17) rfl)]; decide
  have v80_2 : g 80 2 = -1 := by
    rw [G, show f 80 (2 : Int).toNat = -1 from ii (80, 2, -1) (List.mem_of_getElem? (i := 18) rfl)]; decide
  have v80_3 : g 80 3 = -1 := by
    rw [G, show f 80 (3 : Int).toNat = -1 from ii (80, 3, -1) (List.mem_of_getElem? (i := 19) rfl)]; decide
  have v10_1 : g 10 1 = 0 := by
    rw [G, show f 10 (1 : Int).toNat = 0 from ii (10, 1, 0) (List.mem_of_getElem? (i := 20) rfl)]; decide
  have v77_9 : g 77 9 = 0 := by
    rw [G, show f 77 (9 : Int).toNat = 0 from ii (77, 9, 0) (List.mem_of_getElem? (i := 21) rfl)]; decide
  have v40_8 : g 40 8 = 0 := by
    rw [G, show f 40 (8 : Int).toNat = 0 from ii (40, 8, 0) (List.mem_of_getElem? (i := 22) rfl)]; decide
  have v77_54 : g 77 54 = 0 := by
    rw [G, show f 77 (54 : Int).toNat = 0 from ii (77, 54, 0) (List.mem_of_getElem? (i := 23) rfl)]; decide
  have v40_13 : g 40 13 = 0 := by
    rw [G, show f 40 (13 : Int).toNat = 0 from ii (40, 13, 0) (List.mem_of_getElem? (i := 24) rfl)]; decide
  have v0_0 : g 0 0 = 0 := by
    rw [G, show f 0 (0 : Int).toNat = 0 from ii (0, 0, 0) (List.mem_of_getElem? (i := 25) rfl)]; decide
  have v77_1 : g 77 1 = 0 := by
    rw [G, show f 77 (1 : Int).toNat = 0 from ii (77, 1, 0) (List.mem_of_getElem? (i := 26) rfl)]; decide
  have w23_3 : l 23 3 = 0 := by
    rw [W]; exact il (23, 3, 0) (List.mem_of_getElem? (i := 0) rfl)
  have w23_4 : l 23 4 = 2773 := by
    rw [W]; exact il (23, 4, 2773) (List.mem_of_getElem? (i := 1) rfl)
  have w0_1 : l 0 1 = 0 := by
    rw [W]; exact il (0, 1, 0) (List.mem_of_getElem? (i := 2) rfl)
  have w77_2 : l 77 2 = 0 := by
    rw [W]; exact il (77, 2, 0) (List.mem_of_getElem? (i := 3) rfl)
  have w0_2 : l 0 2 = 1 := by
    rw [W]; exact il (0, 2, 1) (List.mem_of_getElem? (i := 4) rfl)
  have w77_3 : l 77 3 = 1 := by
    rw [W]; exact il (77, 3, 1) (List.mem_of_getElem? (i := 5) rfl)
  have v7 : g 10 7 = g 77 15 := by rw [G, G]; exact congrArg Int32.toInt (of_decide_eq_true c7)
  have v8 : g 10 8 = g 77 16 := by rw [G, G]; exact congrArg Int32.toInt (of_decide_eq_true c8)
  have z24 : ∀ k : Int, 0 ≤ k → k < 9 → g 24 k = sf_P0 k := fun k a b => by rw [G, i24 k.toNat (by omega)]; rfl
  have z78 : ∀ k : Int, 0 ≤ k → k < 9 → g 78 k = sf_P0 k := fun k a b => by
    rw [G, i78 k.toNat (by omega)]
    unfold ik_78
    rw [if_pos (by omega)]; rfl
  have y78 : ∀ k : Int, 9 ≤ k → k < 92 → ¬ k = 10 → g 78 k = 0 := fun k a b d => by
    rw [G, i78 k.toNat (by omega)]
    unfold ik_78
    rw [if_neg (by omega), if_neg (by omega)]; decide
  have x78 : g 78 10 = -1 := by
    rw [G, i78 (10 : Int).toNat (by decide)]; decide
  refine ⟨.of ?_ ?_ ?_ ?_ ?_ ⟨v7, v8⟩ ?_, by rw [v0_0, v77_1], by rw [w0_1, w77_2], by rw [w0_2, w77_3]⟩
  · refine ⟨?_, fun k a b => ?_, fun t => ?_, fun t ht => ?_, fun t a b => ?_, ⟨by omega, by omega, ?_⟩, fun k a b => by omega⟩
    · have p := ik_pb0
      unfold iq_pb at p ⊢
      rw [z24 0 (by omega) (by omega), z24 1 (by omega) (by omega), z24 2 (by omega) (by omega), z24 3 (by omega) (by omega), z24 4 (by omega) (by omega), z24 5 (by omega) (by omega), z24 6 (by omega) (by omega), z24 7 (by omega) (by omega), z24 8 (by omega) (by omega)]
      exact p
    · rw [Int.zero_add, z78 k a b, z24 k a b]
    · rw [w23_4, iq_f_congr z24]; exact ik_tf t
    · rw [w23_3, iq_tb_0] at ht; cases ht
    · rw [w23_3, iq_tb_0, y78 _ (by omega) (by omega) (by omega)]; rfl
    · rw [v23_2]; exact y78 9 (by omega) (by omega) (by omega)
  · exact ⟨.inl v26_5, ⟨fun _ => x78, fun _ => v26_5⟩, fun z => by omega⟩
  · exact ⟨⟨by rw [v0_18, v77_55], by omega, by omega⟩, fun k hk => by omega⟩
  · intro t ht
    have t4 : t = 0 ∨ t = 1 ∨ t = 2 ∨ t = 3 := by omega
    rcases t4 with rfl | rfl | rfl | rfl
    · have a1 : g 79 ((0 : Nat) : Int) = 0 := v79_0
      have a2 : g 80 ((0 : Nat) : Int) = -1 := v80_0
      have a3 : g (2 + 2 * 0) 1 = 0 := v2_1
      have a4 : g (2 + 2 * 0) 2 = -1 := v2_2
      exact ⟨by rw [a1, a3], by rw [a2, a4], by omega, by omega, fun k x y => by omega⟩
    · have a1 : g 79 ((1 : Nat) : Int) = 0 := v79_1
      have a2 : g 80 ((1 : Nat) : Int) = -1 := v80_1
      have a3 : g (2 + 2 * 1) 1 = 0 := v4_1
      have a4 : g (2 + 2 * 1) 2 = -1 := v4_2
      exact ⟨by rw [a1, a3], by rw [a2, a4], by omega, by omega, fun k x y => by omega⟩
    · have a1 : g 79 ((2 : Nat) : Int) = 0 := v79_2
      have a2 : g 80 ((2 : Nat) : Int) = -1 := v80_2
      have a3 : g (2 + 2 * 2) 1 = 0 := v6_1
      have a4 : g (2 + 2 * 2) 2 = -1 := v6_2
      exact ⟨by rw [a1, a3], by rw [a2, a4], by omega, by omega, fun k x y => by omega⟩
    · have a1 : g 79 ((3 : Nat) : Int) = 0 := v79_3
      have a2 : g 80 ((3 : Nat) : Int) = -1 := v80_3
      have a3 : g (2 + 2 * 3) 1 = 0 := v8_1
      have a4 : g (2 + 2 * 3) 2 = -1 := v8_2
      exact ⟨by rw [a1, a3], by rw [a2, a4], by omega, by omega, fun k x y => by omega⟩
  · exact ⟨by rw [v10_1, v77_9], by omega, fun k x y => by omega⟩
  · exact ⟨⟨by omega, by omega⟩, by omega, fun _ => v40_13, fun z => absurd v77_54 z⟩
theorem ik_hp {f : Nat → Nat → Int32} {w : Nat → Nat → Int64} : iq_hp (fun j k => (f j k.toNat).toInt) (fun j k => w j k.toNat) = (ij_SH, f, w, ij_HR) := by
  have e1 : iq_up (fun j k => (f j k.toNat).toInt) = f := by
    funext j k
    show Int32.ofInt (f j ((k : Int).toNat)).toInt = f j k
    rw [Int32.ofInt_toInt]; rfl
  have e2 : iq_uq (fun j k => w j k.toNat) = w := by
    funext j k
    rfl
  unfold iq_hp
  rw [e1, e2]
theorem ik_shl : ij_SH.length ≤ 600000 := by decide +kernel
theorem ik_shs : (ij_SH.map Prod.snd).sum ≤ 7302250 := by decide +kernel
theorem ij_goal : ij_Goal := by
  intro L xs hL
  obtain ⟨f1, w1, r1, f2, w2, e1, e2, ok⟩ := ik_two L xs
  have R : ij_R (ij_xt L xs) 361 0 [some (.ref 1000000), none, none, none] [] ij_h0 (fun r h => ∃ r' g' l', r = Option.map iq_lv r' ∧ h = iq_hp g' l' ∧ r' = some (iq_i 1)) := by
    refine ij_go 2 4 [some (.ref 1000000), none, none, none] [.ref 0, .ref 0] (ij_new ij_h0 10 19) (fun n => rfl) ?_
    refine ij_call 1 18 [some (.ref 0), none] [.ref 0] 7 [some (.ref 1000000), none, none, none] (ij_new ij_h0 10 19) (fun n => rfl) ⟨2000, none, _, e1, ?_⟩
    refine ij_go 3 12 [some (.ref 1000000), some (.ref 0), none, none] [.ref 77, .ref 77] (ij_new (ij_SH.take 77, f1, w1, r1) 11 56) (fun n => rfl) ?_
    refine ij_call 1 20 [some (.ref 77)] [.ref 77] 15 [some (.ref 1000000), some (.ref 0), none, none] (ij_new (ij_SH.take 77, f1, w1, r1) 11 56) (fun n => rfl) ⟨8000, none, _, e2, ?_⟩
    refine ij_go 3 18 [some (.ref 1000000), some (.ref 0), some (.ref 77), some (.int 0)] [] (ij_SH, f2, w2, ij_HR) (fun n => rfl) ?_
    have lp := sf_loop (N := L) (xs := xs) (by omega) L 0 _ _ (by omega) (by omega) (by omega) (ik_inv ok (fun _ _ => rfl) (fun _ _ => rfl))
    unfold iq_P at lp
    rw [ik_hp] at lp
    exact lp
  obtain ⟨n, r, h', e, r', g', l', x1, x2, x3⟩ := R
  subst x3
  subst x2
  subst x1
  exact ⟨n, _, e, ik_shl, ik_shs⟩
