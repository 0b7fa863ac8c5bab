theorem iq_b2 {x y : Nat} (h : Nat.blt x y = true) : x < y := by simpa using h
theorem iq_b2f {x y : Nat} (h : Nat.blt x y = false) : ¬ x < y := by
  intro h1
  have : Nat.blt x y = true := by simpa using h1
  rw [this] at h; cases h
theorem iq_hR_ok {N : Nat} {xs : Nat → Int32} {i : Instr} {a b : Nat} {st : List iq_V} {g : iq_I} {l : iq_J} {K : List iq_V → Prop} (h : iq_hR N xs i a b st g l K) : ∃ q, K q ∧ ij_hR ij_tt (ij_xt N xs) i a b (st.map iq_lv) (iq_hp g l) = some (q.map iq_lv) := by
  unfold iq_hR at h
  split at h
  · -- getfield
    split at h
    · next j r =>
      rcases iq_bif h with ⟨hj, h⟩ | ⟨hj, h⟩
      · have hj := iq_b2 hj
        split at h
        · next kd n hs =>
          obtain ⟨h1, h2⟩ := iq_bf h
          simp only [Bool.and_eq_true, Nat.blt_eq, Nat.beq_eq] at h1
          obtain ⟨⟨h3, h4⟩, h5⟩ := h1
          split at h2
          · next ht =>
            refine ⟨_, h2, ?_⟩
            unfold ij_hR
            dsimp only [List.map, iq_lv, iq_hp]
            rw [if_pos hj, hs]
            try dsimp only
            rw [if_pos ⟨h3, h4, h5⟩, ht]; rfl
          · next ht =>
            unfold iq_rf at h2
            split at h2
            · next ho =>
              refine ⟨_, h2, ?_⟩
              unfold ij_hR
              dsimp only [List.map, iq_lv, iq_hp]
              rw [if_pos hj, hs]
              try dsimp only
              rw [if_pos ⟨h3, h4, h5⟩, ht]
              unfold ij_fv
              try dsimp only
              rw [ho]; rfl
            · next x ho =>
              obtain ⟨h6, h7⟩ := iq_bf h2
              refine ⟨_, h7, ?_⟩
              unfold ij_hR
              dsimp only [List.map, iq_lv, iq_hp]
              rw [if_pos hj, hs]
              try dsimp only
              rw [if_pos ⟨h3, h4, h5⟩, ht]
              unfold ij_fv
              try dsimp only
              rw [ho]
              unfold ij_rv
              try dsimp only
              rw [if_pos (iq_b2 h6)]; rfl
          · next hn1 hn2 =>
            refine ⟨_, h2, ?_⟩
            unfold ij_hR
            dsimp only [List.map, iq_lv, iq_hp]
            rw [if_pos hj, hs]
            try dsimp only
            rw [if_pos ⟨h3, h4, h5⟩]
            have hfv : ij_fv (ij_tt a b) (iq_up g, iq_uq l, ij_HR) j b = some (.int (iq_up g j b)) := by
              unfold ij_fv
              split
              · next h => exact (hn1 h).elim
              · next h => exact (hn2 h).elim
              · rfl
            rw [hfv]; rfl
        · exact h.elim
      · have hj := iq_b2f hj
        obtain ⟨h1, h2⟩ := iq_bf h
        simp only [Bool.and_eq_true, Nat.blt_eq, Nat.ble_eq, Nat.beq_eq] at h1
        have hc : 1000010 ≤ j ∧ j < 1000034 ∧ a = 114 := ⟨h1.1.1, h1.1.2, h1.2⟩
        split at h2
        · refine ⟨_, h2, ?_⟩
          unfold ij_hR
          dsimp only [List.map, iq_lv, iq_hp]
          rw [if_neg hj, if_pos hc]; rfl
        · refine ⟨_, h2, ?_⟩
          unfold ij_hR
          dsimp only [List.map, iq_lv, iq_hp]
          rw [if_neg hj, if_pos hc]; rfl
        · exact h2.elim
    · exact h.elim
  · -- iaload
    split at h
    · next i j r =>
      rcases iq_bif h with ⟨hj, h⟩ | ⟨hj, h⟩
      · have hj := iq_b2 hj
        split at h
        · next n hs =>
          obtain ⟨h1, h2, h3, h4, h5⟩ := iq_ix_ok (iq_sh hs) h
          refine ⟨_, h5, ?_⟩
          unfold ij_hR
          dsimp only [List.map, iq_lv, iq_hp]
          rw [if_pos hj, hs]
          refine (if_neg h3).trans ?_
          rw [h4, iq_gz h1]; rfl
        · exact h.elim
      · have hj := iq_b2f hj
        split at h
        · next n f hs =>
          obtain ⟨⟨h1, h2, h3⟩, h4⟩ := h
          refine ⟨_, h4, ?_⟩
          unfold ij_hR
          dsimp only [List.map, iq_lv, iq_hp]
          rw [if_neg hj, hs]
          refine (if_neg (iq_in h1 h2 (by omega))).trans ?_
          rw [iq_nat h1 (by omega)]
          show _ = some (Value.int (Int32.ofInt (f (iq_iv i).toNat).toInt) :: _)
          rw [iq_tof]
        · exact h.elim
    · exact h.elim
  · -- baload
    split at h
    · next i j r =>
      rcases iq_bif h with ⟨hj, h⟩ | ⟨hj, h⟩
      · have hj := iq_b2 hj
        split at h
        · next n hs =>
          obtain ⟨h1, h2, h3, h4, h5⟩ := iq_ix_ok (iq_sh hs) h
          refine ⟨_, h5, ?_⟩
          unfold ij_hR
          dsimp only [List.map, iq_lv, iq_hp]
          rw [if_pos hj, hs]
          refine (if_neg h3).trans ?_
          rw [h4, iq_gz h1]; rfl
        · next n hs =>
          obtain ⟨h1, h2, h3, h4, h5⟩ := iq_ix_ok (iq_sh hs) h
          refine ⟨_, h5, ?_⟩
          unfold ij_hR
          dsimp only [List.map, iq_lv, iq_hp]
          rw [if_pos hj, hs]
          refine (if_neg h3).trans ?_
          rw [h4, iq_gz h1]; rfl
        · exact h.elim
      · have hj := iq_b2f hj
        split at h
        · next n f hs =>
          obtain ⟨⟨h1, h2, h3⟩, h4⟩ := h
          refine ⟨_, h4, ?_⟩
          unfold ij_hR
          dsimp only [List.map, iq_lv, iq_hp]
          rw [if_neg hj, hs]
          refine (if_neg (iq_in h1 h2 (by omega))).trans ?_
          rw [iq_nat h1 (by omega)]
          show _ = some (Value.int (Int32.ofInt (f (iq_iv i).toNat).toInt) :: _)
          rw [iq_tof]
        · exact h.elim
    · exact h.elim
  · -- laload
    split at h
    · next i j r =>
      obtain ⟨hj, h⟩ := iq_bf h
      have hj := iq_b2 hj
      split at h
      · next n hs =>
        obtain ⟨h1, h2, h3, h4, h5⟩ := iq_ix_ok (iq_sh hs) h
        refine ⟨_, h5, ?_⟩
        unfold ij_hR
        dsimp only [List.map, iq_lv, iq_hp]
        rw [if_pos hj, hs]
        refine (if_neg h3).trans ?_
        rw [h4, iq_lz h1]
      · exact h.elim
    · exact h.elim
  · -- aaload
    split at h
    · next i j r =>
      obtain ⟨hj, h⟩ := iq_bf h
      have hj := iq_b2 hj
      split at h
      · next kd n hs =>
        obtain ⟨ha, h⟩ := iq_bf h
        simp only [Bool.and_eq_true, Nat.ble_eq] at ha
        obtain ⟨h1, h2, h3, h4, h5⟩ := iq_ix_ok (iq_sh hs) h
        have hc : ¬ (kd < 104 ∨ 106 < kd ∨ Int32.ofInt (iq_iv i) < 0 ∨ n ≤ (Int32.ofInt (iq_iv i)).toNatClampNeg) := by
          rintro (q | q | q)
          · omega
          · omega
          · exact h3 q
        unfold iq_rf at h5
        split at h5
        · next ho =>
          refine ⟨_, h5, ?_⟩
          unfold ij_hR
          dsimp only [List.map, iq_lv, iq_hp]
          rw [if_pos hj, hs]
          try dsimp only
          rw [if_neg hc, h4, ho]; rfl
        · next v ho =>
          obtain ⟨h6, h7⟩ := iq_bf h5
          refine ⟨_, h7, ?_⟩
          unfold ij_hR
          dsimp only [List.map, iq_lv, iq_hp]
          rw [if_pos hj, hs]
          try dsimp only
          rw [if_neg hc, h4, ho]
          unfold ij_rv
          try dsimp only
          rw [if_pos (iq_b2 h6)]; rfl
      · exact h.elim
    · exact h.elim
  · -- arraylength
    split at h
    · next j r =>
      rcases iq_bif h with ⟨hj, h⟩ | ⟨hj, h⟩
      · have hj := iq_b2 hj
        split at h
        · next kd n hs =>
          obtain ⟨ha, h⟩ := iq_bf h
          simp only [Bool.and_eq_true, Nat.ble_eq] at ha
          refine ⟨_, h, ?_⟩
          unfold ij_hR
          dsimp only [List.map, iq_lv, iq_hp]
          rw [if_pos hj, hs]
          try dsimp only
          have hc : ¬ (kd < 100 ∨ 106 < kd) := by omega
          rw [if_neg hc]
          show _ = some (Value.int (Int32.ofInt (n : Int)) :: _)
          rw [Int32.ofInt_eq_ofNat]
        · exact h.elim
      · have hj := iq_b2f hj
        split at h
        · next n f hs =>
          refine ⟨_, h, ?_⟩
          unfold ij_hR
          dsimp only [List.map, iq_lv, iq_hp]
          rw [if_neg hj, hs]
          show some (Value.int (Int32.ofNat n) :: _) = some (Value.int (Int32.ofInt (n : Int)) :: _)
          rw [Int32.ofInt_eq_ofNat]
        · exact h.elim
    · exact h.elim
  · -- getstatic
    split at h
    · exact ⟨_, h, rfl⟩
    · exact ⟨_, h, rfl⟩
    · exact ⟨_, h, rfl⟩
    · exact ⟨_, h, rfl⟩
    · exact ⟨_, h, rfl⟩
    · exact h.elim
  · -- ldc
    split at h
    · refine ⟨_, h, ?_⟩
      show some (Value.int (Int32.ofNat b) :: _) = some (Value.int (Int32.ofInt (b : Int)) :: _)
      rw [Int32.ofInt_eq_ofNat]
    · obtain ⟨h1, h2⟩ := iq_bf h
      refine ⟨_, h2, ?_⟩
      show (if b < 24 then some (Value.ref (1000010 + b) :: _) else none) = _
      rw [if_pos (iq_b2 h1)]; rfl
    · exact h.elim
  · split at h
    · refine ⟨_, h, ?_⟩
      show some (Value.int (Int32.ofNat b) :: _) = some (Value.int (Int32.ofInt (b : Int)) :: _)
      rw [Int32.ofInt_eq_ofNat]
    · exact h.elim
  · exact ⟨_, h, rfl⟩
  · exact h.elim
theorem iq_bl_ok {x : Int ⊕ Int} {K : Int → Prop} (h : iq_bl x K) : (iq_iv x = 0 ∨ iq_iv x = 1) ∧ K (iq_iv x) := by
  unfold iq_bl at h
  rcases x with m | m
  · obtain ⟨h1, h2⟩ := iq_bf h
    simp only [Bool.or_eq_true, decide_eq_true_eq] at h1
    exact ⟨h1, h2⟩
  · exact h
theorem iq_bl32 {z : Int} (h : z = 0 ∨ z = 1) : Int32.ofInt z = 0 ∨ Int32.ofInt z = 1 := by
  rcases h with rfl | rfl
  · exact .inl rfl
  · exact .inr rfl
theorem iq_bn (z : Int) (h : z = 0 ∨ z = 1) : vp_nar .boolean (Int32.ofInt z) = Int32.ofInt z := by
  rcases h with rfl | rfl <;> rfl
theorem iq_bb (z : Int) : vp_nar .byte (Int32.ofInt z) = Int32.ofInt (iq_i2b z) := by
  unfold iq_i2b
  rw [iq_tof]; rfl
theorem iq_hW_ok {N : Nat} {xs : Nat → Int32} {i : Instr} {a b : Nat} {st : List iq_V} {g : iq_I} {l : iq_J} {K : List iq_V → iq_I → iq_J → Prop} (h : iq_hW N xs i a b st g l K) : ∃ q g' l', K q g' l' ∧ ij_hW ij_tt (ij_xt N xs) i a b (st.map iq_lv) (iq_hp g l) = some (q.map iq_lv, iq_hp g' l') := by
  unfold iq_hW at h
  split at h
  · -- putfield
    split at h
    · next v j r =>
      obtain ⟨hj, h⟩ := iq_bf h
      have hj := iq_b2 hj
      split at h
      · next kd n hs =>
        obtain ⟨h1, h2⟩ := iq_bf h
        simp only [Bool.and_eq_true, Nat.blt_eq, Nat.beq_eq] at h1
        obtain ⟨⟨h3, h4⟩, h5⟩ := h1
        split at h2
        · next x ht hh =>
          refine ⟨_, _, _, h2, ?_⟩
          unfold ij_hW
          dsimp only [List.map, iq_lv, iq_hp]
          rw [if_pos hj, hs]
          try dsimp only
          rw [if_pos ⟨h3, h4, h5⟩, ht]
          have := iq_upu (g := g) (j := j) (i := (b : Int)) (v := iq_iv x) (by omega)
          rw [← this]; rfl
        · next x ht hh =>
          refine ⟨_, _, _, h2, ?_⟩
          unfold ij_hW
          dsimp only [List.map, iq_lv, iq_hp]
          rw [if_pos hj, hs]
          try dsimp only
          rw [if_pos ⟨h3, h4, h5⟩, ht]
          have := iq_uqu (g := l) (j := j) (i := (b : Int)) (v := x) (by omega)
          rw [← this]; rfl
        · next x ht hh =>
          obtain ⟨h6, h7⟩ := iq_bl_ok h2
          refine ⟨_, _, _, h7, ?_⟩
          unfold ij_hW
          dsimp only [List.map, iq_lv, iq_hp]
          rw [if_pos hj, hs]
          try dsimp only
          rw [if_pos ⟨h3, h4, h5⟩, ht]
          show Option.map _ (if Int32.ofInt (iq_iv x) = 0 ∨ Int32.ofInt (iq_iv x) = 1 then some (ij_ui (iq_up g) j b (Int32.ofInt (iq_iv x)), iq_uq l, ij_HR) else none) = _
          rw [if_pos (iq_bl32 h6)]
          have := iq_upu (g := g) (j := j) (i := (b : Int)) (v := iq_iv x) (by omega)
          rw [← this]; rfl
        · exact h2.elim
      · exact h.elim
    · exact h.elim
  · -- iastore
    split at h
    · next x i j r =>
      obtain ⟨hj, h⟩ := iq_bf h
      have hj := iq_b2 hj
      split at h
      · next n hs =>
        obtain ⟨h1, h2, h3, h4, h5⟩ := iq_ix_ok (iq_sh hs) h
        refine ⟨_, _, _, h5, ?_⟩
        unfold ij_hW
        dsimp only [List.map, iq_lv, iq_hp]
        rw [if_pos hj, hs]
        refine (if_neg h3).trans ?_
        rw [h4, iq_upu h1]
      · exact h.elim
    · exact h.elim
  · -- bastore
    split at h
    · next x i j r =>
      obtain ⟨hj, h⟩ := iq_bf h
      have hj := iq_b2 hj
      split at h
      · next n hs =>
        obtain ⟨h1, h2, h3, h4, h5⟩ := iq_ix_ok (iq_sh hs) h
        refine ⟨_, _, _, h5, ?_⟩
        unfold ij_hW
        dsimp only [List.map, iq_lv, iq_hp]
        rw [if_pos hj, hs]
        refine (if_neg h3).trans ?_
        rw [h4, iq_bb, iq_upu h1]
      · next n hs =>
        obtain ⟨h1, h2, h3, h4, h5⟩ := iq_ix_ok (iq_sh hs) h
        obtain ⟨h6, h7⟩ := iq_bl_ok h5
        refine ⟨_, _, _, h7, ?_⟩
        unfold ij_hW
        dsimp only [List.map, iq_lv, iq_hp]
        rw [if_pos hj, hs]
        refine (if_neg h3).trans ?_
        rw [h4, iq_bn _ h6, iq_upu h1]
      · exact h.elim
    · exact h.elim
  · -- lastore
    split at h
    · next x i j r =>
      obtain ⟨hj, h⟩ := iq_bf h
      have hj := iq_b2 hj
      split at h
      · next n hs =>
        obtain ⟨h1, h2, h3, h4, h5⟩ := iq_ix_ok (iq_sh hs) h
        refine ⟨_, _, _, h5, ?_⟩
        unfold ij_hW
        dsimp only [List.map, iq_lv, iq_hp]
        rw [if_pos hj, hs]
        refine (if_neg h3).trans ?_
        rw [h4, iq_uqu h1]
      · exact h.elim
    · exact h.elim
  · exact h.elim
theorem iq_cat (v : iq_V) : (iq_lv v).category = iq_ct v := by
  rcases v with x | (x | (_ | x)) <;> rfl
theorem iq_cats (r : List iq_V) : ((r.map iq_lv).map fun v => v.category) = r.map iq_ct := by
  rw [List.map_map]
  exact List.map_congr_left (fun v _ => iq_cat v)
theorem iq_cpu {α : Type} {f g : Int → α} {f' g' : Nat → α} {sp dp n : Int} (h1 : 0 ≤ sp) (h2 : 0 ≤ dp) (h3 : 0 ≤ n) (e1 : ∀ k : Nat, f' k = f k) (e2 : ∀ k : Nat, g' k = g k) : va_cpy f' g' sp.toNat dp.toNat n.toNat = fun k : Nat => iq_cz f g sp dp n k := by
  funext k
  unfold va_cpy iq_cz
  by_cases hc : dp.toNat ≤ k ∧ k < dp.toNat + n.toNat
  · have hd : dp ≤ (k : Int) ∧ (k : Int) < dp + n := by omega
    rw [if_pos hc, if_pos hd, e1]
    congr 1
    omega
  · have hd : ¬ (dp ≤ (k : Int) ∧ (k : Int) < dp + n) := by omega
    rw [if_neg hc, if_neg hd, e2]
theorem iq_rowI {g : iq_I} {d : Nat} {f : Int → Int} {r : Nat → Int32} (h : ∀ k : Nat, r k = Int32.ofInt (f k)) : ij_row (iq_up g) d r = iq_up (iq_rz g d f) := by
  funext a b
  unfold ij_row iq_up iq_rz
  by_cases hc : a = d
  · simp [hc, h]
  · simp [hc]
theorem iq_rowL {l : iq_J} {d : Nat} {f : Int → Int64} {r : Nat → Int64} (h : ∀ k : Nat, r k = f k) : ij_row (iq_uq l) d r = iq_uq (iq_rz l d f) := by
  funext a b
  unfold ij_row iq_uq iq_rz
  by_cases hc : a = d
  · simp [hc, h]
  · simp [hc]
theorem iq_czf {f g : Int → Int} {sp dp n : Int} (k : Int) : Int32.ofInt (iq_cz f g sp dp n k) = iq_cz (fun k => Int32.ofInt (f k)) (fun k => Int32.ofInt (g k)) sp dp n k := by
  unfold iq_cz
  split <;> rfl
