theorem iq_ac_ok {N : Nat} {xs : Nat → Int32} {k b : Nat} {st : List iq_V} {g : iq_I} {l : iq_J} {K : List iq_V → iq_I → iq_J → Prop} (h : iq_ac N xs st g l K) : ∃ q g' l', K q g' l' ∧ ij_hW ij_tt (ij_xt N xs) (.invokestatic k) 999998 b (st.map iq_lv) (iq_hp g l) = some (q.map iq_lv, iq_hp g' l') := by
  unfold iq_ac at h
  split at h
  · next n dp d sp s r =>
    obtain ⟨h0, h⟩ := iq_bf h
    simp only [Bool.and_eq_true, Nat.blt_eq, Nat.ble_eq] at h0
    have hcat : ((r.map iq_lv).map fun v => v.category).sum ≤ 8 := by rw [iq_cats]; exact h0.2
    split at h
    · next n1 hd =>
      have hn1 := iq_sh hd
      rcases iq_bif h with ⟨hs, h⟩ | ⟨hs, h⟩
      · have hs := iq_b2 hs
        split at h
        · next n0 hs0 =>
          obtain ⟨⟨h1, h2, h3, h4, h5⟩, h6⟩ := h
          have hn0 := iq_sh hs0
          refine ⟨_, _, _, h6, ?_⟩
          unfold ij_hW
          dsimp only [List.map, iq_lv, iq_hp]
          have hg : d < 1000000 ∧ ¬ Int32.ofInt (iq_iv sp) < 0 ∧ ¬ Int32.ofInt (iq_iv dp) < 0 ∧ ¬ Int32.ofInt (iq_iv n) < 0 ∧ ((r.map iq_lv).map fun v => v.category).sum ≤ 8 := ⟨h0.1, iq_ge0 h1 (by omega), iq_ge0 h2 (by omega), iq_ge0 h3 (by omega), hcat⟩
          refine (if_pos hg).trans ?_
          rw [hd]
          refine (if_neg (show ¬ n1 < (Int32.ofInt (iq_iv dp)).toNatClampNeg + (Int32.ofInt (iq_iv n)).toNatClampNeg by rw [iq_nat h2 (by omega), iq_nat h3 (by omega)]; omega)).trans ?_
          refine (if_pos hs).trans ?_
          rw [hs0]
          refine (if_neg (show ¬ n0 < (Int32.ofInt (iq_iv sp)).toNatClampNeg + (Int32.ofInt (iq_iv n)).toNatClampNeg by rw [iq_nat h1 (by omega), iq_nat h3 (by omega)]; omega)).trans ?_
          rw [iq_nat h1 (by omega), iq_nat h2 (by omega), iq_nat h3 (by omega)]
          rw [iq_rowI (f := iq_cz (g s) (g d) (iq_iv sp) (iq_iv dp) (iq_iv n))]
          intro q
          rw [iq_czf]
          exact congrFun (iq_cpu (f := fun k => Int32.ofInt (g s k)) (g := fun k => Int32.ofInt (g d k)) (f' := iq_up g s) (g' := iq_up g d) h1 h2 h3 (fun _ => rfl) (fun _ => rfl)) q
        · exact h.elim
      · have hs := iq_b2f hs
        split at h
        · next n0 f hs0 =>
          obtain ⟨⟨h1, h2, h3, h4, h5, h5'⟩, h6⟩ := h
          refine ⟨_, _, _, h6, ?_⟩
          unfold ij_hW
          dsimp only [List.map, iq_lv, iq_hp]
          have hg : d < 1000000 ∧ ¬ Int32.ofInt (iq_iv sp) < 0 ∧ ¬ Int32.ofInt (iq_iv dp) < 0 ∧ ¬ Int32.ofInt (iq_iv n) < 0 ∧ ((r.map iq_lv).map fun v => v.category).sum ≤ 8 := ⟨h0.1, iq_ge0 h1 (by omega), iq_ge0 h2 (by omega), iq_ge0 h3 (by omega), hcat⟩
          refine (if_pos hg).trans ?_
          rw [hd]
          refine (if_neg (show ¬ n1 < (Int32.ofInt (iq_iv dp)).toNatClampNeg + (Int32.ofInt (iq_iv n)).toNatClampNeg by rw [iq_nat h2 (by omega), iq_nat h3 (by omega)]; omega)).trans ?_
          refine (if_neg hs).trans ?_
          rw [hs0]
          refine (if_neg (show ¬ n0 < (Int32.ofInt (iq_iv sp)).toNatClampNeg + (Int32.ofInt (iq_iv n)).toNatClampNeg by rw [iq_nat h1 (by omega), iq_nat h3 (by omega)]; omega)).trans ?_
          rw [iq_nat h1 (by omega), iq_nat h2 (by omega), iq_nat h3 (by omega)]
          rw [iq_rowI (f := iq_cz (fun k => (f k.toNat).toInt) (g d) (iq_iv sp) (iq_iv dp) (iq_iv n))]
          intro q
          rw [iq_czf]
          exact congrFun (iq_cpu (f := fun k => Int32.ofInt (f k.toNat).toInt) (g := fun k => Int32.ofInt (g d k)) (f' := f) (g' := iq_up g d) h1 h2 h3 (fun k => by rw [iq_tof, Int.toNat_natCast]) (fun _ => rfl)) q
        · exact h.elim
    · next n1 hd =>
      have hn1 := iq_sh hd
      obtain ⟨hs, h⟩ := iq_bf h
      have hs := iq_b2 hs
      split at h
      · next n0 hs0 =>
        obtain ⟨⟨h1, h2, h3, h4, h5⟩, h6⟩ := h
        have hn0 := iq_sh hs0
        refine ⟨_, _, _, h6, ?_⟩
        unfold ij_hW
        dsimp only [List.map, iq_lv, iq_hp]
        have hg : d < 1000000 ∧ ¬ Int32.ofInt (iq_iv sp) < 0 ∧ ¬ Int32.ofInt (iq_iv dp) < 0 ∧ ¬ Int32.ofInt (iq_iv n) < 0 ∧ ((r.map iq_lv).map fun v => v.category).sum ≤ 8 := ⟨h0.1, iq_ge0 h1 (by omega), iq_ge0 h2 (by omega), iq_ge0 h3 (by omega), hcat⟩
        refine (if_pos hg).trans ?_
        rw [hd]
        refine (if_neg (show ¬ n1 < (Int32.ofInt (iq_iv dp)).toNatClampNeg + (Int32.ofInt (iq_iv n)).toNatClampNeg by rw [iq_nat h2 (by omega), iq_nat h3 (by omega)]; omega)).trans ?_
        refine (if_pos hs).trans ?_
        rw [hs0]
        refine (if_neg (show ¬ n0 < (Int32.ofInt (iq_iv sp)).toNatClampNeg + (Int32.ofInt (iq_iv n)).toNatClampNeg by rw [iq_nat h1 (by omega), iq_nat h3 (by omega)]; omega)).trans ?_
        rw [iq_nat h1 (by omega), iq_nat h2 (by omega), iq_nat h3 (by omega)]
        rw [iq_rowL (f := iq_cz (l s) (l d) (iq_iv sp) (iq_iv dp) (iq_iv n))]
        intro q
        exact congrFun (iq_cpu (f := l s) (g := l d) (f' := iq_uq l s) (g' := iq_uq l d) h1 h2 h3 (fun _ => rfl) (fun _ => rfl)) q
      · exact h.elim
    · exact h.elim
  · exact h.elim
theorem iq_narb {z : Int} (h1 : -128 ≤ z) (h2 : z ≤ 127) : narrow .byte (.int (Int32.ofInt z)) = .int (Int32.ofInt z) := by
  show Value.int (Int32.ofInt z).toInt8.toInt32 = _
  congr 1
  apply Int32.toInt_inj.mp
  rw [Int8.toInt_toInt32, Int32.toInt_toInt8, Int32.toInt_ofInt_of_le (by omega) (by omega)]
  exact Int.bmod_eq_of_le (by omega) (by omega)
theorem iq_narc {z : Int} (h1 : 0 ≤ z) (h2 : z ≤ 65535) : narrow .char (.int (Int32.ofInt z)) = .int (Int32.ofInt z) := by
  obtain ⟨n, rfl⟩ := Int.eq_ofNat_of_zero_le h1
  show Value.int (Int32.ofInt (n : Int)).toUInt32.toUInt16.toUInt32.toInt32 = _
  congr 1
  rw [Int32.ofInt_eq_ofNat]
  show ((Int32.ofNat n).toUInt32.toUInt16.toUInt32).toInt32 = (UInt32.ofNat n).toInt32
  congr 1
  apply UInt32.toNat_inj.mp
  have h3 : n < 65536 := by omega
  show ((UInt32.ofNat n).toUInt16.toUInt32).toNat = _
  simp
  omega
theorem iq_sR_ok {rt : Nat} {i : Instr} {st : List iq_V} {Q : Option iq_V → Prop} (h : iq_sR rt i st Q) : ∃ r, Q r ∧ ij_rI rt i (st.map iq_lv) = some (r.map iq_lv) := by
  unfold iq_sR at h
  split at h
  · split at h
    · exact ⟨_, h, rfl⟩
    · exact h.elim
  · split at h
    · next x =>
      split at h
      · exact ⟨_, h, rfl⟩
      · obtain ⟨h1, h2⟩ := iq_bl_ok h
        refine ⟨_, h2, ?_⟩
        show (if Int32.ofInt (iq_iv x) = 0 ∨ Int32.ofInt (iq_iv x) = 1 then _ else _) = _
        rw [if_pos (iq_bl32 h1)]; rfl
      · refine ⟨_, h.2, ?_⟩
        show (if narrow .byte (.int (Int32.ofInt (iq_iv x))) = .int (Int32.ofInt (iq_iv x)) then _ else _) = _
        rw [if_pos (iq_narb h.1.1 h.1.2)]; rfl
      · refine ⟨_, h.2, ?_⟩
        show (if narrow .char (.int (Int32.ofInt (iq_iv x))) = .int (Int32.ofInt (iq_iv x)) then _ else _) = _
        rw [if_pos (iq_narc h.1.1 h.1.2)]; rfl
      · exact h.elim
    · exact h.elim
  · split at h
    · exact ⟨_, h, rfl⟩
    · exact h.elim
  · split at h
    · next x =>
      obtain ⟨h1, h2⟩ := iq_bg h
      have hne : ¬ x = 1999999 := fun e => by rw [e] at h1; cases h1
      refine ⟨_, h2, ?_⟩
      show (if x = 1999999 then none else some (some (Value.ref x))) = _
      rw [if_neg hne]; rfl
    · exact ⟨_, h, rfl⟩
    · exact h.elim
  · exact h.elim
theorem iq_ent_ok (as : List iq_V) : ij_ent (as.map iq_lv) = iq_ll (iq_en as) := by
  induction as with
  | nil => rfl
  | cons v r ih =>
    rcases v with x | (x | (_ | x))
    · show some (Value.int _) :: ij_ent (r.map iq_lv) = _
      rw [ih]; rfl
    · show some (Value.long _) :: none :: ij_ent (r.map iq_lv) = _
      rw [ih]; rfl
    · show some Value.null :: ij_ent (r.map iq_lv) = _
      rw [ih]; rfl
    · show some (Value.ref _) :: ij_ent (r.map iq_lv) = _
      rw [ih]; rfl
theorem iq_entry_ok {nL : Nat} {as : List iq_V} (h : (iq_en as).length ≤ nL) : ij_entry nL (as.map iq_lv) = some (iq_ll (iq_entry nL as)) := by
  unfold ij_entry iq_entry
  rw [iq_ent_ok, iq_len, if_pos h]
  unfold iq_ll
  simp
theorem iq_cl_ok {i : Instr} {n c : Nat} {st : List iq_V} {K : List iq_V → List iq_V → Prop} {g : iq_I} {l : iq_J} (h : iq_cl i n c st K) : ∃ as r, K as r ∧ ij_cI i n c (st.map iq_lv) (iq_hp g l) = some (as.map iq_lv, r.map iq_lv) := by
  unfold iq_cl at h
  split at h
  · split at h
    · next j hj =>
      obtain ⟨h1, h2⟩ := iq_bf h
      simp only [Bool.and_eq_true, Bool.or_eq_true, Nat.blt_eq, Nat.ble_eq, Nat.beq_eq] at h1
      refine ⟨_, _, h2, ?_⟩
      unfold ij_cI
      dsimp only [iq_hp]
      rw [List.getElem?_map, hj]
      show (if ((10 ≤ c ∧ c < 22 ∧ j < 1000000 ∧ (ij_SH[j]?).map Prod.fst = some (c - 10)) ∨ (c = 30 ∧ 1000010 ≤ j ∧ j < 1000034)) ∧ ((((st.map iq_lv).drop (n + 1)).map fun v => v.category).sum) ≤ 8 then some (((st.map iq_lv).take (n + 1)).reverse, (st.map iq_lv).drop (n + 1)) else none) = _
      rw [if_pos]
      · simp
      · refine ⟨?_, ?_⟩
        · rcases h1.1 with h3 | h3
          · left
            refine ⟨h3.1.1.1, h3.1.1.2, h3.1.2, ?_⟩
            have h4 := h3.2
            split at h4
            · next kd z hs =>
              rw [hs]
              simp only [Nat.beq_eq] at h4
              simp [h4]
            · cases h4
          · right
            exact ⟨h3.1.1, h3.1.2, h3.2⟩
        · rw [← List.map_drop, iq_cats]
          exact h1.2
    · exact h.elim
  · obtain ⟨h1, h2⟩ := iq_bf h
    simp only [Bool.and_eq_true, Bool.or_eq_true, Nat.ble_eq, Nat.beq_eq] at h1
    refine ⟨_, _, h2, ?_⟩
    unfold ij_cI
    dsimp only
    rw [if_pos]
    · simp
    · refine ⟨h1.1.1, ?_, ?_⟩
      · rw [List.length_map]; exact h1.1.2
      · rw [← List.map_drop, iq_cats]
        exact h1.2
  · split at h
    · next j hj =>
      obtain ⟨h1, h2⟩ := iq_bf h
      simp only [Bool.and_eq_true, Bool.or_eq_true, Nat.blt_eq, Nat.ble_eq, Nat.beq_eq] at h1
      refine ⟨_, _, h2, ?_⟩
      unfold ij_cI
      dsimp only
      rw [List.getElem?_map, hj]
      dsimp only [Option.map, iq_lv]
      rw [if_pos]
      · simp
      · refine ⟨h1.1.1, h1.1.2, ?_⟩
        rw [← List.map_drop, iq_cats]
        exact h1.2
    · exact h.elim
  · exact h.elim
theorem iq_dv {x y : Int} (h1 : -2147483648 ≤ x) (h2 : x ≤ 2147483647) (h3 : -2147483648 ≤ y) (h4 : y ≤ 2147483647) : Int32.ofInt x / Int32.ofInt y = Int32.ofInt (x.tdiv y) := (Int32.ofInt_tdiv h1 h2 h3 h4).symm
theorem iq_tm {x y : Int} (h1 : -2147483648 ≤ x) (h2 : x ≤ 2147483647) (h3 : -2147483648 ≤ y) (h4 : y ≤ 2147483647) : Int32.ofInt x - Int32.ofInt x / Int32.ofInt y * Int32.ofInt y = Int32.ofInt (x.tmod y) := by
  rw [iq_dv h1 h2 h3 h4, ← Int32.ofInt_mul, ← Int32.ofInt_sub]
  congr 1
  have := Int.tmod_add_mul_tdiv x y
  rw [Int.mul_comm (x.tdiv y) y]
  omega
theorem iq_sD_ok {i : Instr} {st : List iq_V} {K : List iq_V → Prop} (h : iq_sD i st K) : ∃ q, K q ∧ ij_sA i (st.map iq_lv) = some (q.map iq_lv) := by
  unfold iq_sD at h
  split at h
  · next y x r =>
    obtain ⟨⟨h1, h2, h3, h4, h5⟩, h⟩ := h
    have hy : ¬ Int32.ofInt (iq_iv y) = 0 := fun e => h5 ((iq_eqi h3 h4 (by omega) (by omega)).mp e)
    split at h
    · refine ⟨_, h, ?_⟩
      show (if Int32.ofInt (iq_iv y) = 0 then none else some (Value.int (Int32.ofInt (iq_iv x) / Int32.ofInt (iq_iv y)) :: _)) = _
      rw [if_neg hy, iq_dv (by omega) h2 h3 h4]; rfl
    · refine ⟨_, h, ?_⟩
      show (if Int32.ofInt (iq_iv y) = 0 then none else some (Value.int (Int32.ofInt (iq_iv x) - Int32.ofInt (iq_iv x) / Int32.ofInt (iq_iv y) * Int32.ofInt (iq_iv y)) :: _)) = _
      rw [if_neg hy, iq_tm (by omega) h2 h3 h4]; rfl
    · exact h.elim
  · exact h.elim
theorem iq_sE_ok {i : Instr} {st : List iq_V} {K : List iq_V → Prop} (h : iq_sE i st K) : ∃ q, K q ∧ ij_sB i (st.map iq_lv) = some (q.map iq_lv) := by
  unfold iq_sE at h
  split at h
  · next y x r =>
    obtain ⟨h1, h⟩ := h
    split at h
    · refine ⟨_, h, ?_⟩
      show (if y = 0 then none else some (Value.long (x / y) :: _)) = _
      rw [if_neg h1]; rfl
    · refine ⟨_, h, ?_⟩
      show (if y = 0 then none else some (Value.long (x - x / y * y) :: _)) = _
      rw [if_neg h1]; rfl
    · exact h.elim
  · exact h.elim
theorem iq_Pm {N : Nat} {xs : Nat → Int32} {y pc : Nat} {L : iq_LV} {st : List iq_V} {g : iq_I} {l : iq_J} {Q Q' : iq_T} (h : iq_P N xs y pc L st g l Q) (hq : ∀ r g l, Q r g l → Q' r g l) : iq_P N xs y pc L st g l Q' := by
  obtain ⟨n, r, h', e, r', g', l', h1, h2, h3⟩ := h
  exact ⟨n, r, h', e, r', g', l', h1, h2, hq _ _ _ h3⟩
