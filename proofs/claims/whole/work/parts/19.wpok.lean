/-! The conditions suffice. -/
theorem iq_bf {b : Bool} {p : Prop} (h : bif b then p else False) : b = true ∧ p := by
  cases b
  · exact h.elim
  · exact ⟨rfl, h⟩
theorem iq_bg {b : Bool} {p : Prop} (h : bif b then False else p) : b = false ∧ p := by
  cases b
  · exact ⟨rfl, h⟩
  · exact h.elim
theorem iq_of0 : Int32.ofInt 0 = 0 := rfl
theorem iq_of1 : Int32.ofInt 1 = 1 := rfl
theorem iq_eqi {x y : Int} (h1 : -2147483648 ≤ x) (h2 : x ≤ 2147483647) (h3 : -2147483648 ≤ y) (h4 : y ≤ 2147483647) : Int32.ofInt x = Int32.ofInt y ↔ x = y := by
  constructor
  · intro h
    have := congrArg Int32.toInt h
    rwa [Int32.toInt_ofInt_of_le (by omega) (by omega), Int32.toInt_ofInt_of_le (by omega) (by omega)] at this
  · intro h; rw [h]
theorem iq_lti {x y : Int} (h1 : -2147483648 ≤ x) (h2 : x ≤ 2147483647) (h3 : -2147483648 ≤ y) (h4 : y ≤ 2147483647) : Int32.ofInt x < Int32.ofInt y ↔ x < y := Int32.ofInt_lt_iff_lt h1 h2 h3 h4
theorem iq_lei {x y : Int} (h1 : -2147483648 ≤ x) (h2 : x ≤ 2147483647) (h3 : -2147483648 ≤ y) (h4 : y ≤ 2147483647) : Int32.ofInt x ≤ Int32.ofInt y ↔ x ≤ y := Int32.ofInt_le_iff_le h1 h2 h3 h4
theorem iq_nat {x : Int} (h1 : 0 ≤ x) (h2 : x ≤ 2147483647) : (Int32.ofInt x).toNatClampNeg = x.toNat := Int32.toNatClampNeg_ofInt_of_le (by omega) (by omega)
theorem iq_ge0 {x : Int} (h1 : 0 ≤ x) (h2 : x ≤ 2147483647) : ¬ Int32.ofInt x < 0 := by
  rw [← iq_of0, iq_lti (by omega) (by omega) (by omega) (by omega)]
  omega
theorem iq_in {x : Int} {n : Nat} (h1 : 0 ≤ x) (h2 : x < n) (h3 : x ≤ 2147483647) : ¬ (Int32.ofInt x < 0 ∨ n ≤ (Int32.ofInt x).toNatClampNeg) := by
  rw [iq_nat h1 h3]
  rintro (h | h)
  · exact iq_ge0 h1 h3 h
  · omega
theorem iq_sz : ∀ q ∈ ij_SH, q.2 ≤ 65536 := by decide +kernel
theorem iq_sh {j kd n : Nat} (h : ij_SH[j]? = some (kd, n)) : n ≤ 65536 := iq_sz _ (List.mem_of_getElem? h)
theorem iq_upu {g : iq_I} {j : Nat} {i v : Int} (h : 0 ≤ i) : ij_ui (iq_up g) j i.toNat (Int32.ofInt v) = iq_up (iq_uz g j i v) := by
  funext a b
  unfold ij_ui iq_up iq_uz upd
  by_cases h1 : a = j
  · subst h1
    by_cases h2 : b = i.toNat
    · have h3 : (b : Int) = i := by omega
      rw [if_pos rfl, if_pos h2, if_pos ⟨rfl, h3⟩]
    · have h3 : ¬ (b : Int) = i := by omega
      simp [h2, h3]
  · simp [h1]
theorem iq_uqu {g : iq_J} {j : Nat} {i : Int} {v : Int64} (h : 0 ≤ i) : ij_ul (iq_uq g) j i.toNat v = iq_uq (iq_uz g j i v) := by
  funext a b
  unfold ij_ul iq_uq iq_uz vp_updL
  by_cases h1 : a = j
  · subst h1
    by_cases h2 : b = i.toNat
    · have h3 : (b : Int) = i := by omega
      rw [if_pos rfl, if_pos h2, if_pos ⟨rfl, h3⟩]
    · have h3 : ¬ (b : Int) = i := by omega
      simp [h2, h3]
  · simp [h1]
theorem iq_map_set {L : iq_LV} {i : Nat} {v : Option iq_V} : iq_ll (L.set i v) = (iq_ll L).set i (v.map iq_lv) := by
  unfold iq_ll
  rw [List.map_set]
theorem iq_get {L : iq_LV} {i : Nat} : (iq_ll L)[i]? = (L[i]?).map (Option.map iq_lv) := by
  unfold iq_ll
  rw [List.getElem?_map]
theorem iq_len {L : iq_LV} : (iq_ll L).length = L.length := by
  unfold iq_ll
  rw [List.length_map]
theorem iq_kl_ok {L : iq_LV} {i : Nat} : ij_kill (iq_ll L) i = iq_ll (iq_kl L i) := by
  unfold ij_kill iq_kl
  cases i with
  | zero => rfl
  | succ j =>
    dsimp only
    rw [iq_get]
    rcases hq : L[j]? with _ | (_ | (x | (x | (_ | x))))
    · rfl
    · rfl
    · rfl
    · simp [iq_lv, iq_map_set]
    · rfl
    · rfl
theorem iq_s1_ok {L L' : iq_LV} {i : Nat} {v : iq_V} (h : iq_s1 L i v = some L') : ij_st1 (iq_ll L) i (iq_lv v) = some (iq_ll L') := by
  unfold iq_s1 at h
  unfold ij_st1
  rcases hb : Nat.blt i L.length with _ | _
  · rw [hb] at h; cases h
  · rw [hb] at h
    rw [iq_len, if_pos (by simpa using hb), iq_kl_ok]
    have := Option.some.inj h
    rw [← this, iq_map_set]; rfl
theorem iq_s2_ok {L L' : iq_LV} {i : Nat} {v : iq_V} (h : iq_s2 L i v = some L') : ij_st2 (iq_ll L) i (iq_lv v) = some (iq_ll L') := by
  unfold iq_s2 at h
  unfold ij_st2
  rcases hb : Nat.blt (i + 1) L.length with _ | _
  · rw [hb] at h; cases h
  · rw [hb] at h
    rw [iq_len, if_pos (by simpa using hb), iq_kl_ok]
    have := Option.some.inj h
    rw [← this, iq_map_set, iq_map_set]; rfl
theorem iq_b8 {n : Int} (h1 : -128 ≤ n) (h2 : n ≤ 127) : (Int8.ofInt n).toInt32 = Int32.ofInt n := Int8.toInt32_ofInt h1 h2
theorem iq_b16 {n : Int} (h1 : -32768 ≤ n) (h2 : n ≤ 32767) : (Int16.ofInt n).toInt32 = Int32.ofInt n := Int16.toInt32_ofInt h1 h2
theorem iq_ldi_ok {L : iq_LV} {st : List iq_V} {k : Nat} {q : iq_LV × List iq_V} (h : iq_ldi L st k = some q) : ij_ldi (iq_ll L) (st.map iq_lv) k = some (iq_ll q.1, q.2.map iq_lv) := by
  unfold iq_ldi at h
  unfold ij_ldi
  split at h
  · next x hx =>
    cases h
    rw [iq_get, hx]; rfl
  · cases h
theorem iq_ldl_ok {L : iq_LV} {st : List iq_V} {k : Nat} {q : iq_LV × List iq_V} (h : iq_ldl L st k = some q) : ij_ldl (iq_ll L) (st.map iq_lv) k = some (iq_ll q.1, q.2.map iq_lv) := by
  unfold iq_ldl at h
  unfold ij_ldl
  split at h
  · next x hx =>
    cases h
    rw [iq_get, hx]; rfl
  · cases h
theorem iq_lda_ok {L : iq_LV} {st : List iq_V} {k : Nat} {q : iq_LV × List iq_V} (h : iq_lda L st k = some q) : ij_lda (iq_ll L) (st.map iq_lv) k = some (iq_ll q.1, q.2.map iq_lv) := by
  unfold iq_lda at h
  unfold ij_lda
  split at h
  · next x hx =>
    rcases hb : Nat.beq x 1999999 with _ | _
    · rw [hb] at h
      cases h
      have hne : ¬ x = 1999999 := fun e => by rw [e] at hb; cases hb
      rw [iq_get, hx]
      simp [iq_lv, hne]
    · rw [hb] at h; cases h
  · next hx =>
    cases h
    rw [iq_get, hx]; rfl
  · cases h
theorem iq_sti_ok {L : iq_LV} {st : List iq_V} {k : Nat} {q : iq_LV × List iq_V} (h : iq_sti L st k = some q) : ij_sti (iq_ll L) (st.map iq_lv) k = some (iq_ll q.1, q.2.map iq_lv) := by
  unfold iq_sti at h
  split at h
  · next x r =>
    obtain ⟨l, h1, rfl⟩ := Option.map_eq_some_iff.mp h
    have h2 := iq_s1_ok h1
    show (ij_st1 (iq_ll L) k (iq_lv (.inl x))).map _ = _
    rw [h2]; rfl
  · cases h
theorem iq_stl_ok {L : iq_LV} {st : List iq_V} {k : Nat} {q : iq_LV × List iq_V} (h : iq_stl L st k = some q) : ij_stl (iq_ll L) (st.map iq_lv) k = some (iq_ll q.1, q.2.map iq_lv) := by
  unfold iq_stl at h
  split at h
  · next x r =>
    obtain ⟨l, h1, rfl⟩ := Option.map_eq_some_iff.mp h
    have h2 := iq_s2_ok h1
    show (ij_st2 (iq_ll L) k (iq_lv (iq_l x))).map _ = _
    rw [h2]; rfl
  · cases h
theorem iq_sta_ok {L : iq_LV} {st : List iq_V} {k : Nat} {q : iq_LV × List iq_V} (h : iq_sta L st k = some q) : ij_sta (iq_ll L) (st.map iq_lv) k = some (iq_ll q.1, q.2.map iq_lv) := by
  unfold iq_sta at h
  split at h
  · next x r =>
    rcases hb : Nat.beq x 1999999 with _ | _
    · rw [hb] at h
      have hne : ¬ x = 1999999 := fun e => by rw [e] at hb; cases hb
      obtain ⟨l, h1, rfl⟩ := Option.map_eq_some_iff.mp h
      have h2 := iq_s1_ok h1
      show (if x = 1999999 then none else (ij_st1 (iq_ll L) k (iq_lv (iq_r x))).map _) = _
      rw [if_neg hne, h2]; rfl
    · rw [hb] at h; cases h
  · next r =>
    obtain ⟨l, h1, rfl⟩ := Option.map_eq_some_iff.mp h
    have h2 := iq_s1_ok h1
    show (ij_st1 (iq_ll L) k (iq_lv iq_n)).map _ = _
    rw [h2]; rfl
  · cases h
theorem iq_sL_ok {i : Instr} {L : iq_LV} {st : List iq_V} {q : iq_LV × List iq_V} (h : iq_sL i L st = some q) : ij_sL i (iq_ll L) (st.map iq_lv) = some (iq_ll q.1, q.2.map iq_lv) := by
  unfold iq_sL at h
  split at h
  · cases h; rfl
  · next n =>
    rcases hb : (decide (-128 ≤ n) && decide (n ≤ 127)) with _ | _
    · rw [hb] at h; cases h
    · rw [hb] at h
      cases h
      simp only [Bool.and_eq_true, decide_eq_true_eq] at hb
      show some (_, Value.int _ :: _) = _
      rw [iq_b8 hb.1 hb.2]; rfl
  · next n =>
    rcases hb : (decide (-32768 ≤ n) && decide (n ≤ 32767)) with _ | _
    · rw [hb] at h; cases h
    · rw [hb] at h
      cases h
      simp only [Bool.and_eq_true, decide_eq_true_eq] at hb
      show some (_, Value.int _ :: _) = _
      rw [iq_b16 hb.1 hb.2]; rfl
  · cases h; rfl
  · cases h; rfl
  · exact iq_ldi_ok h
  · exact iq_ldi_ok h
  · exact iq_ldl_ok h
  · exact iq_ldl_ok h
  · exact iq_lda_ok h
  · exact iq_lda_ok h
  · exact iq_sti_ok h
  · exact iq_sti_ok h
  · exact iq_stl_ok h
  · exact iq_stl_ok h
  · exact iq_sta_ok h
  · exact iq_sta_ok h
  · next k n =>
    split at h
    · next x hx =>
      obtain ⟨l, h1, rfl⟩ := Option.map_eq_some_iff.mp h
      have h2 := iq_s1_ok h1
      unfold ij_sL
      dsimp only
      rw [iq_get, hx]
      have h3 : iq_lv (iq_i (iq_iv x + n)) = Value.int (Int32.ofInt (iq_iv x) + Int32.ofInt n) := by
        show Value.int (Int32.ofInt (iq_iv x + n)) = _
        rw [Int32.ofInt_add]
      rw [h3] at h2
      show (ij_st1 (iq_ll L) k (Value.int (Int32.ofInt (iq_iv x) + Int32.ofInt n))).map _ = _
      rw [h2]; rfl
    · cases h
  · cases h
theorem iq_tof (x : Int32) : Int32.ofInt x.toInt = x := Int32.ofInt_toInt x
theorem iq_sA_ok {i : Instr} {st q : List iq_V} (h : iq_sA i st = some q) : ij_sA i (st.map iq_lv) = some (q.map iq_lv) := by
  unfold iq_sA at h
  split at h
  · next y x r =>
    split at h
    all_goals first
      | cases h; simp [ij_sA, iq_lv, iq_iv, iq_and, iq_or, iq_xor, iq_shl, iq_shr]; done
      | cases h
  · cases h
theorem iq_sB_ok {i : Instr} {st q : List iq_V} (h : iq_sB i st = some q) : ij_sB i (st.map iq_lv) = some (q.map iq_lv) := by
  unfold iq_sB at h
  split at h
  all_goals first
    | (split at h
       all_goals first
         | (cases h; simp only [ij_sB, List.map, iq_lv, iq_iv, iq_lc, iq_lsl, iq_lsr, iq_i2l, iq_l2i, iq_i2b, iq_i2s, iq_i2c, iq_tof, Int32.ofInt_neg]; done)
         | cases h)
    | cases h
