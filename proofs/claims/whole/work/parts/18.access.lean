/-! Rules for accesses by an index that is not a number written down, and for divisions. -/
theorem ij_bd {i k : Int32} {n : Nat} (h1 : ¬ i < 0) (h2 : i < k) (hk : k.toInt ≤ (n : Int)) : ¬ (i < 0 ∨ n ≤ i.toNatClampNeg) := by
  rintro (h | h)
  · exact h1 h
  · have h3 := Int32.lt_iff_toInt_lt.mp h2
    have h4 : i.toNatClampNeg = i.toInt.toNat := rfl
    rw [h4] at h
    have h5 : (0 : Int) ≤ i.toInt := by simpa using Int32.le_iff_toInt_le.mp (Int32.not_lt.mp h1)
    omega
theorem ij_nz1 {x : Int32} (h : ¬ x ≤ 0) : ¬ x = 0 := fun e => h (by rw [e]; exact Int32.le_refl 0)
theorem ij_nz2 {x : Int32} (h : 0 < x) : ¬ x = 0 := fun e => by rw [e] at h; exact absurd h (by decide)
section IJ
variable {xt : ij_X} {y pc : Nat} {L : ij_L} {h : ij_H} {Q : Option Value → ij_H → Prop} {r : List Value} {j n : Nat} {i : Int32}
theorem ij_ial (hl : (ij_tab y).lookup pc = some (.iaload, 1, 0, 0, 0)) (hj : Nat.blt j 1000000 = true) (hs : h.1[j]? = some (100, n)) (hin : ¬ (i < 0 ∨ n ≤ i.toNatClampNeg)) (q : ij_R xt y (pc + 1) L (.int (h.2.1 j i.toNatClampNeg) :: r) h Q) : ij_R xt y pc L (.int i :: .ref j :: r) h Q := by
  obtain ⟨m, r1, h1, e, hq⟩ := q
  have a1 : ij_sL .iaload L (.int i :: .ref j :: r) = none := rfl
  have a2 : ij_sA .iaload (.int i :: .ref j :: r) = none := rfl
  have a3 : ij_bI .iaload pc (.int i :: .ref j :: r) = none := rfl
  have a4 : ij_hR ij_G0.2.2.2 xt .iaload 0 0 (.int i :: .ref j :: r) h = some (.int (h.2.1 j i.toNatClampNeg) :: r) := by
    unfold ij_hR
    dsimp only
    rw [if_pos (ij_blt hj), hs]
    exact if_neg hin
  refine ⟨m + 1, r1, h1, ?_, hq⟩
  rw [ij_run]
  rw [show ij_G0.1 y = ij_tab y from rfl, hl]
  dsimp only
  rw [a1]; dsimp only
  rw [a2]; dsimp only
  rw [a3]; dsimp only
  rw [a4]
  exact e
theorem ij_bal (hl : (ij_tab y).lookup pc = some (.baload, 1, 0, 0, 0)) (hj : Nat.blt j 1000000 = true) (hs : h.1[j]? = some (102, n)) (hin : ¬ (i < 0 ∨ n ≤ i.toNatClampNeg)) (q : ij_R xt y (pc + 1) L (.int (h.2.1 j i.toNatClampNeg) :: r) h Q) : ij_R xt y pc L (.int i :: .ref j :: r) h Q := by
  obtain ⟨m, r1, h1, e, hq⟩ := q
  have a1 : ij_sL .baload L (.int i :: .ref j :: r) = none := rfl
  have a2 : ij_sA .baload (.int i :: .ref j :: r) = none := rfl
  have a3 : ij_bI .baload pc (.int i :: .ref j :: r) = none := rfl
  have a4 : ij_hR ij_G0.2.2.2 xt .baload 0 0 (.int i :: .ref j :: r) h = some (.int (h.2.1 j i.toNatClampNeg) :: r) := by
    unfold ij_hR
    dsimp only
    rw [if_pos (ij_blt hj), hs]
    exact if_neg hin
  refine ⟨m + 1, r1, h1, ?_, hq⟩
  rw [ij_run]
  rw [show ij_G0.1 y = ij_tab y from rfl, hl]
  dsimp only
  rw [a1]; dsimp only
  rw [a2]; dsimp only
  rw [a3]; dsimp only
  rw [a4]
  exact e
theorem ij_zal (hl : (ij_tab y).lookup pc = some (.baload, 1, 0, 0, 0)) (hj : Nat.blt j 1000000 = true) (hs : h.1[j]? = some (103, n)) (hin : ¬ (i < 0 ∨ n ≤ i.toNatClampNeg)) (q : ij_R xt y (pc + 1) L (.int (h.2.1 j i.toNatClampNeg) :: r) h Q) : ij_R xt y pc L (.int i :: .ref j :: r) h Q := by
  obtain ⟨m, r1, h1, e, hq⟩ := q
  have a1 : ij_sL .baload L (.int i :: .ref j :: r) = none := rfl
  have a2 : ij_sA .baload (.int i :: .ref j :: r) = none := rfl
  have a3 : ij_bI .baload pc (.int i :: .ref j :: r) = none := rfl
  have a4 : ij_hR ij_G0.2.2.2 xt .baload 0 0 (.int i :: .ref j :: r) h = some (.int (h.2.1 j i.toNatClampNeg) :: r) := by
    unfold ij_hR
    dsimp only
    rw [if_pos (ij_blt hj), hs]
    exact if_neg hin
  refine ⟨m + 1, r1, h1, ?_, hq⟩
  rw [ij_run]
  rw [show ij_G0.1 y = ij_tab y from rfl, hl]
  dsimp only
  rw [a1]; dsimp only
  rw [a2]; dsimp only
  rw [a3]; dsimp only
  rw [a4]
  exact e
theorem ij_lal (hl : (ij_tab y).lookup pc = some (.laload, 1, 0, 0, 0)) (hj : Nat.blt j 1000000 = true) (hs : h.1[j]? = some (101, n)) (hin : ¬ (i < 0 ∨ n ≤ i.toNatClampNeg)) (q : ij_R xt y (pc + 1) L (.long (h.2.2.1 j i.toNatClampNeg) :: r) h Q) : ij_R xt y pc L (.int i :: .ref j :: r) h Q := by
  obtain ⟨m, r1, h1, e, hq⟩ := q
  have a1 : ij_sL .laload L (.int i :: .ref j :: r) = none := rfl
  have a2 : ij_sA .laload (.int i :: .ref j :: r) = none := rfl
  have a3 : ij_bI .laload pc (.int i :: .ref j :: r) = none := rfl
  have a4 : ij_hR ij_G0.2.2.2 xt .laload 0 0 (.int i :: .ref j :: r) h = some (.long (h.2.2.1 j i.toNatClampNeg) :: r) := by
    unfold ij_hR
    dsimp only
    rw [if_pos (ij_blt hj), hs]
    exact if_neg hin
  refine ⟨m + 1, r1, h1, ?_, hq⟩
  rw [ij_run]
  rw [show ij_G0.1 y = ij_tab y from rfl, hl]
  dsimp only
  rw [a1]; dsimp only
  rw [a2]; dsimp only
  rw [a3]; dsimp only
  rw [a4]
  exact e
theorem ij_ias {x : Int32} (hl : (ij_tab y).lookup pc = some (.iastore, 1, 0, 0, 0)) (hj : Nat.blt j 1000000 = true) (hs : h.1[j]? = some (100, n)) (hin : ¬ (i < 0 ∨ n ≤ i.toNatClampNeg)) (q : ij_R xt y (pc + 1) L r (h.1, ij_ui h.2.1 j i.toNatClampNeg x, h.2.2) Q) : ij_R xt y pc L (.int x :: .int i :: .ref j :: r) h Q := by
  obtain ⟨m, r1, h1, e, hq⟩ := q
  have a1 : ij_sL .iastore L (.int x :: .int i :: .ref j :: r) = none := rfl
  have a2 : ij_sA .iastore (.int x :: .int i :: .ref j :: r) = none := rfl
  have a3 : ij_bI .iastore pc (.int x :: .int i :: .ref j :: r) = none := rfl
  have a4 : ij_hR ij_G0.2.2.2 xt .iastore 0 0 (.int x :: .int i :: .ref j :: r) h = none := rfl
  have a5 : ij_sB .iastore (.int x :: .int i :: .ref j :: r) = none := rfl
  have a6 : ij_hW ij_G0.2.2.2 xt .iastore 0 0 (.int x :: .int i :: .ref j :: r) h = some (r, (h.1, ij_ui h.2.1 j i.toNatClampNeg x, h.2.2)) := by
    unfold ij_hW
    dsimp only
    rw [if_pos (ij_blt hj), hs]
    exact if_neg hin
  refine ⟨m + 1, r1, h1, ?_, hq⟩
  rw [ij_run]
  rw [show ij_G0.1 y = ij_tab y from rfl, hl]
  dsimp only
  rw [a1]; dsimp only
  rw [a2]; dsimp only
  rw [a3]; dsimp only
  rw [a4]; dsimp only
  rw [a5]; dsimp only
  rw [a6]
  exact e
theorem ij_las {x : Int64} (hl : (ij_tab y).lookup pc = some (.lastore, 1, 0, 0, 0)) (hj : Nat.blt j 1000000 = true) (hs : h.1[j]? = some (101, n)) (hin : ¬ (i < 0 ∨ n ≤ i.toNatClampNeg)) (q : ij_R xt y (pc + 1) L r (h.1, h.2.1, ij_ul h.2.2.1 j i.toNatClampNeg x, h.2.2.2) Q) : ij_R xt y pc L (.long x :: .int i :: .ref j :: r) h Q := by
  obtain ⟨m, r1, h1, e, hq⟩ := q
  have a1 : ij_sL .lastore L (.long x :: .int i :: .ref j :: r) = none := rfl
  have a2 : ij_sA .lastore (.long x :: .int i :: .ref j :: r) = none := rfl
  have a3 : ij_bI .lastore pc (.long x :: .int i :: .ref j :: r) = none := rfl
  have a4 : ij_hR ij_G0.2.2.2 xt .lastore 0 0 (.long x :: .int i :: .ref j :: r) h = none := rfl
  have a5 : ij_sB .lastore (.long x :: .int i :: .ref j :: r) = none := rfl
  have a6 : ij_hW ij_G0.2.2.2 xt .lastore 0 0 (.long x :: .int i :: .ref j :: r) h = some (r, (h.1, h.2.1, ij_ul h.2.2.1 j i.toNatClampNeg x, h.2.2.2)) := by
    unfold ij_hW
    dsimp only
    rw [if_pos (ij_blt hj), hs]
    exact if_neg hin
  refine ⟨m + 1, r1, h1, ?_, hq⟩
  rw [ij_run]
  rw [show ij_G0.1 y = ij_tab y from rfl, hl]
  dsimp only
  rw [a1]; dsimp only
  rw [a2]; dsimp only
  rw [a3]; dsimp only
  rw [a4]; dsimp only
  rw [a5]; dsimp only
  rw [a6]
  exact e
theorem ij_bas {x : Int32} (hl : (ij_tab y).lookup pc = some (.bastore, 1, 0, 0, 0)) (hj : Nat.blt j 1000000 = true) (hs : h.1[j]? = some (102, n)) (hin : ¬ (i < 0 ∨ n ≤ i.toNatClampNeg)) (q : ij_R xt y (pc + 1) L r (h.1, ij_ui h.2.1 j i.toNatClampNeg (vp_nar .byte x), h.2.2) Q) : ij_R xt y pc L (.int x :: .int i :: .ref j :: r) h Q := by
  obtain ⟨m, r1, h1, e, hq⟩ := q
  have a1 : ij_sL .bastore L (.int x :: .int i :: .ref j :: r) = none := rfl
  have a2 : ij_sA .bastore (.int x :: .int i :: .ref j :: r) = none := rfl
  have a3 : ij_bI .bastore pc (.int x :: .int i :: .ref j :: r) = none := rfl
  have a4 : ij_hR ij_G0.2.2.2 xt .bastore 0 0 (.int x :: .int i :: .ref j :: r) h = none := rfl
  have a5 : ij_sB .bastore (.int x :: .int i :: .ref j :: r) = none := rfl
  have a6 : ij_hW ij_G0.2.2.2 xt .bastore 0 0 (.int x :: .int i :: .ref j :: r) h = some (r, (h.1, ij_ui h.2.1 j i.toNatClampNeg (vp_nar .byte x), h.2.2)) := by
    unfold ij_hW
    dsimp only
    rw [if_pos (ij_blt hj), hs]
    exact if_neg hin
  refine ⟨m + 1, r1, h1, ?_, hq⟩
  rw [ij_run]
  rw [show ij_G0.1 y = ij_tab y from rfl, hl]
  dsimp only
  rw [a1]; dsimp only
  rw [a2]; dsimp only
  rw [a3]; dsimp only
  rw [a4]; dsimp only
  rw [a5]; dsimp only
  rw [a6]
  exact e
theorem ij_zas {x : Int32} (hl : (ij_tab y).lookup pc = some (.bastore, 1, 0, 0, 0)) (hj : Nat.blt j 1000000 = true) (hs : h.1[j]? = some (103, n)) (hin : ¬ (i < 0 ∨ n ≤ i.toNatClampNeg)) (q : ij_R xt y (pc + 1) L r (h.1, ij_ui h.2.1 j i.toNatClampNeg (vp_nar .boolean x), h.2.2) Q) : ij_R xt y pc L (.int x :: .int i :: .ref j :: r) h Q := by
  obtain ⟨m, r1, h1, e, hq⟩ := q
  have a1 : ij_sL .bastore L (.int x :: .int i :: .ref j :: r) = none := rfl
  have a2 : ij_sA .bastore (.int x :: .int i :: .ref j :: r) = none := rfl
  have a3 : ij_bI .bastore pc (.int x :: .int i :: .ref j :: r) = none := rfl
  have a4 : ij_hR ij_G0.2.2.2 xt .bastore 0 0 (.int x :: .int i :: .ref j :: r) h = none := rfl
  have a5 : ij_sB .bastore (.int x :: .int i :: .ref j :: r) = none := rfl
  have a6 : ij_hW ij_G0.2.2.2 xt .bastore 0 0 (.int x :: .int i :: .ref j :: r) h = some (r, (h.1, ij_ui h.2.1 j i.toNatClampNeg (vp_nar .boolean x), h.2.2)) := by
    unfold ij_hW
    dsimp only
    rw [if_pos (ij_blt hj), hs]
    exact if_neg hin
  refine ⟨m + 1, r1, h1, ?_, hq⟩
  rw [ij_run]
  rw [show ij_G0.1 y = ij_tab y from rfl, hl]
  dsimp only
  rw [a1]; dsimp only
  rw [a2]; dsimp only
  rw [a3]; dsimp only
  rw [a4]; dsimp only
  rw [a5]; dsimp only
  rw [a6]
  exact e
theorem ij_idiv {x z : Int32} (hl : (ij_tab y).lookup pc = some (.idiv, 1, 0, 0, 0)) (hz : ¬ z = 0) (q : ij_R xt y (pc + 1) L (.int (x / z) :: r) h Q) : ij_R xt y pc L (.int z :: .int x :: r) h Q := by
  obtain ⟨m, r1, h1, e, hq⟩ := q
  have a1 : ij_sL .idiv L (.int z :: .int x :: r) = none := rfl
  have a2 : ij_sA .idiv (.int z :: .int x :: r) = some (.int (x / z) :: r) := by
    unfold ij_sA
    dsimp only
    rw [if_neg hz]
  refine ⟨m + 1, r1, h1, ?_, hq⟩
  rw [ij_run]
  rw [show ij_G0.1 y = ij_tab y from rfl, hl]
  dsimp only
  rw [a1]; dsimp only
  rw [a2]
  exact e
theorem ij_irem {x z : Int32} (hl : (ij_tab y).lookup pc = some (.irem, 1, 0, 0, 0)) (hz : ¬ z = 0) (q : ij_R xt y (pc + 1) L (.int (x - x / z * z) :: r) h Q) : ij_R xt y pc L (.int z :: .int x :: r) h Q := by
  obtain ⟨m, r1, h1, e, hq⟩ := q
  have a1 : ij_sL .irem L (.int z :: .int x :: r) = none := rfl
  have a2 : ij_sA .irem (.int z :: .int x :: r) = some (.int (x - x / z * z) :: r) := by
    unfold ij_sA
    dsimp only
    rw [if_neg hz]
  refine ⟨m + 1, r1, h1, ?_, hq⟩
  rw [ij_run]
  rw [show ij_G0.1 y = ij_tab y from rfl, hl]
  dsimp only
  rw [a1]; dsimp only
  rw [a2]
  exact e
theorem ij_ldiv {x z : Int64} (hl : (ij_tab y).lookup pc = some (.ldiv, 1, 0, 0, 0)) (hz : ¬ z = 0) (q : ij_R xt y (pc + 1) L (.long (x / z) :: r) h Q) : ij_R xt y pc L (.long z :: .long x :: r) h Q := by
  obtain ⟨m, r1, h1, e, hq⟩ := q
  have a1 : ij_sL .ldiv L (.long z :: .long x :: r) = none := rfl
  have a2 : ij_sA .ldiv (.long z :: .long x :: r) = none := rfl
  have a3 : ij_bI .ldiv pc (.long z :: .long x :: r) = none := rfl
  have a4 : ij_hR ij_G0.2.2.2 xt .ldiv 0 0 (.long z :: .long x :: r) h = none := rfl
  have a5 : ij_sB .ldiv (.long z :: .long x :: r) = some (.long (x / z) :: r) := by
    unfold ij_sB
    dsimp only
    rw [if_neg hz]
  refine ⟨m + 1, r1, h1, ?_, hq⟩
  rw [ij_run]
  rw [show ij_G0.1 y = ij_tab y from rfl, hl]
  dsimp only
  rw [a1]; dsimp only
  rw [a2]; dsimp only
  rw [a3]; dsimp only
  rw [a4]; dsimp only
  rw [a5]
  exact e
theorem ij_lrem {x z : Int64} (hl : (ij_tab y).lookup pc = some (.lrem, 1, 0, 0, 0)) (hz : ¬ z = 0) (q : ij_R xt y (pc + 1) L (.long (x - x / z * z) :: r) h Q) : ij_R xt y pc L (.long z :: .long x :: r) h Q := by
  obtain ⟨m, r1, h1, e, hq⟩ := q
  have a1 : ij_sL .lrem L (.long z :: .long x :: r) = none := rfl
  have a2 : ij_sA .lrem (.long z :: .long x :: r) = none := rfl
  have a3 : ij_bI .lrem pc (.long z :: .long x :: r) = none := rfl
  have a4 : ij_hR ij_G0.2.2.2 xt .lrem 0 0 (.long z :: .long x :: r) h = none := rfl
  have a5 : ij_sB .lrem (.long z :: .long x :: r) = some (.long (x - x / z * z) :: r) := by
    unfold ij_sB
    dsimp only
    rw [if_neg hz]
  refine ⟨m + 1, r1, h1, ?_, hq⟩
  rw [ij_run]
  rw [show ij_G0.1 y = ij_tab y from rfl, hl]
  dsimp only
  rw [a1]; dsimp only
  rw [a2]; dsimp only
  rw [a3]; dsimp only
  rw [a4]; dsimp only
  rw [a5]
  exact e
theorem ij_xal {f : Nat → Int32} (hl : (ij_tab y).lookup pc = some (.iaload, 1, 0, 0, 0)) (hj : Nat.blt j 1000000 = false) (hs : xt j = some (100, n, f)) (hin : ¬ (i < 0 ∨ n ≤ i.toNatClampNeg)) (q : ij_R xt y (pc + 1) L (.int (f i.toNatClampNeg) :: r) h Q) : ij_R xt y pc L (.int i :: .ref j :: r) h Q := by
  obtain ⟨m, r1, h1, e, hq⟩ := q
  have a1 : ij_sL .iaload L (.int i :: .ref j :: r) = none := rfl
  have a2 : ij_sA .iaload (.int i :: .ref j :: r) = none := rfl
  have a3 : ij_bI .iaload pc (.int i :: .ref j :: r) = none := rfl
  have hj2 : ¬ j < 1000000 := fun q => by
    have : Nat.blt j 1000000 = true := Nat.ble_eq_true_of_le q
    rw [hj] at this
    cases this
  have a4 : ij_hR ij_G0.2.2.2 xt .iaload 0 0 (.int i :: .ref j :: r) h = some (.int (f i.toNatClampNeg) :: r) := by
    unfold ij_hR
    dsimp only
    rw [if_neg hj2, hs]
    exact if_neg hin
  refine ⟨m + 1, r1, h1, ?_, hq⟩
  rw [ij_run]
  rw [show ij_G0.1 y = ij_tab y from rfl, hl]
  dsimp only
  rw [a1]; dsimp only
  rw [a2]; dsimp only
  rw [a3]; dsimp only
  rw [a4]
  exact e
/-- a row of references, at a number -/
theorem ij_aal {x : Int32} {v o kd : Nat} (hl : (ij_tab y).lookup pc = some (.aaload, 1, 0, 0, 0)) (hj : Nat.blt j 1000000 = true) (hs : h.1[j]? = some (kd, n)) (hx : x = Int32.ofNat v) (hr : ij_rv (h.2.2.2 j (Int32.ofNat v).toNatClampNeg) = some (.ref o)) (hk : ¬ (kd < 104 ∨ 106 < kd ∨ Int32.ofNat v < 0 ∨ n ≤ (Int32.ofNat v).toNatClampNeg)) (q : ij_R xt y (pc + 1) L (.ref o :: r) h Q) : ij_R xt y pc L (.int x :: .ref j :: r) h Q := by
  obtain ⟨m, r1, h1, e, hq⟩ := q
  subst hx
  have a1 : ij_sL .aaload L (.int (Int32.ofNat v) :: .ref j :: r) = none := rfl
  have a2 : ij_sA .aaload (.int (Int32.ofNat v) :: .ref j :: r) = none := rfl
  have a3 : ij_bI .aaload pc (.int (Int32.ofNat v) :: .ref j :: r) = none := rfl
  have a4 : ij_hR ij_G0.2.2.2 xt .aaload 0 0 (.int (Int32.ofNat v) :: .ref j :: r) h = some (.ref o :: r) := by
    unfold ij_hR
    dsimp only
    rw [if_pos (ij_blt hj), hs]
    dsimp only
    rw [if_neg hk, hr]
    rfl
  refine ⟨m + 1, r1, h1, ?_, hq⟩
  rw [ij_run]
  rw [show ij_G0.1 y = ij_tab y from rfl, hl]
  dsimp only
  rw [a1]; dsimp only
  rw [a2]; dsimp only
  rw [a3]; dsimp only
  rw [a4]
  exact e
theorem ij_tsg {x : Int32} {d lo hi : Int} {os : Array Int} {len tgt : Nat} (hl : (ij_tab y).lookup pc = some (.tableswitch d lo hi os, len, 0, 0, 0)) (hb : ij_bI (.tableswitch d lo hi os) pc (.int x :: r) = some (tgt, r)) (q : ij_R xt y tgt L r h Q) : ij_R xt y pc L (.int x :: r) h Q := by
  obtain ⟨m, r1, h1, e, hq⟩ := q
  have a1 : ij_sL (.tableswitch d lo hi os) L (.int x :: r) = none := rfl
  have a2 : ij_sA (.tableswitch d lo hi os) (.int x :: r) = none := by
    unfold ij_sA
    split <;> rfl
  refine ⟨m + 1, r1, h1, ?_, hq⟩
  rw [ij_run]
  rw [show ij_G0.1 y = ij_tab y from rfl, hl]
  dsimp only
  rw [a1]; dsimp only
  rw [a2]; dsimp only
  rw [hb]
  exact e
theorem ij_tsw {x v : Int32} {d lo hi : Int} {os : Array Int} {len tgt : Nat} (hl : (ij_tab y).lookup pc = some (.tableswitch d lo hi os, len, 0, 0, 0)) (hx : x = v) (hb : ij_bI (.tableswitch d lo hi os) pc (.int v :: r) = some (tgt, r)) (q : ij_R xt y tgt L r h Q) : ij_R xt y pc L (.int x :: r) h Q := by
  subst hx
  exact ij_tsg hl hb q
theorem ij_tsd {x : Int32} {d lo hi : Int} {os : Array Int} {len tgt : Nat} (hl : (ij_tab y).lookup pc = some (.tableswitch d lo hi os, len, 0, 0, 0)) (hx : x.toInt < lo ∨ hi < x.toInt) (ht : ij_tg pc d = tgt) (q : ij_R xt y tgt L r h Q) : ij_R xt y pc L (.int x :: r) h Q := by
  refine ij_tsg hl ?_ q
  unfold ij_bI
  dsimp only
  rw [if_pos hx, ht]
theorem ij_tsd3 {x v0 v1 v2 : Int32} {d lo hi : Int} {os : Array Int} {len tgt : Nat} (hl : (ij_tab y).lookup pc = some (.tableswitch d lo hi os, len, 0, 0, 0)) (h0 : ¬ x = v0) (h1 : ¬ x = v1) (h2 : ¬ x = v2) (ht : ij_tg pc d = tgt) (e0 : v0.toInt = lo + 0) (e1 : v1.toInt = lo + 1) (e2 : v2.toInt = lo + 2) (eh : hi = lo + 2) (q : ij_R xt y tgt L r h Q) : ij_R xt y pc L (.int x :: r) h Q := by
  refine ij_tsd hl ?_ ht q
  have g : ∀ v : Int32, ¬ x = v → ¬ x.toInt = v.toInt := fun v hv q => hv (Int32.toInt_inj.mp q)
  have g0 := g _ h0; have g1 := g _ h1; have g2 := g _ h2
  omega
theorem ij_tsd4 {x v0 v1 v2 v3 : Int32} {d lo hi : Int} {os : Array Int} {len tgt : Nat} (hl : (ij_tab y).lookup pc = some (.tableswitch d lo hi os, len, 0, 0, 0)) (h0 : ¬ x = v0) (h1 : ¬ x = v1) (h2 : ¬ x = v2) (h3 : ¬ x = v3) (ht : ij_tg pc d = tgt) (e0 : v0.toInt = lo + 0) (e1 : v1.toInt = lo + 1) (e2 : v2.toInt = lo + 2) (e3 : v3.toInt = lo + 3) (eh : hi = lo + 3) (q : ij_R xt y tgt L r h Q) : ij_R xt y pc L (.int x :: r) h Q := by
  refine ij_tsd hl ?_ ht q
  have g : ∀ v : Int32, ¬ x = v → ¬ x.toInt = v.toInt := fun v hv q => hv (Int32.toInt_inj.mp q)
  have g0 := g _ h0; have g1 := g _ h1; have g2 := g _ h2; have g3 := g _ h3
  omega
theorem ij_tsd7 {x v0 v1 v2 v3 v4 v5 v6 : Int32} {d lo hi : Int} {os : Array Int} {len tgt : Nat} (hl : (ij_tab y).lookup pc = some (.tableswitch d lo hi os, len, 0, 0, 0)) (h0 : ¬ x = v0) (h1 : ¬ x = v1) (h2 : ¬ x = v2) (h3 : ¬ x = v3) (h4 : ¬ x = v4) (h5 : ¬ x = v5) (h6 : ¬ x = v6) (ht : ij_tg pc d = tgt) (e0 : v0.toInt = lo + 0) (e1 : v1.toInt = lo + 1) (e2 : v2.toInt = lo + 2) (e3 : v3.toInt = lo + 3) (e4 : v4.toInt = lo + 4) (e5 : v5.toInt = lo + 5) (e6 : v6.toInt = lo + 6) (eh : hi = lo + 6) (q : ij_R xt y tgt L r h Q) : ij_R xt y pc L (.int x :: r) h Q := by
  refine ij_tsd hl ?_ ht q
  have g : ∀ v : Int32, ¬ x = v → ¬ x.toInt = v.toInt := fun v hv q => hv (Int32.toInt_inj.mp q)
  have g0 := g _ h0; have g1 := g _ h1; have g2 := g _ h2; have g3 := g _ h3; have g4 := g _ h4; have g5 := g _ h5; have g6 := g _ h6
  omega
theorem ij_out4 {x : Int32} (h1 : ¬ x < 0) (h2 : x < 4) (g0 : ¬ x = 0) (g1 : ¬ x = 1) (g2 : ¬ x = 2) (g3 : ¬ x = 3) : False := by
  have a := Int32.lt_iff_toInt_lt.mp h2
  have b : (0 : Int) ≤ x.toInt := by simpa using Int32.le_iff_toInt_le.mp (Int32.not_lt.mp h1)
  have g : ∀ v : Int32, ¬ x = v → ¬ x.toInt = v.toInt := fun v hv q => hv (Int32.toInt_inj.mp q)
  have k0 := g _ g0
  have k1 := g _ g1
  have k2 := g _ g2
  have k3 := g _ g3
  simp at a k0 k1 k2 k3
  omega
theorem ij_out3 {x : Int32} (h1 : ¬ x < 0) (h2 : x < 3) (g0 : ¬ x = 0) (g1 : ¬ x = 1) (g2 : ¬ x = 2) : False := by
  have a := Int32.lt_iff_toInt_lt.mp h2
  have b : (0 : Int) ≤ x.toInt := by simpa using Int32.le_iff_toInt_le.mp (Int32.not_lt.mp h1)
  have g : ∀ v : Int32, ¬ x = v → ¬ x.toInt = v.toInt := fun v hv q => hv (Int32.toInt_inj.mp q)
  have k0 := g _ g0
  have k1 := g _ g1
  have k2 := g _ g2
  simp at a k0 k1 k2
  omega
end IJ
/-- Long.bitCount, as its code has it -/
def ij_us (x : Int64) (k : Int32) : Int64 := (x.toUInt64 >>> (k.toInt64.toUInt64 &&& Int64.toUInt64 63)).toInt64
def ij_pc1 (x : Int64) : Int64 := x - (ij_us x 1 &&& Int64.ofNat 6148914691236517205)
def ij_pc2 (x : Int64) : Int64 := (x &&& Int64.ofNat 3689348814741910323) + (ij_us x 2 &&& Int64.ofNat 3689348814741910323)
def ij_pc3 (x : Int64) : Int64 := (x + ij_us x 4) &&& Int64.ofNat 1085102592571150095
def ij_pc4 (x : Int64) (k : Int32) : Int64 := x + ij_us x k
def ij_pc (x : Int64) : Int32 := (ij_pc4 (ij_pc4 (ij_pc4 (ij_pc3 (ij_pc2 (ij_pc1 x))) 8) 16) 32).toInt32 &&& 127
set_option maxRecDepth 10000 in
theorem s_bitCount {xt : ij_X} {hi : Nat → Nat → Int32} {hl : Nat → Nat → Int64} {Q : Option Value → ij_H → Prop} (a0 : Int64) (q : Q (some (.int (ij_pc a0))) (ij_SH, hi, hl, ij_HR)) : ij_R xt 88 0 [some (.long a0), none] [] (ij_SH, hi, hl, ij_HR) Q := by
  refine ij_go 8 10 [some (.long (ij_pc1 a0)), none] [] (ij_SH, hi, hl, ij_HR) (fun n => rfl) ?_
  unfold ij_pc at q
  generalize ij_pc1 a0 = x at q
  refine ij_go 10 24 [some (.long (ij_pc2 x)), none] [] (ij_SH, hi, hl, ij_HR) (fun n => rfl) ?_
  generalize ij_pc2 x = x at q
  refine ij_go 8 34 [some (.long (ij_pc3 x)), none] [] (ij_SH, hi, hl, ij_HR) (fun n => rfl) ?_
  generalize ij_pc3 x = x at q
  refine ij_go 6 41 [some (.long (ij_pc4 x 8)), none] [] (ij_SH, hi, hl, ij_HR) (fun n => rfl) ?_
  generalize ij_pc4 x 8 = x at q
  refine ij_go 6 48 [some (.long (ij_pc4 x 16)), none] [] (ij_SH, hi, hl, ij_HR) (fun n => rfl) ?_
  generalize ij_pc4 x 16 = x at q
  refine ij_go 6 55 [some (.long (ij_pc4 x 32)), none] [] (ij_SH, hi, hl, ij_HR) (fun n => rfl) ?_
  generalize ij_pc4 x 32 = x at q
  exact ij_ret 5 (some (.int (x.toInt32 &&& 127))) (ij_SH, hi, hl, ij_HR) (fun n => rfl) q
