/-! Each row of each method, by a program that the kernel runs. -/
def ij_ts (i : Instr) : Bool := match i with
  | .tableswitch _ _ _ _ => true
  | _ => false
noncomputable def ij_ckR (y : Nat) (i : Instr) (a b : Nat) : Bool := match i with
  | .getfield idx => decide ((ij_ow y, idx, a, b) ∈ ij_fl) || (Nat.beq (ij_ow y) 14 && Nat.beq a 114 && ((Nat.beq b 0 && Nat.beq idx 9) || (Nat.beq b 1 && Nat.beq idx 15)))
  | .getstatic idx => (decide ((ij_ow y, idx, a) ∈ ij_gs) && Nat.blt 0 a && Nat.blt a 5) || (Nat.beq (ij_ow y) 4 && Nat.beq idx 24 && Nat.beq a 0)
  | .ldc idx => (Nat.beq a 0 && decide ((ij_ow y, idx, b) ∈ ij_co)) || (Nat.beq a 1 && ij_st.any (fun q => Nat.beq q.1 (ij_ow y) && Nat.beq q.2.1 idx && Nat.beq q.2.2.2 b))
  | .ldc_w idx => decide ((ij_ow y, idx, b) ∈ ij_co)
  | .ldc2_w idx => decide ((ij_ow y, idx, b) ∈ ij_c2)
  | .invokespecial idx => !(Nat.beq a 999999) || (decide ((ij_ow y, idx) ∈ ij_oi) && Nat.ble 1 (ij_fr y) && Nat.ble 20 (ij_lo y))
  | _ => true
noncomputable def ij_ckW (y : Nat) (i : Instr) (a b : Nat) : Bool := match i with
  | .putfield idx => decide ((ij_ow y, idx, a, b) ∈ ij_fl) && Nat.blt a 12 && Nat.blt b (ij_nf a) && (!(ij_tx a b).2.2.2 || (((ij_nm y).name == "<init>") && ((ij_tx a b).1 == (ij_nm y).cls)))
  | .newarray t => !(Nat.beq (ij_akind t) 0)
  | .anewarray idx => decide ((ij_ow y, idx, ij_ecl a) ∈ ij_cc)
  | .new idx => Nat.blt a 12 && Nat.beq b (ij_nf a) && decide ((ij_ow y, idx, a) ∈ ij_cc)
  | .invokestatic idx => !(Nat.beq a 999998) || (decide ((ij_ow y, idx) ∈ ij_ac) && Nat.ble 1 (ij_fr y) && Nat.ble 26 (ij_lo y))
  | _ => true
noncomputable def ij_ckB (y a b : Nat) : Bool := Nat.blt a 361 && (Nat.blt 0 (ij_mk a) && Nat.blt (ij_mk a) 4) && !((ij_nm a).cls == "java/lang/invoke/MethodHandle") && !((ij_nm a).cls == "java/lang/invoke/VarHandle") && decide ((parseMethodDescriptor (ij_nm a).desc).map (fun d => d.parameters.length) = some b) && Nat.ble (ij_fr a + 1) (ij_fr y) && Nat.ble (8 + (ij_ml a + 11) + ij_lo a) (ij_lo y)
noncomputable def ij_ckC (y : Nat) (i : Instr) (a b c : Nat) : Bool := match i with
  | .invokevirtual idx => Nat.blt c 10 || (ij_ckB y a b && decide ((ij_ow y, idx, a) ∈ ij_kl) && Nat.beq (ij_mk a) 3 && ((ij_nm a).cls == (if c = 30 then "java/lang/String" else ij_cn (c - 10))))
  | .invokestatic idx => (!(Nat.beq c 1) || (ij_ckB y a b && decide ((ij_ow y, idx, a) ∈ ij_kl) && Nat.beq (ij_mk a) 1)) && (!(Nat.beq c 4) || (ij_ckB y a b && decide ((ij_ow y, idx, a) ∈ ij_kn) && Nat.beq (ij_mk a) 1))
  | .invokespecial idx => (!(Nat.beq c 2) || (ij_ckB y a b && decide ((ij_ow y, idx, a) ∈ ij_kl) && (Nat.beq (ij_mk a) 2 || Nat.beq (ij_mk a) 3) && ((ij_nm a).name == "<init>") && (ij_rt a).isNone)) && (!(Nat.beq c 3) || (ij_ckB y a b && decide ((ij_ow y, idx, a) ∈ ij_kn) && (Nat.beq (ij_mk a) 2 || Nat.beq (ij_mk a) 3) && ((ij_nm a).name == "<init>") && (ij_rt a).isNone))
  | _ => true
noncomputable def ij_ck (y : Nat) (q : Nat × ij_E) : Bool := (Nat.beq q.2.2.1 (ij_len q.2.1) || ij_ts q.2.1) && ij_jok q.1 q.2.1 && ij_ckR y q.2.1 q.2.2.2.1 q.2.2.2.2.1 && ij_ckW y q.2.1 q.2.2.2.1 q.2.2.2.2.1 && ij_ckC y q.2.1 q.2.2.2.1 q.2.2.2.2.1 q.2.2.2.2.2
theorem ij_beq {a b : Nat} (h : Nat.beq a b = true) : a = b := Nat.eq_of_beq_eq_true h
theorem ij_blt {a b : Nat} (h : Nat.blt a b = true) : a < b := Nat.le_of_ble_eq_true h
theorem ij_ble {a b : Nat} (h : Nat.ble a b = true) : a ≤ b := Nat.le_of_ble_eq_true h
theorem ij_ms_in (k : Nat) {w : Cond} (h : ij_ms[k]? = some w) : w ∈ ij_gw := ij_msw w (List.mem_of_getElem? h)
theorem ij_fl_ok : ∀ q ∈ ij_fl, q.2.2.1 < 12 ∧ q.2.2.2 < ij_nf q.2.2.1 := by decide +kernel
theorem ij_ckR_ok {y : Nat} {i : Instr} {a b : Nat} (h : ij_ckR y i a b = true) : ij_okR ij_X0 ij_gw ij_n1 ij_sr (ij_nm y).cls (ij_room ij_Z0 y 0 0) i a b := by
  unfold ij_ckR at h
  unfold ij_okR
  cases i <;> first | exact True.intro | skip
  · next idx =>
    dsimp only at h
    simp only [Bool.or_eq_true, Bool.and_eq_true, decide_eq_true_eq] at h
    rcases h with h | ⟨⟨h1, h2⟩, ⟨h3, h4⟩ | ⟨h3, h4⟩⟩
    · exact Or.inl ⟨(ij_fl_ok _ h).1, (ij_fl_ok _ h).2, ij_flw _ h⟩
    · refine Or.inr (Or.inl ⟨ij_beq h2, ij_beq h3, ?_⟩)
      show Cond.fieldLink (ij_cn (ij_ow y)) idx _ _ _ ∈ ij_gw
      rw [ij_beq h1, ij_beq h4]
      exact ij_ms_in 5 rfl
    · refine Or.inr (Or.inr ⟨ij_beq h2, ij_beq h3, ?_⟩)
      show Cond.fieldLink (ij_cn (ij_ow y)) idx _ _ _ ∈ ij_gw
      rw [ij_beq h1, ij_beq h4]
      exact ij_ms_in 6 rfl
  · next idx =>
    dsimp only at h
    simp only [Bool.or_eq_true, Bool.and_eq_true, decide_eq_true_eq] at h
    rcases h with ⟨⟨h1, h2⟩, h3⟩ | ⟨⟨h1, h2⟩, h3⟩
    · have g2 := ij_blt h2
      have g3 := ij_blt h3
      have hw := ij_gsW _ h1
      have : a = 1 ∨ a = 2 ∨ a = 3 ∨ a = 4 := by omega
      rcases this with rfl | rfl | rfl | rfl
      · exact Or.inl ⟨by omega, Or.inl hw⟩
      · exact Or.inl ⟨by omega, Or.inl hw⟩
      · exact Or.inr (Or.inl ⟨rfl, hw⟩)
      · exact Or.inr (Or.inr ⟨rfl, hw⟩)
    · cases ij_beq h3
      refine Or.inl ⟨by omega, Or.inr ⟨"ScaleForge", ?_⟩⟩
      show (ij_cn (ij_ow y), idx, _, _, _, _) ∈ ij_n1
      rw [ij_beq h1, ij_beq h2]
      exact List.mem_singleton.mpr rfl
  · next idx =>
    dsimp only at h ⊢
    intro ha
    simp only [Bool.or_eq_true, Bool.and_eq_true, decide_eq_true_eq, Bool.not_eq_true'] at h
    rcases h with h | ⟨⟨h1, h2⟩, h3⟩
    · rw [ha] at h; cases h
    · exact ⟨ij_oiw _ h1, ij_ms_in 0 rfl, ij_ms_in 1 rfl, ij_ble h2, ij_ble h3⟩
  · next idx =>
    dsimp only at h
    simp only [Bool.or_eq_true, Bool.and_eq_true, decide_eq_true_eq] at h
    rcases h with ⟨h1, h2⟩ | ⟨h1, h2⟩
    · exact Or.inl ⟨ij_beq h1, ij_cow _ h2⟩
    · obtain ⟨q, hq, h3⟩ := List.any_eq_true.mp h2
      simp only [Bool.and_eq_true] at h3
      refine Or.inr ⟨ij_beq h1, q.2.2.1, List.mem_map.mpr ⟨q, hq, ?_⟩⟩
      rw [ij_beq h3.1.1, ij_beq h3.1.2, ij_beq h3.2]
      rfl
  · next idx => exact ij_cow _ (of_decide_eq_true h)
  · next idx => exact ij_c2w _ (of_decide_eq_true h)
theorem ij_iw1 {k : Nat} (hk : k < 12) : Cond.instantiable (ij_cn k) (ij_nf k) ∈ ij_gw := ij_iw _ (List.mem_append_left _ (List.mem_map.mpr ⟨k, List.mem_range.mpr hk, rfl⟩))
theorem ij_iw2 {k : Nat} (hk : k < 12) : Cond.initialized (ij_cn k) ∈ ij_gw := ij_iw _ (List.mem_append_right _ (List.mem_map.mpr ⟨k, List.mem_range.mpr hk, rfl⟩))
theorem ij_ckW_ok {y : Nat} {i : Instr} {a b : Nat} (h : ij_ckW y i a b = true) : ij_okW ij_X0 ij_gw (ij_nm y).cls ((ij_nm y).name = "<init>") (ij_room ij_Z0 y 0 0) i a b := by
  unfold ij_ckW at h
  unfold ij_okW
  cases i <;> first | exact True.intro | skip
  · next idx => exact ij_ccw _ (of_decide_eq_true h)
  · next idx =>
    dsimp only at h ⊢
    intro ha
    simp only [Bool.or_eq_true, Bool.and_eq_true, decide_eq_true_eq, Bool.not_eq_true'] at h
    rcases h with h | ⟨⟨h1, h2⟩, h3⟩
    · rw [ha] at h; cases h
    · exact ⟨ij_acw _ h1, ij_ms_in 2 rfl, ij_ms_in 3 rfl, ij_ms_in 4 rfl, ij_ble h2, ij_ble h3⟩
  · next idx =>
    dsimp only at h
    simp only [Bool.and_eq_true, decide_eq_true_eq] at h
    obtain ⟨⟨h1, h2⟩, h3⟩ := h
    exact ⟨ij_blt h1, ij_beq h2, ij_ccw _ h3, ij_iw1 (ij_blt h1), ij_iw2 (ij_blt h1)⟩
  · next t =>
    cases t <;> first | (exact ij_ms_in 7 rfl) | (exact ij_ms_in 8 rfl) | (exact ij_ms_in 9 rfl) | (exact ij_ms_in 10 rfl) | (exfalso; simp [ij_akind] at h)
  · next idx =>
    dsimp only at h
    simp only [Bool.and_eq_true, decide_eq_true_eq, Bool.or_eq_true, Bool.not_eq_true', beq_iff_eq] at h
    obtain ⟨⟨⟨h1, h2⟩, h3⟩, h4⟩ := h
    refine ⟨ij_blt h2, ij_blt h3, ij_flw _ h1, ?_⟩
    rcases h4 with h4 | ⟨h4, h5⟩
    · exact Or.inl h4
    · rcases Bool.eq_false_or_eq_true ((ij_tx a b).2.2.2) with hf | hf
      · exact Or.inr ⟨hf, h4, h5⟩
      · exact Or.inl hf
theorem ij_ckB_ok {y a b : Nat} (h : ij_ckB y a b = true) : ij_okB ij_G0 ij_Z0 ij_gw y a b ∧ a < 361 := by
  unfold ij_ckB at h
  simp only [Bool.and_eq_true, decide_eq_true_eq, Bool.not_eq_true', beq_eq_false_iff_ne] at h
  obtain ⟨⟨⟨⟨⟨⟨h1, h01, h02⟩, h2⟩, h3⟩, h4⟩, h5⟩, h6⟩ := h
  have ha := ij_blt h1
  have k1 := ij_blt h01
  have k2 := ij_blt h02
  refine ⟨⟨?_, ?_, ij_cdw a ha, ⟨h2, h3, h4⟩, ij_ble h5, ij_ble h6⟩, ha⟩
  · show a < 362
    omega
  · refine ij_mww a (by omega) _ ?_
    have : ij_mk a = 1 ∨ ij_mk a = 2 ∨ ij_mk a = 3 := by omega
    unfold ij_mw
    rcases this with hk | hk | hk <;> (rw [hk]; exact List.mem_cons_self)
theorem ij_ckC_ok {y : Nat} {i : Instr} {a b c : Nat} (h : ij_ckC y i a b c = true) : ij_okC ij_G0 ij_Z0 ij_X0 ij_gw ij_n2 y i a b c := by
  have hmw : ∀ {a : Nat}, a < 361 → ∀ w ∈ ij_mw a, w ∈ ij_gw := fun h => ij_mww _ (by omega)
  have m3 : ∀ {a : Nat}, a < 361 → Nat.beq (ij_mk a) 3 = true → Cond.instanceMethod (ij_nm a) ∈ ij_gw ∧ Cond.selects (ij_nm a).cls (ij_nm a) (ij_nm a) ∈ ij_gw := by
    intro a ha hk
    have hk := ij_beq hk
    refine ⟨hmw ha _ ?_, hmw ha _ ?_⟩ <;> (unfold ij_mw; rw [hk]; simp)
  have m1 : ∀ {a : Nat}, a < 361 → Nat.beq (ij_mk a) 1 = true → Cond.static (ij_nm a) ∈ ij_gw := by
    intro a ha hk
    have hk := ij_beq hk
    refine hmw ha _ ?_
    unfold ij_mw; rw [hk]; simp
  have m2 : ∀ {a : Nat}, a < 361 → Nat.beq (ij_mk a) 2 = true ∨ Nat.beq (ij_mk a) 3 = true → Cond.instanceMethod (ij_nm a) ∈ ij_gw := by
    intro a ha hk
    refine hmw ha _ ?_
    rcases hk with hk | hk <;> (have hk := ij_beq hk; unfold ij_mw; rw [hk]; simp)
  unfold ij_ckC at h
  unfold ij_okC
  cases i <;> first | exact True.intro | skip
  · next idx =>
    dsimp only at h ⊢
    simp only [Bool.or_eq_true, Bool.and_eq_true, decide_eq_true_eq, Bool.not_eq_true'] at h
    obtain ⟨h1, h2⟩ := h
    refine ⟨fun hc => ?_, fun hc => ?_⟩
    · subst hc
      rcases h1 with q | ⟨⟨⟨⟨g1, g2⟩, g3⟩, g4⟩, g5⟩
      · cases q
      · obtain ⟨k1, k2⟩ := ij_ckB_ok g1
        exact ⟨k1, ij_klw _ g2, m2 k2 g3, by simpa using g4, by simpa using g5⟩
    · subst hc
      rcases h2 with q | ⟨⟨⟨⟨g1, g2⟩, g3⟩, g4⟩, g5⟩
      · cases q
      · obtain ⟨k1, k2⟩ := ij_ckB_ok g1
        exact ⟨k1, m2 k2 g3, by simpa using g4, by simpa using g5, "ScaleForge", List.mem_map.mpr ⟨_, g2, rfl⟩⟩
  · next idx =>
    dsimp only at h ⊢
    simp only [Bool.or_eq_true, Bool.and_eq_true, decide_eq_true_eq, Bool.not_eq_true'] at h
    obtain ⟨h1, h2⟩ := h
    refine ⟨fun hc => ?_, fun hc => ?_⟩
    · subst hc
      rcases h1 with q | ⟨⟨g1, g2⟩, g3⟩
      · cases q
      · obtain ⟨k1, k2⟩ := ij_ckB_ok g1
        exact ⟨k1, ij_klw _ g2, m1 k2 g3⟩
    · subst hc
      rcases h2 with q | ⟨⟨g1, g2⟩, g3⟩
      · cases q
      · obtain ⟨k1, k2⟩ := ij_ckB_ok g1
        exact ⟨k1, m1 k2 g3, "ScaleForge", List.mem_map.mpr ⟨_, g2, rfl⟩⟩
  · next idx =>
    dsimp only at h ⊢
    intro hc
    simp only [Bool.or_eq_true, Bool.and_eq_true, decide_eq_true_eq] at h
    rcases h with h | ⟨⟨⟨g1, g2⟩, g3⟩, g4⟩
    · have := ij_blt h; omega
    · obtain ⟨k1, k2⟩ := ij_ckB_ok g1
      obtain ⟨k3, k4⟩ := m3 k2 g3
      exact ⟨k1, ij_klw _ g2, k3, k4, by simpa using g4⟩
noncomputable def ij_dk (y : Nat) : Bool := (ij_tab y).all (fun q => decide (decode (ij_bt y) q.1 = .ok (q.2.1, q.2.2.1)))
noncomputable def ij_yk (y : Nat) : Bool := plainFor (ij_nm y) && (ij_tab y).all (ij_ck y)
def ij_rkk (k : Nat) : Option FieldType → Bool := match k with
  | 0 => fun t => match t with
    | none => true
    | _ => false
  | 1 => fun t => match t with
    | some .int => true
    | _ => false
  | 2 => fun t => match t with
    | some .long => true
    | _ => false
  | 3 => fun t => match t with
    | some .boolean => true
    | _ => false
  | 4 => fun t => match t with
    | some .byte => true
    | _ => false
  | 5 => fun t => match t with
    | some .char => true
    | _ => false
  | _ => fun t => match t with
    | some (.object _) => true
    | _ => false
theorem ij_rkk_ok {k : Nat} {t : Option FieldType} (h : ij_rkk k t = true) : ij_rok t k := by
  unfold ij_rkk at h
  unfold ij_rok
  split at h
  all_goals (dsimp only at h ⊢; split at h <;> first | (cases h; done) | rfl | exact ⟨_, rfl, Or.inl ⟨_, rfl⟩⟩ | (split <;> first | (exfalso; next h0 h1 h2 h3 h4 h5 _ => first | exact h0 rfl | exact h1 rfl | exact h2 rfl | exact h3 rfl | exact h4 rfl | exact h5 rfl) | (exfalso; simp_all; done) | exact ⟨_, rfl, Or.inl ⟨_, rfl⟩⟩))
