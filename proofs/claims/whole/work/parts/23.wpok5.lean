def iq_isA (i : Instr) : Bool := match i with
  | .iadd => true
  | .isub => true
  | .imul => true
  | .iand => true
  | .ior => true
  | .ixor => true
  | .idiv => true
  | .irem => true
  | .ishl => true
  | .ishr => true
  | _ => false
theorem iq_nA {i : Instr} {st : List Value} (h : iq_isA i = false) : ij_sA i st = none := by
  unfold ij_sA
  split
  · split
    all_goals first
      | rfl
      | (simp [iq_isA] at h; done)
  · rfl
theorem iq_nW {xt : ij_X} {k a b : Nat} {st : List Value} {h : ij_H} (ha : ¬ a = 999998) : ij_hW ij_tt xt (.invokestatic k) a b st h = none := by
  unfold ij_hW
  dsimp only
  split
  · exact (ha rfl).elim
  · rfl
theorem iq_nR {xt : ij_X} {k a b : Nat} {st : List Value} {h : ij_H} (ha : ¬ a = 999999) : ij_hR ij_tt xt (.invokespecial k) a b st h = none := by
  unfold ij_hR
  dsimp only
  split
  · exact (ha rfl).elim
  · rfl
/-! A stretch: if what is asked of it holds, it ends well. -/
theorem iq_nm (L : iq_LV) : iq_ll (L.map iq_nv) = iq_ll L := by
  unfold iq_ll
  rw [List.map_map]
  refine List.map_congr_left (fun v _ => ?_)
  rcases v with _ | (x | x) <;> rfl
theorem iq_Pn {N : Nat} {xs : Nat → Int32} {y pc : Nat} {L : iq_LV} {st : List iq_V} {g : iq_I} {l : iq_J} {Q : iq_T} (h : iq_P N xs y pc (L.map iq_nv) st g l Q) : iq_P N xs y pc L st g l Q := by
  unfold iq_P at h ⊢
  rw [iq_nm] at h
  exact h
theorem iq_wb_ok {N : Nat} {xs : Nat → Int32} {y : Nat} {Q : iq_T} {K : iq_K} {pc : Nat} {L : iq_LV} {st : List iq_V} {g : iq_I} {l : iq_J} (hK : ∀ pc L st g l, K pc L st g l → iq_P N xs y pc L st g l Q) (h : iq_wb N xs y Q K pc L st g l) : iq_P N xs y pc L st g l Q := by
  unfold iq_wb at h
  split at h
  · exact h.elim
  · next i len a b c hk =>
    split at h
    · -- 0
      next hkd =>
      split at h
      · next q hq => exact iq_e0 hk (iq_sL_ok hq) (hK _ _ _ _ _ h)
      · exact h.elim
    · next hkd =>
      split at h
      · next q hq =>
        have h0 : ij_sL i (iq_ll L) (st.map iq_lv) = none := by
          unfold iq_kd at hkd
          split at hkd
          all_goals first
            | rfl
            | cases hkd
        exact iq_e1 hk h0 (iq_sA_ok hq) (hK _ _ _ _ _ h)
      · exact h.elim
    · next hkd =>
      have h0 : ij_sL i (iq_ll L) (st.map iq_lv) = none := by
        unfold iq_kd at hkd
        split at hkd
        all_goals first
          | rfl
          | cases hkd
      obtain ⟨q, h1, h2⟩ := iq_sD_ok h
      exact iq_e1 hk h0 h2 (hK _ _ _ _ _ h1)
    · next hkd =>
      split at h
      · next q hq =>
        have hq' := iq_sB_ok hq
        unfold iq_sB at hq
        split at hq
        all_goals first
          | exact iq_e4 hk rfl (iq_nA rfl) rfl rfl hq' (hK _ _ _ _ _ h)
          | cases hq
      · exact h.elim
    · next hkd =>
      obtain ⟨q, h1, h2⟩ := iq_sE_ok h
      unfold iq_sE at h
      split at h
      · obtain ⟨-, h⟩ := h
        split at h
        · exact iq_e4 hk rfl (iq_nA rfl) rfl rfl h2 (hK _ _ _ _ _ h1)
        · exact iq_e4 hk rfl (iq_nA rfl) rfl rfl h2 (hK _ _ _ _ _ h1)
        · exact h.elim
      · exact h.elim
    · next hkd =>
      obtain ⟨t, q, h1, h2⟩ := iq_sJ_ok h
      unfold iq_sJ at h
      split at h
      all_goals first
        | exact iq_e2 hk rfl (iq_nA rfl) h2 (hK _ _ _ _ _ h1)
        | exact h.elim
    · next hkd =>
      obtain ⟨q, h1, h2⟩ := iq_hR_ok h
      unfold iq_hR at h
      split at h
      all_goals first
        | exact iq_e3 hk rfl (iq_nA rfl) rfl h2 (hK _ _ _ _ _ h1)
        | exact h.elim
    · next hkd =>
      obtain ⟨q, g', l', h1, h2⟩ := iq_hW_ok h
      unfold iq_hW at h
      split at h
      all_goals first
        | exact iq_e5 hk rfl (iq_nA rfl) rfl rfl rfl h2 (hK _ _ _ _ _ h1)
        | exact h.elim
    · next hkd =>
      obtain ⟨r, h1, h2⟩ := iq_sR_ok h
      unfold iq_sR at h
      split at h
      all_goals first
        | exact iq_e6 hk rfl (iq_nA rfl) rfl rfl rfl rfl h2 ⟨_, _, _, rfl, rfl, h1⟩
        | exact h.elim
    · rcases iq_bif h with ⟨ha, h⟩ | ⟨ha, h⟩
      · have ha : a = 999998 := by simpa using ha
        subst ha
        split at h
        · obtain ⟨q, g', l', h1, h2⟩ := iq_ac_ok h
          exact iq_e5 hk rfl (iq_nA rfl) rfl rfl rfl h2 (hK _ _ _ _ _ h1)
        · exact h.elim
      · have ha : ¬ a = 999998 := fun e => by rw [e] at ha; cases ha
        obtain ⟨ha2, h⟩ := iq_bg h
        have ha2 : ¬ a = 999999 := fun e => by rw [e] at ha2; cases ha2
        obtain ⟨as, r, h1, h2⟩ := iq_cl_ok (g := g) (l := l) h
        obtain ⟨h3, h4⟩ := iq_bf h1
        have h3 : (iq_en as).length ≤ ij_ml a := by simpa using h3
        have h5 := iq_entry_ok h3
        have k : ij_R (ij_xt N xs) a 0 (iq_ll (iq_entry (ij_ml a) as)) [] (iq_hp g l) (fun v h' => ij_R (ij_xt N xs) y (pc + 3) (iq_ll L) (v.toList ++ r.map iq_lv) h' (fun r h => ∃ r' g' l', r = r'.map iq_lv ∧ h = iq_hp g' l' ∧ Q r' g' l')) := by
          obtain ⟨n, v, h', e, v', g', l', e1, e2, h6⟩ := h4
          refine ⟨n, v, h', e, ?_⟩
          subst e1 e2
          unfold iq_rt at h6
          split at h6
          · obtain ⟨rfl, h6⟩ := h6
            exact hK _ _ _ _ _ h6
          · obtain ⟨x, rfl, h6⟩ := h6
            exact hK _ _ _ _ _ h6
          · have h7 : iq_P N xs y (pc + 3) L (v'.toList ++ r) g' l' Q := iq_Pn h6
            unfold iq_P at h7
            rw [List.map_append] at h7
            cases v' <;> exact h7
          · obtain ⟨x, rfl, h6⟩ := h6
            exact hK _ _ _ _ _ h6
        unfold iq_cl at h
        split at h
        · exact iq_e7 hk rfl (iq_nA rfl) rfl rfl rfl rfl rfl h2 h5 k
        · exact iq_e7 hk rfl (iq_nA rfl) rfl rfl rfl (iq_nW ha) rfl h2 h5 k
        · exact iq_e7 hk rfl (iq_nA rfl) rfl (iq_nR ha2) rfl rfl rfl h2 h5 k
        · exact h.elim
theorem iq_w_ok {N : Nat} {xs : Nat → Int32} {cuts : List Nat} {y : Nat} {Q : iq_T} : ∀ (k pc : Nat) (L : iq_LV) (st : List iq_V) (g : iq_I) (l : iq_J), iq_w N xs cuts y Q k pc L st g l → iq_P N xs y pc L st g l Q := by
  intro k
  induction k with
  | zero => intro pc L st g l h; exact h.elim
  | succ k ih =>
    intro pc L st g l h
    refine iq_wb_ok (K := fun pc L st g l => bif cuts.elem pc then iq_P N xs y pc (L.map iq_nv) st g l Q else iq_w N xs cuts y Q k pc L st g l) ?_ h
    intro pc L st g l h
    rcases iq_bif h with ⟨-, h⟩ | ⟨-, h⟩
    · exact iq_Pn h
    · exact ih _ _ _ _ _ h
