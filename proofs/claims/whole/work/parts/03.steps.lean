/-! One step of the small machine is a step of the machine: locals, the stack, jumps. -/
abbrev ij_B : Type := Nat × (Nat → Nat) × Value
def ij_ad (B : ij_B) (k : Nat) : Nat := if k < 1000000 then B.1 + k else B.2.1 k
def ij_cv (B : ij_B) (v : Value) : Value := match v with
  | .ref k => if k = 1999999 then B.2.2 else .ref (ij_ad B k)
  | v => v
theorem ij_cv_ref (B : ij_B) {k : Nat} (h : ¬ k = 1999999) : ij_cv B (.ref k) = .ref (ij_ad B k) := if_neg h
theorem ij_ad_lt (B : ij_B) {k : Nat} (h : k < 1000000) : ij_ad B k = B.1 + k := if_pos h
theorem ij_ad_ge (B : ij_B) {k : Nat} (h : ¬ k < 1000000) : ij_ad B k = B.2.1 k := if_neg h
theorem ij_cv_cell (B : ij_B) {k : Nat} (h : k < 1000000) : ij_cv B (.ref k) = .ref (B.1 + k) := by
  rw [ij_cv_ref B (by omega), ij_ad_lt B h]
theorem ij_cv_out (B : ij_B) {k : Nat} (h : ¬ k < 1000000) (h2 : ¬ k = 1999999) : ij_cv B (.ref k) = .ref (B.2.1 k) := by
  rw [ij_cv_ref B h2, ij_ad_ge B h]
theorem ij_cv_cat (B : ij_B) (hB : B.2.2.category = 1) (v : Value) : (ij_cv B v).category = v.category := by
  cases v with
  | ref k =>
    by_cases h : k = 1999999
    · subst h; exact hB
    · rw [ij_cv_ref B h]; rfl
  | _ => rfl
theorem ij_cv_sum (B : ij_B) (hB : B.2.2.category = 1) (st : List Value) : ((st.map (ij_cv B)).map fun v => v.category).sum = (st.map fun v => v.category).sum := by
  induction st with
  | nil => rfl
  | cons v t ih => simp only [List.map_cons, List.sum_cons, ih, ij_cv_cat B hB]
/-! locals -/
def ij_al (B : ij_B) (L : ij_L) : List (Nat × Value) := (List.range L.length).filterMap (fun i => (L[i]?.join).map (fun v => (i, ij_cv B v)))
theorem ij_al_mem {B : ij_B} {L : ij_L} {q : Nat × Value} : q ∈ ij_al B L ↔ ∃ v, L[q.1]? = some (some v) ∧ q.2 = ij_cv B v := by
  constructor
  · intro h
    obtain ⟨i, -, hi⟩ := List.mem_filterMap.mp h
    obtain ⟨v, hv, rfl⟩ := Option.map_eq_some_iff.mp hi
    exact ⟨v, Option.join_eq_some_iff.mp hv, rfl⟩
  · rintro ⟨v, hv, e⟩
    refine List.mem_filterMap.mpr ⟨q.1, List.mem_range.mpr (List.getElem?_eq_some_iff.mp hv).1, ?_⟩
    rw [hv]
    show some (q.1, ij_cv B v) = some q
    rw [← e]
def ij_LH (B : ij_B) (ls : Array Slot) (nL : Nat) (L : ij_L) : Prop := L.length = nL ∧ lv_has ls nL (ij_al B L)
theorem ij_LH.at {B : ij_B} {ls : Array Slot} {nL : Nat} {L : ij_L} (h : ij_LH B ls nL L) {i : Nat} {v : Value} (hv : L[i]? = some (some v)) : ls[i]? = some (.val (ij_cv B v)) :=
  h.2.2.2 (i, ij_cv B v) (ij_al_mem.mpr ⟨v, hv, rfl⟩)
theorem ij_kill_len (L : ij_L) (i : Nat) : (ij_kill L i).length = L.length := by
  unfold ij_kill
  split
  · rfl
  · split <;> simp
theorem ij_kill_spec {L : ij_L} {i j : Nat} {w : Value} (h : (ij_kill L i)[j]? = some (some w)) : L[j]? = some (some w) ∧ ¬ (j + 1 = i ∧ w.category = 2) := by
  unfold ij_kill at h
  split at h
  · exact ⟨h, fun q => by omega⟩
  · next j' =>
    split at h
    · next x hx =>
      rw [List.getElem?_set] at h
      split at h
      · split at h <;> cases h
      · next hne => exact ⟨h, fun q => hne (by omega)⟩
    · next x hx =>
      rw [List.getElem?_set] at h
      split at h
      · split at h <;> cases h
      · next hne => exact ⟨h, fun q => hne (by omega)⟩
    · next h1 h2 =>
      refine ⟨h, fun q => ?_⟩
      obtain ⟨q1, q2⟩ := q
      have e : j = j' := by omega
      subst e
      cases w with
      | long x => exact h1 x h
      | double x => exact h2 x h
      | _ => simp [Value.category] at q2
theorem ij_LH.st1 {B : ij_B} (hB : B.2.2.category = 1) {ls' : Array Slot} {nL i : Nat} {L L' : ij_L} {v : Value} (hL : L.length = nL) (hs : ij_st1 L i v = some L')
    (h : lv_has ls' nL ((i, ij_cv B v) :: (ij_al B L).filter (fun q => !(q.1 == i) && !(q.1 + 1 == i && q.2.category == 2)))) : ij_LH B ls' nL L' := by
  unfold ij_st1 at hs
  split at hs
  · next hi =>
    cases hs
    refine ⟨by simp [ij_kill_len, hL], h.1, h.2.1, fun q hq => h.2.2 q ?_⟩
    obtain ⟨w, hw, e⟩ := ij_al_mem.mp hq
    rw [List.getElem?_set] at hw
    split at hw
    · next hqi =>
      split at hw
      · cases hw
        have : q = (i, ij_cv B v) := by rw [hqi, ← e]
        rw [this]; exact List.mem_cons_self
      · cases hw
    · next hne =>
      obtain ⟨g1, g2⟩ := ij_kill_spec hw
      refine List.mem_cons_of_mem _ (List.mem_filter.mpr ⟨ij_al_mem.mpr ⟨w, g1, e⟩, ?_⟩)
      rw [e, ij_cv_cat B hB]
      simp only [Bool.and_eq_true, Bool.not_eq_true', beq_eq_false_iff_ne, ne_eq, Bool.and_eq_false_iff]
      refine ⟨fun q => hne q.symm, ?_⟩
      by_cases g3 : q.1 + 1 = i
      · exact Or.inr (fun g4 => g2 ⟨g3, g4⟩)
      · exact Or.inl g3
  · cases hs
theorem ij_LH.st2 {B : ij_B} (hB : B.2.2.category = 1) {ls' : Array Slot} {nL i : Nat} {L L' : ij_L} {v : Value} (hL : L.length = nL) (hs : ij_st2 L i v = some L')
    (h : lv_has ls' nL ((i, ij_cv B v) :: (ij_al B L).filter (fun q => !(q.1 == i) && (!(q.1 == i + 1) && !(q.1 + 1 == i && q.2.category == 2))))) : ij_LH B ls' nL L' := by
  unfold ij_st2 at hs
  split at hs
  · next hi =>
    cases hs
    refine ⟨by simp [ij_kill_len, hL], h.1, h.2.1, fun q hq => h.2.2 q ?_⟩
    obtain ⟨w, hw, e⟩ := ij_al_mem.mp hq
    rw [List.getElem?_set] at hw
    split at hw
    · next hqi =>
      split at hw
      · cases hw
        have : q = (i, ij_cv B v) := by rw [hqi, ← e]
        rw [this]; exact List.mem_cons_self
      · cases hw
    · next hne =>
      rw [List.getElem?_set] at hw
      split at hw
      · split at hw <;> cases hw
      · next hne2 =>
        obtain ⟨g1, g2⟩ := ij_kill_spec hw
        refine List.mem_cons_of_mem _ (List.mem_filter.mpr ⟨ij_al_mem.mpr ⟨w, g1, e⟩, ?_⟩)
        rw [e, ij_cv_cat B hB]
        simp only [Bool.and_eq_true, Bool.not_eq_true', beq_eq_false_iff_ne, ne_eq, Bool.and_eq_false_iff]
        refine ⟨fun q => hne q.symm, fun q => hne2 q.symm, ?_⟩
        by_cases g3 : q.1 + 1 = i
        · exact Or.inr (fun g4 => g2 ⟨g3, g4⟩)
        · exact Or.inl g3
  · cases hs
theorem ij_st1_lt {L L' : ij_L} {i : Nat} {v : Value} (hs : ij_st1 L i v = some L') : i < L.length := by
  unfold ij_st1 at hs
  split at hs
  · next h => exact h
  · cases hs
theorem ij_st2_lt {L L' : ij_L} {i : Nat} {v : Value} (hs : ij_st2 L i v = some L') : i + 1 < L.length := by
  unfold ij_st2 at hs
  split at hs
  · next h => exact h
  · cases hs
theorem ij_ent_cons (v : Value) (r : List Value) : ij_ent (v :: r) = if v.category = 2 then some v :: none :: ij_ent r else some v :: ij_ent r := by
  cases v <;> rfl
theorem ij_ent_args (B : ij_B) (hB : B.2.2.category = 1) (as : List Value) : ∀ (k i : Nat) (v : Value), (ij_ent as)[i]? = some (some v) → (k + i, ij_cv B v) ∈ lv_args k (as.map (ij_cv B)) := by
  induction as with
  | nil => intro k i v h; simp [ij_ent] at h
  | cons a r ih =>
    intro k i v h
    rw [ij_ent_cons a r] at h
    simp only [List.map_cons, lv_args, ij_cv_cat B hB]
    by_cases hc : a.category = 2
    · rw [if_pos hc] at h ⊢
      match i, h with
      | 0, h =>
        cases h
        exact List.mem_cons_self
      | 1, h => simp at h
      | i + 2, h =>
        have := ih (k + 2) i v (by simpa using h)
        rw [show k + 2 + i = k + (i + 2) by omega] at this
        exact List.mem_cons_of_mem _ this
    · rw [if_neg hc] at h ⊢
      match i, h with
      | 0, h =>
        cases h
        exact List.mem_cons_self
      | i + 1, h =>
        have := ih (k + 1) i v (by simpa using h)
        rw [show k + 1 + i = k + (i + 1) by omega] at this
        exact List.mem_cons_of_mem _ this
theorem ij_ent_len (B : ij_B) (hB : B.2.2.category = 1) (as : List Value) : (lg_sl (as.map (ij_cv B))).length = (ij_ent as).length := by
  induction as with
  | nil => rfl
  | cons a r ih =>
    rw [ij_ent_cons a r]
    simp only [List.map_cons, lg_sl, List.flatMap_cons, ij_cv_cat B hB, List.length_append] at ih ⊢
    rw [ih]
    by_cases hc : a.category = 2
    · simp [hc]; omega
    · simp [hc]; omega
/-- the lengths of instructions -/
def ij_len (i : Instr) : Nat := match i with
  | .bipush _ | .iload _ | .lload _ | .aload _ | .istore _ | .lstore _ | .astore _ | .ldc _ | .newarray _ => 2
  | .sipush _ | .iinc _ _ | .goto _ | .ifCond _ _ | .if_icmp _ _ | .ifnull _ | .ifnonnull _ | .getfield _ | .putfield _ | .getstatic _ | .ldc_w _ | .ldc2_w _ | .invokespecial _ | .invokestatic _ | .invokevirtual _ | .new _ | .anewarray _ => 3
  | _ => 1
section IJ
variable {p : Program} {l : Launch} {e : Env} {R : Room} {s : State} {m : MethodId} {args : Array Value} {below : List Frame} {meth : Method} {c : Code} {H : Heap} {locs : List Loc} {cells slots : Nat} {Q : State → Prop}
variable {cc : ByteArray} {pc : Nat} {ls : Array Slot} {B : ij_B}
theorem ij_sA_ok (hx : p.tables.exec = Jvm.exec) (hb : c.code = cc) {i : Instr} (hd : decode cc pc = .ok (i, ij_len i)) {st st' : List Value} (h : ij_sA i st = some st')
    (k : W p l e R s m args below meth c H locs cells slots Q (F0 m (pc + ij_len i) ls (st'.map (ij_cv B)))) : W p l e R s m args below meth c H locs cells slots Q (F0 m pc ls (st.map (ij_cv B))) := by
  unfold ij_sA at h
  split at h
  · split at h
    · cases h; exact lv_iadd hx hb hd k
    · cases h; exact lv_isub hx hb hd k
    · cases h; exact lv_imul hx hb hd k
    · cases h; exact lv_iand hx hb hd k
    · cases h; exact lv_ior hx hb hd k
    · cases h; exact lv_ixor hx hb hd k
    · split at h
      · cases h
      · next hy => cases h; exact lv_idiv hx hb hd hy k
    · split at h
      · cases h
      · next hy => cases h; exact lv_irem hx hb hd hy k
    · cases h; exact lv_ishl hx hb hd k
    · cases h; exact lv_ishr hx hb hd k
    · cases h
  · cases h
theorem ij_sB_ok (hB : B.2.2.category = 1) (hx : p.tables.exec = Jvm.exec) (hb : c.code = cc) {i : Instr} (hd : decode cc pc = .ok (i, ij_len i)) {st st' : List Value} (h : ij_sB i st = some st')
    (k : W p l e R s m args below meth c H locs cells slots Q (F0 m (pc + ij_len i) ls (st'.map (ij_cv B)))) : W p l e R s m args below meth c H locs cells slots Q (F0 m pc ls (st.map (ij_cv B))) := by
  unfold ij_sB at h
  split at h
  · split at h
    · cases h; exact lv_ladd hx hb hd k
    · cases h
  · split at h
    · cases h; exact lv_lsub hx hb hd k
    · cases h
  · split at h
    · cases h; exact lv_lmul hx hb hd k
    · cases h
  · split at h
    · cases h; exact lv_land hx hb hd k
    · cases h
  · split at h
    · cases h; exact lv_lor hx hb hd k
    · cases h
  · split at h
    · cases h; exact lv_lxor hx hb hd k
    · cases h
  · split at h
    · split at h
      · cases h
      · next hy => cases h; exact lv_ldiv hx hb hd hy k
    · cases h
  · split at h
    · split at h
      · cases h
      · next hy => cases h; exact lv_lrem hx hb hd hy k
    · cases h
  · split at h
    · cases h; exact W.lcmp hx hb hd k
    · cases h
  · split at h
    · cases h; exact lv_lshl hx hb hd rfl k
    · cases h
  · split at h
    · cases h; exact lv_lushr hx hb hd rfl k
    · cases h
  · split at h
    · cases h; exact lv_ineg hx hb hd k
    · cases h
  · split at h
    · cases h; exact lv_i2l hx hb hd rfl k
    · cases h
  · split at h
    · cases h; exact lv_i2b hx hb hd rfl k
    · cases h
  · split at h
    · cases h; exact lv_i2s hx hb hd rfl k
    · cases h
  · split at h
    · cases h; exact lv_i2c hx hb hd rfl k
    · cases h
  · split at h
    · cases h; exact lv_l2i hx hb hd rfl k
    · cases h
  · split at h
    · cases h; exact lv_dup hx hb hd rfl k
    · cases h; exact lv_dup hx hb hd (by rw [ij_cv_cat B hB]; rfl) k
    · cases h
  · split at h
    · cases h; exact lv_dup2_11 hx hb hd rfl (by rw [ij_cv_cat B hB]; rfl) k
    · cases h
  · split at h
    · cases h; exact lv_pop hx hb hd rfl k
    · cases h
  · cases h
theorem ij_tg_ok {o : Int} (h : 0 ≤ (pc : Int) + o) : (pc : Int) + o = (ij_tg pc o : Int) := by
  unfold ij_tg
  omega
theorem ij_ldi_ok {L L' : ij_L} {st st' : List Value} {i nL : Nat} (hL : ij_LH B ls nL L) (h : ij_ldi L st i = some (L', st')) : ∃ x : Int32, ls[i]? = some (.val (.int x)) ∧ L' = L ∧ st' = .int x :: st := by
  unfold ij_ldi at h
  split at h
  · next x hx => cases h; exact ⟨x, hL.at hx, rfl, rfl⟩
  · cases h
theorem ij_ldl_ok {L L' : ij_L} {st st' : List Value} {i nL : Nat} (hL : ij_LH B ls nL L) (h : ij_ldl L st i = some (L', st')) : ∃ x : Int64, ls[i]? = some (.val (.long x)) ∧ L' = L ∧ st' = .long x :: st := by
  unfold ij_ldl at h
  split at h
  · next x hx => cases h; exact ⟨x, hL.at hx, rfl, rfl⟩
  · cases h
theorem ij_lda_ok {L L' : ij_L} {st st' : List Value} {i nL : Nat} (hL : ij_LH B ls nL L) (h : ij_lda L st i = some (L', st')) : L' = L ∧ ((∃ x : Nat, ls[i]? = some (.val (.ref (ij_ad B x))) ∧ ¬ x = 1999999 ∧ st' = .ref x :: st) ∨ (ls[i]? = some (.val .null) ∧ st' = .null :: st)) := by
  unfold ij_lda at h
  split at h
  · next x hx =>
    split at h
    · cases h
    · next hne =>
      cases h
      refine ⟨rfl, Or.inl ⟨x, ?_, hne, rfl⟩⟩
      have := hL.at hx
      rwa [ij_cv_ref B hne] at this
  · next hx => cases h; exact ⟨rfl, Or.inr ⟨hL.at hx, rfl⟩⟩
  · cases h
/-- loads, stores, constants -/
theorem ij_sL_ok (hB : B.2.2.category = 1) (hx : p.tables.exec = Jvm.exec) (hb : c.code = cc) {i : Instr} (hd : decode cc pc = .ok (i, ij_len i)) {nL : Nat} {L L' : ij_L} {st st' : List Value} (hL : ij_LH B ls nL L) (h : ij_sL i L st = some (L', st'))
    (k : ∀ ls' : Array Slot, ij_LH B ls' nL L' → W p l e R s m args below meth c H locs cells slots Q (F0 m (pc + ij_len i) ls' (st'.map (ij_cv B)))) : W p l e R s m args below meth c H locs cells slots Q (F0 m pc ls (st.map (ij_cv B))) := by
  unfold ij_sL at h
  split at h
  · cases h; exact lv_iconst hx hb hd rfl (k _ hL)
  · cases h; exact lv_bipush hx hb hd rfl (k _ hL)
  · cases h; exact lv_sipush hx hb hd rfl (k _ hL)
  · cases h; exact lv_lconst hx hb hd rfl (k _ hL)
  · cases h; exact lv_null hx hb hd (k _ hL)
  · obtain ⟨x, h1, rfl, rfl⟩ := ij_ldi_ok hL h; exact lv_iload hx hb hd h1 (k _ hL)
  · obtain ⟨x, h1, rfl, rfl⟩ := ij_ldi_ok hL h; exact lv_iload_n hx hb hd rfl h1 (k _ hL)
  · obtain ⟨x, h1, rfl, rfl⟩ := ij_ldl_ok hL h; exact lv_lload hx hb hd h1 (k _ hL)
  · obtain ⟨x, h1, rfl, rfl⟩ := ij_ldl_ok hL h; exact lv_lload_n hx hb hd rfl h1 (k _ hL)
  · obtain ⟨rfl, ⟨x, h1, h2, rfl⟩ | ⟨h1, rfl⟩⟩ := ij_lda_ok hL h
    · refine lv_aload hx hb hd h1 ?_
      have := k _ hL
      rwa [List.map_cons, ij_cv_ref B h2] at this
    · exact lv_aloadN hx hb hd h1 (k _ hL)
  · obtain ⟨rfl, ⟨x, h1, h2, rfl⟩ | ⟨h1, rfl⟩⟩ := ij_lda_ok hL h
    · refine lv_aload_n hx hb hd rfl h1 ?_
      have := k _ hL
      rwa [List.map_cons, ij_cv_ref B h2] at this
    · exact lv_aload_nN hx hb hd rfl h1 (k _ hL)
  · unfold ij_sti at h
    split at h
    · obtain ⟨L1, hs, e1⟩ := Option.map_eq_some_iff.mp h
      cases e1
      exact lv_istore hx hb hd hL.2 (by rw [← hL.1]; exact ij_st1_lt hs) rfl (fun ls' h' => k ls' (ij_LH.st1 hB hL.1 hs h'))
    · cases h
  · unfold ij_sti at h
    split at h
    · obtain ⟨L1, hs, e1⟩ := Option.map_eq_some_iff.mp h
      cases e1
      exact lv_istore_n hx hb hd rfl hL.2 (by rw [← hL.1]; exact ij_st1_lt hs) rfl (fun ls' h' => k ls' (ij_LH.st1 hB hL.1 hs h'))
    · cases h
  · unfold ij_stl at h
    split at h
    · obtain ⟨L1, hs, e1⟩ := Option.map_eq_some_iff.mp h
      cases e1
      exact lv_lstore hx hb hd hL.2 (by rw [← hL.1]; exact ij_st2_lt hs) rfl (fun ls' h' => k ls' (ij_LH.st2 hB hL.1 hs h'))
    · cases h
  · unfold ij_stl at h
    split at h
    · obtain ⟨L1, hs, e1⟩ := Option.map_eq_some_iff.mp h
      cases e1
      exact lv_lstore_n hx hb hd rfl hL.2 (by rw [← hL.1]; exact ij_st2_lt hs) rfl (fun ls' h' => k ls' (ij_LH.st2 hB hL.1 hs h'))
    · cases h
  · unfold ij_sta at h
    split at h
    · split at h
      · cases h
      · next x r hne =>
        obtain ⟨L1, hs, e1⟩ := Option.map_eq_some_iff.mp h
        cases e1
        rw [List.map_cons, ij_cv_ref B hne]
        exact lv_astore hx hb hd hL.2 (by rw [← hL.1]; exact ij_st1_lt hs) rfl (fun ls' h' => k ls' (ij_LH.st1 hB hL.1 hs (by rw [ij_cv_ref B hne]; exact h')))
    · obtain ⟨L1, hs, e1⟩ := Option.map_eq_some_iff.mp h
      cases e1
      exact lv_astoreN hx hb hd hL.2 (by rw [← hL.1]; exact ij_st1_lt hs) rfl (fun ls' h' => k ls' (ij_LH.st1 hB hL.1 hs h'))
    · cases h
  · unfold ij_sta at h
    split at h
    · split at h
      · cases h
      · next x r hne =>
        obtain ⟨L1, hs, e1⟩ := Option.map_eq_some_iff.mp h
        cases e1
        rw [List.map_cons, ij_cv_ref B hne]
        exact lv_astore_n hx hb hd rfl hL.2 (by rw [← hL.1]; exact ij_st1_lt hs) rfl (fun ls' h' => k ls' (ij_LH.st1 hB hL.1 hs (by rw [ij_cv_ref B hne]; exact h')))
    · obtain ⟨L1, hs, e1⟩ := Option.map_eq_some_iff.mp h
      cases e1
      exact lv_astore_nN hx hb hd rfl hL.2 (by rw [← hL.1]; exact ij_st1_lt hs) rfl (fun ls' h' => k ls' (ij_LH.st1 hB hL.1 hs h'))
    · cases h
  · split at h
    · next x hxx =>
      obtain ⟨L1, hs, e1⟩ := Option.map_eq_some_iff.mp h
      cases e1
      obtain ⟨j, hj⟩ := List.getElem?_of_mem (ij_al_mem (B := B) (L := L) (q := (_, .int x)) |>.mpr ⟨.int x, hxx, rfl⟩)
      exact lv_iinc hx hb hd hL.2 hj rfl (by rw [← hL.1]; exact ij_st1_lt hs) rfl (fun ls' h' => k ls' (ij_LH.st1 hB hL.1 hs h'))
    · cases h
  · cases h
/-- jumps -/
theorem ij_bI_ok (hx : p.tables.exec = Jvm.exec) (hb : c.code = cc) {i : Instr} {len : Nat} (hd : decode cc pc = .ok (i, len)) (hlen : len = ij_len i ∨ ∃ d lo hi os, i = .tableswitch d lo hi os) (hj : ij_jok pc i = true) {st st' : List Value} {pc' : Nat} (h : ij_bI i pc st = some (pc', st'))
    (k : W p l e R s m args below meth c H locs cells slots Q (F0 m pc' ls (st'.map (ij_cv B)))) : W p l e R s m args below meth c H locs cells slots Q (F0 m pc ls (st.map (ij_cv B))) := by
  unfold ij_bI at h
  split at h
  · rcases hlen with rfl | ⟨_, _, _, _, hh⟩
    · cases h
      exact lv_goto hx hb hd (ij_tg_ok (of_decide_eq_true hj)) k
    · cases hh
  · rcases hlen with rfl | ⟨_, _, _, _, hh⟩
    · have ht := ij_tg_ok (pc := pc) (of_decide_eq_true hj)
      split at h
      · split at h
        · cases h
          exact lv_if_eq hx hb hd ht (fun q => by rwa [if_pos q] at k) (fun q => by rwa [if_neg q] at k)
        · cases h
          exact lv_if_ne hx hb hd ht (fun q => by rwa [if_neg q] at k) (fun q => by rwa [if_pos q] at k)
        · cases h
          exact lv_if_lt hx hb hd ht (fun q => by rwa [if_pos q] at k) (fun q => by rwa [if_neg q] at k)
        · cases h
          exact lv_if_ge hx hb hd ht (fun q => by rwa [if_pos q] at k) (fun q => by rwa [if_neg q] at k)
        · cases h
          exact lv_if_gt hx hb hd ht (fun q => by rwa [if_pos q] at k) (fun q => by rwa [if_neg q] at k)
        · cases h
          exact lv_if_le hx hb hd ht (fun q => by rwa [if_pos q] at k) (fun q => by rwa [if_neg q] at k)
      · cases h
    · cases hh
  · rcases hlen with rfl | ⟨_, _, _, _, hh⟩
    · have ht := ij_tg_ok (pc := pc) (of_decide_eq_true hj)
      split at h
      · split at h
        · cases h
          exact lv_icmp_eq hx hb hd ht (fun q => by rwa [if_pos q] at k) (fun q => by rwa [if_neg q] at k)
        · cases h
          exact lv_icmp_ne hx hb hd ht (fun q => by rwa [if_neg q] at k) (fun q => by rwa [if_pos q] at k)
        · cases h
          exact lv_icmp_lt hx hb hd ht (fun q => by rwa [if_pos q] at k) (fun q => by rwa [if_neg q] at k)
        · cases h
          exact lv_icmp_ge hx hb hd ht (fun q => by rwa [if_pos q] at k) (fun q => by rwa [if_neg q] at k)
        · cases h
          exact lv_icmp_gt hx hb hd ht (fun q => by rwa [if_pos q] at k) (fun q => by rwa [if_neg q] at k)
        · cases h
          exact lv_icmp_le hx hb hd ht (fun q => by rwa [if_pos q] at k) (fun q => by rwa [if_neg q] at k)
      · cases h
    · cases hh
  · rcases hlen with rfl | ⟨_, _, _, _, hh⟩
    · have ht := ij_tg_ok (pc := pc) (of_decide_eq_true hj)
      split at h
      · split at h
        · cases h
        · next x r hne =>
          cases h
          rw [List.map_cons, ij_cv_ref B hne]
          exact lv_ifnull hx hb hd k
      · cases h
        exact lv_ifnullN hx hb hd ht k
      · cases h
    · cases hh
  · rcases hlen with rfl | ⟨_, _, _, _, hh⟩
    · have ht := ij_tg_ok (pc := pc) (of_decide_eq_true hj)
      split at h
      · split at h
        · cases h
        · next x r hne =>
          cases h
          rw [List.map_cons, ij_cv_ref B hne]
          exact lv_ifnonnull hx hb hd ht k
      · cases h
        exact lv_ifnonnullN hx hb hd k
      · cases h
    · cases hh
  · next d lo hi os =>
    have hj1 := Bool.and_eq_true_iff.mp hj
    split at h
    · next x r =>
      split at h
      · next hc =>
        cases h
        exact lv_tableOut hx hb hd hc (ij_tg_ok (of_decide_eq_true hj1.1)) k
      · next hc =>
        split at h
        · next o ho =>
          cases h
          have hm : o ∈ os.toList := by
            have := Array.mem_of_getElem? ho
            exact Array.mem_toList_iff.mpr this
          exact lv_tableIn hx hb hd (fun q => hc (Or.inl q)) (fun q => hc (Or.inr q)) ho (ij_tg_ok (of_decide_eq_true (List.all_eq_true.mp hj1.2 o hm))) k
        · cases h
    · cases h
  · cases h
end IJ
