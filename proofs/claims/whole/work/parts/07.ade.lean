/-! The theorem: by the number of steps. -/
section IJ
variable {l : Launch} {G : ij_G} {Z : ij_Z} {X : ij_Cx} {ty0 : Nat → Nat → FieldType} {gw : List Cond} {n1 : ij_N1} {n2 : ij_N2} {sr : ij_S1} {cl : List vw_C} {B : ij_B} {D : va_G} {aC : Nat → ClassId} {xt : ij_X}
theorem ij_ent_LH (hB : B.2.2.category = 1) {nL : Nat} {as : List Value} {l0 : ij_L} (h : ij_entry nL as = some l0) : ij_LH B ((lg_sl (as.map (ij_cv B)) ++ List.replicate (nL - (lg_sl (as.map (ij_cv B))).length) Slot.unset).toArray) nL l0 := by
  unfold ij_entry at h
  split at h
  · next hle =>
    cases h
    have hl := lv_entry (as.map (ij_cv B)) (n := nL) (by rw [ij_ent_len B hB]; exact hle)
    refine ⟨by simp; omega, hl.1, hl.2.1, fun q hq => hl.2.2 q ?_⟩
    obtain ⟨v, hv, e⟩ := ij_al_mem.mp hq
    by_cases hi : q.1 < (ij_ent as).length
    · rw [List.getElem?_append_left hi] at hv
      have := ij_ent_args B hB as 0 q.1 v hv
      rw [Nat.zero_add] at this
      have e2 : q = (q.1, ij_cv B v) := by rw [← e]
      rw [e2]
      exact this
    · rw [List.getElem?_append_right (by omega), List.getElem?_replicate] at hv
      split at hv <;> cases hv
  · cases h
theorem ij_met (hok : ij_Ok G Z X ty0 gw n1 n2 sr cl) (hB : B.2.2.category = 1) {n : Nat} (hw : ij_Walk l G Z gw n1 n2 sr cl B D aC xt n) {a : Nat} {as : List Value} {l0 : ij_L} {h h' : ij_H} {r : Option Value} (ha : a < Z.2.2.2.2.2) (hl0 : ij_entry (G.2.1 a) as = some l0) (hr : ij_run G xt n a 0 l0 [] h = some (r, h')) {mc ms : Nat} (hmc : mc + h.1.length = h'.1.length) (hms : ms + ij_sl h = ij_sl h') :
    Met l (Z.1 a) (ij_wsA G Z gw a) (ij_room Z a mc ms) (va_Pc (as.map (ij_cv B)) (ij_Wd B D cl aC n1 n2 sr xt G.2.2.2 h)) (ij_Q B D cl aC G.2.2.2 r h') mc ms (ij_A B) := by
  obtain ⟨-, -, -, -, -, -, -, -, hmeth⟩ := hok
  obtain ⟨hplain, hrok, -⟩ := hmeth a ha
  refine ij_ofW (cc := Z.2.1 a) (maxL := G.2.1 a) (ret := Z.2.2.1 a) hplain rfl ?_
  intro p e s m args below meth c s₁ Bd hml hv
  obtain ⟨rfl, hsz, hP, hE⟩ := hv
  have hts := atoms_spec (ws := ij_wsA G Z gw a) Bd.pre
  rw [lg_entry_eq]
  obtain ⟨-, hW⟩ := hw a 0 l0 [] h r h' ha hr
  refine hW p e _ s m _ below meth c s.heap [] 0 0 mc ms _ _ Bd.exec Bd.bytes hml (findClass_of_methodNamed Bd.named) (fun w hw => hts w (List.mem_cons_of_mem _ hw)) (name_of_methodNamed Bd.named Bd.method).1 (Nat.le_refl _) (Nat.le_refl _) hE (by omega) hP va_S.rf (ij_ent_LH hB hl0) (by omega) (by omega) (by omega) (Nat.le_refl _) (Nat.le_refl _) ?_
  intro i pc ls st H locs hd hri hP' hS'
  have hret := Bd.returns
  have hlocks := Bd.notSynchronized
  have hq : ∀ (v : Option Value), v = r.map (ij_cv B) → ∀ t : State, t.heap = H → s.WarmedH t.vm → ij_Q B D cl aC G.2.2.2 r h' (as.map (ij_cv B)).toArray s (.returned v) t := fun v hv t ht _ => ⟨by rw [hv], by rw [ht]; exact hP', hS'.F ht⟩
  unfold ij_rI at hri
  split at hri
  · split at hri
    · next hk =>
      cases hri
      rw [hk] at hrok
      exact W.vret Bd.exec Bd.bytes (hret.trans hrok) (hq none rfl) hS'.2.2 hd
    · cases hri
  · split at hri
    · next x =>
      split at hri
      · next hk =>
        cases hri
        rw [hk] at hrok
        exact W.iret Bd.exec Bd.bytes (hret.trans hrok) (hq _ rfl) hS'.2.2 hd
      · next hk =>
        split at hri
        · next hx =>
          cases hri
          rw [hk] at hrok
          exact W.zret Bd.exec Bd.bytes (hret.trans hrok) (by rcases hx with rfl | rfl <;> decide) (hq _ rfl) hS'.2.2 hd
        · cases hri
      · next hk =>
        split at hri
        · next hx =>
          cases hri
          rw [hk] at hrok
          exact W.zret Bd.exec Bd.bytes (hret.trans hrok) hx (hq _ rfl) hS'.2.2 hd
        · cases hri
      · next hk =>
        split at hri
        · next hx =>
          cases hri
          rw [hk] at hrok
          exact W.zret Bd.exec Bd.bytes (hret.trans hrok) hx (hq _ rfl) hS'.2.2 hd
        · cases hri
      · cases hri
    · cases hri
  · split at hri
    · next hk =>
      cases hri
      rw [hk] at hrok
      exact W.lret Bd.exec Bd.bytes (hret.trans hrok) (hq _ rfl) hS'.2.2 hd
    · cases hri
  · split at hri
    · next x hk =>
      split at hri
      · cases hri
      · next hx =>
        cases hri
        rw [hk] at hrok
        obtain ⟨t, ht, htt⟩ := hrok
        rw [List.map_cons, ij_cv_ref B hx]
        exact W.aret (v := .ref (ij_ad B x)) Bd.exec Bd.bytes (hret.trans ht) htt (Or.inr ⟨_, rfl⟩) (hq _ (by show _ = some (ij_cv B (.ref x)); rw [ij_cv_ref B hx])) hS'.2.2 hd
    · next hk =>
      cases hri
      rw [hk] at hrok
      obtain ⟨t, ht, htt⟩ := hrok
      exact W.aret (v := .null) Bd.exec Bd.bytes (hret.trans ht) htt (Or.inl rfl) (hq _ rfl) hS'.2.2 hd
    · cases hri
  · cases hri
end IJ
section IJ2
variable {p : Program} {l : Launch} {e : Env} {R : Room} {s : State} {m : MethodId} {args : Array Value} {below : List Frame} {meth : Method} {c : Code} {H : Heap} {locs : List Loc} {cells slots : Nat} {Q : State → Prop}
variable {pc : Nat} {ls : Array Slot} {B : ij_B} {D : va_G} {cl : List vw_C} {aC : Nat → ClassId} {tt : Nat → Nat → Nat} {n1 : ij_N1} {n2 : ij_N2} {sr : ij_S1} {xt : ij_X}
theorem ij_after {mc1 ms1 : Nat} {st0 rest : List Value} {r1 : Option Value} {h1 : ij_H} {a0 : Array Value} (hrun : va_Run p l e R s m args below meth c H locs cells slots mc1 ms1 (F0 m pc ls st0) (rest.map (ij_cv B)) (ij_Q B D cl aC tt r1 h1 a0) (ij_A B)) (hS : va_S (ij_A B) s.heap H locs)
    (kk : ∀ (H1 : Heap) (locs1 : List Loc), va_P D cl (ij_ws B tt aC h1) H1 → va_S (ij_A B) s.heap H1 locs1 → W p l e R s m args below meth c H1 locs1 (cells + mc1) (slots + ms1) Q (F0 m (pc + 3) ls ((r1.toList ++ rest).map (ij_cv B)))) : W p l e R s m args below meth c H locs cells slots Q (F0 m pc ls st0) := by
  intro T hT Y
  obtain ⟨v, st₀, t, T', L, h0, Y', hL, e1, e2, ⟨hv, hp, hz, hk⟩, st⟩ := hrun T hT Y
  cases hv
  rw [h0] at hz hk
  have hS1 : va_S (ij_A B) s.heap T'.heap (locs ++ L) := by
    refine ⟨Nat.le_trans hS.1 (by rw [e1]; exact hz), fun q g1 g2 => ?_, fun q hq => ?_⟩
    · rw [e1, hk q (Nat.lt_of_lt_of_le g1 hS.1) g2]
      exact hS.2.1 q g1 g2
    · rcases List.mem_append.mp hq with g | g
      · exact hS.2.2 q g
      · exact hL q g
  obtain ⟨t2, a1, b1⟩ := kk T'.heap (locs ++ L) (by rw [e1]; exact hp) hS1 T' rfl Y'
  refine ⟨t2, st t2 ?_, b1⟩
  have e3 : (r1.map (ij_cv B)).toList ++ rest.map (ij_cv B) = (r1.toList ++ rest).map (ij_cv B) := by cases r1 <;> rfl
  rw [e3]
  exact a1
theorem ij_low {h : ij_H} (hP : va_P D cl (ij_ws B tt aC h) H) (hS : va_S (ij_A B) s.heap H locs) (hbase : B.1 ≤ s.heap.size) : B.1 + h.1.length ≤ H.size := by
  cases hh : h.1.length with
  | zero => exact Nat.le_trans hbase hS.1
  | succ k =>
    obtain ⟨sh, hsh⟩ : ∃ sh, h.1[k]? = some sh := ⟨_, List.getElem?_eq_getElem (by omega)⟩
    have := (hP k _ (ij_ws_at hsh)).lt
    dsimp only at this
    omega
theorem ij_blind (as : List Value) (h : ij_H) : FrameBlind (va_Pc as (ij_Wd B D cl aC n1 n2 sr xt tt h)) := by
  intro a U g mk q
  obtain ⟨q0, q1, q2, q3⟩ := q
  exact ⟨q0, q1, q2, q3.move (fun _ _ _ => rfl) (State.WarmedH.refl U)⟩
theorem ij_pre {as : List Value} {h : ij_H} (hE : ij_Ev B D cl aC n1 n2 sr xt s) (hP : va_P D cl (ij_ws B tt aC h) H) (hS : va_S (ij_A B) s.heap H locs) (hbase : B.1 ≤ s.heap.size) (hs : H.size ≤ s.heap.size + cells) (hsz : s.heap.size + cells = B.1 + h.1.length) : ∀ U : State, U.heap = H → s.WarmedH U.vm → va_Pc as (ij_Wd B D cl aC n1 n2 sr xt tt h) as.toArray U := by
  intro U hU hW
  have := ij_low hP hS hbase
  exact ⟨rfl, by rw [hU]; omega, by rw [hU]; exact hP, hE.move (fun a g1 g2 => by rw [hU]; exact hS.2.1 a g1 g2) hW⟩
end IJ2
