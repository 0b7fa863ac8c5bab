/-! All runs: by induction on the number of steps. -/
theorem ij_split {st : List Value} {n : Nat} {v : Value} (h : st[n]? = some v) : st = st.take n ++ v :: st.drop (n + 1) ∧ (st.take (n + 1)).reverse = v :: (st.take n).reverse ∧ (st.take n).length = n := by
  obtain ⟨hn, he⟩ := List.getElem?_eq_some_iff.mp h
  refine ⟨?_, ?_, by simp; omega⟩
  · rw [← he, List.drop_eq_getElem_cons hn |>.symm, List.take_append_drop]
  · rw [List.take_succ_eq_append_getElem hn, he]
    simp
section IJ
variable {l : Launch} {G : ij_G} {Z : ij_Z} {X : ij_Cx} {ty0 : Nat → Nat → FieldType} {gw : List Cond} {n1 : ij_N1} {n2 : ij_N2} {sr : ij_S1} {cl : List vw_C} {B : ij_B} {D : va_G} {aC : Nat → ClassId} {xt : ij_X}
theorem ij_good (hok : ij_Ok G Z X ty0 gw n1 n2 sr cl) {a : Nat} (hc : Cond.code (Z.1 a) (Z.2.1 a) (G.2.1 a) (Z.2.2.1 a) ∈ gw) : GoodIn gw (ij_wsA G Z gw a) := by
  obtain ⟨-, -, -, -, -, -, -, hg, -⟩ := hok
  intro w hw
  rcases List.mem_cons.mp hw with rfl | hw
  · exact ⟨hc, hg _ hc⟩
  · exact ⟨hw, hg _ hw⟩
/-- behind the choice of the callee: what its run gives -/
theorem ij_step_call (hok : ij_Ok G Z X ty0 gw n1 n2 sr cl) (hB : B.2.2.category = 1) {n : Nat} (ih : ij_Walk l G Z gw n1 n2 sr cl B D aC xt n) {y pc : Nat} {L : ij_L} {st as rest : List Value} {h h' : ij_H} {r : Option Value} (hy : y < Z.2.2.2.2.2) {a b : Nat} {l0 : ij_L} {z : Option Value × ij_H} (hl0 : ij_entry (G.2.1 a) as = some l0) (hz : ij_run G xt n a 0 l0 [] h = some z) (hr : ij_run G xt n y (pc + 3) L (z.1.toList ++ rest) z.2 = some (r, h')) (hb : ij_okB G Z gw y a b)
    (hrun : ∀ (p : Program) (e : Env) (R : Room) (s : State) (m : MethodId) (args : Array Value) (below : List Frame) (meth : Method) (c : Code) (H : Heap) (locs : List Loc) (cells slots mc1 ms1 : Nat) (ls : Array Slot), p.tables.exec = Jvm.exec → c.code = Z.2.1 y → c.maxLocals = G.2.1 y → s.vm.findClass (Z.1 y).cls = some m.cls → (∀ w ∈ gw, w.before args s = true) → ls.size = G.2.1 y → ij_Ev B D cl aC n1 n2 sr xt s → va_P D cl (ij_ws B G.2.2.2 aC h) H → va_S (ij_A B) s.heap H locs →
      Met l (Z.1 a) (ij_wsA G Z gw a) (ij_room Z a mc1 ms1) (va_Pc (as.map (ij_cv B)) (ij_Wd B D cl aC n1 n2 sr xt G.2.2.2 h)) (ij_Q B D cl aC G.2.2.2 z.1 z.2) mc1 ms1 (ij_A B) → ((ij_room Z a mc1 ms1).frames + 1 ≤ R.frames ∧ 8 + (G.2.1 a + 11) + (ij_room Z a mc1 ms1).locals ≤ R.locals) → cells + mc1 ≤ R.cells ∧ slots + ms1 ≤ R.slots →
      (∀ U : State, U.heap = H → s.WarmedH U.vm → va_Pc (as.map (ij_cv B)) (ij_Wd B D cl aC n1 n2 sr xt G.2.2.2 h) (as.map (ij_cv B)).toArray U) → va_Run p l e R s m args below meth c H locs cells slots mc1 ms1 (F0 m pc ls (st.map (ij_cv B))) (rest.map (ij_cv B)) (ij_Q B D cl aC G.2.2.2 z.1 z.2 (as.map (ij_cv B)).toArray) (ij_A B)) :
    (h.1.length ≤ h'.1.length ∧ ij_sl h ≤ ij_sl h') ∧
  ∀ (p : Program) (e : Env) (R : Room) (s : State) (m : MethodId) (args : Array Value) (below : List Frame) (meth : Method) (c : Code) (H : Heap) (locs : List Loc) (cells slots mc ms : Nat) (Q : State → Prop) (ls : Array Slot),
    p.tables.exec = Jvm.exec → c.code = Z.2.1 y → c.maxLocals = G.2.1 y → s.vm.findClass (Z.1 y).cls = some m.cls → (∀ w ∈ gw, w.before args s = true) → meth.name = (Z.1 y).name → Z.2.2.2.1 y ≤ R.frames → Z.2.2.2.2.1 y ≤ R.locals → ij_Ev B D cl aC n1 n2 sr xt s → B.1 ≤ s.heap.size →
    va_P D cl (ij_ws B G.2.2.2 aC h) H → va_S (ij_A B) s.heap H locs → ij_LH B ls (G.2.1 y) L → s.heap.size + cells = B.1 + h.1.length → mc + h.1.length = cells + h'.1.length → ms + ij_sl h = slots + ij_sl h' → mc ≤ R.cells → ms ≤ R.slots →
    (∀ (i : Instr) (pc : Nat) (ls : Array Slot) (st : List Value) (H : Heap) (locs : List Loc), decode (Z.2.1 y) pc = .ok (i, 1) → ij_rI (G.2.2.1 y) i st = some r → va_P D cl (ij_ws B G.2.2.2 aC h') H → va_S (ij_A B) s.heap H locs → W p l e R s m args below meth c H locs mc ms Q (F0 m pc ls (st.map (ij_cv B)))) →
    W p l e R s m args below meth c H locs cells slots Q (F0 m pc ls (st.map (ij_cv B))) := by
  obtain ⟨g1, g2, g3, g4, g5⟩ := hb
  obtain ⟨mono1, -⟩ := ih a 0 l0 [] h z.1 z.2 g1 hz
  obtain ⟨mono, hW⟩ := ih y (pc + 3) L _ z.2 r h' hy hr
  refine ⟨⟨Nat.le_trans mono1.1 mono.1, Nat.le_trans mono1.2 mono.2⟩, ?_⟩
  intro p e R s m args below meth c H locs cells slots mc ms Q ls hx hb hml hown hts hname hfr hlo hE hbase hP hS hLH hsz hmc hms hrc hrs hret
  refine ij_W_size (fun hs => ?_)
  have hM := ij_met hok hB ih g1 hl0 hz (mc := z.2.1.length - h.1.length) (ms := ij_sl z.2 - ij_sl h) (by omega) (by omega)
  refine ij_after (hrun p e R s m args below meth c H locs cells slots _ _ ls hx hb hml hown hts hLH.2.1 hE hP hS hM ⟨Nat.le_trans g5.1 hfr, Nat.le_trans g5.2 hlo⟩ ⟨by omega, by omega⟩ (ij_pre hE hP hS hbase hs hsz)) hS (fun H1 locs1 hP1 hS1 => ?_)
  exact hW p e R s m args below meth c H1 locs1 _ _ mc ms Q ls hx hb hml hown hts hname hfr hlo hE hbase hP1 hS1 hLH (by omega) (by omega) (by omega) hrc hrs hret
set_option maxHeartbeats 4000000 in
theorem ij_walk (hok : ij_Ok G Z X ty0 gw n1 n2 sr cl) (hB : B.2.2.category = 1) : ∀ n, ij_Walk l G Z gw n1 n2 sr cl B D aC xt n := by
  intro n
  induction n with
  | zero => intro y pc L st h r h' hy hr; rw [ij_run] at hr; cases hr
  | succ n ih =>
    intro y pc L st h r h' hy hr
    obtain ⟨hcl, hcw, hty, htk, ht4, hnm, hcn, hgood, hmeth⟩ := id hok
    rw [ij_run] at hr
    split at hr
    · cases hr
    · next i len a b c hlk =>
      obtain ⟨hdec, hlen, hjok, hokR, hokW, hokC⟩ := (hmeth y hy).2.2 _ (ij_lookup_mem hlk)
      dsimp only at hdec hlen hjok hokR hokW hokC
      split at hr
      · next q hq =>
        have hl : len = ij_len i := hlen.resolve_right (fun ⟨d, lo, hi, os, e⟩ => by subst e; cases hq)
        subst hl
        obtain ⟨mono, hW⟩ := ih y _ q.1 q.2 h r h' hy hr
        refine ⟨mono, ?_⟩
        intro p e R s m args below meth c H locs cells slots mc ms Q ls hx hb hml hown hts hname hfr hlo hE hbase hP hS hLH hsz hmc hms hrc hrs hret
        exact ij_sL_ok hB hx hb hdec hLH hq (fun ls' hL' => hW p e R s m args below meth c H locs cells slots mc ms Q ls' hx hb hml hown hts hname hfr hlo hE hbase hP hS hL' hsz hmc hms hrc hrs hret)
      · split at hr
        · next q hq =>
          have hl : len = ij_len i := hlen.resolve_right (fun ⟨d, lo, hi, os, e⟩ => by subst e; unfold ij_sA at hq; split at hq <;> cases hq)
          subst hl
          obtain ⟨mono, hW⟩ := ih y _ L q h r h' hy hr
          refine ⟨mono, ?_⟩
          intro p e R s m args below meth c H locs cells slots mc ms Q ls hx hb hml hown hts hname hfr hlo hE hbase hP hS hLH hsz hmc hms hrc hrs hret
          exact ij_sA_ok hx hb hdec hq (hW p e R s m args below meth c H locs cells slots mc ms Q ls hx hb hml hown hts hname hfr hlo hE hbase hP hS hLH hsz hmc hms hrc hrs hret)
        · split at hr
          · next q hq =>
            obtain ⟨mono, hW⟩ := ih y _ L q.2 h r h' hy hr
            refine ⟨mono, ?_⟩
            intro p e R s m args below meth c H locs cells slots mc ms Q ls hx hb hml hown hts hname hfr hlo hE hbase hP hS hLH hsz hmc hms hrc hrs hret
            exact ij_bI_ok hx hb hdec hlen hjok hq (hW p e R s m args below meth c H locs cells slots mc ms Q ls hx hb hml hown hts hname hfr hlo hE hbase hP hS hLH hsz hmc hms hrc hrs hret)
          · split at hr
            · next q hq =>
              have hl : len = ij_len i := hlen.resolve_right (fun ⟨d, lo, hi, os, e⟩ => by subst e; cases hq)
              subst hl
              obtain ⟨mono, hW⟩ := ih y _ L q h r h' hy hr
              refine ⟨mono, ?_⟩
              intro p e R s m args below meth c H locs cells slots mc ms Q ls hx hb hml hown hts hname hfr hlo hE hbase hP hS hLH hsz hmc hms hrc hrs hret
              exact ij_hR_ok hB hcl hcw hx hb hdec hown hts hE hP hS (hLH.2.1.trans hml.symm) (ij_okR_mono hokR hfr hlo) hq (hW p e R s m args below meth c H locs cells slots mc ms Q ls hx hb hml hown hts hname hfr hlo hE hbase hP hS hLH hsz hmc hms hrc hrs hret)
            · split at hr
              · next q hq =>
                have hl : len = ij_len i := hlen.resolve_right (fun ⟨d, lo, hi, os, e⟩ => by subst e; cases hq)
                subst hl
                obtain ⟨mono, hW⟩ := ih y _ L q h r h' hy hr
                refine ⟨mono, ?_⟩
                intro p e R s m args below meth c H locs cells slots mc ms Q ls hx hb hml hown hts hname hfr hlo hE hbase hP hS hLH hsz hmc hms hrc hrs hret
                exact ij_sB_ok hB hx hb hdec hq (hW p e R s m args below meth c H locs cells slots mc ms Q ls hx hb hml hown hts hname hfr hlo hE hbase hP hS hLH hsz hmc hms hrc hrs hret)
              · split at hr
                · next q hq =>
                  have hl : len = ij_len i := hlen.resolve_right (fun ⟨d, lo, hi, os, e⟩ => by subst e; cases hq)
                  subst hl
                  obtain ⟨mono, hW⟩ := ih y _ L q.1 q.2 r h' hy hr
                  have mono1 := ij_hW_mono hq
                  refine ⟨⟨Nat.le_trans mono1.1 mono.1, Nat.le_trans mono1.2 mono.2⟩, ?_⟩
                  intro p e R s m args below meth c H locs cells slots mc ms Q ls hx hb hml hown hts hname hfr hlo hE hbase hP hS hLH hsz hmc hms hrc hrs hret
                  refine ij_hW_ok hB hcl hcw hty htk ht4 hnm hcn hx hb hdec hown hts hE hP hS (hLH.2.1.trans hml.symm) (fun hi => hname.trans hi) hsz hbase ⟨by omega, by omega⟩ (ij_okW_mono hokW hfr hlo) hq ?_
                  intro H1 locs1 cells1 slots1 hc1 hs1 hP1 hS1
                  exact hW p e R s m args below meth c H1 locs1 cells1 slots1 mc ms Q ls hx hb hml hown hts hname hfr hlo hE hbase hP1 hS1 hLH (by omega) (by omega) (by omega) hrc hrs hret
                · split at hr
                  · next q hq =>
                    cases hr
                    refine ⟨⟨Nat.le_refl _, Nat.le_refl _⟩, ?_⟩
                    intro p e R s m args below meth c H locs cells slots mc ms Q ls hx hb hml hown hts hname hfr hlo hE hbase hP hS hLH hsz hmc hms hrc hrs hret
                    have e1 : mc = cells := by omega
                    have e2 : ms = slots := by omega
                    subst e1
                    subst e2
                    have hl : len = 1 := by
                      rcases hlen with rfl | ⟨d, lo, hi, os, e⟩
                      · cases i <;> first | rfl | cases hq
                      · subst e; cases hq
                    subst hl
                    exact hret i pc ls st H locs hdec hq hP hS
                  · split at hr
                    · next q hq =>
                      split at hr
                      · next l0 hl0 =>
                        split at hr
                        · next z hz =>
                          unfold ij_cI at hq
                          split at hq
                          · -- virtual
                            next idx =>
                            split at hq
                            · next j hj =>
                              split at hq
                              · next hc =>
                                cases hq
                                obtain ⟨hB1, hl1, hi1, hs1, hc1⟩ := hokC (by rcases hc.1 with q | q <;> omega)
                                have hlen3 : len = 3 := by
                                  rcases hlen with q | ⟨_, _, _, _, e⟩
                                  · exact q
                                  · cases e
                                subst hlen3
                                obtain ⟨sp1, sp2, sp3⟩ := ij_split hj
                                refine ij_step_call hok hB ih hy hl0 hz hr hB1 ?_
                                intro p e R s m args below meth c' H locs cells slots mc1 ms1 ls hx hb hml hown hts hls hE hP hS hM hroom hf hpre
                                have hjn : ¬ j = 1999999 := by
                                  rcases hc.1 with q | q
                                  · exact fun e0 => absurd (e0 ▸ q.2.2.1) (by decide)
                                  · exact fun e0 => absurd (e0 ▸ q.2.2) (by decide)
                                have eas : ((st.take (b + 1)).reverse).map (ij_cv B) = .ref (ij_ad B j) :: ((st.take b).reverse).map (ij_cv B) := by
                                  rw [sp2, List.map_cons, ij_cv_ref B hjn]
                                rw [eas] at hM hpre ⊢
                                refine va_runV (C := (Z.1 a).cls) (As := ((st.take b).reverse).map (ij_cv B)) ⟨hx, hb, hml, hown, hts⟩ hM ⟨callB_of b hts (ij_good hok hB1.2.2.1) rfl rfl rfl (hts _ hB1.2.1) (hts _ hl1) hB1.2.2.2.1 hroom, hts _ hi1, hts _ hs1⟩ ⟨ij_blind _ _, ?_, hpre⟩ rfl (by simpa using sp3) hls ?_ (lv_room (by rw [ij_cv_sum B hB]; exact hc.2)) hdec hf
                                · rcases hc.1 with ⟨q1, q2, q3, q4⟩ | ⟨q1, q2, q3⟩
                                  · obtain ⟨sh, hsh, hfst⟩ := Option.map_eq_some_iff.mp q4
                                    have hw := ij_ws_at (B := B) (tt := G.2.2.2) (aC := aC) hsh
                                    obtain ⟨kd, nn⟩ := sh
                                    dsimp only at hfst
                                    subst hfst
                                    rw [show ij_cell B G.2.2.2 aC h.2 j (c - 10, nn) = .inr (c - 10, (List.range nn).map (fun k => ij_fc B (G.2.2.2 (c - 10) k) h.2 j k)) from if_pos (by show c - 10 < 100; omega)] at hw
                                    have := va_recv hE.1 hP (hcl (c - 10) (by omega)) hw
                                    rw [ij_ad_lt B q3, hc1, if_neg (by omega)]
                                    exact this
                                  · obtain ⟨j, rfl⟩ : ∃ j' : Nat, j' = j := ⟨_, rfl⟩
                                    have q2 : (1000010 : Nat) ≤ j := q2
                                    have q3 : j < (1000034 : Nat) := q3
                                    obtain ⟨-, -, -, -, -, -, -, -, e11, -⟩ := hE
                                    obtain ⟨cell, f1, f2, f3, -⟩ := (e11 (j - 1000010) (by omega)).1.kept hS.2.1
                                    rw [show 1000010 + (j - 1000010) = j by omega] at f1
                                    rw [ij_ad_ge B (by omega), hc1, if_pos q1]
                                    exact ⟨cell, f1, f2, f3⟩
                                · show st.map (ij_cv B) = _
                                  conv => lhs; rw [sp1]
                                  rw [List.map_append, List.map_cons, ij_cv_ref B hjn, ← List.map_reverse, List.reverse_reverse]
                              · cases hq
                            · cases hq
                          · -- static
                            next idx =>
                            split at hq
                            · next hc =>
                              cases hq
                              have hlen3 : len = 3 := by
                                rcases hlen with q | ⟨_, _, _, _, e⟩
                                · exact q
                                · cases e
                              subst hlen3
                              have hst : ∀ (f : Value → Value), st.map f = ((st.take b).reverse.map f).reverse ++ (st.drop b).map f := by
                                intro f
                                rw [← List.map_reverse, List.reverse_reverse, ← List.map_append, List.take_append_drop]
                              have hln : ((st.take b).reverse.map (ij_cv B)).length = b := by simp; omega
                              rcases hc.1 with rfl | rfl
                              · obtain ⟨hB1, hl1, hs1⟩ := hokC.1 rfl
                                refine ij_step_call hok hB ih hy hl0 hz hr hB1 ?_
                                intro p e R s m args below meth c' H locs cells slots mc1 ms1 ls hx hb hml hown hts hls hE hP hS hM hroom hf hpre
                                exact va_runS ⟨hx, hb, hml, hown, hts⟩ hM ⟨callB_of b hts (ij_good hok hB1.2.2.1) rfl rfl rfl (hts _ hB1.2.1) (hts _ hl1) hB1.2.2.2.1 hroom, hts _ hs1⟩ ⟨ij_blind _ _, hpre⟩ rfl hln hls (hst _) (lv_room (by rw [ij_cv_sum B hB]; exact hc.2.2)) hdec hf
                              · obtain ⟨hB1, hs1, hst', hn2⟩ := hokC.2 rfl
                                refine ij_step_call hok hB ih hy hl0 hz hr hB1 ?_
                                intro p e R s m args below meth c' H locs cells slots mc1 ms1 ls hx hb hml hown hts hls hE hP hS hM hroom hf hpre
                                exact va_runSN ⟨hx, hb, hml, hown, hts⟩ hM ⟨va_cnB b hts (ij_good hok hB1.2.2.1) rfl rfl rfl (hE.2.2.1 _ hn2) (hts _ hB1.2.1) hB1.2.2.2.1 hroom, hts _ hs1, trivial⟩ ⟨ij_blind _ _, hpre⟩ rfl hln hls (hst _) (lv_room (by rw [ij_cv_sum B hB]; exact hc.2.2)) hdec hf
                            · cases hq
                          · -- special
                            next idx =>
                            split at hq
                            · next j hj =>
                              split at hq
                              · next hc =>
                                cases hq
                                have hlen3 : len = 3 := by
                                  rcases hlen with q | ⟨_, _, _, _, e⟩
                                  · exact q
                                  · cases e
                                subst hlen3
                                obtain ⟨sp1, sp2, sp3⟩ := ij_split hj
                                have hjn : ¬ j = 1999999 := fun e0 => absurd (e0 ▸ hc.2.1) (by decide)
                                have eas : ((st.take (b + 1)).reverse).map (ij_cv B) = .ref (ij_ad B j) :: ((st.take b).reverse).map (ij_cv B) := by
                                  rw [sp2, List.map_cons, ij_cv_ref B hjn]
                                have hstk : st.map (ij_cv B) = (((st.take b).reverse).map (ij_cv B)).reverse ++ .ref (ij_ad B j) :: (st.drop (b + 1)).map (ij_cv B) := by
                                  conv => lhs; rw [sp1]
                                  rw [List.map_append, List.map_cons, ij_cv_ref B hjn, ← List.map_reverse, List.reverse_reverse]
                                rcases hc.1 with rfl | rfl
                                · obtain ⟨hB1, hl1, hi1, hn1, ht1⟩ := hokC.1 rfl
                                  refine ij_step_call hok hB ih hy hl0 hz hr hB1 ?_
                                  intro p e R s m args below meth c' H locs cells slots mc1 ms1 ls hx hb hml hown hts hls hE hP hS hM hroom hf hpre
                                  rw [eas] at hM hpre ⊢
                                  exact va_runI (As := ((st.take b).reverse).map (ij_cv B)) ⟨hx, hb, hml, hown, hts⟩ hM ⟨callB_of b hts (ij_good hok hB1.2.2.1) (by unfold ij_wsA; rw [ht1]) rfl rfl (hts _ hB1.2.1) (hts _ hl1) hB1.2.2.2.1 hroom, hn1, hts _ hi1⟩ ⟨ij_blind _ _, hpre⟩ rfl (by simpa using sp3) hls hstk (lv_room (by rw [ij_cv_sum B hB]; exact hc.2.2)) hdec hf
                                · obtain ⟨hB1, hi1, hn1, ht1, hst', hn2⟩ := hokC.2 rfl
                                  refine ij_step_call hok hB ih hy hl0 hz hr hB1 ?_
                                  intro p e R s m args below meth c' H locs cells slots mc1 ms1 ls hx hb hml hown hts hls hE hP hS hM hroom hf hpre
                                  rw [eas] at hM hpre ⊢
                                  exact va_runIN (As := ((st.take b).reverse).map (ij_cv B)) ⟨hx, hb, hml, hown, hts⟩ hM ⟨va_cnB b hts (ij_good hok hB1.2.2.1) (by unfold ij_wsA; rw [ht1]) rfl rfl (hE.2.2.1 _ hn2) (hts _ hB1.2.1) hB1.2.2.2.1 hroom, hn1, hts _ hi1⟩ ⟨ij_blind _ _, hpre⟩ rfl (by simpa using sp3) hls hstk (lv_room (by rw [ij_cv_sum B hB]; exact hc.2.2)) hdec hf
                              · cases hq
                            · cases hq
                          · cases hq
                        · cases hr
                      · cases hr
                    · cases hr
end IJ
