/-! All runs: by induction on the number of steps. -/
theorem ij_split {st : List Value} {n : Nat} {v : Value} (h : st[n]? = some v) : st = st.take n ++ v :: st.drop (n + 1) ∧ (st.take (n + 1)).reverse = v :: (st.take n).reverse ∧ (st.take n).length = n := by
  obtain ⟨hn, he⟩ := List.getElem?_eq_some_iff.mp h
  refine ⟨?_, ?_, by simp; omega⟩
  · rw [← he, List.drop_eq_getElem_cons hn |>.symm, List.take_append_drop]
  · rw [List.take_succ_eq_append_getElem hn, he]
    simp
section IJ
variable {l : Launch} {G : ij_G} {Z : ij_Z} {X : ij_Cx} {ty0 : Nat → Nat → FieldType} {gw : List Cond} {n1 : ij_N1} {n2 : ij_N2} {sr : ij_S1} {cl : List vw_C} {B : ij_B} {D : va_G} {aC : Nat → ClassId} {xt : ij_X}
theorem ij_good (hok : ij_Ok G Z X ty0 gw n1 n2 sr cl) {a : Nat} (hc : Cond.code (Z.1 a) (Z.2.1 a) (G.2.1 a) (Z.2.2.1 a) ∈ gw) : GoodIn gw (ij_wsA G Z gw a) := by
  obtain ⟨-, -, -, -, -, -, -, hg, -⟩ := hok
  intro w hw
  rcases List.mem_cons.mp hw with rfl | hw
  · exact ⟨hc, hg _ hc⟩
  · exact ⟨hw, hg _ hw⟩
set_option maxHeartbeats 4000000 in
theorem ij_walk (hok : ij_Ok G Z X ty0 gw n1 n2 sr cl) (hB : B.2.2.category = 1) : ∀ n, ij_Walk l G Z gw n1 n2 sr cl B D aC xt n := by
  intro n
  induction n with
  | zero => intro y pc L st h r h' hy hr; rw [ij_run] at hr; cases hr
  | succ n ih =>
    intro y pc L st h r h' hy hr
    obtain ⟨hcl, hcw, hty, htk, ht4, hnm, hcn, hgood, hmeth⟩ := id hok
    rw [ij_run] at hr
    split at hr
    · cases hr
    · next i len a b c hlk =>
      obtain ⟨hdec, hlen, hjok, hokR, hokW, hokC⟩ := (hmeth y hy).2.2 _ (ij_lookup_mem hlk)
      dsimp only at hdec hlen hjok hokR hokW hokC
      split at hr
      · next q hq =>
        have hl : len = ij_len i := hlen.resolve_right (fun ⟨d, lo, hi, os, e⟩ => by subst e; cases hq)
        subst hl
        obtain ⟨mono, hW⟩ := ih y _ q.1 q.2 h r h' hy hr
        refine ⟨mono, ?_⟩
        intro p e R s m args below meth c H locs cells slots mc ms Q ls hx hb hml hown hts hname hfr hlo hE hbase hP hS hLH hsz hmc hms hrc hrs hret
        exact ij_sL_ok hB hx hb hdec hLH hq (fun ls' hL' => hW p e R s m args below meth c H locs cells slots mc ms Q ls' hx hb hml hown hts hname hfr hlo hE hbase hP hS hL' hsz hmc hms hrc hrs hret)
      · split at hr
        · next q hq =>
          have hl : len = ij_len i := hlen.resolve_right (fun ⟨d, lo, hi, os, e⟩ => by subst e; unfold ij_sA at hq; split at hq <;> cases hq)
          subst hl
          obtain ⟨mono, hW⟩ := ih y _ L q h r h' hy hr
          refine ⟨mono, ?_⟩
          intro p e R s m args below meth c H locs cells slots mc ms Q ls hx hb hml hown hts hname hfr hlo hE hbase hP hS hLH hsz hmc hms hrc hrs hret
          exact ij_sA_ok hx hb hdec hq (hW p e R s m args below meth c H locs cells slots mc ms Q ls hx hb hml hown hts hname hfr hlo hE hbase hP hS hLH hsz hmc hms hrc hrs hret)
        · split at hr
          · next q hq =>
            obtain ⟨mono, hW⟩ := ih y _ L q.2 h r h' hy hr
            refine ⟨mono, ?_⟩
            intro p e R s m args below meth c H locs cells slots mc ms Q ls hx hb hml hown hts hname hfr hlo hE hbase hP hS hLH hsz hmc hms hrc hrs hret
            exact ij_bI_ok hx hb hdec hlen hjok hq (hW p e R s m args below meth c H locs cells slots mc ms Q ls hx hb hml hown hts hname hfr hlo hE hbase hP hS hLH hsz hmc hms hrc hrs hret)
          · split at hr
            · next q hq =>
              have hl : len = ij_len i := hlen.resolve_right (fun ⟨d, lo, hi, os, e⟩ => by subst e; cases hq)
              subst hl
              obtain ⟨mono, hW⟩ := ih y _ L q h r h' hy hr
              refine ⟨mono, ?_⟩
              intro p e R s m args below meth c H locs cells slots mc ms Q ls hx hb hml hown hts hname hfr hlo hE hbase hP hS hLH hsz hmc hms hrc hrs hret
              exact ij_hR_ok hB hcl hcw hx hb hdec hown hts hE hP hS (hLH.2.1.trans hml.symm) (ij_okR_mono hokR hfr hlo) hq (hW p e R s m args below meth c H locs cells slots mc ms Q ls hx hb hml hown hts hname hfr hlo hE hbase hP hS hLH hsz hmc hms hrc hrs hret)
            · split at hr
              · next q hq =>
                have hl : len = ij_len i := hlen.resolve_right (fun ⟨d, lo, hi, os, e⟩ => by subst e; cases hq)
                subst hl
                obtain ⟨mono, hW⟩ := ih y _ L q h r h' hy hr
                refine ⟨mono, ?_⟩
                intro p e R s m args below meth c H locs cells slots mc ms Q ls hx hb hml hown hts hname hfr hlo hE hbase hP hS hLH hsz hmc hms hrc hrs hret
                exact ij_sB_ok hB hx hb hdec hq (hW p e R s m args below meth c H locs cells slots mc ms Q ls hx hb hml hown hts hname hfr hlo hE hbase hP hS hLH hsz hmc hms hrc hrs hret)
              · split at hr
                · next q hq =>
                  have hl : len = ij_len i := hlen.resolve_right (fun ⟨d, lo, hi, os, e⟩ => by subst e; cases hq)
                  subst hl
                  obtain ⟨mono, hW⟩ := ih y _ L q.1 q.2 r h' hy hr
                  have mono1 := ij_hW_mono hq
                  refine ⟨⟨Nat.le_trans mono1.1 mono.1, Nat.le_trans mono1.2 mono.2⟩, ?_⟩
                  intro p e R s m args below meth c H locs cells slots mc ms Q ls hx hb hml hown hts hname hfr hlo hE hbase hP hS hLH hsz hmc hms hrc hrs hret
                  refine ij_hW_ok hB hcl hcw hty htk ht4 hnm hcn hx hb hdec hown hts hE hP hS (hLH.2.1.trans hml.symm) (fun hi => hname.trans hi) hsz hbase ⟨by omega, by omega⟩ (ij_okW_mono hokW hfr hlo) hq ?_
                  intro H1 locs1 cells1 slots1 hc1 hs1 hP1 hS1
                  exact hW p e R s m args below meth c H1 locs1 cells1 slots1 mc ms Q ls hx hb hml hown hts hname hfr hlo hE hbase hP1 hS1 hLH (by omega) (by omega) (by omega) hrc hrs hret
                · split at hr
                  · next q hq =>
                    cases hr
                    refine ⟨⟨Nat.le_refl _, Nat.le_refl _⟩, ?_⟩
                    intro p e R s m args below meth c H locs cells slots mc ms Q ls hx hb hml hown hts hname hfr hlo hE hbase hP hS hLH hsz hmc hms hrc hrs hret
                    have e1 : mc = cells := by omega
                    have e2 : ms = slots := by omega
                    subst e1
                    subst e2
                    have hl : len = 1 := by
                      rcases hlen with rfl | ⟨d, lo, hi, os, e⟩
                      · cases i <;> first | rfl | cases hq
                      · subst e; cases hq
                    subst hl
                    exact hret i pc ls st H locs hdec hq hP hS
                  · split at hr
                    · next q hq =>
                      split at hr
                      · next l0 hl0 =>
                        split at hr
                        · next z hz =>
                          sorry
                        · cases hr
                      · cases hr
                    · cases hr
end IJ
