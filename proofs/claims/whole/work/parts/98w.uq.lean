/-! Studies as a text in the model: what follows a word. -/
def sf_TK (g0 g : iq_I) : Prop := (∀ j, ¬ j = 77 → ¬ j = 78 → ¬ j = 84 → g j = g0 j) ∧ (∀ k, ¬ (11 ≤ k ∧ k ≤ 14) → ¬ (16 ≤ k ∧ k ≤ 17) → ¬ (20 ≤ k ∧ k ≤ 21) → g 77 k = g0 77 k) ∧ (∀ k, k < 1840 → g 78 k = g0 78 k)
/-- a row is begun: W holds it -/
def sf_TI (g0 g : iq_I) (A : Int → Int) (n x : Int) (D : Int → Int) (m : Nat) (c d : Int) (W : Int → Int) : Prop := sf_TK g0 g ∧ sf_MB g A n ∧ sf_MT1 g A n x ∧ (g 78 1850 = (m : Int) + 1 ∧ g 77 20 = d ∧ g 77 21 = c) ∧ (∀ i : Int, 0 ≤ i → i < 6 * m → g 78 (1932 + i) = D i) ∧ (∀ f : Int, 0 ≤ f → f < 6 → g 78 (1932 + 6 * m + f) = W f) ∧ sf_SL (fun o => (o : Int)) (g 84) (sf_E D m) ∧ g 77 17 = 0 ∧ g 77 16 = -1
section UQ
variable {N : Nat} {xs : Nat → Int32} {Q : iq_T} {g0 g : iq_I} {l : iq_J} {A : Int → Int} {n p x c d : Int} {D W : Int → Int} {m : Nat}
theorem sf_TK.ak {g' : iq_I} (h : sf_TK g0 g) (k : sf_AK g g') : sf_TK g0 g' := ⟨fun j y1 y2 y3 => by rw [k.1 j y1]; exact h.1 j y1 y2 y3, fun i y1 y2 y3 => by rw [k.2 i y1]; exact h.2.1 i y1 y2 y3, fun i y => by rw [k.1 78 (by decide)]; exact h.2.2 i y⟩
theorem sf_TK.fk {g' : iq_I} (h : sf_TK g0 g) (k : sf_FK g g') : sf_TK g0 g' := ⟨fun j y1 y2 y3 => by rw [k.1 j y1]; exact h.1 j y1 y2 y3, fun i y1 y2 y3 => by rw [k.2 i (by omega) (by omega)]; exact h.2.1 i y1 y2 y3, fun i y => by rw [k.1 78 (by decide)]; exact h.2.2 i y⟩
theorem sf_TI.ak {g' : iq_I} {x' : Int} (h : sf_TI g0 g A n x D m c d W) (k : sf_AK g g') (t : sf_MT1 g' A n x') : sf_TI g0 g' A n x' D m c d W := by
  obtain ⟨h1, h2, h3, h4, h5, h6, h7, h8, h9⟩ := h
  unfold sf_TI
  rw [k.1 78 (by decide), k.1 84 (by decide), k.2 20 (by omega), k.2 21 (by omega), k.2 17 (by omega), k.2 16 (by omega)]
  exact ⟨h1.ak k, h2.k k, t, h4, h5, h6, h7, h8, h9⟩
theorem sf_TI.up (h : sf_TI g0 g A n x D m c d W) {f v : Int} (hf : 0 ≤ f ∧ f < 6) : sf_TI g0 (iq_uz g 78 (1932 + 6 * m + f) v) A n x D m c d (fun i => if i = f then v else W i) := by
  obtain ⟨h1, h2, h3, h4, h5, h6, h7, h8, h9⟩ := h
  unfold sf_TI sf_MB sf_MT1
  have o : ∀ j, ¬ j = 78 → (iq_uz g 78 (1932 + 6 * m + f) v) j = g j := fun j y => sf_uzn _ y _ _
  rw [o 77 (by decide), o 84 (by decide), o 83 (by decide), iq_uz78 (by omega)]
  refine ⟨⟨fun j y1 y2 y3 => by rw [o j y2]; exact h1.1 j y1 y2 y3, fun i y1 y2 y3 => by rw [o 77 (by decide)]; exact h1.2.1 i y1 y2 y3, fun i y => by rw [iq_uz78 (by omega)]; exact h1.2.2 i y⟩, h2, h3, h4, fun i i1 i2 => by rw [iq_uz78 (by omega)]; exact h5 i i1 i2, fun i i1 i2 => ?_, h7, h8, h9⟩
  show _ = if i = f then v else W i
  by_cases e : i = f
  · rw [e, if_pos rfl]; simp [iq_uz]
  · rw [if_neg e, iq_uz78 (by omega)]; exact h6 i i1 i2
theorem sf_TI.w {W' : Int → Int} (h : sf_TI g0 g A n x D m c d W) (e : ∀ f : Int, 0 ≤ f → f < 6 → W' f = W f) : sf_TI g0 g A n x D m c d W' := by
  obtain ⟨h1, h2, h3, h4, h5, h6, h7, h8, h9⟩ := h
  exact ⟨h1, h2, h3, h4, h5, fun f f1 f2 => by rw [e f f1 f2]; exact h6 f f1 f2, h7, h8, h9⟩
theorem sf_kp1 (h : 0 ≤ sf_kp A n p) : sf_tk A n p = 1 := by
  unfold sf_kp at h
  split at h
  · assumption
  · omega
/-- the row behind its words, no link as yet -/
def sf_rw0 (A : Int → Int) (n p : Int) (D : Int → Int) (m : Nat) : Int → Int := fun f => if f = 4 then 0 else sf_rwf A n p D m f
theorem sp102r {to f lo hi : Int} (ht : to = 1932 + 6 * m + f) (hT : sf_TI g0 g A n x D m c d W) (hx : 0 ≤ x ∧ x ≤ n) (hm : m < 60) (hf : 0 ≤ f ∧ f < 6) (hl : 0 ≤ lo ∧ lo ≤ 1) (hh : 0 ≤ hi ∧ hi ≤ 99) (q1 : sf_num A n x lo hi = 0 → ∀ g' : iq_I, sf_TI g0 g' A n (sf_te A n x) D m c d (fun i => if i = f then sf_tv A n x else W i) → Q (some (iq_i 1)) g' l) (q0 : ¬ sf_num A n x lo hi = 0 → ∀ g' : iq_I, sf_TK g0 g' → g' 77 17 = sf_num A n x lo hi → g' 77 16 = sf_ts A n x → Q (some (iq_i 0)) g' l) : iq_P N xs 102 0 [some (iq_r 77), some (iq_i to), some (iq_i lo), some (iq_i hi)] [] g l (fun r g1 l2 => ∃ z3, r = some (iq_i z3) ∧ ((z3 = 0 ∨ z3 = 1) ∧ Q (some (iq_i z3)) g1 l2)) := by
  subst ht
  exact sp102 hT.2.1 hx hT.2.2.1 hT.2.2.2.2.2.2.2.1 (by omega) (by omega) (by omega) (fun z g' k t => ⟨_, rfl, .inr rfl, q1 z g' ((hT.up hf).ak k t)⟩) (fun z g' k y1 y2 => ⟨_, rfl, .inl rfl, q0 z g' (hT.1.fk k) y1 y2⟩)
theorem sp129 (hT : sf_TI g0 g A n (sf_te A n p) D m c d (fun f => if f = 0 then sf_kp A n p else 0)) (hp : 0 ≤ p ∧ p ≤ n) (hm : m < 60) (k15 : sf_kp A n p = 15) (q1 : sf_qf A n (sf_te A n p) = 0 → sf_num A n (sf_np A n p) 0 (sf_h2 A n p) = 0 → ∀ g' : iq_I, sf_TI g0 g' A n (sf_sq A n p) D m c d (sf_rw0 A n p D m) → Q (some (iq_i 1)) g' l) (q0 : ∀ (g' : iq_I) (u v : Int), (¬ sf_qf A n (sf_te A n p) = 0 ∧ u = sf_qf A n (sf_te A n p) ∧ v = sf_ql A n (sf_te A n p)) ∨ (sf_qf A n (sf_te A n p) = 0 ∧ ¬ sf_num A n (sf_np A n p) 0 (sf_h2 A n p) = 0 ∧ u = sf_num A n (sf_np A n p) 0 (sf_h2 A n p) ∧ v = sf_ts A n (sf_np A n p)) → sf_TK g0 g' → g' 77 17 = u → g' 77 16 = v → Q (some (iq_i 0)) g' l) : iq_P N xs 129 0 [some (iq_r 77), some (iq_i (1932 + 6 * m)), none] [] g l Q := by
  have tR := sf_teR (A := A) hp
  have sR := sf_tsR (A := A) hp
  have hq : 0 ≤ sf_te A n p ∧ sf_te A n p ≤ n := by omega
  have tR2 := sf_teR (A := A) hq
  have sR2 := sf_tsR (A := A) hq
  have hq2 : 0 ≤ sf_te A n (sf_te A n p) ∧ sf_te A n (sf_te A n p) ≤ n := by omega
  have tR3 := sf_teR (A := A) hq2
  have sR3 := sf_tsR (A := A) hq2
  have kR := sf_kpR A n (sf_te A n p)
  have enp : sf_np A n p = sf_qa A n (sf_te A n p) := by unfold sf_np; rw [if_pos k15]
  have hnt : sf_hn (sf_kp A n p) = true := by rw [k15]; decide
  have esq : sf_sq A n p = sf_te A n (sf_np A n p) := by unfold sf_sq; rw [if_pos hnt]
  -- behind the asked word, where it is granted
  have go : (sf_kp A n (sf_te A n p) = 9 ∨ 19 ≤ sf_kp A n (sf_te A n p)) → iq_P N xs 96 0 [some (iq_r 77), none] [] (iq_uz g 78 (1932 + 6 * m) (1500 + sf_kp A n (sf_te A n p))) l (fun r g4 l5 => r = none ∧ ((-2147483648 ≤ sf_kp A n (sf_te A n p) ∧ sf_kp A n (sf_te A n p) ≤ 2147483647) ∧
          (sf_kp A n (sf_te A n p) = (20 : Int) → (iq_P N xs 104 0 [some (iq_r 77), some (iq_i 60)] [] g4 l5 (fun r g6 l7 => ∃ z8, r = some (iq_i z8) ∧ ((-2147483648 ≤ z8 ∧ z8 ≤ 2147483647) ∧
              (¬ z8 = (0 : Int) → (iq_P N xs 129 90 [some (iq_r 77), some (iq_i (1932 + 6 * m)), some (iq_i (sf_kp A n (sf_te A n p)))] [] g6 l7 Q)) ∧
              (z8 = (0 : Int) → (iq_P N xs 104 0 [some (iq_r 77), some (iq_i 62)] [] g6 l7 (fun r g9 l10 => ∃ z11, r = some (iq_i z11) ∧ ((-2147483648 ≤ z11 ∧ z11 ≤ 2147483647) ∧
                  (¬ z11 = (0 : Int) → (iq_P N xs 129 90 [some (iq_r 77), some (iq_i (1932 + 6 * m)), some (iq_i (sf_kp A n (sf_te A n p)))] [] g9 l10 Q)) ∧
                  (z11 = (0 : Int) → (iq_P N xs 104 0 [some (iq_r 77), some (iq_i 61)] [] g9 l10 (fun r g12 l13 => ∃ z14, r = some (iq_i z14) ∧ ((-2147483648 ≤ z14 ∧ z14 ≤ 2147483647) ∧
                      (¬ z14 = (0 : Int) → (iq_P N xs 129 90 [some (iq_r 77), some (iq_i (1932 + 6 * m)), some (iq_i (sf_kp A n (sf_te A n p)))] [] g12 l13 Q)) ∧
                      (z14 = (0 : Int) → (iq_P N xs 129 84 [some (iq_r 77), some (iq_i (1932 + 6 * m)), some (iq_i (sf_kp A n (sf_te A n p)))] [] g12 l13 Q)))))))))))))) ∧
          (¬ sf_kp A n (sf_te A n p) = (20 : Int) → (iq_P N xs 102 0 [some (iq_r 77), some (iq_i (1932 + 6 * m + 1)), some (iq_i 0), some (iq_i 59)] [] g4 l5 (fun r g15 l16 => ∃ z17, r = some (iq_i z17) ∧ ((z17 = 0 ∨ z17 = 1) ∧ Q (some (iq_i z17)) g15 l16)))))) := by
    intro k9
    have t1 := sf_kp1 (A := A) (n := n) (p := sf_te A n p) (by omega)
    have hU := hT.up (f := 0) (v := 1500 + sf_kp A n (sf_te A n p)) (by omega)
    rw [Int.add_zero] at hU
    refine sp96 (p := sf_te A n (sf_te A n p)) hU.2.1 (hU.2.2.1.2.2.1 (by omega)) hq2 (fun G k t => ⟨rfl, by omega, fun k20 => ?_, fun k20 => ?_⟩)
    · have hV := hU.ak k t
      have eqa : sf_qa A n (sf_te A n p) = sf_te A n (sf_te A n (sf_te A n p)) := by unfold sf_qa; rw [if_pos k20]
      have eh : sf_h2 A n p = 60 := by unfold sf_h2; rw [if_neg (by omega), if_pos ⟨k15, k20⟩]
      have ef : sf_qf A n (sf_te A n p) = if sf_tk A n (sf_te A n (sf_te A n p)) = 4 then 1 else if sf_tk A n (sf_te A n (sf_te A n p)) = 3 ∧ (sf_tv A n (sf_te A n (sf_te A n p)) = 60 ∨ sf_tv A n (sf_te A n (sf_te A n p)) = 61 ∨ sf_tv A n (sf_te A n (sf_te A n p)) = 62) then 0 else 2 := by unfold sf_qf; rw [if_neg (by omega), if_pos k20]
      have el : sf_ql A n (sf_te A n p) = sf_ts A n (sf_te A n (sf_te A n p)) := by unfold sf_ql; rw [if_neg (by omega)]
      have ok : sf_tk A n (sf_te A n (sf_te A n p)) = 3 ∧ (sf_tv A n (sf_te A n (sf_te A n p)) = 60 ∨ sf_tv A n (sf_te A n (sf_te A n p)) = 61 ∨ sf_tv A n (sf_te A n (sf_te A n p)) = 62) → iq_P N xs 129 90 [some (iq_r 77), some (iq_i (1932 + 6 * m)), some (iq_i (sf_kp A n (sf_te A n p)))] [] G l Q := by
        intro s
        rw [if_neg (by omega), if_pos s] at ef
        have hW := hV.up (f := 5) (v := G 77 14) (by omega)
        refine B129_p90_77 _ _ _ _ ⟨by omega, B129_p102_77 _ _ _ _ (sp96 (p := sf_te A n (sf_te A n (sf_te A n p))) hW.2.1 (hW.2.2.1.2.2.1 (by omega)) (by omega) (fun G2 k2 t2 => ⟨rfl, ?_⟩))⟩
        have e14 : G 77 14 = sf_tv A n (sf_te A n (sf_te A n p)) := hV.2.2.1.2.2.2 (.inr s.1)
        refine sp102r (f := 2) rfl (hW.ak k2 t2) (by omega) hm (by omega) (by omega) (by omega) (fun z g' y => q1 ef (by rw [enp, eqa, eh]; exact z) g' ?_) (fun z g' y1 y2 y3 => q0 g' _ _ (.inr ⟨ef, by rw [enp, eqa, eh]; exact z, rfl, rfl⟩) y1 (by rw [enp, eqa, eh]; exact y2) (by rw [enp, eqa]; exact y3))
        rw [esq, enp, eqa]
        refine y.w (fun f f1 f2 => ?_)
        unfold sf_rw0 sf_rwf
        rw [enp, eqa, e14]
        have : f = 0 ∨ f = 1 ∨ f = 2 ∨ f = 3 ∨ f = 4 ∨ f = 5 := by omega
        rcases this with e | e | e | e | e | e <;> subst e <;> simp [k15, k20]
      have bad : ¬ (sf_tk A n (sf_te A n (sf_te A n p)) = 3 ∧ (sf_tv A n (sf_te A n (sf_te A n p)) = 60 ∨ sf_tv A n (sf_te A n (sf_te A n p)) = 61 ∨ sf_tv A n (sf_te A n (sf_te A n p)) = 62)) → iq_P N xs 129 84 [some (iq_r 77), some (iq_i (1932 + 6 * m)), some (iq_i (sf_kp A n (sf_te A n p)))] [] G l Q := by
        intro s
        rw [if_neg s] at ef
        refine B129_p84_77 _ _ _ _ (sp100 hV.2.2.2.2.2.2.2.1 hV.2.2.1 (fun g' k y1 y2 => ⟨_, rfl, .inl rfl, q0 g' _ _ (.inl ⟨?_, rfl, rfl⟩) (hV.1.fk k) (by rw [y1, ef]) (by rw [y2, el])⟩))
        rw [ef]
        split <;> omega
      refine sp104 hV.2.1 hq2 hV.2.2.1 (by omega) (fun e => ⟨_, rfl, by omega, fun _ => ok (by omega), fun x => by omega⟩) (fun e1 => ⟨_, rfl, by omega, fun x => absurd rfl x, fun _ => ?_⟩)
      refine sp104 hV.2.1 hq2 hV.2.2.1 (by omega) (fun e => ⟨_, rfl, by omega, fun _ => ok (by omega), fun x => by omega⟩) (fun e2 => ⟨_, rfl, by omega, fun x => absurd rfl x, fun _ => ?_⟩)
      exact sp104 hV.2.1 hq2 hV.2.2.1 (by omega) (fun e => ⟨_, rfl, by omega, fun _ => ok (by omega), fun x => by omega⟩) (fun e3 => ⟨_, rfl, by omega, fun x => absurd rfl x, fun _ => bad (by omega)⟩)
    · have hV := hU.ak k t
      have eqa : sf_qa A n (sf_te A n p) = sf_te A n (sf_te A n p) := by unfold sf_qa; rw [if_neg k20]
      have eh : sf_h2 A n p = 59 := by unfold sf_h2; rw [if_neg (by omega), if_neg (fun z => k20 z.2)]
      have ef : sf_qf A n (sf_te A n p) = 0 := by unfold sf_qf; rw [if_neg (by omega), if_neg k20]
      refine sp102r (f := 1) rfl hV hq2 hm (by omega) (by omega) (by omega) (fun z g' y => q1 ef (by rw [enp, eqa, eh]; exact z) g' ?_) (fun z g' y1 y2 y3 => q0 g' _ _ (.inr ⟨ef, by rw [enp, eqa, eh]; exact z, rfl, rfl⟩) y1 (by rw [enp, eqa, eh]; exact y2) (by rw [enp, eqa]; exact y3))
      rw [esq, enp, eqa]
      refine y.w (fun f f1 f2 => ?_)
      unfold sf_rw0 sf_rwf
      rw [enp, eqa]
      have : f = 0 ∨ f = 1 ∨ f = 2 ∨ f = 3 ∨ f = 4 ∨ f = 5 := by omega
      rcases this with e | e | e | e | e | e <;> subst e <;> simp [k15, k20, sf_hn]
  refine B129_77 _ _ _ (sp99 hT.2.1 hq hT.2.2.1 ⟨_, rfl, by omega, fun k9 => ⟨by omega, go (.inl k9)⟩, fun n9 => ⟨by omega, fun k19 => ⟨by omega, go (.inr k19)⟩, fun k19 => ?_⟩⟩)
  have k0 : ¬ (sf_kp A n (sf_te A n p) = 9 ∨ 19 ≤ sf_kp A n (sf_te A n p)) := by omega
  have ef : sf_qf A n (sf_te A n p) = if sf_tk A n (sf_te A n p) = 4 then 1 else 2 := by unfold sf_qf; rw [if_pos k0]
  have el : sf_ql A n (sf_te A n p) = sf_ts A n (sf_te A n p) := by unfold sf_ql; rw [if_pos k0]
  refine sp100 hT.2.2.2.2.2.2.2.1 hT.2.2.1 (fun g' k y1 y2 => ⟨_, rfl, .inl rfl, q0 g' _ _ (.inl ⟨?_, rfl, rfl⟩) (hT.1.fk k) (by rw [y1, ef]) (by rw [y2, el])⟩)
  rw [ef]
  split <;> omega
end UQ
