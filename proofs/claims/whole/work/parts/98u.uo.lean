/-! Studies as a text in the class: ends, and the whole text. -/
section UO
variable {N : Nat} {xs : Nat → Int32} {Q : iq_T} {g0 g : iq_I} {l : iq_J} {A : Int → Int} {n p : Int} {D : Int → Int} {m : Nat}
theorem sf_nx17 {o : Nat} {r : List Nat} {K T M B B' : Int → Int} (k17 : sf_kp A n p = 17) (h : sf_PW D m K T M B) (eo : sf_E D m = o :: r) (kc : ∀ j : Int, 0 ≤ j → j < sf_c D m → ¬ j = sf_c D o → B' j = B j) (bc : B' (sf_c D o) = sf_c D m) : sf_PW (sf_nx A n p D m) (m + 1) K T M B' ∧ sf_E (sf_nx A n p D m) (m + 1) = r ∧ sf_c (sf_nx A n p D m) (m + 1) = sf_c D m ∧ ∀ i, i ≤ m → sf_c (sf_nx A n p D m) i = sf_c D i := by
  have r0 := sf_nx_row A n p D m (f := 0) (by omega)
  have r4 := sf_nx_row A n p D m (f := 4) (by omega)
  rw [Int.add_zero] at r0
  have e17 : sf_nx A n p D m (6 * m) = 17 := by rw [r0, sf_rwf, if_pos rfl, if_neg (by omega), k17]
  have hd : sf_hd (sf_E D m) = o := by rw [eo]; rfl
  have e4 : sf_nx A n p D m (6 * m + 4) = o := by rw [r4, sf_rwf, if_neg (by decide), if_neg (by decide), if_neg (by decide), if_pos rfl, if_pos k17, hd]
  have om := sf_E_lt D m o (by rw [eo]; exact List.mem_cons_self)
  have ec : sf_nx A n p D m (6 * o + 4) = m := by
    unfold sf_nx
    rw [if_neg (by omega), if_pos ⟨k17, by rw [hd]⟩]
  have old0 : ∀ i : Nat, i < m → sf_nx A n p D m (6 * i) = D (6 * i) := fun i hi => by have := sf_nx_old (A := A) (n := n) (p := p) (D := D) hi (f := 0) (by omega) (by omega); rwa [Int.add_zero] at this
  refine ⟨h.close eo (fun i hi => ⟨old0 i hi, sf_nx_old hi (by omega) (by omega), sf_nx_old hi (by omega) (by omega), sf_nx_old hi (by omega) (by omega)⟩) (fun i hi io => sf_nx_old hi (by omega) (by rw [hd]; omega)) e17 e4 ec kc bc, ?_, ?_, fun i hi => sf_c_ag old0 i hi⟩
  · rw [sf_E, e17, if_neg (by rw [sf_isO17]; decide), if_pos rfl, sf_E_ag old0 m (by omega), eo]; rfl
  · rw [sf_c, if_pos e17, sf_c_ag old0 m (by omega)]; rfl
theorem sp119 (hs : sf_SS g0 g D m) (hA : sf_AB g A n) (hp : 0 ≤ p ∧ p ≤ n) (t : sf_CT g A n p) (k17 : sf_kp A n p = 17) (k4 : ¬ sf_tk A n p = 4) (q1 : (sf_sf A n p (sf_E D m).length (sf_c D m)).1 = 0 → ∀ g' : iq_I, sf_SS g0 g' (sf_nx A n p D m) (m + 1) → sf_AB g' A n → g' 10 3 = sf_ep A n p → Q (some (iq_i 1)) g' l) (q0 : ¬ (sf_sf A n p (sf_E D m).length (sf_c D m)).1 = 0 → ∀ g' : iq_I, sf_SK g0 g' → g' 10 7 = (sf_sf A n p (sf_E D m).length (sf_c D m)).1 → g' 10 8 = (sf_sf A n p (sf_E D m).length (sf_c D m)).2 → Q (some (iq_i 0)) g' l) : iq_P N xs 119 0 [some (iq_r 16), none] [] g l Q := by
  have c17 : g 17 4 = sf_c D m := hs.2.1.1
  have c16 : g 16 3 = (sf_E D m).length := hs.2.1.2.2
  have cle : sf_c D m ≤ 30 := hs.2.2.2.1.1
  have dle : (sf_E D m).length ≤ 3 := hs.2.2.2.1.2.2.1 m (by omega)
  refine B119_16 _ _ ?_
  rw [c16]
  cases eo : sf_E D m with
  | nil =>
    have hf : sf_hf A n p (sf_E D m).length (sf_c D m) = 2 := by
      unfold sf_hf
      rw [if_neg k4, if_neg (by omega), if_pos ⟨k17, by rw [eo]; rfl⟩]
    have e0 := sf_sf3 (A := A) (n := n) (p := p) (d := (sf_E D m).length) (c := sf_c D m) (by rw [hf]; decide)
    rw [e0, hf] at q0
    refine ⟨by decide, fun _ => sp63 (fun g' r f7 f8 => ⟨_, rfl, .inl rfl, q0 (by simp) g' (hs.1.rk r (by omega)) f7 (by rw [f8]; exact t.2.2.1)⟩), fun x => absurd x (by decide)⟩
  | cons o r =>
    have om := sf_E_lt D m o (by rw [eo]; exact List.mem_cons_self)
    have oo := sf_E_op D m o (by rw [eo]; exact List.mem_cons_self)
    have o17 : ¬ D (6 * o) = 17 := fun e => by rw [e] at oo; cases oo
    have oc := sf_c_st om o17
    have sl := hs.2.2.1
    rw [eo] at sl
    have ln : (o :: r).length = r.length + 1 := List.length_cons
    rw [eo, ln] at dle
    rw [ln]
    have e22 : g 22 (((r.length + 1 : Nat) : Int) - 1) = sf_c D o := by rw [show ((r.length + 1 : Nat) : Int) - 1 = r.length by omega]; exact sl.1
    have hf : sf_hf A n p (sf_E D m).length (sf_c D m) = 0 := by
      unfold sf_hf
      rw [if_neg k4, if_neg (by omega), if_neg (by rw [eo, ln]; omega), if_neg (by omega), if_neg (by omega)]
    have hw : sf_kp A n p = 15 → sf_qf A n (sf_te A n p) = 0 := fun z => by omega
    have hnn : ¬ sf_hn (sf_kp A n p) = true := by rw [k17]; decide
    have e0 := sf_sf0 hf hw (fun z => absurd z hnn)
    have esq : sf_sq A n p = sf_te A n p := by unfold sf_sq; rw [if_neg hnn]
    rw [e0] at q1 q0
    have sqR := sf_sqR (A := A) hp
    rw [e22]
    refine ⟨by omega, fun x => by omega, fun _ => ⟨by omega, fun _ => ⟨by omega, B118_17 _ _ _ ?_⟩, fun x => by omega⟩⟩
    have f17 : ∀ w : Int, (iq_uz g 16 3 w) 17 4 = sf_c D m := fun w => by rw [sf_uzn _ (by decide)]; exact c17
    rw [f17]
    refine ⟨by omega, fun x => by omega, fun _ => ⟨by omega, fun x => by omega, fun _ => ⟨by omega, fun x => by omega, fun _ => ⟨_, rfl, by omega, fun x => by omega, fun _ => ⟨by omega, ?_⟩⟩⟩⟩⟩
    have d : ∀ (w y : Int) (j : Nat), ¬ j = 16 → ¬ j = 21 → (iq_uz (iq_uz g 16 3 w) 21 (sf_c D o) y) j = g j := fun w y j j1 j2 => by rw [sf_uzn _ j2, sf_uzn _ j1]
    refine sp84 (p := sf_sq A n p) ⟨by rw [d _ _ 10 (by decide) (by decide)]; exact hA.1, hA.2.1, by rw [d _ _ 11 (by decide) (by decide)]; exact hA.2.2⟩ (by rw [d _ _ 10 (by decide) (by decide), esq]; exact t.1) (by omega) (fun c G k u => ⟨_, rfl, .inr rfl, q1 c G ?_ ?_ u.1⟩) (fun c G k f7 f8 => ⟨_, rfl, .inl rfl, q0 c G ?_ f7 f8⟩)
    · obtain ⟨z1, z2, z3, z4⟩ := sf_nx17 (A := A) (n := n) (p := p) (B' := (iq_uz (iq_uz g 16 3 (((r.length + 1 : Nat) : Int) - 1)) 21 (sf_c D o) (sf_c D m)) 21) k17 hs.2.2.2.1 eo (fun j _ _ y => by simp [iq_uz, y]) (by simp [iq_uz])
      have nl : ∀ i : Int, ¬ i = 3 → ¬ i = 4 → ¬ i = 5 → ¬ i = 6 → G 10 i = g 10 i := fun i y1 y2 y3 y4 => by rw [k.2 i (by omega), d _ _ 10 (by decide) (by decide)]
      refine ⟨⟨fun j y1 y2 => by rw [k.1 j y1, d _ _ j (by omega) (by omega)]; exact hs.1.1 j y1 y2, fun i y => by rw [nl i (by omega) (by omega) (by omega) (by omega)]; exact hs.1.2 i y⟩, ⟨?_, ?_, ?_⟩, ?_, ?_, by rw [nl 7 (by decide) (by decide) (by decide) (by decide)]; exact hs.2.2.2.2.1, by rw [nl 8 (by decide) (by decide) (by decide) (by decide)]; exact hs.2.2.2.2.2⟩
      · rw [k.1 17 (by decide), d _ _ 17 (by decide) (by decide), z3]; exact c17
      · rw [k.1 17 (by decide), d _ _ 17 (by decide) (by decide)]; exact hs.2.1.2.1
      · rw [k.1 16 (by decide), z2, sf_uzn _ (by decide), show (iq_uz g 16 3 (((r.length + 1 : Nat) : Int) - 1)) 16 3 = ((r.length + 1 : Nat) : Int) - 1 by simp [iq_uz]]; omega
      · rw [k.1 22 (by decide), d _ _ 22 (by decide) (by decide), z2]
        exact sf_SL_congr sl.2 (fun _ _ _ => rfl) (fun x hx => by have := sf_E_lt D m x (by rw [eo]; exact List.mem_cons_of_mem _ hx); rw [z4 x (by omega)])
      · rw [k.1 18 (by decide), k.1 19 (by decide), k.1 20 (by decide), k.1 21 (by decide), d _ _ 18 (by decide) (by decide), d _ _ 19 (by decide) (by decide), d _ _ 20 (by decide) (by decide)]
        exact z1
    · exact ⟨by rw [k.2 2 (by omega), d _ _ 10 (by decide) (by decide)]; exact hA.1, hA.2.1, by rw [k.1 11 (by decide), d _ _ 11 (by decide) (by decide)]; exact hA.2.2⟩
    · exact ⟨fun j y1 y2 => by rw [k.1 j y1, d _ _ j (by omega) (by omega)]; exact hs.1.1 j y1 y2, fun i y => by rw [k.2 i (by omega), d _ _ 10 (by decide) (by decide)]; exact hs.1.2 i y⟩
theorem sf_epR (hp : 0 ≤ p ∧ p ≤ n) (k0 : ¬ sf_tk A n p = 0) : p < sf_ep A n p ∧ sf_ep A n p ≤ n := by
  have a := sf_sqR (A := A) hp
  have b := sf_teR (A := A) hp
  have b' := sf_tsR (A := A) hp
  have hq : 0 ≤ sf_sq A n p ∧ sf_sq A n p ≤ n := by omega
  have c := sf_teR (A := A) hq
  have c' := sf_tsR (A := A) hq
  have := b.2.2 k0
  unfold sf_ep
  omega
theorem sp126_p {v1 : Int} (hn : n ≤ 300) (f : Nat) : ∀ (g : iq_I) (p v : Int) (D : Int → Int) (m : Nat) (d3 : Option iq_V), sf_SS g0 g D m → sf_AB g A n → g 10 3 = p → (0 ≤ p ∧ p ≤ n) → n - p < f → (0 ≤ v ∧ v ≤ p) → ((sf_stu A n f p D m).1 = 0 → ∀ g' : iq_I, sf_SS g0 g' (sf_stu A n f p D m).2.2.1 (sf_stu A n f p D m).2.2.2 → sf_E (sf_stu A n f p D m).2.2.1 (sf_stu A n f p D m).2.2.2 = [] → Q (some (iq_i 1)) g' l) → (¬ (sf_stu A n f p D m).1 = 0 → ∀ g' : iq_I, sf_SK g0 g' → g' 10 7 = (sf_stu A n f p D m).1 → g' 10 8 = (sf_stu A n f p D m).2.1 → Q (some (iq_i 0)) g' l) → iq_P N xs 126 31 [some (iq_r 16), some (iq_i v1), some (iq_i v), d3] [] g l Q := by
  induction f with
  | zero => intro g p v D m d3 _ _ _ hp hf; omega
  | succ f ih =>
    intro g p v D m d3 hs hA e3 hp hf hv q1 q0
    have kR := sf_tkR A n p
    refine B126_p31_16 _ _ _ _ _ ⟨by omega, fun x => by omega, fun _ => sp64x hA e3 hp (fun c4 G k t => ⟨_, rfl, by omega, fun _ => ?_, fun x => by omega⟩) (fun c4 G k f7 f8 => ⟨_, rfl, by omega, fun x => absurd rfl x, fun _ => ?_⟩)⟩
    · have hs' := hs.rk k
      have hA' := hA.k k
      have c16 : G 16 3 = (sf_E D m).length := hs'.2.1.2.2
      have dle : (sf_E D m).length ≤ 3 := hs.2.2.2.1.2.2.1 m (by omega)
      rw [t.2.1]
      refine ⟨by omega, fun k0 => ?_, fun k0 => ?_⟩
      · have eR := sf_epR (A := A) hp k0
        have pr : ∀ w : (sf_sf A n p (sf_E D m).length (sf_c D m)).1 = 0, sf_stu A n (f + 1) p D m = sf_stu A n f (sf_ep A n p) (sf_nx A n p D m) (m + 1) := fun w => by rw [sf_stu, if_neg c4, if_neg k0, if_pos w]
        have pr0 : ∀ w : ¬ (sf_sf A n p (sf_E D m).length (sf_c D m)).1 = 0, sf_stu A n (f + 1) p D m = ((sf_sf A n p (sf_E D m).length (sf_c D m)).1, (sf_sf A n p (sf_E D m).length (sf_c D m)).2, D, m) := fun w => by rw [sf_stu, if_neg c4, if_neg k0, if_neg w]
        refine sf_is_10 hA' hp t (fun k17 => ⟨_, rfl, by omega, fun x => by omega, fun _ => ?_⟩) (fun k17 => ⟨_, rfl, by omega, fun _ => sp120 hA' hp t ⟨_, rfl, ?_⟩, fun x => absurd rfl x⟩)
        · refine sp119 hs' hA' hp t k17 c4 (fun w g' y1 y2 y3 => ⟨_, rfl, by omega, fun _ => ?_, fun x => by omega⟩) (fun w g' y1 y2 y3 => ⟨_, rfl, by omega, fun x => absurd rfl x, fun _ => ?_⟩)
          · rw [pr w] at q1 q0
            exact ih g' _ (v + 1) _ _ _ y1 y2 y3 (by omega) (by omega) (by omega) q1 q0
          · rw [pr0 w] at q0
            exact q0 w g' y1 y2 y3
        · refine sp125 hs' hA' hp t k17 c4 (fun w g' y1 y2 y3 => ⟨_, rfl, by omega, fun _ => ?_, fun x => by omega⟩) (fun w g' y1 y2 y3 => ⟨_, rfl, by omega, fun x => absurd rfl x, fun _ => ?_⟩)
          · rw [pr w] at q1 q0
            exact ih g' _ (v + 1) _ _ _ y1 y2 y3 (by omega) (by omega) (by omega) q1 q0
          · rw [pr0 w] at q0
            exact q0 w g' y1 y2 y3
      · rw [c16]
        by_cases d0 : (sf_E D m).length = 0
        · rw [sf_stu, if_neg c4, if_pos k0, if_pos d0] at q1
          exact ⟨by omega, fun _ => q1 rfl G hs' (List.length_eq_zero_iff.mp d0), fun x => by omega⟩
        · rw [sf_stu, if_neg c4, if_pos k0, if_neg d0] at q0
          exact ⟨by omega, fun x => by omega, fun _ => sp63 (fun g' r f7 f8 => ⟨_, rfl, by omega, fun _ => q0 (by simp) g' (hs'.1.rk r (by omega)) f7 (by rw [f8]; exact t.2.2.1), fun x => absurd rfl x⟩)⟩
    · rw [sf_stu, if_pos c4] at q0
      exact q0 (by simp) G (hs.1.rk k (by omega)) f7 f8
end UO
