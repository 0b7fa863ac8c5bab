/-! Studies as a text in the class: statements, one after another. -/
section UN
variable {N : Nat} {xs : Nat → Int32} {Q : iq_T} {g0 g : iq_I} {l : iq_J} {A : Int → Int} {n p : Int} {D : Int → Int} {m : Nat}
theorem sf_sf2 {d c : Nat} (hf : sf_hf A n p d c = 0) (k : sf_kp A n p = 15) (hw : ¬ sf_qf A n (sf_te A n p) = 0) : sf_sf A n p d c = (sf_qf A n (sf_te A n p), sf_ql A n (sf_te A n p)) := by
  unfold sf_sf
  rw [if_neg (fun h => h hf), if_pos ⟨k, hw⟩]
theorem sf_sf3 {d c : Nat} (hf : ¬ sf_hf A n p d c = 0) : sf_sf A n p d c = (sf_hf A n p d c, sf_ts A n p) := by
  unfold sf_sf
  rw [if_pos hf]
theorem sf_SM0 (hs : sf_SS g0 g D m) (ck : Int) : sf_SM g0 g (iq_uz (iq_uz (iq_uz (iq_uz g 18 (sf_c D m) ck) 19 (sf_c D m) (-1)) 21 (sf_c D m) ((sf_c D m : Int) + 1)) 17 4 ((sf_c D m : Int) + 1)) (sf_c D m) ck (sf_E D m).length false := by
  obtain ⟨s1, s2, s3, s4, s5, s6⟩ := hs
  refine ⟨⟨fun j y1 y2 => ?_, fun k y => ?_⟩, ⟨by simp [iq_uz], ?_, ?_⟩, fun j j1 j2 => ?_, ⟨by simp [iq_uz], by simp [iq_uz]⟩, fun i i1 i2 => by simp [iq_uz], fun h => absurd h (by decide), ?_, ?_⟩
  · rw [sf_uzn _ (by omega), sf_uzn _ (by omega), sf_uzn _ (by omega), sf_uzn _ (by omega)]; exact s1.1 j y1 y2
  · rw [sf_uzn _ (by decide), sf_uzn _ (by decide), sf_uzn _ (by decide), sf_uzn _ (by decide)]; exact s1.2 k y
  · rw [← s2.2.1]; simp [iq_uz]
  · rw [if_neg (by decide), ← s2.2.2]; simp [iq_uz]
  · have : ¬ j = sf_c D m := by omega
    simp [iq_uz, this]
  · rw [← s5]; simp [iq_uz]
  · rw [← s6]; simp [iq_uz]
theorem sf_SM1 (hs : sf_SS g0 g D m) (ck : Int) : sf_SM g0 g (iq_uz (iq_uz (iq_uz (iq_uz (iq_uz (iq_uz g 18 (sf_c D m) ck) 19 (sf_c D m) (-1)) 21 (sf_c D m) ((sf_c D m : Int) + 1)) 17 4 ((sf_c D m : Int) + 1)) 22 (sf_E D m).length (sf_c D m)) 16 3 (((sf_E D m).length : Int) + 1)) (sf_c D m) ck (sf_E D m).length true := by
  obtain ⟨h1, h2, h3, h4, h5, h6, h7, h8⟩ := sf_SM0 hs ck
  refine ⟨⟨fun j y1 y2 => ?_, fun k y => ?_⟩, ⟨by simp [iq_uz], ?_, ?_⟩, fun j j1 j2 => ?_, ⟨by simp [iq_uz], by simp [iq_uz]⟩, fun i i1 i2 => ?_, fun h => by simp [iq_uz], ?_, ?_⟩
  · rw [sf_uzn _ (by omega), sf_uzn _ (by omega)]; exact h1.1 j y1 y2
  · rw [sf_uzn _ (by decide), sf_uzn _ (by decide)]; exact h1.2 k y
  · rw [sf_uzn _ (by decide), sf_uzn _ (by decide)]; exact h2.2.1
  · rw [if_pos rfl]; simp [iq_uz]
  · have : ¬ j = sf_c D m := by omega
    simp [iq_uz, this]
  · have : ¬ i = (sf_E D m).length := by omega
    simp [iq_uz, this]
  · rw [← h7]; simp [iq_uz]
  · rw [← h8]; simp [iq_uz]
theorem sp125 (hs : sf_SS g0 g D m) (hA : sf_AB g A n) (hp : 0 ≤ p ∧ p ≤ n) (t : sf_CT g A n p) (k17 : ¬ sf_kp A n p = 17) (k4 : ¬ sf_tk A n p = 4) (q1 : (sf_sf A n p (sf_E D m).length (sf_c D m)).1 = 0 → ∀ g' : iq_I, sf_SS g0 g' (sf_nx A n p D m) (m + 1) → sf_AB g' A n → g' 10 3 = sf_ep A n p → Q (some (iq_i 1)) g' l) (q0 : ¬ (sf_sf A n p (sf_E D m).length (sf_c D m)).1 = 0 → ∀ g' : iq_I, sf_SK g0 g' → g' 10 7 = (sf_sf A n p (sf_E D m).length (sf_c D m)).1 → g' 10 8 = (sf_sf A n p (sf_E D m).length (sf_c D m)).2 → Q (some (iq_i 0)) g' l) : iq_P N xs 125 0 [some (iq_r 16), some (iq_i (sf_ck (sf_kp A n p))), none, none, none] [] g l Q := by
  have ckR := sf_ckR (sf_kp A n p)
  have kR := sf_kpR A n p
  have c17 : g 17 4 = sf_c D m := hs.2.1.1
  have c16 : g 16 3 = (sf_E D m).length := hs.2.1.2.2
  have cle : sf_c D m ≤ 30 := hs.2.2.2.1.1
  have dle : (sf_E D m).length ≤ 3 := hs.2.2.2.1.2.2.1 m (by omega)
  have fault : ∀ k : Int, sf_hf A n p (sf_E D m).length (sf_c D m) = k → ¬ k = 0 → iq_P N xs 63 0 [some (iq_r 10), some (iq_i k)] [] g l (fun r g1 l2 => ∃ z3, r = some (iq_i z3) ∧ ((z3 = 0 ∨ z3 = 1) ∧ Q (some (iq_i z3)) g1 l2)) := by
    intro k e kn
    have e0 := sf_sf3 (A := A) (n := n) (p := p) (d := (sf_E D m).length) (c := sf_c D m) (by rw [e]; exact kn)
    rw [e0, e] at q0
    exact sp63 (fun g' r f7 f8 => ⟨_, rfl, .inl rfl, q0 kn g' (hs.1.rk r (by omega)) f7 (by rw [f8]; exact t.2.2.1)⟩)
  have ckv : (sf_ck (sf_kp A n p) = -1 ↔ ¬ (sf_kp A n p = 5 ∨ (10 ≤ sf_kp A n p ∧ sf_kp A n p ≤ 18))) ∧ (sf_ck (sf_kp A n p) = 4 ↔ sf_kp A n p = 12) ∧ (sf_ck (sf_kp A n p) = 5 ↔ sf_kp A n p = 15) ∧ (sf_ck (sf_kp A n p) = 6 ↔ sf_kp A n p = 16) := by
    have key : ∀ u : Fin 22, ¬ (u.val : Int) - 1 = 17 → (sf_ck ((u.val : Int) - 1) = -1 ↔ ¬ ((u.val : Int) - 1 = 5 ∨ (10 ≤ (u.val : Int) - 1 ∧ (u.val : Int) - 1 ≤ 18))) ∧ (sf_ck ((u.val : Int) - 1) = 4 ↔ (u.val : Int) - 1 = 12) ∧ (sf_ck ((u.val : Int) - 1) = 5 ↔ (u.val : Int) - 1 = 15) ∧ (sf_ck ((u.val : Int) - 1) = 6 ↔ (u.val : Int) - 1 = 16) := by decide +kernel
    have z := key ⟨(sf_kp A n p + 1).toNat, by omega⟩
    rw [show (((⟨(sf_kp A n p + 1).toNat, by omega⟩ : Fin 22).val : Nat) : Int) - 1 = sf_kp A n p by show (((sf_kp A n p + 1).toNat : Nat) : Int) - 1 = _; omega] at z
    exact z k17
  -- the head of the statement is granted
  have go : (sf_kp A n p = 5 ∨ (10 ≤ sf_kp A n p ∧ sf_kp A n p ≤ 18)) → sf_c D m < 30 → (sf_opn (sf_kp A n p) = true → (sf_E D m).length < 3) → iq_P N xs 125 103 [some (iq_r 16), some (iq_i (sf_ck (sf_kp A n p))), some (iq_i (sf_c D m)), some (iq_i (if sf_opn (sf_kp A n p) = true then 1 else 0)), none] [] (iq_uz g 18 (sf_c D m) (sf_ck (sf_kp A n p))) l Q := by
    intro kk c30 o3
    have hf : sf_hf A n p (sf_E D m).length (sf_c D m) = 0 := by
      unfold sf_hf
      rw [if_neg k4, if_neg (fun z => z kk), if_neg (by omega), if_neg (by omega), if_neg]
      intro z
      have := o3 (by unfold sf_opn; simpa using z.1)
      omega
    refine B125_p103_16 _ _ _ _ _ ⟨by omega, B125_p113_16 _ _ _ _ _ ⟨by omega, ?_⟩⟩
    have r17 : (iq_uz (iq_uz g 18 (sf_c D m) (sf_ck (sf_kp A n p))) 19 (sf_c D m) (-1)) 17 4 = sf_c D m := by rw [sf_uzn _ (by decide), sf_uzn _ (by decide)]; exact c17
    have r16 : (iq_uz (iq_uz g 18 (sf_c D m) (sf_ck (sf_kp A n p))) 19 (sf_c D m) (-1)) 16 3 = (sf_E D m).length := by rw [sf_uzn _ (by decide), sf_uzn _ (by decide)]; exact c16
    rw [r17, r16]
    by_cases o : sf_opn (sf_kp A n p) = true
    · have dl := o3 o
      rw [if_pos o]
      have SM := sf_SM1 hs (sf_ck (sf_kp A n p))
      generalize eH : (iq_uz (iq_uz (iq_uz (iq_uz (iq_uz (iq_uz g 18 (sf_c D m) (sf_ck (sf_kp A n p))) 19 (sf_c D m) (-1)) 21 (sf_c D m) ((sf_c D m : Int) + 1)) 17 4 ((sf_c D m : Int) + 1)) 22 (sf_E D m).length (sf_c D m)) 16 3 (((sf_E D m).length : Int) + 1)) = H at SM ⊢
      rw [← o] at SM
      have h10 : H 10 = g 10 := by rw [← eH]; rw [sf_uzn _ (by decide), sf_uzn _ (by decide), sf_uzn _ (by decide), sf_uzn _ (by decide), sf_uzn _ (by decide), sf_uzn _ (by decide)]
      have h11 : H 11 = g 11 := by rw [← eH]; rw [sf_uzn _ (by decide), sf_uzn _ (by decide), sf_uzn _ (by decide), sf_uzn _ (by decide), sf_uzn _ (by decide), sf_uzn _ (by decide)]
      have h19 : H 19 (sf_c D m) = -1 := by rw [← eH]; simp [iq_uz]
      have hA' : sf_AB H A n := ⟨by rw [h10]; exact hA.1, hA.2.1, by rw [h11]; exact hA.2.2⟩
      refine ⟨by omega, fun x => by omega, fun _ => ⟨by omega, by omega, fun c5 => ?_, fun c5 => ?_⟩⟩
      · have k15 : ¬ sf_kp A n p = 15 := fun z => c5 (ckv.2.2.1.mpr z)
        exact sp125_177 hs SM hA' (by rw [h10]; unfold sf_np; rw [if_neg k15]; exact t.1) hp hf kk c30 k17 (fun z => absurd z k15) (by rw [if_neg k15]; exact h19) q1 q0
      · have k15 : sf_kp A n p = 15 := ckv.2.2.1.mp c5
        have tR := sf_teR (A := A) hp
        have sR := sf_tsR (A := A) hp
        refine sp123 (q := sf_te A n p) hA' (by rw [h10]; exact t.1) (by omega) (by omega) (fun w g' W w1 w2 => ⟨_, rfl, by omega, fun _ => ?_, fun x => by omega⟩) (fun w g' W f7 f8 => ⟨_, rfl, by omega, fun x => absurd rfl x, fun _ => ?_⟩)
        · refine sp125_177 hs (SM.keep (fun j y1 y2 _ => W.1 j y1 y2) W.2.1 W.2.2 (fun i _ => by rw [W.1 20 (by decide) (by decide)])) (hA'.w W) (by unfold sf_np; rw [if_pos k15]; exact w2) hp hf kk c30 k17 (fun _ => w) (by rw [if_pos k15]; exact w1) q1 q0
        · have e0 := sf_sf2 hf k15 w
          rw [e0] at q0
          exact B125_p175_16 _ _ _ _ _ (q0 w g' ⟨fun j y1 y2 => by rw [W.1 j y1 (by omega)]; exact SM.1.1 j y1 y2, fun k y => by rw [W.2.1 k y]; exact SM.1.2 k y⟩ f7 f8)
    · rw [if_neg o]
      have k15 : ¬ sf_kp A n p = 15 := fun z => o (by rw [z]; decide)
      have SM := sf_SM0 hs (sf_ck (sf_kp A n p))
      generalize eH : (iq_uz (iq_uz (iq_uz (iq_uz g 18 (sf_c D m) (sf_ck (sf_kp A n p))) 19 (sf_c D m) (-1)) 21 (sf_c D m) ((sf_c D m : Int) + 1)) 17 4 ((sf_c D m : Int) + 1)) = H at SM ⊢
      rw [show false = sf_opn (sf_kp A n p) by cases h : sf_opn (sf_kp A n p) with | true => exact absurd h o | false => rfl] at SM
      have h10 : H 10 = g 10 := by rw [← eH]; rw [sf_uzn _ (by decide), sf_uzn _ (by decide), sf_uzn _ (by decide), sf_uzn _ (by decide)]
      have h11 : H 11 = g 11 := by rw [← eH]; rw [sf_uzn _ (by decide), sf_uzn _ (by decide), sf_uzn _ (by decide), sf_uzn _ (by decide)]
      have h19 : H 19 (sf_c D m) = -1 := by rw [← eH]; simp [iq_uz]
      have hA' : sf_AB H A n := ⟨by rw [h10]; exact hA.1, hA.2.1, by rw [h11]; exact hA.2.2⟩
      refine ⟨by omega, fun _ => ⟨by omega, fun c5 => ?_, fun c5 => absurd (ckv.2.2.1.mp c5) k15⟩, fun x => absurd rfl x⟩
      exact sp125_177 hs SM hA' (by rw [h10]; unfold sf_np; rw [if_neg k15]; exact t.1) hp hf kk c30 k17 (fun z => absurd z k15) (by rw [if_neg k15]; exact h19) q1 q0
  refine B125_16 _ _ _ ?_
  rw [c17, c16]
  refine ⟨by omega, fun cn => ⟨by omega, fun x => by omega, fun _ => ⟨by omega, fun c30 => ⟨by omega, fun c4 => ?_, fun c4 => ⟨by omega, fun c5 => ?_, fun c5 => ⟨by omega, fun c6 => ?_, fun c6 => ?_⟩⟩⟩, fun c30 => fault 6 ?_ (by decide)⟩⟩, fun cn => fault 2 ?_ (by decide)⟩
  · have e := ckv.2.1.mp c4
    have o : sf_opn (sf_kp A n p) = true := by rw [e]; decide
    refine ⟨by omega, fun x => by omega, fun _ => ⟨by omega, fun d => ⟨by omega, ?_⟩, fun d => fault 7 ?_ (by decide)⟩⟩
    · have z := go (by omega) (by omega) (fun _ => by omega)
      rw [if_pos o] at z; exact z
    · unfold sf_hf
      rw [if_neg k4, if_neg (by omega), if_neg (by omega), if_neg (by omega), if_pos (by omega)]
  · have e := ckv.2.2.1.mp c5
    have o : sf_opn (sf_kp A n p) = true := by rw [e]; decide
    refine ⟨by omega, fun x => by omega, fun _ => ⟨by omega, fun d => ⟨by omega, ?_⟩, fun d => fault 7 ?_ (by decide)⟩⟩
    · have z := go (by omega) (by omega) (fun _ => by omega)
      rw [if_pos o] at z; exact z
    · unfold sf_hf
      rw [if_neg k4, if_neg (by omega), if_neg (by omega), if_neg (by omega), if_pos (by omega)]
  · have n1 : ¬ sf_kp A n p = 12 := fun z => c4 (ckv.2.1.mpr z)
    have n2 : ¬ sf_kp A n p = 15 := fun z => c5 (ckv.2.2.1.mpr z)
    have n3 : ¬ sf_kp A n p = 16 := fun z => c6 (ckv.2.2.2.mpr z)
    have o : ¬ sf_opn (sf_kp A n p) = true := by unfold sf_opn; simp [n1, n2, n3]
    have kk : sf_kp A n p = 5 ∨ (10 ≤ sf_kp A n p ∧ sf_kp A n p ≤ 18) := Decidable.byContradiction (fun z => cn (ckv.1.mpr z))
    have z := go kk (by omega) (fun h => absurd h o)
    rw [if_neg o] at z
    exact ⟨by omega, z⟩
  · have e := ckv.2.2.2.mp c6
    have o : sf_opn (sf_kp A n p) = true := by rw [e]; decide
    refine ⟨by omega, fun x => by omega, fun _ => ⟨by omega, fun d => ⟨by omega, ?_⟩, fun d => fault 7 ?_ (by decide)⟩⟩
    · have z := go (by omega) (by omega) (fun _ => by omega)
      rw [if_pos o] at z; exact z
    · unfold sf_hf
      rw [if_neg k4, if_neg (by omega), if_neg (by omega), if_neg (by omega), if_pos (by omega)]
  · have kk : sf_kp A n p = 5 ∨ (10 ≤ sf_kp A n p ∧ sf_kp A n p ≤ 18) := Decidable.byContradiction (fun z => cn (ckv.1.mpr z))
    unfold sf_hf
    rw [if_neg k4, if_neg (fun z => z kk), if_neg (by omega), if_pos (by omega)]
  · unfold sf_hf
    rw [if_neg k4, if_pos (ckv.1.mp cn)]
end UN
