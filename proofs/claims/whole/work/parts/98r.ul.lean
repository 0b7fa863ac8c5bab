/-! Studies as a text in the class: a statement. -/
def sf_SK (g0 g : iq_I) : Prop := (∀ j, ¬ j = 10 → ¬ (16 ≤ j ∧ j ≤ 22) → g j = g0 j) ∧ (∀ k, ¬ (3 ≤ k ∧ k ≤ 8) → g 10 k = g0 10 k)
def sf_SL (F : Nat → Int) (G : Int → Int) : List Nat → Prop
  | [] => True
  | o :: r => G r.length = F o ∧ sf_SL F G r
theorem sf_SL_congr {F F' : Nat → Int} {G G' : Int → Int} {l : List Nat} (h : sf_SL F G l) (hG : ∀ i : Int, 0 ≤ i → i < l.length → G' i = G i) (hF : ∀ o, o ∈ l → F' o = F o) : sf_SL F' G' l := by
  induction l with
  | nil => trivial
  | cons o r ih =>
    refine ⟨?_, ih h.2 (fun i y1 y2 => hG i y1 (by rw [List.length_cons]; omega)) (fun x hx => hF x (List.mem_cons_of_mem _ hx))⟩
    rw [hG r.length (by omega) (by rw [List.length_cons]; omega), hF o List.mem_cons_self]
    exact h.1
def sf_SS (g0 g : iq_I) (D : Int → Int) (m : Nat) : Prop := sf_SK g0 g ∧ (g 17 4 = sf_c D m ∧ g 17 5 = 1 ∧ g 16 3 = (sf_E D m).length) ∧ sf_SL (fun o => (sf_c D o : Int)) (g 22) (sf_E D m) ∧ sf_PW D m (g 18) (g 19) (g 20) (g 21) ∧ g 10 7 = 0 ∧ g 10 8 = -1
theorem sf_SK.rk {g0 g g' : iq_I} {b : Int} (h : sf_SK g0 g) (k : sf_RK g g' b) (hb : b ≤ 8) : sf_SK g0 g' := ⟨fun j y1 y2 => by rw [k.1 j y1]; exact h.1 j y1 y2, fun i y => by rw [k.2 i (by omega)]; exact h.2 i y⟩
theorem sf_SS.rk {g0 g g' : iq_I} {D : Int → Int} {m : Nat} (h : sf_SS g0 g D m) (k : sf_RK g g' 6) : sf_SS g0 g' D m := by
  obtain ⟨h1, h2, h3, h4, h5, h6⟩ := h
  unfold sf_SS
  rw [k.1 16 (by decide), k.1 17 (by decide), k.1 18 (by decide), k.1 19 (by decide), k.1 20 (by decide), k.1 21 (by decide), k.1 22 (by decide), k.2 7 (by omega), k.2 8 (by omega)]
  exact ⟨h1.rk k (by omega), h2, h3, h4, h5, h6⟩
/-- a statement is begun -/
def sf_SM (g0 g H : iq_I) (c ck d : Int) (op : Bool) : Prop := sf_SK g0 H ∧ (H 17 4 = c + 1 ∧ H 17 5 = 1 ∧ H 16 3 = if op = true then d + 1 else d) ∧ (∀ j, 0 ≤ j → j < c → H 18 j = g 18 j ∧ H 19 j = g 19 j ∧ H 20 j = g 20 j ∧ H 21 j = g 21 j) ∧ (H 18 c = ck ∧ H 21 c = c + 1) ∧ (∀ i, 0 ≤ i → i < d → H 22 i = g 22 i) ∧ (op = true → H 22 d = c) ∧ H 10 7 = 0 ∧ H 10 8 = -1
theorem sf_SM.keep {g0 g H H' : iq_I} {c ck d : Int} {op : Bool} (h : sf_SM g0 g H c ck d op) (k : ∀ j, ¬ j = 10 → ¬ j = 19 → ¬ j = 20 → H' j = H j) (k10 : ∀ i, ¬ (3 ≤ i ∧ i ≤ 6) → H' 10 i = H 10 i) (k19 : ∀ i, ¬ i = c → H' 19 i = H 19 i) (k20 : ∀ i, ¬ i = c → H' 20 i = H 20 i) : sf_SM g0 g H' c ck d op := by
  obtain ⟨h1, h2, h3, h4, h5, h6, h7, h8⟩ := h
  unfold sf_SM
  rw [k 16 (by decide) (by decide) (by decide), k 17 (by decide) (by decide) (by decide), k 18 (by decide) (by decide) (by decide), k 21 (by decide) (by decide) (by decide), k 22 (by decide) (by decide) (by decide), k10 7 (by omega), k10 8 (by omega)]
  refine ⟨⟨fun j y1 y2 => by rw [k j y1 (by omega) (by omega)]; exact h1.1 j y1 y2, fun i y => by rw [k10 i (by omega)]; exact h1.2 i y⟩, h2, fun j j1 j2 => ?_, h4, h5, h6, h7, h8⟩
  rw [k19 j (by omega), k20 j (by omega)]
  exact h3 j j1 j2
theorem sf_SM.rk {g0 g H H' : iq_I} {c ck d : Int} {op : Bool} (h : sf_SM g0 g H c ck d op) (k : sf_RK H H' 6) : sf_SM g0 g H' c ck d op := h.keep (fun j y _ _ => k.1 j y) k.2 (fun i _ => by rw [k.1 19 (by decide)]) (fun i _ => by rw [k.1 20 (by decide)])
theorem sf_SM.fin {g0 g H : iq_I} {A : Int → Int} {n p : Int} {D : Int → Int} {m : Nat} (hs : sf_SS g0 g D m) (h : sf_SM g0 g H (sf_c D m) (sf_ck (sf_kp A n p)) (sf_E D m).length (decide (sf_kp A n p = 12 ∨ sf_kp A n p = 15 ∨ sf_kp A n p = 16))) (hf : sf_hf A n p (sf_E D m).length (sf_c D m) = 0) (k17 : ¬ sf_kp A n p = 17) (hw : sf_kp A n p = 15 → sf_qf A n (sf_te A n p) = 0) (hn : sf_hn (sf_kp A n p) = true → sf_num A n (sf_np A n p) (sf_l2 (sf_kp A n p)) (sf_h2 A n p) = 0) (hT : sf_kp A n p = 15 → H 19 (sf_c D m) = sf_tc A n (sf_te A n p)) (hM : H 20 (sf_c D m) = if sf_hn (sf_kp A n p) = true then sf_tv A n (sf_np A n p) else 0) : sf_SS g0 H (sf_nx A n p D m) (m + 1) := by
  obtain ⟨s1, s2, s3, s4, s5, s6⟩ := hs
  obtain ⟨h1, h2, h3, h4, h5, h6, h7, h8⟩ := h
  have kk : sf_kp A n p = 5 ∨ (10 ≤ sf_kp A n p ∧ sf_kp A n p ≤ 18) := by
    unfold sf_hf at hf
    split at hf
    · omega
    split at hf
    · omega
    · omega
  have cl : sf_c D m < 30 := by
    have := s4.1
    unfold sf_hf at hf
    rw [if_neg (c := ¬ (sf_kp A n p = 5 ∨ (10 ≤ sf_kp A n p ∧ sf_kp A n p ≤ 18))) (by omega), if_neg (c := sf_kp A n p = 17 ∧ _) (by omega)] at hf
    split at hf
    · omega
    split at hf
    · omega
    · omega
  have ol : (sf_kp A n p = 12 ∨ sf_kp A n p = 15 ∨ sf_kp A n p = 16) → (sf_E D m).length < 3 := fun o => by
    have := s4.2.2.1 m (by omega)
    unfold sf_hf at hf
    rw [if_neg (c := ¬ (sf_kp A n p = 5 ∨ (10 ≤ sf_kp A n p ∧ sf_kp A n p ≤ 18))) (by omega), if_neg (c := sf_kp A n p = 17 ∧ _) (by omega)] at hf
    split at hf
    · omega
    split at hf
    · omega
    split at hf
    · omega
    · omega
  have r0 := sf_nx_row A n p D m (f := 0) (by omega)
  have r4 := sf_nx_row A n p D m (f := 4) (by omega)
  rw [Int.add_zero] at r0
  have w9 : sf_kp A n p = 15 → 9 ≤ sf_kp A n (sf_te A n p) := fun e => by
    have w := hw e
    unfold sf_qf at w
    split at w
    · split at w <;> omega
    · omega
  have r0' : sf_nx A n p D m (6 * m) = if sf_kp A n p = 15 then 1500 + sf_kp A n (sf_te A n p) else sf_kp A n p := by rw [r0, sf_rwf, if_pos rfl]
  have ne17 : ¬ sf_nx A n p D m (6 * m) = 17 := by rw [r0']; split <;> omega
  have iO : sf_isO (sf_nx A n p D m (6 * m)) = decide (sf_kp A n p = 12 ∨ sf_kp A n p = 15 ∨ sf_kp A n p = 16) := by
    rw [r0']
    unfold sf_isO
    by_cases e : sf_kp A n p = 15
    · have := w9 e
      rw [if_pos e]
      simp [e]
      omega
    · rw [if_neg e]
      have : ¬ 1500 ≤ sf_kp A n p := by omega
      simp [e, this]
  have old : ∀ i : Nat, i < m → ∀ f : Int, 0 ≤ f ∧ f < 6 → sf_nx A n p D m (6 * i + f) = D (6 * i + f) := fun i hi f hf => sf_nx_old hi hf (by omega)
  have old0 : ∀ i : Nat, i < m → sf_nx A n p D m (6 * i) = D (6 * i) := fun i hi => by have := old i hi 0 (by omega); rwa [Int.add_zero] at this
  have rn := sf_rwn (D := D) (m := m) (K := H 18) (T := H 19) (M := H 20) (B := H 21) k17 kk hw hn h4.1 hT hM h4.2
  have pw := s4.add (D' := sf_nx A n p D m) (K' := H 18) (T' := H 19) (M' := H 20) (B' := H 21) (fun i hi => ⟨old0 i hi, old i hi 1 (by omega), old i hi 2 (by omega), old i hi 4 (by omega), old i hi 5 (by omega)⟩) (fun j j1 j2 => h3 j j1 j2) ne17 cl (fun o => ol (by rw [iO] at o; simpa using o)) rn.1 (fun e => ?_) rn.2
  · have ec : sf_c (sf_nx A n p D m) (m + 1) = sf_c D m + 1 := by rw [sf_c, if_neg ne17, sf_c_ag old0 m (by omega)]
    have eE : sf_E (sf_nx A n p D m) (m + 1) = if sf_isO (sf_nx A n p D m (6 * m)) = true then m :: sf_E D m else sf_E D m := by rw [sf_E, if_neg ne17, sf_E_ag old0 m (by omega)]
    have sl : sf_SL (fun o => (sf_c (sf_nx A n p D m) o : Int)) (H 22) (sf_E D m) := sf_SL_congr s3 (fun i y1 y2 => h5 i y1 y2) (fun o ho => by have := sf_E_lt D m o ho; rw [sf_c_ag old0 o (by omega)])
    refine ⟨h1, ⟨by rw [ec, h2.1]; rfl, h2.2.1, ?_⟩, ?_, pw, h7, h8⟩
    · rw [h2.2.2, eE, iO]
      split
      · rw [List.length_cons]; rfl
      · rfl
    · rw [eE, iO]
      split
      · next o => exact ⟨by rw [h6 o]; show _ = ((sf_c (sf_nx A n p D m) m : Nat) : Int); rw [sf_c_ag old0 m (by omega)], sl⟩
      · exact sl
  · rw [r4, sf_rwf, if_neg (by decide), if_neg (by decide), if_neg (by decide), if_pos rfl, if_neg k17, if_pos]
    rw [r0'] at e
    by_cases z : sf_kp A n p = 15
    · rw [if_pos z] at e; have := w9 z; omega
    · rw [if_neg z] at e; exact e
