/-! Studies as a text: the pure reader. -/
def sf_hf (A : Int → Int) (n p : Int) (d c : Nat) : Int := if sf_tk A n p = 4 then 1 else if ¬ (sf_kp A n p = 5 ∨ (10 ≤ sf_kp A n p ∧ sf_kp A n p ≤ 18)) then 2 else if sf_kp A n p = 17 ∧ d = 0 then 2 else if ¬ sf_kp A n p = 17 ∧ c = 30 then 6 else if (sf_kp A n p = 12 ∨ sf_kp A n p = 15 ∨ sf_kp A n p = 16) ∧ d = 3 then 7 else 0
/-- what a when asks for: its fault, its place, behind it -/
def sf_qf (A : Int → Int) (n q : Int) : Int := if ¬ (sf_kp A n q = 9 ∨ 19 ≤ sf_kp A n q) then (if sf_tk A n q = 4 then 1 else 2) else if sf_kp A n q = 20 then (if sf_tk A n (sf_te A n q) = 4 then 1 else if sf_tk A n (sf_te A n q) = 3 ∧ (sf_tv A n (sf_te A n q) = 60 ∨ sf_tv A n (sf_te A n q) = 61 ∨ sf_tv A n (sf_te A n q) = 62) then 0 else 2) else 0
def sf_ql (A : Int → Int) (n q : Int) : Int := if ¬ (sf_kp A n q = 9 ∨ 19 ≤ sf_kp A n q) then sf_ts A n q else sf_ts A n (sf_te A n q)
def sf_qa (A : Int → Int) (n q : Int) : Int := if sf_kp A n q = 20 then sf_te A n (sf_te A n q) else sf_te A n q
def sf_hn (k : Int) : Bool := !(decide (k = 13) || decide (k = 14) || decide (k = 17) || decide (k = 18))
def sf_np (A : Int → Int) (n p : Int) : Int := if sf_kp A n p = 15 then sf_qa A n (sf_te A n p) else sf_te A n p
def sf_l2 (k : Int) : Int := if k = 16 then 1 else 0
def sf_h2 (A : Int → Int) (n p : Int) : Int := if sf_kp A n p = 16 then 99 else if sf_kp A n p = 15 ∧ sf_kp A n (sf_te A n p) = 20 then 60 else 59
def sf_sq (A : Int → Int) (n p : Int) : Int := if sf_hn (sf_kp A n p) = true then sf_te A n (sf_np A n p) else sf_te A n p
/-- a statement: its fault, the place -/
def sf_sf (A : Int → Int) (n p : Int) (d c : Nat) : Int × Int :=
  if ¬ sf_hf A n p d c = 0 then (sf_hf A n p d c, sf_ts A n p) else if sf_kp A n p = 15 ∧ ¬ sf_qf A n (sf_te A n p) = 0 then (sf_qf A n (sf_te A n p), sf_ql A n (sf_te A n p)) else if sf_hn (sf_kp A n p) = true ∧ ¬ sf_num A n (sf_np A n p) (sf_l2 (sf_kp A n p)) (sf_h2 A n p) = 0 then (sf_num A n (sf_np A n p) (sf_l2 (sf_kp A n p)) (sf_h2 A n p), sf_ts A n (sf_np A n p)) else (sf_sem A n (sf_sq A n p), sf_ts A n (sf_sq A n p))
def sf_ep (A : Int → Int) (n p : Int) : Int := sf_te A n (sf_sq A n p)
def sf_hd (l : List Nat) : Int := match l with | [] => 0 | o :: _ => o
def sf_rwf (A : Int → Int) (n p : Int) (D : Int → Int) (m : Nat) (f : Int) : Int :=
  if f = 0 then (if sf_kp A n p = 15 then 1500 + sf_kp A n (sf_te A n p) else sf_kp A n p)
  else if f = 1 then (if sf_hn (sf_kp A n p) = true ∧ ¬ (sf_kp A n p = 15 ∧ sf_kp A n (sf_te A n p) = 20) then sf_tv A n (sf_np A n p) else 0)
  else if f = 2 then (if sf_kp A n p = 15 ∧ sf_kp A n (sf_te A n p) = 20 then sf_tv A n (sf_np A n p) else 0)
  else if f = 4 then (if sf_kp A n p = 17 then sf_hd (sf_E D m) else if sf_kp A n p = 13 then sf_fh D (sf_E D m) else 0)
  else if f = 5 then (if sf_kp A n p = 15 ∧ sf_kp A n (sf_te A n p) = 20 then sf_tv A n (sf_te A n (sf_te A n p)) else 0)
  else 0
def sf_nx (A : Int → Int) (n p : Int) (D : Int → Int) (m : Nat) : Int → Int := fun i => if 6 * m ≤ i ∧ i < 6 * m + 6 then sf_rwf A n p D m (i - 6 * m) else if sf_kp A n p = 17 ∧ i = 6 * sf_hd (sf_E D m) + 4 then m else D i
/-- (fault, its place, rows, how many) -/
def sf_stu (A : Int → Int) (n : Int) : Nat → Int → (Int → Int) → Nat → Int × Int × (Int → Int) × Nat
  | 0, _, D, m => (2, 0, D, m)
  | f + 1, p, D, m => if sf_tk A n p = 4 then (1, sf_ts A n p, D, m) else if sf_tk A n p = 0 then (if (sf_E D m).length = 0 then (0, -1, D, m) else (2, sf_ts A n p, D, m)) else if (sf_sf A n p (sf_E D m).length (sf_c D m)).1 = 0 then sf_stu A n f (sf_ep A n p) (sf_nx A n p D m) (m + 1) else ((sf_sf A n p (sf_E D m).length (sf_c D m)).1, (sf_sf A n p (sf_E D m).length (sf_c D m)).2, D, m)
theorem sf_nx_row (A : Int → Int) (n p : Int) (D : Int → Int) (m : Nat) {f : Int} (hf : 0 ≤ f ∧ f < 6) : sf_nx A n p D m (6 * m + f) = sf_rwf A n p D m f := by
  unfold sf_nx
  rw [if_pos (by omega), show 6 * (m : Int) + f - 6 * m = f by omega]
theorem sf_nx_old {A : Int → Int} {n p : Int} {D : Int → Int} {m i : Nat} (hi : i < m) {f : Int} (hf : 0 ≤ f ∧ f < 6) (h : ¬ (sf_kp A n p = 17 ∧ f = 4 ∧ (i : Int) = sf_hd (sf_E D m))) : sf_nx A n p D m (6 * i + f) = D (6 * i + f) := by
  unfold sf_nx
  rw [if_neg (by omega), if_neg (by omega)]
theorem sf_num0 {A : Int → Int} {n p lo hi : Int} (h : sf_num A n p lo hi = 0) : sf_tk A n p = 2 ∧ lo ≤ sf_tv A n p ∧ sf_tv A n p ≤ hi := by
  unfold sf_num at h
  split at h
  · omega
  split at h
  · omega
  split at h
  · next a b c => exact ⟨by omega, c⟩
  · omega
theorem sf_sem0 {A : Int → Int} {n p : Int} (h : sf_sem A n p = 0) : sf_tk A n p = 3 ∧ sf_tv A n p = 59 := by
  unfold sf_sem at h
  split at h
  · omega
  split at h
  · next a b => exact b
  · omega
/-- the class's kind of a word -/
def sf_ck (k : Int) : Int := if k = 10 then 0 else if k = 11 then 1 else if k = 5 then 2 else if k = 14 then 3 else if k = 12 then 4 else if k = 15 then 5 else if k = 16 then 6 else if k = 13 then 7 else if k = 18 then 8 else -1
def sf_tc (A : Int → Int) (n q : Int) : Int := if sf_kp A n q = 9 then 0 else if sf_kp A n q = 19 then 1 else if sf_tv A n (sf_te A n q) = 60 then 2 else if sf_tv A n (sf_te A n q) = 62 then 3 else 4
theorem sf_rwn {A : Int → Int} {n p : Int} {D K T M B : Int → Int} {m : Nat} (k17 : ¬ sf_kp A n p = 17) (kk : sf_kp A n p = 5 ∨ (10 ≤ sf_kp A n p ∧ sf_kp A n p ≤ 18)) (hw : sf_kp A n p = 15 → sf_qf A n (sf_te A n p) = 0) (hn : sf_hn (sf_kp A n p) = true → sf_num A n (sf_np A n p) (sf_l2 (sf_kp A n p)) (sf_h2 A n p) = 0) (hK : K (sf_c D m) = sf_ck (sf_kp A n p)) (hT : sf_kp A n p = 15 → T (sf_c D m) = sf_tc A n (sf_te A n p)) (hM : M (sf_c D m) = if sf_hn (sf_kp A n p) = true then sf_tv A n (sf_np A n p) else 0) (hB : B (sf_c D m) = sf_c D m + 1) : sf_rww (sf_nx A n p D m) K T M m ∧ sf_GJ (sf_c D m + 1) K T M B (sf_c D m) := by
  have r0 := sf_nx_row A n p D m (f := 0) (by omega)
  have r1 := sf_nx_row A n p D m (f := 1) (by omega)
  have r2 := sf_nx_row A n p D m (f := 2) (by omega)
  have r5 := sf_nx_row A n p D m (f := 5) (by omega)
  rw [Int.add_zero] at r0
  have ec : sf_c (sf_nx A n p D m) m = sf_c D m := sf_c_ag (m := m) (fun i hi => by have := sf_nx_old (A := A) (n := n) (p := p) (D := D) hi (f := 0) (by omega) (by omega); rwa [Int.add_zero] at this) m (by omega)
  unfold sf_rww sf_GJ
  rw [ec, r0, r1, r2, r5, hK, hM, hB]
  unfold sf_rwf
  have cases : sf_kp A n p = 5 ∨ sf_kp A n p = 10 ∨ sf_kp A n p = 11 ∨ sf_kp A n p = 12 ∨ sf_kp A n p = 13 ∨ sf_kp A n p = 14 ∨ sf_kp A n p = 15 ∨ sf_kp A n p = 16 ∨ sf_kp A n p = 18 := by omega
  rcases cases with e | e | e | e | e | e | e | e | e
  all_goals rw [e] at hn hM ⊢
  · have z := sf_num0 (hn rfl)
    simp [sf_l2, sf_h2, e] at z
    simp [sf_ck, sf_hn, z]
    omega
  · have z := sf_num0 (hn rfl)
    simp [sf_l2, sf_h2, e] at z
    simp [sf_ck, sf_hn, z]
    omega
  · have z := sf_num0 (hn rfl)
    simp [sf_l2, sf_h2, e] at z
    simp [sf_ck, sf_hn, z]
    omega
  · have z := sf_num0 (hn rfl)
    simp [sf_l2, sf_h2, e] at z
    simp [sf_ck, sf_hn, z]
    omega
  · simp [sf_ck, sf_hn]
    omega
  · simp [sf_ck, sf_hn]
    omega
  · have z := sf_num0 (hn rfl)
    have w := hw e
    rw [hT e]
    unfold sf_qf at w
    unfold sf_tc
    simp [sf_l2, sf_h2, e] at z
    by_cases c9 : sf_kp A n (sf_te A n p) = 9
    · simp [c9] at z
      simp [sf_ck, sf_hn, c9, z]
      omega
    · by_cases c19 : sf_kp A n (sf_te A n p) = 19
      · simp [c19] at z
        simp [sf_ck, sf_hn, c19, z]
        omega
      · have kR := sf_kpR A n (sf_te A n p)
        rw [if_neg c9, if_neg c19]
        have c20 : sf_kp A n (sf_te A n p) = 20 := by
          split at w
          · next y => split at w <;> omega
          · next y => omega
        simp [c20] at z w
        split at w
        · omega
        · split at w
          · next u => obtain ⟨_, v⟩ := u; rcases v with v | v | v <;> simp [sf_ck, sf_hn, c20, z, v] <;> omega
          · omega
  · have z := sf_num0 (hn rfl)
    simp [sf_l2, sf_h2, e] at z
    simp [sf_ck, sf_hn, z]
    omega
  · simp [sf_ck, sf_hn]
    omega
