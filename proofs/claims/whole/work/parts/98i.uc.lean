/-! scale, its text, in the class: parts one by one; the call. -/
theorem sf_late1 {tl : Int64} : (tl &&& (((((iq_of 2 ||| iq_of 5) ||| iq_of 7) ||| iq_of 8) ||| iq_of 9) ||| iq_of 1)) = 0 ↔ sf_late tl 1 = false := by
  have tb : ∀ t, iq_tb (tl &&& (((((iq_of 2 ||| iq_of 5) ||| iq_of 7) ||| iq_of 8) ||| iq_of 9) ||| iq_of 1)) t = (iq_tb tl t && (decide (t = 2) || decide (t = 5) || decide (t = 7) || decide (t = 8) || decide (t = 9) || decide (t = 1))) := fun t => by
    rw [iq_tb_and, iq_tb_or, iq_tb_or, iq_tb_or, iq_tb_or, iq_tb_or, iq_tbof, iq_tbof, iq_tbof, iq_tbof, iq_tbof, iq_tbof]
    simp
  unfold sf_late
  rw [if_pos rfl]
  constructor
  · intro h
    have z : ∀ t, (iq_tb tl t && (decide (t = 2) || decide (t = 5) || decide (t = 7) || decide (t = 8) || decide (t = 9) || decide (t = 1))) = false := fun t => by
      rw [← tb t, h]; exact iq_tb_0 t
    have z1 := z 1
    have z2 := z 2
    have z5 := z 5
    have z7 := z 7
    have z8 := z 8
    have z9 := z 9
    simp at z1 z2 z5 z7 z8 z9
    rw [z1, z2, z5, z7, z8, z9]
    rfl
  · intro h
    simp only [Bool.or_eq_false_iff] at h
    obtain ⟨⟨⟨⟨⟨h1, h2⟩, h5⟩, h7⟩, h8⟩, h9⟩ := h
    refine iq_tb_ext (fun t _ _ => ?_)
    rw [tb t, iq_tb_0]
    by_cases c : t = 2 ∨ t = 5 ∨ t = 7 ∨ t = 8 ∨ t = 9 ∨ t = 1
    · rcases c with c | c | c | c | c | c <;> subst c <;> simp [h1, h2, h5, h7, h8, h9]
    · have : (decide (t = 2) || decide (t = 5) || decide (t = 7) || decide (t = 8) || decide (t = 9) || decide (t = 1)) = false := by simp; omega
      rw [this]; simp
theorem sp75 {N : Nat} {xs : Nat → Int32} {Q : iq_T} {g : iq_I} {l : iq_J} {tl : Int64} {k : Int} (h : l 12 2 = tl) (hk : 0 ≤ k ∧ k ≤ 9) (q1 : sf_late tl k = true → Q (some (iq_i 1)) g l) (q0 : sf_late tl k = false → Q (some (iq_i 0)) g l) : iq_P N xs 75 0 [some (iq_r 12), some (iq_i k), none, none] [] g l Q := by
  refine B75_12 _ _ _ ⟨by omega, fun c => ⟨by omega, fun d => q0 ?_, fun d => ?_⟩, fun c => ?_⟩
  · unfold sf_late; rw [if_neg c]; simp [d]
  · rw [h]
    have e : sf_late tl k = iq_tb tl k := by unfold sf_late; rw [if_neg c]; simp [d]
    rw [e] at q1 q0
    exact sp74 (by omega) (fun a => ⟨_, rfl, by omega, fun h => by omega, fun _ => q1 a⟩) (fun a => ⟨_, rfl, by omega, fun _ => q0 a, fun h => absurd rfl h⟩)
  · subst c
    refine sp6 (by omega) ⟨_, rfl, sp6 (by omega) ⟨_, rfl, sp6 (by omega) ⟨_, rfl, sp6 (by omega) ⟨_, rfl, sp6 (by omega) ⟨_, rfl, sp6 (by omega) ⟨_, rfl, ?_⟩⟩⟩⟩⟩⟩
    rw [h]
    refine ⟨iq_lcR _ _, fun a => q0 (sf_late1.mp (iq_lc0.mp a)), fun a => q1 ?_⟩
    rcases hb : sf_late tl 1 with _ | _
    · exact absurd (iq_lc0.mpr (sf_late1.mpr hb)) a
    · rfl
theorem sf_DS.l12 {g0 g : iq_I} {l0 l : iq_J} {P : Int → Int} {S tl : Int64} (h : sf_DS g0 l0 g l P S tl) (x : Int64) : sf_DS g0 l0 g (iq_uz l 12 2 x) P S x := by
  obtain ⟨h1, h2, h3, h4, h5, h6, h7⟩ := h
  exact ⟨⟨h1.1, h1.2.1, fun j y1 y2 => by rw [sf_uzn _ y1]; exact h1.2.2 j y1 y2⟩, h2, by rw [← h3]; simp [iq_uz], by simp [iq_uz], h5, h6, h7⟩
theorem sf_lhR {k p : Int} (hk : 0 ≤ k ∧ k < 9) (hp : 2 ≤ p ∧ p ≤ 60) : (0 ≤ sf_lo k ∧ sf_lo k ≤ 2) ∧ (1 ≤ sf_hi k p ∧ sf_hi k p ≤ 60) := by
  unfold sf_lo sf_hi
  constructor
  · split
    · omega
    split <;> omega
  · split
    · omega
    split
    · omega
    split
    · omega
    split
    · omega
    split <;> omega
theorem sf_rvp {P : Int → Int} (h : sf_rv P) {k v : Int} (hk : 0 ≤ k ∧ k < 9) (hv : sf_lo k ≤ v ∧ v ≤ sf_hi k (P 1)) : sf_rv (sf_pup P k v) := by
  have hr := sf_lhR hk h.2.1
  obtain ⟨p0, p1, p2, p3, p4, p5, p6, p7, p8⟩ := h
  have : k = 0 ∨ k = 1 ∨ k = 2 ∨ k = 3 ∨ k = 4 ∨ k = 5 ∨ k = 6 ∨ k = 7 ∨ k = 8 := by omega
  unfold sf_rv sf_pup
  rcases this with e | e | e | e | e | e | e | e | e <;> subst e <;> simp [sf_lo, sf_hi] at hv ⊢ <;> omega
/-- what is told is a scale -/
theorem sf_sndV {A : Int → Int} {n r : Int} (hA : ∀ k : Int, 0 ≤ k → k < n → 0 ≤ A k ∧ A k ≤ 255) (f : Nat) : ∀ (p : Int) (S : Int64), (0 ≤ p ∧ p ≤ n) → (∀ t, iq_tb S t = true → t < r) → (sf_snd A n f p r S).1 = 0 → (∀ t, iq_tb (sf_snd A n f p r S).2.2.2 t = true → t < r) ∧ (p < (sf_snd A n f p r S).2.2.1 ∧ (sf_snd A n f p r S).2.2.1 ≤ n) := by
  induction f with
  | zero => intro p S _ _ h; rw [sf_snd] at h; exact absurd h (by simp)
  | succ f ih =>
    intro p S hp hS h
    have sR := sf_tsR (A := A) hp
    have eR := sf_teR (A := A) hp
    rw [sf_snd] at h ⊢
    by_cases c4 : sf_tk A n p = 4
    · rw [if_pos c4] at h; exact absurd h (by simp)
    · rw [if_neg c4] at h ⊢
      by_cases c3 : sf_tk A n p = 3 ∧ sf_tv A n p = 59
      · rw [if_pos c3]
        have := eR.2.2 (by omega)
        exact ⟨hS, show p < sf_te A n p by omega, show sf_te A n p ≤ n by omega⟩
      · rw [if_neg c3] at h ⊢
        by_cases c2 : sf_tk A n p = 2
        · rw [if_neg (fun z => z c2)] at h ⊢
          by_cases cr : sf_tv A n p < r
          · rw [if_neg (fun z => z cr)] at h ⊢
            by_cases cb : iq_tb S (sf_tv A n p) = true
            · rw [if_pos cb] at h; exact absurd h (by simp)
            · rw [if_neg cb] at h ⊢
              have := eR.2.2 (by omega)
              have z := ih (sf_te A n p) (S ||| iq_of (sf_tv A n p)) (by omega) (fun t ht => ?_) h
              · exact ⟨z.1, by omega, z.2.2⟩
              · rw [iq_tb_or, Bool.or_eq_true, iq_tbof] at ht
                rcases ht with ht | ht
                · exact hS t ht
                · simp only [Bool.and_eq_true, decide_eq_true_eq] at ht; omega
          · rw [if_pos cr] at h; exact absurd h (by simp)
        · rw [if_pos c2] at h; exact absurd h (by simp)
theorem sf_prsV {A : Int → Int} {n : Int} (hA : ∀ k : Int, 0 ≤ k → k < n → 0 ≤ A k ∧ A k ≤ 255) (f : Nat) : ∀ (p : Int) (P : Int → Int) (S tl : Int64), (0 ≤ p ∧ p ≤ n) → sf_rv P → (∀ t, iq_tb S t = true → t < P 1) → (iq_tb tl 9 = false → ∀ t, iq_tb S t = false) → (sf_prs A n f p P S tl).1 = 0 → sf_rv (sf_prs A n f p P S tl).2.2.1 ∧ (∀ t, iq_tb (sf_prs A n f p P S tl).2.2.2 t = true → t < (sf_prs A n f p P S tl).2.2.1 1) := by
  induction f with
  | zero => intro p P S tl _ _ _ _ h; rw [sf_prs] at h; exact absurd h (by simp)
  | succ f ih =>
    intro p P S tl hp hP hS hT h
    have sR := sf_tsR (A := A) hp
    have eR := sf_teR (A := A) hp
    have numR := sf_numR A n (sf_te A n p) (sf_lo (sf_kp A n p)) (sf_hi (sf_kp A n p) (P 1))
    have semR := sf_semR A n (sf_te A n (sf_te A n p))
    rw [sf_prs] at h ⊢
    by_cases c4 : sf_tk A n p = 4
    · rw [if_pos c4] at h; exact absurd h (by simp)
    rw [if_neg c4] at h ⊢
    by_cases c0 : sf_tk A n p = 0
    · rw [if_pos c0]; exact ⟨hP, hS⟩
    rw [if_neg c0] at h ⊢
    by_cases ck : 0 ≤ sf_kp A n p ∧ sf_kp A n p ≤ 9
    · rw [if_neg (fun z => z ck)] at h ⊢
      by_cases cl : sf_late tl (sf_kp A n p) = true
      · rw [if_pos cl] at h; exact absurd h (by simp)
      rw [if_neg cl] at h ⊢
      have := eR.2.2 (by omega)
      by_cases c9 : sf_kp A n p = 9
      · rw [if_pos c9] at h ⊢
        by_cases cs : (sf_snd A n 901 (sf_te A n p) (P 1) S).1 = 0
        · rw [if_pos cs] at h ⊢
          have z := sf_sndV hA 901 (sf_te A n p) S (by omega) hS cs
          exact ih _ _ _ _ (by omega) hP z.1 (fun w => by rw [iq_tb_or, iq_tbof] at w; simp at w) h
        · rw [if_neg cs] at h; exact absurd h cs
      · rw [if_neg c9] at h ⊢
        by_cases cn : sf_num A n (sf_te A n p) (sf_lo (sf_kp A n p)) (sf_hi (sf_kp A n p) (P 1)) = 0
        · rw [if_pos cn] at h ⊢
          by_cases cs : sf_sem A n (sf_te A n (sf_te A n p)) = 0
          · rw [if_pos cs] at h ⊢
            have e1 := sf_teR (A := A) (n := n) (p := sf_te A n p) (by omega)
            have s1 := sf_tsR (A := A) (n := n) (p := sf_te A n p) (by omega)
            have e2 := sf_teR (A := A) (n := n) (p := sf_te A n (sf_te A n p)) (by omega)
            have s2 := sf_tsR (A := A) (n := n) (p := sf_te A n (sf_te A n p)) (by omega)
            have vb : sf_lo (sf_kp A n p) ≤ sf_tv A n (sf_te A n p) ∧ sf_tv A n (sf_te A n p) ≤ sf_hi (sf_kp A n p) (P 1) := by
              unfold sf_num at cn
              by_cases d4 : sf_tk A n (sf_te A n p) = 4
              · rw [if_pos d4] at cn; omega
              rw [if_neg d4] at cn
              by_cases d2 : sf_tk A n (sf_te A n p) = 2
              · rw [if_neg (fun z => z d2)] at cn
                by_cases d : sf_lo (sf_kp A n p) ≤ sf_tv A n (sf_te A n p) ∧ sf_tv A n (sf_te A n p) ≤ sf_hi (sf_kp A n p) (P 1)
                · exact d
                · rw [if_neg d] at cn; omega
              · rw [if_pos d2] at cn; omega
            refine ih _ _ _ _ (by omega) (sf_rvp hP (by omega) vb) (fun t ht => ?_) (fun w t => ?_) h
            · by_cases k1 : sf_kp A n p = 1
              · have : iq_tb tl 9 = false := by
                  rcases hb : iq_tb tl 9 with _ | _
                  · rfl
                  · refine absurd ?_ cl
                    rw [k1]; unfold sf_late; rw [if_pos rfl, hb]; simp
                rw [hT this t] at ht; cases ht
              · unfold sf_pup
                rw [if_neg (fun z => k1 z.symm)]
                exact hS t ht
            · rw [iq_tb_or, Bool.or_eq_false_iff] at w
              exact hT w.1 t
          · rw [if_neg cs] at h; exact absurd h cs
        · rw [if_neg cn] at h; exact absurd h cn
    · rw [if_pos ck] at h; exact absurd h (by simp)
theorem sp86_p {N : Nat} {xs : Nat → Int32} {Q : iq_T} {g0 : iq_I} {l0 : iq_J} {A : Int → Int} {n v1 : Int} (f : Nat) : ∀ (g : iq_I) (l : iq_J) (p v : Int) (P : Int → Int) (S tl : Int64), sf_DS g0 l0 g l P S tl → sf_AB g A n → g 10 3 = p → (0 ≤ p ∧ p ≤ n) → n - p < f → (0 ≤ v ∧ v ≤ p) → sf_rv P → (∀ t, iq_tb S t = true → t < P 1) → (iq_tb tl 9 = false → ∀ t, iq_tb S t = false) → ((sf_prs A n f p P S tl).1 = 0 → ∀ (g' : iq_I) (l' : iq_J), sf_DK g0 l0 g' l' → (∀ k, 0 ≤ k → k < 9 → g' 14 k = sf_fold (sf_prs A n f p P S tl).2.2.1 k) → l' 13 3 = (sf_prs A n f p P S tl).2.2.2 &&& (iq_of ((sf_prs A n f p P S tl).2.2.1 1) - 1) → (∀ t, iq_tb (l' 13 4) t = iq_f (sf_fold (sf_prs A n f p P S tl).2.2.1) t) → g' 13 2 = 0 → g' 10 7 = 0 → g' 10 8 = -1 → Q (some (iq_i 1)) g' l') → (¬ (sf_prs A n f p P S tl).1 = 0 → ∀ (g' : iq_I) (l' : iq_J), sf_DK g0 l0 g' l' → g' 10 7 = (sf_prs A n f p P S tl).1 → g' 10 8 = (sf_prs A n f p P S tl).2.1 → Q (some (iq_i 0)) g' l') → iq_P N xs 86 22 [some (iq_r 12), some (iq_i v1), some (iq_i v)] [] g l Q := by
  induction f with
  | zero => intro g l p v P S tl _ _ _ hp hf; omega
  | succ f ih =>
    intro g l p v P S tl hD h e hp hf hv hP hS hT q1 q0
    have hn := h.2.1
    have hA := sf_ABA h
    have tR := sf_tkR A n p
    have kR := sf_kpR A n p
    have sR := sf_tsR (A := A) hp
    have eR := sf_teR (A := A) hp
    rw [sf_prs] at q1 q0
    refine B86_p22_12 _ _ _ _ ⟨by omega, fun h => by omega, fun _ => sp64x h e hp (fun a g1 k t => ⟨_, rfl, by omega, fun _ => ?_, fun h => by omega⟩) (fun a g1 k b c => ⟨_, rfl, by omega, fun h => absurd rfl h, fun _ => ?_⟩)⟩
    · rw [if_neg a] at q1 q0
      have h1 := h.k k
      have D1 := hD.rk k
      rw [t.2.1]
      refine ⟨by omega, fun c0 => ?_, fun c0 => ?_⟩
      · rw [if_neg c0] at q1 q0
        have te1 := eR.2.2 c0
        refine sp73 h1 hp t ⟨_, rfl, ?_⟩
        by_cases ck : 0 ≤ sf_kp A n p ∧ sf_kp A n p ≤ 9
        · rw [if_neg (fun z => z ck)] at q1 q0
          rw [if_pos ck.2]
          refine B85_12 _ _ _ ⟨by omega, fun _ => ?_, fun h => by omega⟩
          refine sp75 D1.2.2.2.1 ck (fun cl => ⟨_, rfl, by omega, fun h => by omega, fun _ => ?_⟩) (fun cl => ⟨_, rfl, by omega, fun _ => ?_, fun h => absurd rfl h⟩)
          · rw [if_pos cl] at q0
            exact sp63 (fun g2 k2 b c => ⟨_, rfl, by omega, _, rfl, by omega, fun h => absurd rfl h, fun _ => q0 (by simp) g2 l (D1.1.rk k2 (by omega)) b (by rw [c, t.2.2.1])⟩)
          · have cl' : ¬ sf_late tl (sf_kp A n p) = true := by rw [cl]; decide
            rw [if_neg cl'] at q1 q0
            refine sp6 (by omega) ⟨_, rfl, by omega, fun c9 => ?_, fun c9 => ?_⟩
            · rw [if_neg c9] at q1 q0
              have lo := sf_lhR (k := sf_kp A n p) (p := P 1) (by omega) hP.2.1
              have D2 := D1.l12 (l 12 2 ||| iq_of (sf_kp A n p))
              refine sp79 (by omega) ⟨_, rfl, B80_13 _ _ ⟨_, rfl, ?_⟩⟩
              rw [D1.2.1 1 (by omega) (by omega)]
              refine sp81 (by omega) ⟨_, rfl, sp82 h1 t.1 (by omega) (by omega) (by omega) (fun cn g2 k2 t2 => ⟨_, rfl, by omega, fun _ => ?_, fun h => by omega⟩) (fun cn g2 k2 b c => ⟨_, rfl, by omega, fun h => absurd rfl h, fun _ => ?_⟩)⟩
              · rw [if_pos cn] at q1 q0
                have tk2 : sf_tk A n (sf_te A n p) = 2 := by
                  unfold sf_num at cn
                  by_cases d4 : sf_tk A n (sf_te A n p) = 4
                  · rw [if_pos d4] at cn; omega
                  rw [if_neg d4] at cn
                  by_cases d2 : sf_tk A n (sf_te A n p) = 2
                  · exact d2
                  · rw [if_pos d2] at cn; omega
                have vb : sf_lo (sf_kp A n p) ≤ sf_tv A n (sf_te A n p) ∧ sf_tv A n (sf_te A n p) ≤ sf_hi (sf_kp A n p) (P 1) := by
                  unfold sf_num at cn
                  rw [if_neg (by omega), if_neg (fun z => z tk2)] at cn
                  by_cases d : sf_lo (sf_kp A n p) ≤ sf_tv A n (sf_te A n p) ∧ sf_tv A n (sf_te A n p) ≤ sf_hi (sf_kp A n p) (P 1)
                  · exact d
                  · rw [if_neg d] at cn; omega
                have e1 := sf_teR (A := A) (n := n) (p := sf_te A n p) (by omega)
                have s1 := sf_tsR (A := A) (n := n) (p := sf_te A n p) (by omega)
                have h2 := h1.k k2
                have D3 := D2.rk k2
                rw [t2.2.2.2 (.inl tk2)]
                refine B83_13 _ _ _ _ ⟨by omega, fun h => by omega, fun _ => ⟨by omega, fun h => by omega, fun _ => ⟨by omega, rfl, B85_p97_12 _ _ _ ?_⟩⟩⟩
                have h3 : sf_AB (iq_uz g2 14 (sf_kp A n p) (sf_tv A n (sf_te A n p))) A n := ⟨by rw [sf_uzn _ (by decide)]; exact h2.1, h2.2.1, by rw [sf_uzn _ (by decide)]; exact h2.2.2⟩
                have D4 : sf_DS g0 l0 (iq_uz g2 14 (sf_kp A n p) (sf_tv A n (sf_te A n p))) (iq_uz l 12 2 (l 12 2 ||| iq_of (sf_kp A n p))) (sf_pup P (sf_kp A n p) (sf_tv A n (sf_te A n p))) S (l 12 2 ||| iq_of (sf_kp A n p)) := by
                  obtain ⟨d1, d2, d3, d4, d5, d6, d7⟩ := D3
                  refine ⟨⟨fun j y1 y2 y3 => by rw [sf_uzn _ y3]; exact d1.1 j y1 y2 y3, fun i y => by rw [sf_uzn _ (by decide)]; exact d1.2.1 i y, d1.2.2⟩, fun i y1 y2 => ?_, d3, d4, by rw [sf_uzn _ (by decide)]; exact d5, by rw [sf_uzn _ (by decide)]; exact d6, by rw [sf_uzn _ (by decide)]; exact d7⟩
                  unfold sf_pup
                  by_cases ei : i = sf_kp A n p
                  · rw [if_pos ei, ei]; simp [iq_uz]
                  · rw [if_neg ei, ← d2 i y1 y2]; simp [iq_uz, ei]
                refine sp84 (p := sf_te A n (sf_te A n p)) h3 (by rw [sf_uzn _ (by decide)]; exact t2.1) (by omega) (fun cs g4 k4 t4 => ⟨_, rfl, by omega, _, rfl, by omega, fun _ => ?_, fun h => by omega⟩) (fun cs g4 k4 b c => ⟨_, rfl, by omega, _, rfl, by omega, fun h => absurd rfl h, fun _ => ?_⟩)
                · rw [if_pos cs] at q1 q0
                  have e2 := sf_teR (A := A) (n := n) (p := sf_te A n (sf_te A n p)) (by omega)
                  have s2 := sf_tsR (A := A) (n := n) (p := sf_te A n (sf_te A n p)) (by omega)
                  have D5 := D4.rk k4
                  rw [D1.2.2.2.1] at D5 ⊢
                  refine ih g4 _ _ (v + 1) _ S _ D5 (h3.k k4) t4.1 (by omega) (by omega) (by omega) (sf_rvp hP (by omega) vb) (fun u hu => ?_) (fun w u => ?_) q1 q0
                  · by_cases k1 : sf_kp A n p = 1
                    · have t9 : iq_tb tl 9 = false := by
                        rcases hb : iq_tb tl 9 with _ | _
                        · rfl
                        · refine absurd ?_ cl'
                          rw [k1]; unfold sf_late; rw [if_pos rfl, hb]; simp
                      rw [hT t9 u] at hu; cases hu
                    · unfold sf_pup
                      rw [if_neg (fun z => k1 z.symm)]
                      exact hS u hu
                  · rw [iq_tb_or, Bool.or_eq_false_iff] at w
                    exact hT w.1 u
                · rw [if_neg cs] at q0
                  exact q0 cs g4 _ (D4.1.rk k4 (by omega)) b c
              · rw [if_neg cn] at q0
                exact ⟨_, rfl, by omega, fun h => absurd rfl h, fun _ => q0 cn g2 _ (D2.1.rk k2 (by omega)) b c⟩
            · rw [if_pos c9] at q1 q0
              have D2 := D1.l12 (l 12 2 ||| iq_of (sf_kp A n p))
              rw [D1.2.2.2.1] at D2 ⊢
              refine B78_12 _ _ (sp78_p hP.2.1 901 g1 _ (sf_te A n p) 0 S D2 h1 t.1 (by omega) (by omega) (by omega) (fun cs g2 l2 D3 h2 e2 p1 p2 => ⟨_, rfl, by omega, _, rfl, by omega, fun _ => ?_, fun h => by omega⟩) (fun cs g2 l2 D3 b c => ⟨_, rfl, by omega, _, rfl, by omega, fun h => absurd rfl h, fun _ => ?_⟩))
              · rw [if_pos cs] at q1 q0
                rw [c9] at D3
                exact ih g2 l2 _ (v + 1) P _ _ D3 h2 e2 (by omega) (by omega) (by omega) hP (sf_sndV hA 901 _ S (by omega) hS cs).1 (fun w => by rw [iq_tb_or, iq_tbof] at w; simp at w) q1 q0
              · rw [if_neg cs] at q0
                exact q0 cs g2 l2 D3 b c
        · rw [if_pos ck] at q0
          rw [show (if sf_kp A n p ≤ 9 then sf_kp A n p else -1) = -1 by split <;> omega]
          exact B85_12 _ _ _ ⟨by omega, fun h => absurd rfl h, fun _ => sp63 (fun g2 k2 b c => ⟨_, rfl, by omega, _, rfl, by omega, fun h => absurd rfl h, fun _ => q0 (by simp) g2 l (D1.1.rk k2 (by omega)) b (by rw [c, t.2.2.1])⟩)⟩
      · rw [if_pos c0] at q1
        obtain ⟨d1, d2, d3, d4, d5, d6, d7⟩ := D1
        have e14 : ∀ k, 0 ≤ k → k < 9 → g1 14 k = P k := d2
        have rv14 : sf_rv (g1 14) := by
          unfold sf_rv
          rw [e14 0 (by omega) (by omega), e14 1 (by omega) (by omega), e14 2 (by omega) (by omega), e14 3 (by omega) (by omega), e14 4 (by omega) (by omega), e14 5 (by omega) (by omega), e14 6 (by omega) (by omega), e14 7 (by omega) (by omega), e14 8 (by omega) (by omega)]
          exact hP
        have fo : ∀ k, 0 ≤ k → k < 9 → sf_fold (g1 14) k = sf_fold P k := fun k y1 y2 => by
          unfold sf_fold
          rw [e14 k y1 y2, e14 1 (by omega) (by omega)]
        refine sp9_13 rv14 (fun g2 y b1 b2 b3 => ⟨rfl, q1 rfl g2 _ ⟨fun j y1 y2 y3 => by rw [b1 j y3]; exact d1.1 j y1 y2 y3, fun i y => by rw [b1 10 (by decide)]; exact d1.2.1 i y, fun j y1 y2 => by rw [sf_uzn _ y2, sf_uzn _ y2]; exact d1.2.2 j y1 y2⟩ (fun i y1 y2 => by rw [b2 i y1 y2]; exact fo i y1 y2) ?_ (fun u => ?_) (by rw [b1 13 (by decide)]; exact d5) (by rw [b1 10 (by decide)]; exact d6) (by rw [b1 10 (by decide)]; exact d7)⟩)
        · rw [e14 1 (by omega) (by omega), d3]; simp [iq_uz]
        · rw [show (iq_uz (iq_uz l 13 3 (l 13 3 &&& (iq_of (g1 14 1) - 1))) 13 4 y) 13 4 = y by simp [iq_uz], b3 u, iq_f_congr fo]
    · rw [if_pos a] at q0
      exact q0 (by simp) g1 l (hD.1.rk k (by omega)) b c
