/-! The law's cases: trays and tape. -/
theorem sf_INV.tr {g g2 : iq_I} {l l2 : iq_J} (h : sf_INV g l) (e : ∀ (j : Nat) (k : Int), sf_kc j k → ¬ ((2 ≤ j ∧ j ≤ 9) ∨ (79 ≤ j ∧ j ≤ 81)) → sf_ag g l g2 l2 j k) (t : iq_TR g2 l2) (s : g2 0 0 = g2 77 1) (f : l2 0 1 = l 0 1 ∧ l2 0 2 = l 0 2 ∧ l2 77 2 = l 77 2 ∧ l2 77 3 = l 77 3) : sf_INV g2 l2 :=
  ⟨.of (sf_kA h.1.1 (fun j k z => e j k (sf_kcA z) (by omega))) (sf_kB h.1.2.1 (fun j k z => e j k (sf_kcB z) (by omega))) (sf_kC h.1.mks (fun j k z => e j k (sf_kcC z) (by omega))) t (sf_kF h.1.tp (fun j k z => e j k (sf_kcF z) (by omega))) (sf_kG h.1.ft (fun j k z => e j k (sf_kcG z) (by omega))) (sf_kH h.1.lf (fun j k z => e j k (sf_kcH z) (by omega))), s, by rw [f.1, f.2.2.1]; exact h.2.2.1, by rw [f.2.1, f.2.2.2]; exact h.2.2.2⟩
theorem sf_trI {g g2 : iq_I} {l l1 l2 : iq_J} {t s n : Int} (h : sf_INV g l) (y : sf_ty t s n) (G : ∀ (a : Nat) (b : Int), g2 a b = if a = 77 ∧ b = 1 then 0 else if a = 80 ∧ b = t then n else if a = 79 ∧ b = t then s else if a = 0 ∧ b = 0 then 0 else if a = 2 + 2 * t.toNat ∧ b = 2 then n else if a = 2 + 2 * t.toNat ∧ b = 1 then s else g a b) (a1 : ∀ j, ¬ j = 3 + 2 * t.toNat → l1 j = l j) (a2 : ∀ k, 0 ≤ k → k < 60 → l1 (3 + 2 * t.toNat) k = 0) (b1 : ∀ j, ¬ j = 81 → l2 j = l1 j) (b2 : ∀ e, ¬ (60 * t ≤ e ∧ e < 60 * t + n) → l2 81 e = l1 81 e) (b3 : ∀ k, 0 ≤ k → k < n → l2 81 (60 * t + k) = 0) : sf_INV g2 l2 := by
  obtain ⟨⟨t0, t4⟩, ⟨s0, s3⟩, n0, n60⟩ := y
  have w0 : g2 0 0 = 0 := by rw [G, if_neg (by omega), if_neg (by omega), if_neg (by omega), if_pos (by omega)]
  have w7 : g2 77 1 = 0 := by rw [G, if_pos (by omega)]
  refine h.tr (fun j k z c => ?_) (fun u hu => ?_) (by rw [w0, w7]) ⟨by rw [b1 0 (by omega), a1 0 (by omega)], by rw [b1 0 (by omega), a1 0 (by omega)], by rw [b1 77 (by omega), a1 77 (by omega)], by rw [b1 77 (by omega), a1 77 (by omega)]⟩
  · have w := sf_kcn z
    clear z
    refine ⟨?_, ?_⟩
    · rw [G, if_neg (by omega), if_neg (by omega), if_neg (by omega), if_neg (by omega), if_neg (by omega), if_neg (by omega)]
    · rw [b1 j (by omega), a1 j (by omega)]
  · have z := h.1.tr u hu
    by_cases hc : (u : Int) = t
    · have hcn : u = t.toNat := by omega
      have v1 : g2 (2 + 2 * u) 1 = s := by rw [G, if_neg (by omega), if_neg (by omega), if_neg (by omega), if_neg (by omega), if_neg (by omega), if_pos (by omega)]
      have v2 : g2 (2 + 2 * u) 2 = n := by rw [G, if_neg (by omega), if_neg (by omega), if_neg (by omega), if_neg (by omega), if_pos (by omega)]
      have v3 : g2 79 u = s := by rw [G, if_neg (by omega), if_neg (by omega), if_pos (by omega)]
      have v4 : g2 80 u = n := by rw [G, if_neg (by omega), if_pos (by omega)]
      rw [v1, v2, v3, v4]
      refine ⟨rfl, rfl, ⟨s0, s3⟩, ⟨by omega, n60⟩, fun k a b => ?_⟩
      rw [b1 (3 + 2 * u) (by omega), show (60 : Int) * (u : Int) + k = 60 * t + k by omega, b3 k a b, hcn, a2 k a (by omega)]
    · have v1 : g2 (2 + 2 * u) 1 = g (2 + 2 * u) 1 := by rw [G, if_neg (by omega), if_neg (by omega), if_neg (by omega), if_neg (by omega), if_neg (by omega), if_neg (by omega)]
      have v2 : g2 (2 + 2 * u) 2 = g (2 + 2 * u) 2 := by rw [G, if_neg (by omega), if_neg (by omega), if_neg (by omega), if_neg (by omega), if_neg (by omega), if_neg (by omega)]
      have v3 : g2 79 u = g 79 u := by rw [G, if_neg (by omega), if_neg (by omega), if_neg (by omega), if_neg (by omega), if_neg (by omega), if_neg (by omega)]
      have v4 : g2 80 u = g 80 u := by rw [G, if_neg (by omega), if_neg (by omega), if_neg (by omega), if_neg (by omega), if_neg (by omega), if_neg (by omega)]
      rw [v1, v2, v3, v4]
      refine ⟨z.1, z.2.1, z.2.2.1, z.2.2.2.1, fun k a b => ?_⟩
      have z6 := z.2.2.2.1.2
      rw [b1 (3 + 2 * u) (by omega), a1 (3 + 2 * u) (by omega), b2 (60 * u + k) (by omega), a1 81 (by omega)]
      exact z.2.2.2.2 k a b
theorem sf_wrI {g g2 : iq_I} {l l2 : iq_J} {t p : Int} {x : Int64} (h : sf_INV g l) (y : sf_wt g t p = 0) (G : ∀ (a : Nat) (b : Int), g2 a b = if a = 77 ∧ b = 1 then 0 else if a = 0 ∧ b = 0 then 0 else g a b) (L : ∀ (a : Nat) (b : Int), l2 a b = if a = 81 ∧ b = 60 * t + p then x else if a = 3 + 2 * t.toNat ∧ b = p then x else l a b) : sf_INV g2 l2 := by
  unfold sf_wt at y
  by_cases c : 0 ≤ t ∧ t < 4
  · rw [if_pos c] at y
    have yp := sf_wp0 y
    have y6 := (sf_TMt h.1.tr.tm c).2.2
    have w0 : g2 0 0 = 0 := by rw [G, if_neg (by omega), if_pos (by omega)]
    have w7 : g2 77 1 = 0 := by rw [G, if_pos (by omega)]
    refine h.tr (fun j k z d => ?_) (fun u hu => ?_) (by rw [w0, w7]) ⟨by rw [L, if_neg (by omega), if_neg (by omega)], by rw [L, if_neg (by omega), if_neg (by omega)], by rw [L, if_neg (by omega), if_neg (by omega)], by rw [L, if_neg (by omega), if_neg (by omega)]⟩
    · have w := sf_kcn z
      clear z
      exact ⟨by rw [G, if_neg (by omega), if_neg (by omega)], by rw [L, if_neg (by omega), if_neg (by omega)]⟩
    · have z := h.1.tr u hu
      have v1 : g2 (2 + 2 * u) 1 = g (2 + 2 * u) 1 := by rw [G, if_neg (by omega), if_neg (by omega)]
      have v2 : g2 (2 + 2 * u) 2 = g (2 + 2 * u) 2 := by rw [G, if_neg (by omega), if_neg (by omega)]
      have v3 : g2 79 u = g 79 u := by rw [G, if_neg (by omega), if_neg (by omega)]
      have v4 : g2 80 u = g 80 u := by rw [G, if_neg (by omega), if_neg (by omega)]
      rw [v1, v2, v3, v4]
      refine ⟨z.1, z.2.1, z.2.2.1, z.2.2.2.1, fun k a b => ?_⟩
      have z6 := z.2.2.2.1.2
      by_cases hc : (u : Int) = t ∧ k = p
      · have v5 : l2 (3 + 2 * u) k = x := by rw [L, if_neg (by omega), if_pos (by omega)]
        have v6 : l2 81 (60 * u + k) = x := by rw [L, if_pos (by omega)]
        rw [v5, v6]
      · have v5 : l2 (3 + 2 * u) k = l (3 + 2 * u) k := by rw [L, if_neg (by omega), if_neg (by omega)]
        have v6 : l2 81 (60 * u + k) = l 81 (60 * u + k) := by rw [L, if_neg (by omega), if_neg (by omega)]
        rw [v5, v6]
        exact z.2.2.2.2 k a b
  · rw [if_neg c] at y
    omega
theorem sf_poI {g g2 : iq_I} {l l1 l2 : iq_J} {a p b q n : Int} (h : sf_INV g l) (y : sf_wr g a p b q n = 0) (G : ∀ (a : Nat) (b : Int), g2 a b = if a = 77 ∧ b = 1 then 0 else if a = 0 ∧ b = 0 then 0 else g a b) (L : ∀ (j : Nat) (e : Int), l1 j e = if j = 3 + 2 * b.toNat then (if q ≤ e ∧ e < q + n then l (3 + 2 * a.toNat) (p + (e - q)) else l (3 + 2 * b.toNat) e) else l j e) (b1 : ∀ j, ¬ j = 81 → l2 j = l1 j) (b2 : ∀ e, l2 81 e = if 60 * b + q ≤ e ∧ e < 60 * b + q + n then l1 81 (60 * a + p + (e - (60 * b + q))) else l1 81 e) : sf_INV g2 l2 := by
  unfold sf_wr at y
  by_cases c : ((0 ≤ a ∧ a < 4) ∧ 0 ≤ b ∧ b < 4) ∧ 0 ≤ p ∧ 0 ≤ q ∧ 0 ≤ n
  · rw [if_pos c] at y
    by_cases c2 : g 80 a = -1 ∨ g 80 b = -1
    · rw [if_pos c2] at y; omega
    rw [if_neg c2] at y
    by_cases c3 : g 79 a = g 79 b
    · rw [if_pos c3] at y
      by_cases c4 : p + n ≤ g 80 a ∧ q + n ≤ g 80 b
      · clear y
        have ya := (sf_TMt h.1.tr.tm c.1.1).2.2
        have yb := (sf_TMt h.1.tr.tm c.1.2).2.2
        have l81 : ∀ e, l1 81 e = l 81 e := fun e => by rw [L, if_neg (by omega)]
        have w0 : g2 0 0 = 0 := by rw [G, if_neg (by omega), if_pos (by omega)]
        have w7 : g2 77 1 = 0 := by rw [G, if_pos (by omega)]
        have lo : ∀ (j : Nat) (e : Int), ¬ j = 81 → ¬ j = 3 + 2 * b.toNat → l2 j e = l j e := fun j e x1 x2 => by rw [b1 j x1, L, if_neg x2]
        refine h.tr (fun j k z d => ?_) (fun u hu => ?_) (by rw [w0, w7]) ⟨lo _ _ (by omega) (by omega), lo _ _ (by omega) (by omega), lo _ _ (by omega) (by omega), lo _ _ (by omega) (by omega)⟩
        · have w := sf_kcn z
          clear z
          exact ⟨by rw [G, if_neg (by omega), if_neg (by omega)], lo _ _ (by omega) (by omega)⟩
        · have z := h.1.tr u hu
          have v1 : g2 (2 + 2 * u) 1 = g (2 + 2 * u) 1 := by rw [G, if_neg (by omega), if_neg (by omega)]
          have v2 : g2 (2 + 2 * u) 2 = g (2 + 2 * u) 2 := by rw [G, if_neg (by omega), if_neg (by omega)]
          have v3 : g2 79 u = g 79 u := by rw [G, if_neg (by omega), if_neg (by omega)]
          have v4 : g2 80 u = g 80 u := by rw [G, if_neg (by omega), if_neg (by omega)]
          rw [v1, v2, v3, v4]
          refine ⟨z.1, z.2.1, z.2.2.1, z.2.2.2.1, fun k x1 x2 => ?_⟩
          have z6 := z.2.2.2.1.2
          by_cases hc : (u : Int) = b
          · have hcn : u = b.toNat := by omega
            by_cases hk : q ≤ k ∧ k < q + n
            · have za := (h.1.tr a.toNat (by omega)).2.2.2.2 (p + (k - q)) (by omega) (by rw [show ((a.toNat : Nat) : Int) = a by omega]; omega)
              rw [b1 (3 + 2 * u) (by omega), L, if_pos (by omega), if_pos hk, b2, if_pos (by omega), l81, za, show (60 : Int) * ((a.toNat : Nat) : Int) + (p + (k - q)) = 60 * a + p + (60 * (u : Int) + k - (60 * b + q)) by omega]
            · rw [b1 (3 + 2 * u) (by omega), L, if_pos (by omega), if_neg hk, b2, if_neg (by omega), l81, ← hcn]
              exact z.2.2.2.2 k x1 x2
          · rw [lo (3 + 2 * u) k (by omega) (by omega), b2, if_neg (by omega), l81]
            exact z.2.2.2.2 k x1 x2
      · rw [if_neg c4] at y; omega
    · rw [if_neg c3] at y; omega
  · rw [if_neg c] at y; omega
theorem sf_Maf {a j : Nat} {k : Int} (h : ¬ j = a) : iq_Ma a j k = false := by
  simp [iq_Ma, h]
theorem sf_csI {g g1 g2 : iq_I} {l l1 l2 : iq_J} {t m s : Int} {W : Int → Int64} (h : sf_INV g l) (y : sf_wc g t m = 0) (k1 : iq_KM (iq_Ma (3 + 2 * t.toNat)) g l g1 l1) (k2 : iq_KM (iq_Ma 81) g1 l1 g2 l2) (a1 : ∀ k, 0 ≤ k → k < m → l1 (3 + 2 * t.toNat) k = W k) (a2 : ∀ k, ¬ (0 ≤ k ∧ k < m) → l1 (3 + 2 * t.toNat) k = l (3 + 2 * t.toNat) k) (b1 : ∀ k, 0 ≤ k → k < m → l2 81 (60 * t + k) = W k) (b2 : ∀ k, ¬ (0 ≤ k ∧ k < m) → l2 81 (60 * t + k) = l1 81 (60 * t + k)) (e1 : g1 0 0 = s) (e2 : g2 0 0 = g1 0 0) (e3 : g2 77 1 = s) : sf_INV g2 l2 := by
  unfold sf_wc at y
  by_cases c : 0 ≤ t ∧ t < 4
  · rw [if_pos c] at y
    have yp := sf_rn20 y
    have y6 := (sf_TMt h.1.tr.tm c).2.2
    have e : ∀ (j : Nat) (k : Int), sf_kc j k → ¬ j = 3 + 2 * t.toNat → ¬ j = 81 → sf_ag g l g2 l2 j k := fun j k a b d => sf_ag2 k1 k2 j k a (sf_Maf b) (sf_Maf d)
    refine h.tr (fun j k z d => e j k z (by omega) (by omega)) (fun u hu => ?_) (by rw [e2, e1, e3]) ⟨by rw [k2.2.1, k1.2.1], by rw [k2.2.2.1, k1.2.2.1], by rw [k2.2.2.2.1, k1.2.2.2.1], by rw [k2.2.2.2.2, k1.2.2.2.2]⟩
    have z := h.1.tr u hu
    rw [(e (2 + 2 * u) 1 (sf_kcE (by omega)) (by omega) (by omega)).1, (e (2 + 2 * u) 2 (sf_kcE (by omega)) (by omega) (by omega)).1, (e 79 u (sf_kcE (by omega)) (by omega) (by omega)).1, (e 80 u (sf_kcE (by omega)) (by omega) (by omega)).1]
    refine ⟨z.1, z.2.1, z.2.2.1, z.2.2.2.1, fun k x1 x2 => ?_⟩
    have z6 := z.2.2.2.1.2
    have k81 : ∀ e, l1 81 e = l 81 e := fun e => (k1.1 81 e (sf_kcs (sf_kcE (by omega))) (sf_Maf (by omega))).2
    by_cases hc : (u : Int) = t
    · have hcn : u = t.toNat := by omega
      have v5 : l2 (3 + 2 * u) k = l1 (3 + 2 * t.toNat) k := by rw [hcn]; exact (k2.1 (3 + 2 * t.toNat) k (sf_kcs (sf_kcE (by omega))) (sf_Maf (by omega))).2
      rw [v5, show (60 : Int) * (u : Int) + k = 60 * t + k by omega]
      by_cases hk : 0 ≤ k ∧ k < m
      · rw [a1 k hk.1 hk.2, b1 k hk.1 hk.2]
      · rw [a2 k hk, b2 k hk, k81, ← hcn, show (60 : Int) * t + k = 60 * (u : Int) + k by omega]
        exact z.2.2.2.2 k x1 x2
    · rw [(e (3 + 2 * u) k (sf_kcE (by omega)) (by omega) (by omega)).2, show (60 : Int) * (u : Int) + k = 60 * t + (60 * ((u : Int) - t) + k) by omega, b2 _ (by omega), k81, show (60 : Int) * t + (60 * ((u : Int) - t) + k) = 60 * (u : Int) + k by omega]
      exact z.2.2.2.2 k x1 x2
  · rw [if_neg c] at y
    omega
theorem sf_wt00 (g : iq_I) (s t p : Int) : sf_wt (iq_uz g 0 0 s) t p = sf_wt g t p := by simp [sf_wt, iq_uz]
theorem sf_wr0 (g : iq_I) (s a p b q n : Int) : sf_wr (iq_uz g 0 0 s) a p b q n = sf_wr g a p b q n := by simp [sf_wr, iq_uz]
theorem sf_ws0 (g : iq_I) (s t n : Int) : sf_ws (iq_uz g 0 0 s) t n = sf_ws g t n := by simp [sf_ws, iq_uz]
theorem sf_L3 {N : Nat} {xs : Nat → Int32} {Q : iq_T} {g : iq_I} {l : iq_J} {v3 : Int} (h : sf_INV g l) (hv : 0 ≤ v3 ∧ v3 + 5 < N ∧ (N : Int) ≤ 3072) (q : ∀ (g' : iq_I) (l' : iq_J), sf_INV g' l' → iq_P N xs 361 1940 [some (iq_r 1000000), some (iq_r 0), some (iq_r 77), some (iq_i v3)] [] g' l' Q) : iq_P N xs 361 357 [some (iq_r 1000000), some (iq_r 0), some (iq_r 77), some (iq_i v3)] [] g l Q := by
  refine B361_c3 _ _ _ ⟨by omega, by omega, by omega, iq_Pw (cTray (sf_xR _) (sf_xR _) (sf_xR _) (fun a l1 a1 a2 => ⟨_, rfl, ?_⟩) (fun a => ⟨_, rfl, ?_⟩))⟩
  · exact B361_d3 _ _ _ _ ⟨by omega, by omega, by omega, iq_Pw (mTray (sf_xR _) (sf_xR _) (sf_xR _) (fun _ l2 b1 b2 b3 => ⟨_, rfl, sf_cl rfl (q _ l2 (sf_trI h a (fun _ _ => rfl) a1 a2 b1 b2 b3))⟩) (fun a2 => absurd a a2))⟩
  · exact B361_d3 _ _ _ _ ⟨by omega, by omega, by omega, iq_Pw (mTray (sf_xR _) (sf_xR _) (sf_xR _) (fun a2 => absurd a2 a) (fun _ => ⟨_, rfl, sf_cl rfl (q _ _ (h.uu _ rfl))⟩))⟩
theorem sf_L4 {N : Nat} {xs : Nat → Int32} {Q : iq_T} {g : iq_I} {l : iq_J} {v3 : Int} (h : sf_INV g l) (hv : 0 ≤ v3 ∧ v3 + 5 < N ∧ (N : Int) ≤ 3072) (q : ∀ (g' : iq_I) (l' : iq_J), sf_INV g' l' → iq_P N xs 361 1940 [some (iq_r 1000000), some (iq_r 0), some (iq_r 77), some (iq_i v3)] [] g' l' Q) : iq_P N xs 361 400 [some (iq_r 1000000), some (iq_r 0), some (iq_r 77), some (iq_i v3)] [] g l Q := by
  refine B361_c4 _ _ _ ⟨by omega, by omega, by omega, by omega, iq_Pw (cWrite h.1.tr (sf_xR _) (sf_xR _) (fun a => ⟨_, rfl, ?_⟩) (fun a => ⟨_, rfl, ?_⟩))⟩
  · exact B361_d4 _ _ _ _ ⟨by omega, by omega, by omega, by omega, iq_Pw (mWritew (h.1.kk (sf_k00 g l _)).tr.tm (sf_xR _) (sf_xR _) (fun _ => ⟨_, rfl, sf_cl rfl (q _ _ (sf_wrI h a (fun _ _ => rfl) (fun _ _ => rfl)))⟩) (fun a2 => absurd (by rw [sf_wt00]; exact a) a2))⟩
  · exact B361_d4 _ _ _ _ ⟨by omega, by omega, by omega, by omega, iq_Pw (mWritew (h.1.kk (sf_k00 g l _)).tr.tm (sf_xR _) (sf_xR _) (fun a2 => absurd (by rw [← sf_wt00]; exact a2) a) (fun _ => ⟨_, rfl, sf_cl rfl (q _ _ (h.uu _ (by rw [sf_wt00])))⟩))⟩
theorem sf_L5 {N : Nat} {xs : Nat → Int32} {Q : iq_T} {g : iq_I} {l : iq_J} {v3 : Int} (h : sf_INV g l) (hv : 0 ≤ v3 ∧ v3 + 5 < N ∧ (N : Int) ≤ 3072) (q : ∀ (g' : iq_I) (l' : iq_J), sf_INV g' l' → iq_P N xs 361 1940 [some (iq_r 1000000), some (iq_r 0), some (iq_r 77), some (iq_i v3)] [] g' l' Q) : iq_P N xs 361 473 [some (iq_r 1000000), some (iq_r 0), some (iq_r 77), some (iq_i v3)] [] g l Q := by
  refine B361_c5 _ _ _ ⟨by omega, by omega, cRead h.1.tr (sf_xR _) (sf_xR _) (fun a => ⟨_, rfl, ?_⟩) (fun a => ⟨_, rfl, ?_⟩)⟩
  · exact B361_d5 _ _ _ _ ⟨by omega, by omega, mReadw (h.1.kk (sf_k00 g l _)).tr.tm (sf_xR _) (sf_xR _) (fun _ => ⟨_, rfl, sf_cll rfl (q _ _ (h.uu _ rfl))⟩) (fun a2 => absurd (by rw [sf_wt00]; exact a) a2)⟩
  · exact B361_d5 _ _ _ _ ⟨by omega, by omega, mReadw (h.1.kk (sf_k00 g l _)).tr.tm (sf_xR _) (sf_xR _) (fun a2 => absurd (by rw [← sf_wt00]; exact a2) a) (fun _ => ⟨_, rfl, sf_cll rfl (q _ _ (h.uu _ (by rw [sf_wt00])))⟩)⟩
theorem sf_L6 {N : Nat} {xs : Nat → Int32} {Q : iq_T} {g : iq_I} {l : iq_J} {v3 : Int} (h : sf_INV g l) (hv : 0 ≤ v3 ∧ v3 + 5 < N ∧ (N : Int) ≤ 3072) (q : ∀ (g' : iq_I) (l' : iq_J), sf_INV g' l' → iq_P N xs 361 1940 [some (iq_r 1000000), some (iq_r 0), some (iq_r 77), some (iq_i v3)] [] g' l' Q) : iq_P N xs 361 507 [some (iq_r 1000000), some (iq_r 0), some (iq_r 77), some (iq_i v3)] [] g l Q := by
  refine B361_c6 _ _ _ ⟨by omega, by omega, by omega, by omega, by omega, iq_Pw (cPour h.1.tr (sf_xR _) (sf_xR _) (sf_xR _) (sf_xR _) (sf_xR _) (fun a => ⟨_, rfl, ?_⟩) (fun a => ⟨_, rfl, ?_⟩))⟩
  · refine B361_d6 _ _ _ _ ⟨by omega, by omega, by omega, by omega, by omega, iq_Pw (mPourw (h.1.kk (sf_k00 g l _)).tr.tm (sf_xR _) (sf_xR _) (sf_xR _) (sf_xR _) (sf_xR _) (fun _ l2 b1 b2 => ⟨_, rfl, sf_cl rfl (q _ l2 (sf_poI h a (fun _ _ => rfl) (fun j e => ?_) b1 b2))⟩) (fun a2 => absurd (by rw [sf_wr0]; exact a) a2))⟩
    unfold iq_rz iq_cz
    split <;> rfl
  · exact B361_d6 _ _ _ _ ⟨by omega, by omega, by omega, by omega, by omega, iq_Pw (mPourw (h.1.kk (sf_k00 g l _)).tr.tm (sf_xR _) (sf_xR _) (sf_xR _) (sf_xR _) (sf_xR _) (fun a2 => absurd (by rw [← sf_wr0]; exact a2) a) (fun _ => ⟨_, rfl, sf_cl rfl (q _ _ (h.uu _ (by rw [sf_wr0])))⟩))⟩
theorem sf_L59 {N : Nat} {xs : Nat → Int32} {Q : iq_T} {g : iq_I} {l : iq_J} {v3 : Int} (h : sf_INV g l) (hv : 0 ≤ v3 ∧ v3 + 5 < N ∧ (N : Int) ≤ 3072) (q : ∀ (g' : iq_I) (l' : iq_J), sf_INV g' l' → iq_P N xs 361 1940 [some (iq_r 1000000), some (iq_r 0), some (iq_r 77), some (iq_i v3)] [] g' l' Q) : iq_P N xs 361 1756 [some (iq_r 1000000), some (iq_r 0), some (iq_r 77), some (iq_i v3)] [] g l Q := by
  refine B361_c59 _ _ _ ⟨by omega, iq_Pw (cCopyScale h.1.1 h.1.tr (sf_xR _) (fun a g1 l1 k1 a1 a2 e1 => ⟨_, rfl, ?_⟩) (fun a g1 l1 k1 e1 => ⟨_, rfl, ?_⟩))⟩
  · have c4 : 0 ≤ (xs (Int.toNat (v3 + 1))).toInt ∧ (xs (Int.toNat (v3 + 1))).toInt < 4 := by
      unfold sf_wc at a
      by_cases c : 0 ≤ (xs (Int.toNat (v3 + 1))).toInt ∧ (xs (Int.toNat (v3 + 1))).toInt < 4
      · exact c
      · rw [if_neg c] at a; omega
    have e : ∀ (j : Nat) (k : Int), sf_kc j k → ¬ j = 3 + 2 * (xs (Int.toNat (v3 + 1))).toInt.toNat → sf_ag g l g1 l1 j k := fun j k x y => k1.1 j k (sf_kcs x) (sf_Maf y)
    have p24 : g1 24 = g 24 := funext (fun k => (e 24 k (sf_kcA (.inl ⟨by omega, by omega⟩)) (by omega)).1)
    have g79 : ∀ k, g1 79 k = g 79 k := fun k => (e 79 k (sf_kcE (by omega)) (by omega)).1
    have g80 : ∀ k, g1 80 k = g 80 k := fun k => (e 80 k (sf_kcE (by omega)) (by omega)).1
    have wc : ∀ t m, sf_wc g1 t m = sf_wc g t m := fun t m => by unfold sf_wc; rw [g80]
    refine B361_d59 _ _ _ _ ⟨by omega, iq_Pw (mCopyScale (sf_kA h.1.1 (fun j k z => e j k (sf_kcA z) (by omega))) (fun n hn => by rw [g79, g80]; exact h.1.tr.tm n hn) (sf_xR _) (fun _ g2 l2 k2 b1 b2 e2 e3 => ⟨_, rfl, sf_cl (by rw [p24]) (q g2 l2 ?_)⟩) (fun a3 => absurd (by rw [wc, p24]; exact a) a3))⟩
    rw [p24, g79] at b1
    rw [p24] at b2
    exact sf_csI h a k1 k2 a1 a2 b1 b2 e1 e2 e3
  · have p24 := k1.p24
    have wc : ∀ t m, sf_wc g1 t m = sf_wc g t m := fun t m => by unfold sf_wc; rw [show g1 80 t = g 80 t from (sf_agf k1.kf 80 t (sf_kcE (by omega))).1]
    exact B361_d59 _ _ _ _ ⟨by omega, iq_Pw (mCopyScale (h.1.1.keep k1) (h.1.kk k1).tr.tm (sf_xR _) (fun a3 => absurd (by rw [← wc, ← p24]; exact a3) a) (fun _ g2 l2 k2 e2 e3 => ⟨_, rfl, sf_cl rfl (q g2 l2 (h.q k1 k2 e1 e2 (by rw [e3, wc, p24])))⟩))⟩
theorem sf_L60 {N : Nat} {xs : Nat → Int32} {Q : iq_T} {g : iq_I} {l : iq_J} {v3 : Int} (h : sf_INV g l) (hv : 0 ≤ v3 ∧ v3 + 5 < N ∧ (N : Int) ≤ 3072) (q : ∀ (g' : iq_I) (l' : iq_J), sf_INV g' l' → iq_P N xs 361 1940 [some (iq_r 1000000), some (iq_r 0), some (iq_r 77), some (iq_i v3)] [] g' l' Q) : iq_P N xs 361 1779 [some (iq_r 1000000), some (iq_r 0), some (iq_r 77), some (iq_i v3)] [] g l Q := by
  refine B361_c60 _ _ _ ⟨by omega, by omega, iq_Pw (cSteps h.1.1 h.1.tr (sf_xR _) (sf_xR _) (fun a b => ⟨_, rfl, ?_⟩) (fun a b => ⟨_, rfl, ?_⟩) (fun a => ⟨_, rfl, ?_⟩))⟩
  · have i := h.1.kk (sf_k00 g l 0)
    exact B361_d60 _ _ _ _ ⟨by omega, by omega, iq_Pw (mSteps i.1 i.tr (sf_xR _) (sf_xR _) (fun _ _ g2 k2 e2 e3 => ⟨_, rfl, sf_cl rfl (q g2 l (h.q (sf_k00 g l 0) k2 (sf_u00 _ _) e2 e3))⟩) (fun _ b2 => absurd b b2) (fun a3 => absurd (by rw [sf_ws0]; exact a) a3))⟩
  · have i := h.1.kk (sf_k00 g l 5)
    exact B361_d60 _ _ _ _ ⟨by omega, by omega, iq_Pw (mSteps i.1 i.tr (sf_xR _) (sf_xR _) (fun _ b2 => absurd b2 b) (fun _ _ => ⟨_, rfl, sf_cl rfl (q _ _ (h.uu _ rfl))⟩) (fun a3 => absurd (by rw [sf_ws0]; exact a) a3))⟩
  · have i := h.1.kk (sf_k00 g l (sf_ws g (xs (Int.toNat (v3 + 1))).toInt (xs (Int.toNat (v3 + 2))).toInt))
    exact B361_d60 _ _ _ _ ⟨by omega, by omega, iq_Pw (mSteps i.1 i.tr (sf_xR _) (sf_xR _) (fun a3 => absurd (by rw [← sf_ws0]; exact a3) a) (fun a3 => absurd (by rw [← sf_ws0]; exact a3) a) (fun _ => ⟨_, rfl, sf_cl rfl (q _ _ (h.uu _ (by rw [sf_ws0])))⟩))⟩
theorem sf_Mtf {j : Nat} {k : Int} (h : ¬ ((j = 10 ∧ k = 1) ∨ j = 11)) : iq_Mt j k = false := by
  rcases hb : iq_Mt j k with _ | _
  · rfl
  · exfalso; simp [iq_Mt] at hb; omega
theorem sf_Mvf {j : Nat} {k : Int} (h : ¬ ((j = 77 ∧ k = 9) ∨ j = 82)) : iq_Mv j k = false := by
  rcases hb : iq_Mv j k with _ | _
  · rfl
  · exfalso; simp [iq_Mv] at hb; omega
theorem sf_L7 {N : Nat} {xs : Nat → Int32} {Q : iq_T} {g : iq_I} {l : iq_J} {v3 : Int} (h : sf_INV g l) (hv : 0 ≤ v3 ∧ v3 + 5 < N ∧ (N : Int) ≤ 3072) (q : ∀ (g' : iq_I) (l' : iq_J), sf_INV g' l' → iq_P N xs 361 1940 [some (iq_r 1000000), some (iq_r 0), some (iq_r 77), some (iq_i v3)] [] g' l' Q) : iq_P N xs 361 570 [some (iq_r 1000000), some (iq_r 0), some (iq_r 77), some (iq_i v3)] [] g l Q := by
  have tp := h.1.tp
  refine B361_c7 _ _ _ ⟨by omega, by omega, by omega, by omega, by omega, iq_Pw (feed_52 (by rw [tp.1]; exact tp.2.1) (fun a g1 k1 e1 e1' n1 t1 => ⟨_, rfl, ?_⟩) (fun a => ⟨_, rfl, ?_⟩))⟩
  · have o9 : g1 77 9 = g 77 9 := (k1.1 77 9 (sf_kcs (sf_kcF (by omega))) (sf_Mtf (by omega))).1
    have o8 : g1 82 = g 82 := funext (fun k => (k1.1 82 k (sf_kcs (sf_kcF (by omega))) (sf_Mtf (by omega))).1)
    refine B361_d7 _ _ _ _ ⟨by omega, by omega, by omega, by omega, by omega, iq_Pw (feed_54 (by rw [o9]; exact tp.2.1) (fun _ g2 k2 e2 e2' n2 t2 => ⟨_, rfl, sf_cl (by rw [o9, tp.1]) (q g2 l ?_)⟩) (fun a3 => absurd (by rw [o9, ← tp.1]; exact a) a3))⟩
    rw [o9] at n2 t2
    rw [o8] at t2
    have e : ∀ (j : Nat) (k : Int), sf_kc j k → ¬ ((j = 10 ∧ k = 1) ∨ j = 11) → ¬ ((j = 77 ∧ k = 9) ∨ j = 82) → sf_ag g l g2 l j k := fun j k a b d => sf_ag2 k1 k2 j k a (sf_Mtf b) (sf_Mvf d)
    have i := h.1
    refine ⟨.of (sf_kA i.1 (fun j k z => e j k (sf_kcA z) (by omega) (by omega))) (sf_kB i.2.1 (fun j k z => e j k (sf_kcB z) (by omega) (by omega))) (sf_kC i.mks (fun j k z => e j k (sf_kcC z) (by omega) (by omega))) (sf_kE i.tr (fun j k z => e j k (sf_kcE z) (by omega) (by omega))) ?_ (sf_kG i.ft (fun j k z => e j k (sf_kcG z) (by omega) (by omega))) (sf_kH i.lf (fun j k z => e j k (sf_kcH z) (by omega) (by omega))), by rw [e2, e1, e2', e1']; exact h.2.1, h.2.2⟩
    have o1 : g2 10 1 = g1 10 1 := (k2.1 10 1 (sf_kcs (sf_kcF (by omega))) (sf_Mvf (by omega))).1
    have o2 : g2 11 = g1 11 := funext (fun k => (k2.1 11 k (sf_kcs (sf_kcF (by omega))) (sf_Mvf (by omega))).1)
    refine ⟨by rw [o1, n1, n2, tp.1], by have y1 := tp.1; have y2 := tp.2.1; omega, fun k x1 x2 => ?_⟩
    rw [o2, t1, t2, tp.1]
    rw [n2] at x2
    exact sf_t20c tp.2.2 k x1 x2
  · exact B361_d7 _ _ _ _ ⟨by omega, by omega, by omega, by omega, by omega, iq_Pw (feed_54 tp.2.1 (fun a3 => absurd (by rw [tp.1]; exact a3) a) (fun _ => ⟨_, rfl, sf_cl rfl (q g l h)⟩))⟩
