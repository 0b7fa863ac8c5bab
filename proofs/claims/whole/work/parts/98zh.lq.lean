/-! The law's cases: queries that speak of more than the parts. -/
theorem iq_KK.pc {g g1 : iq_I} {l l1 : iq_J} (k1 : iq_KK g l g1 l1) : g1 23 = g 23 ∧ g1 24 = g 24 ∧ g1 25 = g 25 ∧ l1 23 = l 23 := sf_kfc k1.kf
theorem sf_L0 {N : Nat} {xs : Nat → Int32} {Q : iq_T} {g : iq_I} {l : iq_J} {v3 : Int} (h : sf_INV g l) (hv : 0 ≤ v3 ∧ v3 + 5 < N ∧ (N : Int) ≤ 3072) (q : ∀ (g' : iq_I) (l' : iq_J), sf_INV g' l' → iq_P N xs 361 1940 [some (iq_r 1000000), some (iq_r 0), some (iq_r 77), some (iq_i v3)] [] g' l' Q) : iq_P N xs 361 316 [some (iq_r 1000000), some (iq_r 0), some (iq_r 77), some (iq_i v3)] [] g l Q := by
  exact B361_c0 _ _ _ (iq_Pw (cStatus ⟨_, rfl, B361_d0 _ _ _ _ (iq_Pw (mStatus ⟨_, rfl, sf_cl h.2.1 (q g l h)⟩))⟩))
theorem sf_L1 {N : Nat} {xs : Nat → Int32} {Q : iq_T} {g : iq_I} {l : iq_J} {v3 : Int} (h : sf_INV g l) (hv : 0 ≤ v3 ∧ v3 + 5 < N ∧ (N : Int) ≤ 3072) (q : ∀ (g' : iq_I) (l' : iq_J), sf_INV g' l' → iq_P N xs 361 1940 [some (iq_r 1000000), some (iq_r 0), some (iq_r 77), some (iq_i v3)] [] g' l' Q) : iq_P N xs 361 329 [some (iq_r 1000000), some (iq_r 0), some (iq_r 77), some (iq_i v3)] [] g l Q := by
  exact B361_c1 _ _ _ (cTop ⟨_, rfl, B361_d1 _ _ _ _ (mTop ⟨_, rfl, sf_cll h.2.2.1 (q g l h)⟩)⟩)
theorem sf_L2 {N : Nat} {xs : Nat → Int32} {Q : iq_T} {g : iq_I} {l : iq_J} {v3 : Int} (h : sf_INV g l) (hv : 0 ≤ v3 ∧ v3 + 5 < N ∧ (N : Int) ≤ 3072) (q : ∀ (g' : iq_I) (l' : iq_J), sf_INV g' l' → iq_P N xs 361 1940 [some (iq_r 1000000), some (iq_r 0), some (iq_r 77), some (iq_i v3)] [] g' l' Q) : iq_P N xs 361 343 [some (iq_r 1000000), some (iq_r 0), some (iq_r 77), some (iq_i v3)] [] g l Q := by
  exact B361_c2 _ _ _ (cBottom ⟨_, rfl, B361_d2 _ _ _ _ (mBottom ⟨_, rfl, sf_cll h.2.2.2 (q g l h)⟩)⟩)
theorem sf_L10 {N : Nat} {xs : Nat → Int32} {Q : iq_T} {g : iq_I} {l : iq_J} {v3 : Int} (h : sf_INV g l) (hv : 0 ≤ v3 ∧ v3 + 5 < N ∧ (N : Int) ≤ 3072) (q : ∀ (g' : iq_I) (l' : iq_J), sf_INV g' l' → iq_P N xs 361 1940 [some (iq_r 1000000), some (iq_r 0), some (iq_r 77), some (iq_i v3)] [] g' l' Q) : iq_P N xs 361 679 [some (iq_r 1000000), some (iq_r 0), some (iq_r 77), some (iq_i v3)] [] g l Q := by
  refine B361_c10 _ _ _ ⟨by omega, iq_Pw (cFault (sf_xR _) ⟨_, rfl, ?_⟩)⟩
  refine B361_d10 _ _ _ _ ⟨by omega, iq_Pw (mFault (sf_xR _) ⟨_, rfl, sf_cl ?_ (q g l h)⟩)⟩
  rw [h.1.ft.1, h.1.ft.2]
theorem sf_L11 {N : Nat} {xs : Nat → Int32} {Q : iq_T} {g : iq_I} {l : iq_J} {v3 : Int} (h : sf_INV g l) (hv : 0 ≤ v3 ∧ v3 + 5 < N ∧ (N : Int) ≤ 3072) (q : ∀ (g' : iq_I) (l' : iq_J), sf_INV g' l' → iq_P N xs 361 1940 [some (iq_r 1000000), some (iq_r 0), some (iq_r 77), some (iq_i v3)] [] g' l' Q) : iq_P N xs 361 702 [some (iq_r 1000000), some (iq_r 0), some (iq_r 77), some (iq_i v3)] [] g l Q := by
  refine B361_c11 _ _ _ ⟨by omega, iq_Pw (cTold h.1.1 (sf_xR _) (fun g1 l1 k1 e1 => ⟨_, rfl, ?_⟩))⟩
  refine B361_d11 _ _ _ _ ⟨by omega, iq_Pw (mTold (h.1.1.keep k1) (sf_xR _) (fun g2 l2 k2 e2 e3 => ⟨_, rfl, ?_⟩))⟩
  obtain ⟨p23, p24, p25, p3⟩ := k1.pc
  try rw [p24] at e3
  try rw [p23] at e3
  try rw [p25] at e3
  try rw [p3] at e3
  refine sf_cl ?_ (q g2 l2 (h.q k1 k2 e1 e2 e3))
  try rw [p24]
  try rw [p23]
  try rw [p25]
  try rw [p3]
theorem sf_L25 {N : Nat} {xs : Nat → Int32} {Q : iq_T} {g : iq_I} {l : iq_J} {v3 : Int} (h : sf_INV g l) (hv : 0 ≤ v3 ∧ v3 + 5 < N ∧ (N : Int) ≤ 3072) (q : ∀ (g' : iq_I) (l' : iq_J), sf_INV g' l' → iq_P N xs 361 1940 [some (iq_r 1000000), some (iq_r 0), some (iq_r 77), some (iq_i v3)] [] g' l' Q) : iq_P N xs 361 1024 [some (iq_r 1000000), some (iq_r 0), some (iq_r 77), some (iq_i v3)] [] g l Q := by
  refine B361_c25 _ _ _ ⟨by omega, iq_Pw (cSound (sf_xR _) (fun g1 l1 k1 e1 => ⟨_, rfl, ?_⟩))⟩
  refine B361_d25 _ _ _ _ ⟨by omega, iq_Pw (mSound (h.1.1.keep k1) (sf_xR _) (fun g2 l2 k2 e2 e3 => ⟨_, rfl, ?_⟩))⟩
  obtain ⟨p23, p24, p25, p3⟩ := k1.pc
  try rw [p24] at e3
  try rw [p23] at e3
  try rw [p25] at e3
  try rw [p3] at e3
  refine sf_cl ?_ (q g2 l2 (h.q k1 k2 e1 e2 e3))
  try rw [p24]
  try rw [p23]
  try rw [p25]
  try rw [p3]
theorem sf_L26 {N : Nat} {xs : Nat → Int32} {Q : iq_T} {g : iq_I} {l : iq_J} {v3 : Int} (h : sf_INV g l) (hv : 0 ≤ v3 ∧ v3 + 5 < N ∧ (N : Int) ≤ 3072) (q : ∀ (g' : iq_I) (l' : iq_J), sf_INV g' l' → iq_P N xs 361 1940 [some (iq_r 1000000), some (iq_r 0), some (iq_r 77), some (iq_i v3)] [] g' l' Q) : iq_P N xs 361 1047 [some (iq_r 1000000), some (iq_r 0), some (iq_r 77), some (iq_i v3)] [] g l Q := by
  refine B361_c26 _ _ _ ⟨by omega, iq_Pw (cRecent h.1.1 (sf_xR _) (fun g1 l1 k1 e1 => ⟨_, rfl, ?_⟩))⟩
  refine B361_d26 _ _ _ _ ⟨by omega, iq_Pw (mRecent (h.1.1.keep k1) (sf_xR _) (fun g2 l2 k2 e2 e3 => ⟨_, rfl, ?_⟩))⟩
  obtain ⟨p23, p24, p25, p3⟩ := k1.pc
  try rw [p24] at e3
  try rw [p23] at e3
  try rw [p25] at e3
  try rw [p3] at e3
  refine sf_cl ?_ (q g2 l2 (h.q k1 k2 e1 e2 e3))
  try rw [p24]
  try rw [p23]
  try rw [p25]
  try rw [p3]
theorem sf_L33 {N : Nat} {xs : Nat → Int32} {Q : iq_T} {g : iq_I} {l : iq_J} {v3 : Int} (h : sf_INV g l) (hv : 0 ≤ v3 ∧ v3 + 5 < N ∧ (N : Int) ≤ 3072) (q : ∀ (g' : iq_I) (l' : iq_J), sf_INV g' l' → iq_P N xs 361 1940 [some (iq_r 1000000), some (iq_r 0), some (iq_r 77), some (iq_i v3)] [] g' l' Q) : iq_P N xs 361 1188 [some (iq_r 1000000), some (iq_r 0), some (iq_r 77), some (iq_i v3)] [] g l Q := by
  refine B361_c33 _ _ _ ⟨by omega, iq_Pw (cBright h.1.1 (sf_xR _) (fun g1 l1 k1 e1 => ⟨_, rfl, ?_⟩))⟩
  refine B361_d33 _ _ _ _ ⟨by omega, iq_Pw (mBright (h.1.1.keep k1) (sf_xR _) (fun g2 l2 k2 e2 e3 => ⟨_, rfl, ?_⟩))⟩
  obtain ⟨p23, p24, p25, p3⟩ := k1.pc
  try rw [p24] at e3
  try rw [p23] at e3
  try rw [p25] at e3
  try rw [p3] at e3
  refine sf_cl ?_ (q g2 l2 (h.q k1 k2 e1 e2 e3))
  try rw [p24]
  try rw [p23]
  try rw [p25]
  try rw [p3]
theorem sf_L45 {N : Nat} {xs : Nat → Int32} {Q : iq_T} {g : iq_I} {l : iq_J} {v3 : Int} (h : sf_INV g l) (hv : 0 ≤ v3 ∧ v3 + 5 < N ∧ (N : Int) ≤ 3072) (q : ∀ (g' : iq_I) (l' : iq_J), sf_INV g' l' → iq_P N xs 361 1940 [some (iq_r 1000000), some (iq_r 0), some (iq_r 77), some (iq_i v3)] [] g' l' Q) : iq_P N xs 361 1494 [some (iq_r 1000000), some (iq_r 0), some (iq_r 77), some (iq_i v3)] [] g l Q := by
  refine B361_c45 _ _ _ (iq_Pw (cFit h.1.1 (fun g1 l1 k1 e1 => ⟨_, rfl, ?_⟩)))
  refine B361_d45 _ _ _ _ (iq_Pw (mFit (h.1.1.keep k1) (fun g2 l2 k2 e2 e3 => ⟨_, rfl, ?_⟩)))
  obtain ⟨p23, p24, p25, p3⟩ := k1.pc
  try rw [p24] at e3
  try rw [p23] at e3
  try rw [p25] at e3
  try rw [p3] at e3
  refine sf_cl ?_ (q g2 l2 (h.q k1 k2 e1 e2 e3))
  try rw [p24]
  try rw [p23]
  try rw [p25]
  try rw [p3]
theorem sf_L46 {N : Nat} {xs : Nat → Int32} {Q : iq_T} {g : iq_I} {l : iq_J} {v3 : Int} (h : sf_INV g l) (hv : 0 ≤ v3 ∧ v3 + 5 < N ∧ (N : Int) ≤ 3072) (q : ∀ (g' : iq_I) (l' : iq_J), sf_INV g' l' → iq_P N xs 361 1940 [some (iq_r 1000000), some (iq_r 0), some (iq_r 77), some (iq_i v3)] [] g' l' Q) : iq_P N xs 361 1507 [some (iq_r 1000000), some (iq_r 0), some (iq_r 77), some (iq_i v3)] [] g l Q := by
  refine B361_c46 _ _ _ (iq_Pw (cBestRoot h.1.1 (fun g1 l1 k1 e1 => ⟨_, rfl, ?_⟩)))
  refine B361_d46 _ _ _ _ (iq_Pw (mBestRoot (h.1.1.keep k1) (fun g2 l2 k2 e2 e3 => ⟨_, rfl, ?_⟩)))
  obtain ⟨p23, p24, p25, p3⟩ := k1.pc
  try rw [p24] at e3
  try rw [p23] at e3
  try rw [p25] at e3
  try rw [p3] at e3
  refine sf_cl ?_ (q g2 l2 (h.q k1 k2 e1 e2 e3))
  try rw [p24]
  try rw [p23]
  try rw [p25]
  try rw [p3]
theorem sf_L47 {N : Nat} {xs : Nat → Int32} {Q : iq_T} {g : iq_I} {l : iq_J} {v3 : Int} (h : sf_INV g l) (hv : 0 ≤ v3 ∧ v3 + 5 < N ∧ (N : Int) ≤ 3072) (q : ∀ (g' : iq_I) (l' : iq_J), sf_INV g' l' → iq_P N xs 361 1940 [some (iq_r 1000000), some (iq_r 0), some (iq_r 77), some (iq_i v3)] [] g' l' Q) : iq_P N xs 361 1520 [some (iq_r 1000000), some (iq_r 0), some (iq_r 77), some (iq_i v3)] [] g l Q := by
  refine B361_c47 _ _ _ (iq_Pw (cGuesses h.1.1 (fun g1 l1 k1 e1 => ⟨_, rfl, ?_⟩)))
  refine B361_d47 _ _ _ _ (iq_Pw (mGuesses (h.1.1.keep k1) (fun g2 l2 k2 e2 e3 => ⟨_, rfl, ?_⟩)))
  obtain ⟨p23, p24, p25, p3⟩ := k1.pc
  try rw [p24] at e3
  try rw [p23] at e3
  try rw [p25] at e3
  try rw [p3] at e3
  refine sf_cl ?_ (q g2 l2 (h.q k1 k2 e1 e2 e3))
  try rw [p24]
  try rw [p23]
  try rw [p25]
  try rw [p3]
theorem sf_L48 {N : Nat} {xs : Nat → Int32} {Q : iq_T} {g : iq_I} {l : iq_J} {v3 : Int} (h : sf_INV g l) (hv : 0 ≤ v3 ∧ v3 + 5 < N ∧ (N : Int) ≤ 3072) (q : ∀ (g' : iq_I) (l' : iq_J), sf_INV g' l' → iq_P N xs 361 1940 [some (iq_r 1000000), some (iq_r 0), some (iq_r 77), some (iq_i v3)] [] g' l' Q) : iq_P N xs 361 1533 [some (iq_r 1000000), some (iq_r 0), some (iq_r 77), some (iq_i v3)] [] g l Q := by
  refine B361_c48 _ _ _ ⟨by omega, iq_Pw (cGuessAt h.1.1 (sf_xR _) (fun g1 l1 k1 e1 => ⟨_, rfl, ?_⟩))⟩
  refine B361_d48 _ _ _ _ ⟨by omega, iq_Pw (mGuessAt (h.1.1.keep k1) (sf_xR _) (fun g2 l2 k2 e2 e3 => ⟨_, rfl, ?_⟩))⟩
  obtain ⟨p23, p24, p25, p3⟩ := k1.pc
  try rw [p24] at e3
  try rw [p23] at e3
  try rw [p25] at e3
  try rw [p3] at e3
  refine sf_cl ?_ (q g2 l2 (h.q k1 k2 e1 e2 e3))
  try rw [p24]
  try rw [p23]
  try rw [p25]
  try rw [p3]
theorem sf_L49 {N : Nat} {xs : Nat → Int32} {Q : iq_T} {g : iq_I} {l : iq_J} {v3 : Int} (h : sf_INV g l) (hv : 0 ≤ v3 ∧ v3 + 5 < N ∧ (N : Int) ≤ 3072) (q : ∀ (g' : iq_I) (l' : iq_J), sf_INV g' l' → iq_P N xs 361 1940 [some (iq_r 1000000), some (iq_r 0), some (iq_r 77), some (iq_i v3)] [] g' l' Q) : iq_P N xs 361 1556 [some (iq_r 1000000), some (iq_r 0), some (iq_r 77), some (iq_i v3)] [] g l Q := by
  refine B361_c49 _ _ _ (iq_Pw (cAsk h.1.1 (fun g1 l1 k1 e1 => ⟨_, rfl, ?_⟩)))
  refine B361_d49 _ _ _ _ (iq_Pw (mAsk (h.1.1.keep k1) (fun g2 l2 k2 e2 e3 => ⟨_, rfl, ?_⟩)))
  obtain ⟨p23, p24, p25, p3⟩ := k1.pc
  try rw [p24] at e3
  try rw [p23] at e3
  try rw [p25] at e3
  try rw [p3] at e3
  refine sf_cl ?_ (q g2 l2 (h.q k1 k2 e1 e2 e3))
  try rw [p24]
  try rw [p23]
  try rw [p25]
  try rw [p3]
theorem sf_L51 {N : Nat} {xs : Nat → Int32} {Q : iq_T} {g : iq_I} {l : iq_J} {v3 : Int} (h : sf_INV g l) (hv : 0 ≤ v3 ∧ v3 + 5 < N ∧ (N : Int) ≤ 3072) (q : ∀ (g' : iq_I) (l' : iq_J), sf_INV g' l' → iq_P N xs 361 1940 [some (iq_r 1000000), some (iq_r 0), some (iq_r 77), some (iq_i v3)] [] g' l' Q) : iq_P N xs 361 1592 [some (iq_r 1000000), some (iq_r 0), some (iq_r 77), some (iq_i v3)] [] g l Q := by
  refine B361_c51 _ _ _ (iq_Pw (cWay h.1.1 (fun a T r g1 l1 k1 e1 => ⟨_, rfl, ?_⟩) (fun a g1 l1 k1 e1 => ⟨_, rfl, ?_⟩)))
  · obtain ⟨p23, p24, p25, p3⟩ := k1.pc
    refine B361_d51 _ _ _ _ (iq_Pw (mWay (T := T) (h.1.1.keep k1) (fun _ => by rw [p3, p24]; exact r) (fun _ g2 k2 e2 e3 => ⟨_, rfl, ?_⟩) (fun a2 => absurd (by rw [p3]; exact a) a2)))
    try rw [p3] at e3
    try rw [p24] at e3
    refine sf_cl ?_ (q g2 l1 (h.q k1 k2 e1 e2 e3))
    try rw [p3]
    try rw [p24]
  · obtain ⟨p23, p24, p25, p3⟩ := k1.pc
    exact B361_d51 _ _ _ _ (iq_Pw (mWay (T := fun _ _ => 0) (h.1.1.keep k1) (fun b => absurd (by rw [← p3]; exact b) a) (fun b => absurd (by rw [← p3]; exact b) a) (fun _ g2 k2 e2 e3 => ⟨_, rfl, sf_cl rfl (q g2 l1 (h.q k1 k2 e1 e2 e3))⟩)))
theorem sf_L52 {N : Nat} {xs : Nat → Int32} {Q : iq_T} {g : iq_I} {l : iq_J} {v3 : Int} (h : sf_INV g l) (hv : 0 ≤ v3 ∧ v3 + 5 < N ∧ (N : Int) ≤ 3072) (q : ∀ (g' : iq_I) (l' : iq_J), sf_INV g' l' → iq_P N xs 361 1940 [some (iq_r 1000000), some (iq_r 0), some (iq_r 77), some (iq_i v3)] [] g' l' Q) : iq_P N xs 361 1605 [some (iq_r 1000000), some (iq_r 0), some (iq_r 77), some (iq_i v3)] [] g l Q := by
  refine B361_c52 _ _ _ ⟨by omega, iq_Pw (cWayAt h.1.1 (sf_xR _) (fun a T r g1 l1 k1 e1 => ⟨_, rfl, ?_⟩) (fun a g1 l1 k1 e1 => ⟨_, rfl, ?_⟩))⟩
  · obtain ⟨p23, p24, p25, p3⟩ := k1.pc
    refine B361_d52 _ _ _ _ ⟨by omega, iq_Pw (mWayAt (T := T) (h.1.1.keep k1) (sf_xR _) (fun _ => by rw [p3, p24]; exact r) (fun _ g2 k2 e2 e3 => ⟨_, rfl, ?_⟩) (fun a2 => absurd (by rw [p3]; exact a) a2))⟩
    try rw [p3] at e3
    try rw [p24] at e3
    refine sf_cl ?_ (q g2 l1 (h.q k1 k2 e1 e2 e3))
    try rw [p3]
    try rw [p24]
  · obtain ⟨p23, p24, p25, p3⟩ := k1.pc
    exact B361_d52 _ _ _ _ ⟨by omega, iq_Pw (mWayAt (T := fun _ _ => 0) (h.1.1.keep k1) (sf_xR _) (fun b => absurd (by rw [← p3]; exact b) a) (fun b => absurd (by rw [← p3]; exact b) a) (fun _ g2 k2 e2 e3 => ⟨_, rfl, sf_cl rfl (q g2 l1 (h.q k1 k2 e1 e2 e3))⟩))⟩
theorem sf_L56 {N : Nat} {xs : Nat → Int32} {Q : iq_T} {g : iq_I} {l : iq_J} {v3 : Int} (h : sf_INV g l) (hv : 0 ≤ v3 ∧ v3 + 5 < N ∧ (N : Int) ≤ 3072) (q : ∀ (g' : iq_I) (l' : iq_J), sf_INV g' l' → iq_P N xs 361 1940 [some (iq_r 1000000), some (iq_r 0), some (iq_r 77), some (iq_i v3)] [] g' l' Q) : iq_P N xs 361 1687 [some (iq_r 1000000), some (iq_r 0), some (iq_r 77), some (iq_i v3)] [] g l Q := by
  refine B361_c56 _ _ _ (iq_Pw (cRatio h.1.1 (fun g1 l1 k1 e1 f1 f2 f3 f4 => ⟨_, rfl, ?_⟩)))
  refine B361_d56 _ _ _ _ (iq_Pw (mRatio (sf_kfA k1 h.1.1) (fun g2 l2 k2 e2 e3 m1 m2 m3 m4 => ⟨_, rfl, sf_cl rfl (q g2 l2 ?_)⟩)))
  rw [(sf_kfc k1).2.1] at m1 m2
  exact h.qf k1 k2 e1 e2 e3 f1 f2 m1 m2 m3 m4
theorem sf_L57 {N : Nat} {xs : Nat → Int32} {Q : iq_T} {g : iq_I} {l : iq_J} {v3 : Int} (h : sf_INV g l) (hv : 0 ≤ v3 ∧ v3 + 5 < N ∧ (N : Int) ≤ 3072) (q : ∀ (g' : iq_I) (l' : iq_J), sf_INV g' l' → iq_P N xs 361 1940 [some (iq_r 1000000), some (iq_r 0), some (iq_r 77), some (iq_i v3)] [] g' l' Q) : iq_P N xs 361 1700 [some (iq_r 1000000), some (iq_r 0), some (iq_r 77), some (iq_i v3)] [] g l Q := by
  refine B361_c57 _ _ _ ⟨by omega, iq_Pw (cShare h.1.1 (sf_xR _) (fun a b g1 l1 k1 e1 f1 f2 f3 f4 => ⟨_, rfl, ?_⟩) (fun a g1 l1 k1 e1 => ⟨_, rfl, ?_⟩))⟩
  · have p := (sf_kfc k1).2.1
    refine B361_d57 _ _ _ _ ⟨by omega, iq_Pw (mShare (sf_kfA k1 h.1.1) (sf_xR _) (fun _ _ g2 l2 k2 e2 e3 m1 m2 m3 m4 => ⟨_, rfl, sf_cl rfl (q g2 l2 ?_)⟩) (fun a2 => absurd ⟨a, by rw [p]; exact b⟩ a2))⟩
    rw [p] at m1 m2
    exact h.qf k1 k2 e1 e2 e3 f1 f2 m1 m2 m3 m4
  · have p := k1.p24
    exact B361_d57 _ _ _ _ ⟨by omega, iq_Pw (mShare (h.1.1.keep k1) (sf_xR _) (fun a1 a2 => absurd ⟨a1, by rw [← p]; exact a2⟩ a) (fun _ g2 l2 k2 e2 e3 => ⟨_, rfl, sf_cl rfl (q g2 l2 (h.q k1 k2 e1 e2 e3))⟩))⟩
theorem sf_L55 {N : Nat} {xs : Nat → Int32} {Q : iq_T} {g : iq_I} {l : iq_J} {v3 : Int} (h : sf_INV g l) (hv : 0 ≤ v3 ∧ v3 + 5 < N ∧ (N : Int) ≤ 3072) (q : ∀ (g' : iq_I) (l' : iq_J), sf_INV g' l' → iq_P N xs 361 1940 [some (iq_r 1000000), some (iq_r 0), some (iq_r 77), some (iq_i v3)] [] g' l' Q) : iq_P N xs 361 1664 [some (iq_r 1000000), some (iq_r 0), some (iq_r 77), some (iq_i v3)] [] g l Q := by
  refine B361_c55 _ _ _ ⟨by omega, iq_Pw (cConvergent h.1.1 (sf_xR _) (fun a g1 l1 k1 e1 f1 f2 f3 f4 => ⟨_, rfl, ?_⟩) (fun a g1 l1 k1 e1 => ⟨_, rfl, ?_⟩))⟩
  · have p := (sf_kfc k1).2.1
    refine B361_d55 _ _ _ _ ⟨by omega, iq_Pw (mConvergent (sf_kfA k1 h.1.1) (sf_xR _) (fun _ g2 l2 k2 e2 e3 m1 m2 m3 m4 => ⟨_, rfl, sf_cl rfl (q g2 l2 ?_)⟩) (fun a2 => absurd (by rw [p]; exact a) a2))⟩
    rw [p] at m1 m2
    exact h.qf k1 k2 e1 e2 e3 f1 f2 m1 m2 m3 m4
  · have p := k1.p24
    exact B361_d55 _ _ _ _ ⟨by omega, iq_Pw (mConvergent (h.1.1.keep k1) (sf_xR _) (fun a1 => absurd (by rw [← p]; exact a1) a) (fun _ g2 l2 k2 e2 e3 => ⟨_, rfl, sf_cl rfl (q g2 l2 (h.q k1 k2 e1 e2 e3))⟩))⟩
theorem sf_L58 {N : Nat} {xs : Nat → Int32} {Q : iq_T} {g : iq_I} {l : iq_J} {v3 : Int} (h : sf_INV g l) (hv : 0 ≤ v3 ∧ v3 + 5 < N ∧ (N : Int) ≤ 3072) (q : ∀ (g' : iq_I) (l' : iq_J), sf_INV g' l' → iq_P N xs 361 1940 [some (iq_r 1000000), some (iq_r 0), some (iq_r 77), some (iq_i v3)] [] g' l' Q) : iq_P N xs 361 1723 [some (iq_r 1000000), some (iq_r 0), some (iq_r 77), some (iq_i v3)] [] g l Q := by
  refine B361_c58 _ _ _ ⟨by omega, by omega, iq_Pw (cMistuned h.1.1 (sf_xR _) (sf_xR _) (fun a g1 l1 k1 e1 f1 f2 f3 f4 => ⟨_, rfl, ?_⟩) (fun a g1 l1 k1 e1 => ⟨_, rfl, ?_⟩))⟩
  · have p := (sf_kfc k1).2.1
    refine B361_d58 _ _ _ _ ⟨by omega, by omega, iq_Pw (mMistuned (sf_kfA k1 h.1.1) (sf_xR _) (sf_xR _) (fun _ g2 l2 k2 e2 e3 m1 m2 m3 m4 => ⟨_, rfl, sf_cl rfl (q g2 l2 ?_)⟩) (fun a2 => absurd a a2))⟩
    rw [p] at m1 m2
    exact h.qf k1 k2 e1 e2 e3 f1 f2 m1 m2 m3 m4
  · exact B361_d58 _ _ _ _ ⟨by omega, by omega, iq_Pw (mMistuned (h.1.1.keep k1) (sf_xR _) (sf_xR _) (fun a1 => absurd a1 a) (fun _ g2 l2 k2 e2 e3 => ⟨_, rfl, sf_cl rfl (q g2 l2 (h.q k1 k2 e1 e2 e3))⟩))⟩
theorem sf_k00 (g : iq_I) (l : iq_J) (s : Int) : iq_KK g l (iq_uz g 0 0 s) l := (iq_KK.refl g l).uz iq_sx00
theorem sf_k77 (g : iq_I) (l : iq_J) (s : Int) : iq_KK g l (iq_uz g 77 1 s) l := (iq_KK.refl g l).uz iq_sx771
theorem sf_u00 (g : iq_I) (s : Int) : iq_uz g 0 0 s 0 0 = s := by simp [iq_uz]
theorem sf_u77 (g : iq_I) (s : Int) : iq_uz g 77 1 s 77 1 = s := by simp [iq_uz]
theorem sf_u70 (g : iq_I) (s : Int) : iq_uz g 77 1 s 0 0 = g 0 0 := by simp [iq_uz]
/-- both tell the same status, and nothing else changes -/
theorem sf_INV.uu {g : iq_I} {l : iq_J} (h : sf_INV g l) (s : Int) {s' : Int} (e : s' = s) : sf_INV (iq_uz (iq_uz g 0 0 s) 77 1 s') l := by
  subst e
  exact h.q (sf_k00 g l _) (sf_k77 _ l _) (sf_u00 _ _) (sf_u70 _ _) (sf_u77 _ _)
theorem sf_L62 {N : Nat} {xs : Nat → Int32} {Q : iq_T} {g : iq_I} {l : iq_J} {v3 : Int} (h : sf_INV g l) (hv : 0 ≤ v3 ∧ v3 + 5 < N ∧ (N : Int) ≤ 3072) (q : ∀ (g' : iq_I) (l' : iq_J), sf_INV g' l' → iq_P N xs 361 1940 [some (iq_r 1000000), some (iq_r 0), some (iq_r 77), some (iq_i v3)] [] g' l' Q) : iq_P N xs 361 1835 [some (iq_r 1000000), some (iq_r 0), some (iq_r 77), some (iq_i v3)] [] g l Q := by
  refine B361_c62 _ _ _ ⟨by omega, iq_Pw (cLived h.1.lf (sf_xR _) ⟨_, rfl, ?_⟩)⟩
  have e : ∀ s a, aLived (iq_uz g 0 0 s) a = aLived g a := fun s a => by simp [aLived, iq_uz]
  exact B361_d62 _ _ _ _ ⟨by omega, iq_Pw (mLived (h.1.kk (sf_k00 g l _)).lf (sf_xR _) ⟨_, rfl, sf_cl (by rw [e]) (q _ _ (h.uu _ (by rw [e])))⟩)⟩
theorem sf_L63 {N : Nat} {xs : Nat → Int32} {Q : iq_T} {g : iq_I} {l : iq_J} {v3 : Int} (h : sf_INV g l) (hv : 0 ≤ v3 ∧ v3 + 5 < N ∧ (N : Int) ≤ 3072) (q : ∀ (g' : iq_I) (l' : iq_J), sf_INV g' l' → iq_P N xs 361 1940 [some (iq_r 1000000), some (iq_r 0), some (iq_r 77), some (iq_i v3)] [] g' l' Q) : iq_P N xs 361 1858 [some (iq_r 1000000), some (iq_r 0), some (iq_r 77), some (iq_i v3)] [] g l Q := by
  refine B361_c63 _ _ _ ⟨by omega, iq_Pw (cLogAt h.1.lf (sf_xR _) ⟨_, rfl, ?_⟩)⟩
  have e : ∀ s a, aLogAt (iq_uz g 0 0 s) a = aLogAt g a := fun s a => by simp [aLogAt, iq_uz]
  exact B361_d63 _ _ _ _ ⟨by omega, iq_Pw (mLogAt (h.1.kk (sf_k00 g l _)).lf (sf_xR _) ⟨_, rfl, sf_cl (by rw [e]) (q _ _ (h.uu _ (by rw [e])))⟩)⟩
