/-! The law's cases of plain queries (printed by wip/gen/law2.py). -/
theorem sf_L12 {N : Nat} {xs : Nat → Int32} {Q : iq_T} {g : iq_I} {l : iq_J} {v3 : Int} (h : sf_INV g l) (hv : 0 ≤ v3 ∧ v3 + 5 < N ∧ (N : Int) ≤ 3072) (q : ∀ (g' : iq_I) (l' : iq_J), sf_INV g' l' → iq_P N xs 361 1940 [some (iq_r 1000000), some (iq_r 0), some (iq_r 77), some (iq_i v3)] [] g' l' Q) : iq_P N xs 361 725 [some (iq_r 1000000), some (iq_r 0), some (iq_r 77), some (iq_i v3)] [] g l Q := by
  refine B361_c12 _ _ _ ⟨by omega, iq_Pw (cChain h.1.1 (sf_xR _) (fun g1 l1 k1 e1 => ⟨_, rfl, ?_⟩))⟩
  refine B361_d12 _ _ _ _ ⟨by omega, iq_Pw (mChain (h.1.1.keep k1) (sf_xR _) (fun g2 l2 k2 e2 e3 => ⟨_, rfl, ?_⟩))⟩
  try rw [k1.p24] at e3
  try rw [k1.p24]
  exact ⟨⟨(sf_w32R _).1, (sf_w32R _).2, sf_w32R _⟩, fun _ => q g2 l2 (h.q k1 k2 e1 e2 e3), fun z => absurd rfl z⟩
theorem sf_L13 {N : Nat} {xs : Nat → Int32} {Q : iq_T} {g : iq_I} {l : iq_J} {v3 : Int} (h : sf_INV g l) (hv : 0 ≤ v3 ∧ v3 + 5 < N ∧ (N : Int) ≤ 3072) (q : ∀ (g' : iq_I) (l' : iq_J), sf_INV g' l' → iq_P N xs 361 1940 [some (iq_r 1000000), some (iq_r 0), some (iq_r 77), some (iq_i v3)] [] g' l' Q) : iq_P N xs 361 748 [some (iq_r 1000000), some (iq_r 0), some (iq_r 77), some (iq_i v3)] [] g l Q := by
  refine B361_c13 _ _ _ ⟨by omega, iq_Pw (cTone h.1.1 (sf_xR _) (fun g1 l1 k1 e1 => ⟨_, rfl, ?_⟩))⟩
  refine B361_d13 _ _ _ _ ⟨by omega, iq_Pw (mTone (h.1.1.keep k1) (sf_xR _) (fun g2 l2 k2 e2 e3 => ⟨_, rfl, ?_⟩))⟩
  try rw [k1.p24] at e3
  try rw [k1.p24]
  exact ⟨⟨(sf_w32R _).1, (sf_w32R _).2, sf_w32R _⟩, fun _ => q g2 l2 (h.q k1 k2 e1 e2 e3), fun z => absurd rfl z⟩
theorem sf_L14 {N : Nat} {xs : Nat → Int32} {Q : iq_T} {g : iq_I} {l : iq_J} {v3 : Int} (h : sf_INV g l) (hv : 0 ≤ v3 ∧ v3 + 5 < N ∧ (N : Int) ≤ 3072) (q : ∀ (g' : iq_I) (l' : iq_J), sf_INV g' l' → iq_P N xs 361 1940 [some (iq_r 1000000), some (iq_r 0), some (iq_r 77), some (iq_i v3)] [] g' l' Q) : iq_P N xs 361 771 [some (iq_r 1000000), some (iq_r 0), some (iq_r 77), some (iq_i v3)] [] g l Q := by
  refine B361_c14 _ _ _ ⟨by omega, iq_Pw (cDegree h.1.1 (sf_xR _) (fun g1 l1 k1 e1 => ⟨_, rfl, ?_⟩))⟩
  refine B361_d14 _ _ _ _ ⟨by omega, iq_Pw (mDegree (h.1.1.keep k1) (sf_xR _) (fun g2 l2 k2 e2 e3 => ⟨_, rfl, ?_⟩))⟩
  try rw [k1.p24] at e3
  try rw [k1.p24]
  exact ⟨⟨(sf_w32R _).1, (sf_w32R _).2, sf_w32R _⟩, fun _ => q g2 l2 (h.q k1 k2 e1 e2 e3), fun z => absurd rfl z⟩
theorem sf_L16 {N : Nat} {xs : Nat → Int32} {Q : iq_T} {g : iq_I} {l : iq_J} {v3 : Int} (h : sf_INV g l) (hv : 0 ≤ v3 ∧ v3 + 5 < N ∧ (N : Int) ≤ 3072) (q : ∀ (g' : iq_I) (l' : iq_J), sf_INV g' l' → iq_P N xs 361 1940 [some (iq_r 1000000), some (iq_r 0), some (iq_r 77), some (iq_i v3)] [] g' l' Q) : iq_P N xs 361 817 [some (iq_r 1000000), some (iq_r 0), some (iq_r 77), some (iq_i v3)] [] g l Q := by
  refine B361_c16 _ _ _ ⟨by omega, by omega, iq_Pw (cSpan h.1.1 (sf_xR _) (sf_xR _) (fun g1 l1 k1 e1 => ⟨_, rfl, ?_⟩))⟩
  refine B361_d16 _ _ _ _ ⟨by omega, by omega, iq_Pw (mSpan (h.1.1.keep k1) (sf_xR _) (sf_xR _) (fun g2 l2 k2 e2 e3 => ⟨_, rfl, ?_⟩))⟩
  try rw [k1.p24] at e3
  try rw [k1.p24]
  exact ⟨⟨(sf_w32R _).1, (sf_w32R _).2, sf_w32R _⟩, fun _ => q g2 l2 (h.q k1 k2 e1 e2 e3), fun z => absurd rfl z⟩
theorem sf_L17 {N : Nat} {xs : Nat → Int32} {Q : iq_T} {g : iq_I} {l : iq_J} {v3 : Int} (h : sf_INV g l) (hv : 0 ≤ v3 ∧ v3 + 5 < N ∧ (N : Int) ≤ 3072) (q : ∀ (g' : iq_I) (l' : iq_J), sf_INV g' l' → iq_P N xs 361 1940 [some (iq_r 1000000), some (iq_r 0), some (iq_r 77), some (iq_i v3)] [] g' l' Q) : iq_P N xs 361 850 [some (iq_r 1000000), some (iq_r 0), some (iq_r 77), some (iq_i v3)] [] g l Q := by
  refine B361_c17 _ _ _ ⟨by omega, iq_Pw (cSizeAt h.1.1 (sf_xR _) (fun g1 l1 k1 e1 => ⟨_, rfl, ?_⟩))⟩
  refine B361_d17 _ _ _ _ ⟨by omega, iq_Pw (mSizeAt (h.1.1.keep k1) (sf_xR _) (fun g2 l2 k2 e2 e3 => ⟨_, rfl, ?_⟩))⟩
  try rw [k1.p24] at e3
  try rw [k1.p24]
  exact ⟨⟨(sf_w32R _).1, (sf_w32R _).2, sf_w32R _⟩, fun _ => q g2 l2 (h.q k1 k2 e1 e2 e3), fun z => absurd rfl z⟩
theorem sf_L18 {N : Nat} {xs : Nat → Int32} {Q : iq_T} {g : iq_I} {l : iq_J} {v3 : Int} (h : sf_INV g l) (hv : 0 ≤ v3 ∧ v3 + 5 < N ∧ (N : Int) ≤ 3072) (q : ∀ (g' : iq_I) (l' : iq_J), sf_INV g' l' → iq_P N xs 361 1940 [some (iq_r 1000000), some (iq_r 0), some (iq_r 77), some (iq_i v3)] [] g' l' Q) : iq_P N xs 361 873 [some (iq_r 1000000), some (iq_r 0), some (iq_r 77), some (iq_i v3)] [] g l Q := by
  refine B361_c18 _ _ _ ⟨by omega, iq_Pw (cSizeMany h.1.1 (sf_xR _) (fun g1 l1 k1 e1 => ⟨_, rfl, ?_⟩))⟩
  refine B361_d18 _ _ _ _ ⟨by omega, iq_Pw (mSizeMany (h.1.1.keep k1) (sf_xR _) (fun g2 l2 k2 e2 e3 => ⟨_, rfl, ?_⟩))⟩
  try rw [k1.p24] at e3
  try rw [k1.p24]
  exact ⟨⟨(sf_w32R _).1, (sf_w32R _).2, sf_w32R _⟩, fun _ => q g2 l2 (h.q k1 k2 e1 e2 e3), fun z => absurd rfl z⟩
theorem sf_L27 {N : Nat} {xs : Nat → Int32} {Q : iq_T} {g : iq_I} {l : iq_J} {v3 : Int} (h : sf_INV g l) (hv : 0 ≤ v3 ∧ v3 + 5 < N ∧ (N : Int) ≤ 3072) (q : ∀ (g' : iq_I) (l' : iq_J), sf_INV g' l' → iq_P N xs 361 1940 [some (iq_r 1000000), some (iq_r 0), some (iq_r 77), some (iq_i v3)] [] g' l' Q) : iq_P N xs 361 1070 [some (iq_r 1000000), some (iq_r 0), some (iq_r 77), some (iq_i v3)] [] g l Q := by
  refine B361_c27 _ _ _ ⟨by omega, iq_Pw (cVariety h.1.1 (sf_xR _) (fun g1 l1 k1 e1 => ⟨_, rfl, ?_⟩))⟩
  refine B361_d27 _ _ _ _ ⟨by omega, iq_Pw (mVariety (h.1.1.keep k1) (sf_xR _) (fun g2 l2 k2 e2 e3 => ⟨_, rfl, ?_⟩))⟩
  try rw [k1.p24] at e3
  try rw [k1.p24]
  exact ⟨⟨(sf_w32R _).1, (sf_w32R _).2, sf_w32R _⟩, fun _ => q g2 l2 (h.q k1 k2 e1 e2 e3), fun z => absurd rfl z⟩
theorem sf_L28 {N : Nat} {xs : Nat → Int32} {Q : iq_T} {g : iq_I} {l : iq_J} {v3 : Int} (h : sf_INV g l) (hv : 0 ≤ v3 ∧ v3 + 5 < N ∧ (N : Int) ≤ 3072) (q : ∀ (g' : iq_I) (l' : iq_J), sf_INV g' l' → iq_P N xs 361 1940 [some (iq_r 1000000), some (iq_r 0), some (iq_r 77), some (iq_i v3)] [] g' l' Q) : iq_P N xs 361 1093 [some (iq_r 1000000), some (iq_r 0), some (iq_r 77), some (iq_i v3)] [] g l Q := by
  refine B361_c28 _ _ _ (iq_Pw (cMyhill h.1.1  (fun g1 l1 k1 e1 => ⟨_, rfl, ?_⟩)))
  refine B361_d28 _ _ _ _ (iq_Pw (mMyhill (h.1.1.keep k1)  (fun g2 l2 k2 e2 e3 => ⟨_, rfl, ?_⟩)))
  try rw [k1.p24] at e3
  try rw [k1.p24]
  exact ⟨⟨(sf_w32R _).1, (sf_w32R _).2, sf_w32R _⟩, fun _ => q g2 l2 (h.q k1 k2 e1 e2 e3), fun z => absurd rfl z⟩
theorem sf_L29 {N : Nat} {xs : Nat → Int32} {Q : iq_T} {g : iq_I} {l : iq_J} {v3 : Int} (h : sf_INV g l) (hv : 0 ≤ v3 ∧ v3 + 5 < N ∧ (N : Int) ≤ 3072) (q : ∀ (g' : iq_I) (l' : iq_J), sf_INV g' l' → iq_P N xs 361 1940 [some (iq_r 1000000), some (iq_r 0), some (iq_r 77), some (iq_i v3)] [] g' l' Q) : iq_P N xs 361 1106 [some (iq_r 1000000), some (iq_r 0), some (iq_r 77), some (iq_i v3)] [] g l Q := by
  refine B361_c29 _ _ _ (iq_Pw (cLengths h.1.1  (fun g1 l1 k1 e1 => ⟨_, rfl, ?_⟩)))
  refine B361_d29 _ _ _ _ (iq_Pw (mLengths (h.1.1.keep k1)  (fun g2 l2 k2 e2 e3 => ⟨_, rfl, ?_⟩)))
  try rw [k1.p24] at e3
  try rw [k1.p24]
  exact ⟨⟨(sf_w32R _).1, (sf_w32R _).2, sf_w32R _⟩, fun _ => q g2 l2 (h.q k1 k2 e1 e2 e3), fun z => absurd rfl z⟩
theorem sf_L30 {N : Nat} {xs : Nat → Int32} {Q : iq_T} {g : iq_I} {l : iq_J} {v3 : Int} (h : sf_INV g l) (hv : 0 ≤ v3 ∧ v3 + 5 < N ∧ (N : Int) ≤ 3072) (q : ∀ (g' : iq_I) (l' : iq_J), sf_INV g' l' → iq_P N xs 361 1940 [some (iq_r 1000000), some (iq_r 0), some (iq_r 77), some (iq_i v3)] [] g' l' Q) : iq_P N xs 361 1119 [some (iq_r 1000000), some (iq_r 0), some (iq_r 77), some (iq_i v3)] [] g l Q := by
  refine B361_c30 _ _ _ ⟨by omega, iq_Pw (cLengthAt h.1.1 (sf_xR _) (fun g1 l1 k1 e1 => ⟨_, rfl, ?_⟩))⟩
  refine B361_d30 _ _ _ _ ⟨by omega, iq_Pw (mLengthAt (h.1.1.keep k1) (sf_xR _) (fun g2 l2 k2 e2 e3 => ⟨_, rfl, ?_⟩))⟩
  try rw [k1.p24] at e3
  try rw [k1.p24]
  exact ⟨⟨(sf_w32R _).1, (sf_w32R _).2, sf_w32R _⟩, fun _ => q g2 l2 (h.q k1 k2 e1 e2 e3), fun z => absurd rfl z⟩
theorem sf_L31 {N : Nat} {xs : Nat → Int32} {Q : iq_T} {g : iq_I} {l : iq_J} {v3 : Int} (h : sf_INV g l) (hv : 0 ≤ v3 ∧ v3 + 5 < N ∧ (N : Int) ≤ 3072) (q : ∀ (g' : iq_I) (l' : iq_J), sf_INV g' l' → iq_P N xs 361 1940 [some (iq_r 1000000), some (iq_r 0), some (iq_r 77), some (iq_i v3)] [] g' l' Q) : iq_P N xs 361 1142 [some (iq_r 1000000), some (iq_r 0), some (iq_r 77), some (iq_i v3)] [] g l Q := by
  refine B361_c31 _ _ _ (iq_Pw (cModes h.1.1  (fun g1 l1 k1 e1 => ⟨_, rfl, ?_⟩)))
  refine B361_d31 _ _ _ _ (iq_Pw (mModes (h.1.1.keep k1)  (fun g2 l2 k2 e2 e3 => ⟨_, rfl, ?_⟩)))
  try rw [k1.p24] at e3
  try rw [k1.p24]
  exact ⟨⟨(sf_w32R _).1, (sf_w32R _).2, sf_w32R _⟩, fun _ => q g2 l2 (h.q k1 k2 e1 e2 e3), fun z => absurd rfl z⟩
theorem sf_L32 {N : Nat} {xs : Nat → Int32} {Q : iq_T} {g : iq_I} {l : iq_J} {v3 : Int} (h : sf_INV g l) (hv : 0 ≤ v3 ∧ v3 + 5 < N ∧ (N : Int) ≤ 3072) (q : ∀ (g' : iq_I) (l' : iq_J), sf_INV g' l' → iq_P N xs 361 1940 [some (iq_r 1000000), some (iq_r 0), some (iq_r 77), some (iq_i v3)] [] g' l' Q) : iq_P N xs 361 1155 [some (iq_r 1000000), some (iq_r 0), some (iq_r 77), some (iq_i v3)] [] g l Q := by
  refine B361_c32 _ _ _ ⟨by omega, by omega, iq_Pw (cAlike h.1.1 (sf_xR _) (sf_xR _) (fun g1 l1 k1 e1 => ⟨_, rfl, ?_⟩))⟩
  refine B361_d32 _ _ _ _ ⟨by omega, by omega, iq_Pw (mAlike (h.1.1.keep k1) (sf_xR _) (sf_xR _) (fun g2 l2 k2 e2 e3 => ⟨_, rfl, ?_⟩))⟩
  try rw [k1.p24] at e3
  try rw [k1.p24]
  exact ⟨⟨(sf_w32R _).1, (sf_w32R _).2, sf_w32R _⟩, fun _ => q g2 l2 (h.q k1 k2 e1 e2 e3), fun z => absurd rfl z⟩
theorem sf_L34 {N : Nat} {xs : Nat → Int32} {Q : iq_T} {g : iq_I} {l : iq_J} {v3 : Int} (h : sf_INV g l) (hv : 0 ≤ v3 ∧ v3 + 5 < N ∧ (N : Int) ≤ 3072) (q : ∀ (g' : iq_I) (l' : iq_J), sf_INV g' l' → iq_P N xs 361 1940 [some (iq_r 1000000), some (iq_r 0), some (iq_r 77), some (iq_i v3)] [] g' l' Q) : iq_P N xs 361 1211 [some (iq_r 1000000), some (iq_r 0), some (iq_r 77), some (iq_i v3)] [] g l Q := by
  refine B361_c34 _ _ _ ⟨by omega, iq_Pw (cModeBy h.1.1 (sf_xR _) (fun g1 l1 k1 e1 => ⟨_, rfl, ?_⟩))⟩
  refine B361_d34 _ _ _ _ ⟨by omega, iq_Pw (mModeBy (h.1.1.keep k1) (sf_xR _) (fun g2 l2 k2 e2 e3 => ⟨_, rfl, ?_⟩))⟩
  try rw [k1.p24] at e3
  try rw [k1.p24]
  exact ⟨⟨(sf_w32R _).1, (sf_w32R _).2, sf_w32R _⟩, fun _ => q g2 l2 (h.q k1 k2 e1 e2 e3), fun z => absurd rfl z⟩
theorem sf_L35 {N : Nat} {xs : Nat → Int32} {Q : iq_T} {g : iq_I} {l : iq_J} {v3 : Int} (h : sf_INV g l) (hv : 0 ≤ v3 ∧ v3 + 5 < N ∧ (N : Int) ≤ 3072) (q : ∀ (g' : iq_I) (l' : iq_J), sf_INV g' l' → iq_P N xs 361 1940 [some (iq_r 1000000), some (iq_r 0), some (iq_r 77), some (iq_i v3)] [] g' l' Q) : iq_P N xs 361 1234 [some (iq_r 1000000), some (iq_r 0), some (iq_r 77), some (iq_i v3)] [] g l Q := by
  refine B361_c35 _ _ _ ⟨by omega, iq_Pw (cNominal h.1.1 (sf_xR _) (fun g1 l1 k1 e1 => ⟨_, rfl, ?_⟩))⟩
  refine B361_d35 _ _ _ _ ⟨by omega, iq_Pw (mNominal (h.1.1.keep k1) (sf_xR _) (fun g2 l2 k2 e2 e3 => ⟨_, rfl, ?_⟩))⟩
  try rw [k1.p24] at e3
  try rw [k1.p24]
  exact ⟨⟨(sf_w32R _).1, (sf_w32R _).2, sf_w32R _⟩, fun _ => q g2 l2 (h.q k1 k2 e1 e2 e3), fun z => absurd rfl z⟩
theorem sf_L36 {N : Nat} {xs : Nat → Int32} {Q : iq_T} {g : iq_I} {l : iq_J} {v3 : Int} (h : sf_INV g l) (hv : 0 ≤ v3 ∧ v3 + 5 < N ∧ (N : Int) ≤ 3072) (q : ∀ (g' : iq_I) (l' : iq_J), sf_INV g' l' → iq_P N xs 361 1940 [some (iq_r 1000000), some (iq_r 0), some (iq_r 77), some (iq_i v3)] [] g' l' Q) : iq_P N xs 361 1257 [some (iq_r 1000000), some (iq_r 0), some (iq_r 77), some (iq_i v3)] [] g l Q := by
  refine B361_c36 _ _ _ ⟨by omega, iq_Pw (cSharps h.1.1 (sf_xR _) (fun g1 l1 k1 e1 => ⟨_, rfl, ?_⟩))⟩
  refine B361_d36 _ _ _ _ ⟨by omega, iq_Pw (mSharps (h.1.1.keep k1) (sf_xR _) (fun g2 l2 k2 e2 e3 => ⟨_, rfl, ?_⟩))⟩
  try rw [k1.p24] at e3
  try rw [k1.p24]
  exact ⟨⟨(sf_w32R _).1, (sf_w32R _).2, sf_w32R _⟩, fun _ => q g2 l2 (h.q k1 k2 e1 e2 e3), fun z => absurd rfl z⟩
theorem sf_L37 {N : Nat} {xs : Nat → Int32} {Q : iq_T} {g : iq_I} {l : iq_J} {v3 : Int} (h : sf_INV g l) (hv : 0 ≤ v3 ∧ v3 + 5 < N ∧ (N : Int) ≤ 3072) (q : ∀ (g' : iq_I) (l' : iq_J), sf_INV g' l' → iq_P N xs 361 1940 [some (iq_r 1000000), some (iq_r 0), some (iq_r 77), some (iq_i v3)] [] g' l' Q) : iq_P N xs 361 1280 [some (iq_r 1000000), some (iq_r 0), some (iq_r 77), some (iq_i v3)] [] g l Q := by
  refine B361_c37 _ _ _ ⟨by omega, by omega, iq_Pw (cNamed h.1.1 (sf_xR _) (sf_xR _) (fun g1 l1 k1 e1 => ⟨_, rfl, ?_⟩))⟩
  refine B361_d37 _ _ _ _ ⟨by omega, by omega, iq_Pw (mNamed (h.1.1.keep k1) (sf_xR _) (sf_xR _) (fun g2 l2 k2 e2 e3 => ⟨_, rfl, ?_⟩))⟩
  try rw [k1.p24] at e3
  try rw [k1.p24]
  exact ⟨⟨(sf_w32R _).1, (sf_w32R _).2, sf_w32R _⟩, fun _ => q g2 l2 (h.q k1 k2 e1 e2 e3), fun z => absurd rfl z⟩
theorem sf_L38 {N : Nat} {xs : Nat → Int32} {Q : iq_T} {g : iq_I} {l : iq_J} {v3 : Int} (h : sf_INV g l) (hv : 0 ≤ v3 ∧ v3 + 5 < N ∧ (N : Int) ≤ 3072) (q : ∀ (g' : iq_I) (l' : iq_J), sf_INV g' l' → iq_P N xs 361 1940 [some (iq_r 1000000), some (iq_r 0), some (iq_r 77), some (iq_i v3)] [] g' l' Q) : iq_P N xs 361 1313 [some (iq_r 1000000), some (iq_r 0), some (iq_r 77), some (iq_i v3)] [] g l Q := by
  refine B361_c38 _ _ _ ⟨by omega, by omega, iq_Pw (cSimplest h.1.1 (sf_xR _) (sf_xR _) (fun g1 l1 k1 e1 => ⟨_, rfl, ?_⟩))⟩
  refine B361_d38 _ _ _ _ ⟨by omega, by omega, iq_Pw (mSimplest (h.1.1.keep k1) (sf_xR _) (sf_xR _) (fun g2 l2 k2 e2 e3 => ⟨_, rfl, ?_⟩))⟩
  try rw [k1.p24] at e3
  try rw [k1.p24]
  exact ⟨⟨(sf_w32R _).1, (sf_w32R _).2, sf_w32R _⟩, fun _ => q g2 l2 (h.q k1 k2 e1 e2 e3), fun z => absurd rfl z⟩
theorem sf_L39 {N : Nat} {xs : Nat → Int32} {Q : iq_T} {g : iq_I} {l : iq_J} {v3 : Int} (h : sf_INV g l) (hv : 0 ≤ v3 ∧ v3 + 5 < N ∧ (N : Int) ≤ 3072) (q : ∀ (g' : iq_I) (l' : iq_J), sf_INV g' l' → iq_P N xs 361 1940 [some (iq_r 1000000), some (iq_r 0), some (iq_r 77), some (iq_i v3)] [] g' l' Q) : iq_P N xs 361 1346 [some (iq_r 1000000), some (iq_r 0), some (iq_r 77), some (iq_i v3)] [] g l Q := by
  refine B361_c39 _ _ _ ⟨by omega, iq_Pw (cNames h.1.1 (sf_xR _) (fun g1 l1 k1 e1 => ⟨_, rfl, ?_⟩))⟩
  refine B361_d39 _ _ _ _ ⟨by omega, iq_Pw (mNames (h.1.1.keep k1) (sf_xR _) (fun g2 l2 k2 e2 e3 => ⟨_, rfl, ?_⟩))⟩
  try rw [k1.p24] at e3
  try rw [k1.p24]
  exact ⟨⟨(sf_w32R _).1, (sf_w32R _).2, sf_w32R _⟩, fun _ => q g2 l2 (h.q k1 k2 e1 e2 e3), fun z => absurd rfl z⟩
theorem sf_L40 {N : Nat} {xs : Nat → Int32} {Q : iq_T} {g : iq_I} {l : iq_J} {v3 : Int} (h : sf_INV g l) (hv : 0 ≤ v3 ∧ v3 + 5 < N ∧ (N : Int) ≤ 3072) (q : ∀ (g' : iq_I) (l' : iq_J), sf_INV g' l' → iq_P N xs 361 1940 [some (iq_r 1000000), some (iq_r 0), some (iq_r 77), some (iq_i v3)] [] g' l' Q) : iq_P N xs 361 1369 [some (iq_r 1000000), some (iq_r 0), some (iq_r 77), some (iq_i v3)] [] g l Q := by
  refine B361_c40 _ _ _ ⟨by omega, by omega, iq_Pw (cKeyTone h.1.1 (sf_xR _) (sf_xR _) (fun g1 l1 k1 e1 => ⟨_, rfl, ?_⟩))⟩
  refine B361_d40 _ _ _ _ ⟨by omega, by omega, iq_Pw (mKeyTone (h.1.1.keep k1) (sf_xR _) (sf_xR _) (fun g2 l2 k2 e2 e3 => ⟨_, rfl, ?_⟩))⟩
  try rw [k1.p24] at e3
  try rw [k1.p24]
  exact ⟨⟨(sf_w32R _).1, (sf_w32R _).2, sf_w32R _⟩, fun _ => q g2 l2 (h.q k1 k2 e1 e2 e3), fun z => absurd rfl z⟩
theorem sf_L41 {N : Nat} {xs : Nat → Int32} {Q : iq_T} {g : iq_I} {l : iq_J} {v3 : Int} (h : sf_INV g l) (hv : 0 ≤ v3 ∧ v3 + 5 < N ∧ (N : Int) ≤ 3072) (q : ∀ (g' : iq_I) (l' : iq_J), sf_INV g' l' → iq_P N xs 361 1940 [some (iq_r 1000000), some (iq_r 0), some (iq_r 77), some (iq_i v3)] [] g' l' Q) : iq_P N xs 361 1402 [some (iq_r 1000000), some (iq_r 0), some (iq_r 77), some (iq_i v3)] [] g l Q := by
  refine B361_c41 _ _ _ ⟨by omega, iq_Pw (cKeys h.1.1 (sf_xR _) (fun g1 l1 k1 e1 => ⟨_, rfl, ?_⟩))⟩
  refine B361_d41 _ _ _ _ ⟨by omega, iq_Pw (mKeys (h.1.1.keep k1) (sf_xR _) (fun g2 l2 k2 e2 e3 => ⟨_, rfl, ?_⟩))⟩
  try rw [k1.p24] at e3
  try rw [k1.p24]
  exact ⟨⟨(sf_w32R _).1, (sf_w32R _).2, sf_w32R _⟩, fun _ => q g2 l2 (h.q k1 k2 e1 e2 e3), fun z => absurd rfl z⟩
theorem sf_L42 {N : Nat} {xs : Nat → Int32} {Q : iq_T} {g : iq_I} {l : iq_J} {v3 : Int} (h : sf_INV g l) (hv : 0 ≤ v3 ∧ v3 + 5 < N ∧ (N : Int) ≤ 3072) (q : ∀ (g' : iq_I) (l' : iq_J), sf_INV g' l' → iq_P N xs 361 1940 [some (iq_r 1000000), some (iq_r 0), some (iq_r 77), some (iq_i v3)] [] g' l' Q) : iq_P N xs 361 1425 [some (iq_r 1000000), some (iq_r 0), some (iq_r 77), some (iq_i v3)] [] g l Q := by
  refine B361_c42 _ _ _ ⟨by omega, by omega, iq_Pw (cKeyOf h.1.1 (sf_xR _) (sf_xR _) (fun g1 l1 k1 e1 => ⟨_, rfl, ?_⟩))⟩
  refine B361_d42 _ _ _ _ ⟨by omega, by omega, iq_Pw (mKeyOf (h.1.1.keep k1) (sf_xR _) (sf_xR _) (fun g2 l2 k2 e2 e3 => ⟨_, rfl, ?_⟩))⟩
  try rw [k1.p24] at e3
  try rw [k1.p24]
  exact ⟨⟨(sf_w32R _).1, (sf_w32R _).2, sf_w32R _⟩, fun _ => q g2 l2 (h.q k1 k2 e1 e2 e3), fun z => absurd rfl z⟩
theorem sf_L43 {N : Nat} {xs : Nat → Int32} {Q : iq_T} {g : iq_I} {l : iq_J} {v3 : Int} (h : sf_INV g l) (hv : 0 ≤ v3 ∧ v3 + 5 < N ∧ (N : Int) ≤ 3072) (q : ∀ (g' : iq_I) (l' : iq_J), sf_INV g' l' → iq_P N xs 361 1940 [some (iq_r 1000000), some (iq_r 0), some (iq_r 77), some (iq_i v3)] [] g' l' Q) : iq_P N xs 361 1458 [some (iq_r 1000000), some (iq_r 0), some (iq_r 77), some (iq_i v3)] [] g l Q := by
  refine B361_c43 _ _ _ (iq_Pw (cKeyTones h.1.1  (fun g1 l1 k1 e1 => ⟨_, rfl, ?_⟩)))
  refine B361_d43 _ _ _ _ (iq_Pw (mKeyTones (h.1.1.keep k1)  (fun g2 l2 k2 e2 e3 => ⟨_, rfl, ?_⟩)))
  try rw [k1.p24] at e3
  try rw [k1.p24]
  exact ⟨⟨(sf_w32R _).1, (sf_w32R _).2, sf_w32R _⟩, fun _ => q g2 l2 (h.q k1 k2 e1 e2 e3), fun z => absurd rfl z⟩
theorem sf_L44 {N : Nat} {xs : Nat → Int32} {Q : iq_T} {g : iq_I} {l : iq_J} {v3 : Int} (h : sf_INV g l) (hv : 0 ≤ v3 ∧ v3 + 5 < N ∧ (N : Int) ≤ 3072) (q : ∀ (g' : iq_I) (l' : iq_J), sf_INV g' l' → iq_P N xs 361 1940 [some (iq_r 1000000), some (iq_r 0), some (iq_r 77), some (iq_i v3)] [] g' l' Q) : iq_P N xs 361 1471 [some (iq_r 1000000), some (iq_r 0), some (iq_r 77), some (iq_i v3)] [] g l Q := by
  refine B361_c44 _ _ _ ⟨by omega, iq_Pw (cNearest h.1.1 (sf_xR _) (fun g1 l1 k1 e1 => ⟨_, rfl, ?_⟩))⟩
  refine B361_d44 _ _ _ _ ⟨by omega, iq_Pw (mNearest (h.1.1.keep k1) (sf_xR _) (fun g2 l2 k2 e2 e3 => ⟨_, rfl, ?_⟩))⟩
  try rw [k1.p24] at e3
  try rw [k1.p24]
  exact ⟨⟨(sf_w32R _).1, (sf_w32R _).2, sf_w32R _⟩, fun _ => q g2 l2 (h.q k1 k2 e1 e2 e3), fun z => absurd rfl z⟩
theorem sf_L50 {N : Nat} {xs : Nat → Int32} {Q : iq_T} {g : iq_I} {l : iq_J} {v3 : Int} (h : sf_INV g l) (hv : 0 ≤ v3 ∧ v3 + 5 < N ∧ (N : Int) ≤ 3072) (q : ∀ (g' : iq_I) (l' : iq_J), sf_INV g' l' → iq_P N xs 361 1940 [some (iq_r 1000000), some (iq_r 0), some (iq_r 77), some (iq_i v3)] [] g' l' Q) : iq_P N xs 361 1569 [some (iq_r 1000000), some (iq_r 0), some (iq_r 77), some (iq_i v3)] [] g l Q := by
  refine B361_c50 _ _ _ ⟨by omega, iq_Pw (cCommon h.1.1 (sf_xR _) (fun g1 l1 k1 e1 => ⟨_, rfl, ?_⟩))⟩
  refine B361_d50 _ _ _ _ ⟨by omega, iq_Pw (mCommon (h.1.1.keep k1) (sf_xR _) (fun g2 l2 k2 e2 e3 => ⟨_, rfl, ?_⟩))⟩
  try rw [k1.p24] at e3
  try rw [k1.p24]
  exact ⟨⟨(sf_w32R _).1, (sf_w32R _).2, sf_w32R _⟩, fun _ => q g2 l2 (h.q k1 k2 e1 e2 e3), fun z => absurd rfl z⟩
theorem sf_L53 {N : Nat} {xs : Nat → Int32} {Q : iq_T} {g : iq_I} {l : iq_J} {v3 : Int} (h : sf_INV g l) (hv : 0 ≤ v3 ∧ v3 + 5 < N ∧ (N : Int) ≤ 3072) (q : ∀ (g' : iq_I) (l' : iq_J), sf_INV g' l' → iq_P N xs 361 1940 [some (iq_r 1000000), some (iq_r 0), some (iq_r 77), some (iq_i v3)] [] g' l' Q) : iq_P N xs 361 1628 [some (iq_r 1000000), some (iq_r 0), some (iq_r 77), some (iq_i v3)] [] g l Q := by
  refine B361_c53 _ _ _ ⟨by omega, iq_Pw (cShapes h.1.1 (sf_xR _) (fun g1 l1 k1 e1 => ⟨_, rfl, ?_⟩))⟩
  refine B361_d53 _ _ _ _ ⟨by omega, iq_Pw (mShapes (h.1.1.keep k1) (sf_xR _) (fun g2 l2 k2 e2 e3 => ⟨_, rfl, ?_⟩))⟩
  try rw [k1.p24] at e3
  try rw [k1.p24]
  exact ⟨⟨(sf_w32R _).1, (sf_w32R _).2, sf_w32R _⟩, fun _ => q g2 l2 (h.q k1 k2 e1 e2 e3), fun z => absurd rfl z⟩
theorem sf_L54 {N : Nat} {xs : Nat → Int32} {Q : iq_T} {g : iq_I} {l : iq_J} {v3 : Int} (h : sf_INV g l) (hv : 0 ≤ v3 ∧ v3 + 5 < N ∧ (N : Int) ≤ 3072) (q : ∀ (g' : iq_I) (l' : iq_J), sf_INV g' l' → iq_P N xs 361 1940 [some (iq_r 1000000), some (iq_r 0), some (iq_r 77), some (iq_i v3)] [] g' l' Q) : iq_P N xs 361 1651 [some (iq_r 1000000), some (iq_r 0), some (iq_r 77), some (iq_i v3)] [] g l Q := by
  refine B361_c54 _ _ _ (iq_Pw (cConvergents h.1.1  (fun g1 l1 k1 e1 => ⟨_, rfl, ?_⟩)))
  refine B361_d54 _ _ _ _ (iq_Pw (mConvergents (h.1.1.keep k1)  (fun g2 l2 k2 e2 e3 => ⟨_, rfl, ?_⟩)))
  try rw [k1.p24] at e3
  try rw [k1.p24]
  exact ⟨⟨(sf_w32R _).1, (sf_w32R _).2, sf_w32R _⟩, fun _ => q g2 l2 (h.q k1 k2 e1 e2 e3), fun z => absurd rfl z⟩
