/-! The law: an answer only counts by its 32 bits; a case. -/
def sf_w32 (z : Int) : Int := (Int32.ofInt z).toInt
theorem sf_w32R (z : Int) : -2147483648 ≤ sf_w32 z ∧ sf_w32 z ≤ 2147483647 := by
  unfold sf_w32
  have a := Int32.le_toInt (Int32.ofInt z)
  have b := Int32.toInt_lt (Int32.ofInt z)
  omega
theorem iq_Pw {N : Nat} {xs : Nat → Int32} {y pc : Nat} {L : iq_LV} {st : List iq_V} {g : iq_I} {l : iq_J} {F : Int → iq_I → iq_J → Prop} (h : iq_P N xs y pc L st g l (fun r g' l' => ∃ z, r = some (iq_i z) ∧ F (sf_w32 z) g' l')) : iq_P N xs y pc L st g l (fun r g' l' => ∃ z, r = some (iq_i z) ∧ F z g' l') := by
  obtain ⟨n, r, h', e, r', g', l', e1, e2, z, e3, e4⟩ := h
  refine ⟨n, r, h', e, some (iq_i (sf_w32 z)), g', l', ?_, e2, _, rfl, e4⟩
  rw [e1, e3]
  show some (Value.int (Int32.ofInt z)) = some (Value.int (Int32.ofInt (Int32.ofInt z).toInt))
  rw [Int32.ofInt_toInt]
theorem sf_xR (x : Int32) : -2147483648 ≤ x.toInt ∧ x.toInt ≤ 2147483647 := by
  have a := Int32.le_toInt x
  have b := Int32.toInt_lt x
  omega
theorem sf_INV.q {g g1 g2 : iq_I} {l l1 l2 : iq_J} (h : sf_INV g l) (k1 : iq_KK g l g1 l1) (k2 : iq_KK g1 l1 g2 l2) {s : Int} (e1 : g1 0 0 = s) (e2 : g2 0 0 = g1 0 0) (e3 : g2 77 1 = s) : sf_INV g2 l2 := by
  have k := k1.trans k2
  refine ⟨h.1.kk k, by rw [e2, e1, e3], ?_, ?_⟩
  · rw [k.2.2.1, k.2.2.2.2.1]; exact h.2.2.1
  · rw [k.2.2.2.1, k.2.2.2.2.2]; exact h.2.2.2
theorem sf_L15 {N : Nat} {xs : Nat → Int32} {Q : iq_T} {g : iq_I} {l : iq_J} {v3 : Int} (h : sf_INV g l) (hv : 0 ≤ v3 ∧ v3 + 5 < N ∧ (N : Int) ≤ 3072) (q : ∀ (g' : iq_I) (l' : iq_J), sf_INV g' l' → iq_P N xs 361 1940 [some (iq_r 1000000), some (iq_r 0), some (iq_r 77), some (iq_i v3)] [] g' l' Q) : iq_P N xs 361 794 [some (iq_r 1000000), some (iq_r 0), some (iq_r 77), some (iq_i v3)] [] g l Q := by
  refine B361_c15 _ _ _ ⟨by omega, iq_Pw (cStep h.1.1 (sf_xR _) (fun g1 l1 k1 e1 => ⟨_, rfl, ?_⟩))⟩
  refine B361_d15 _ _ _ _ ⟨by omega, iq_Pw (mStep (h.1.1.keep k1) (sf_xR _) (fun g2 l2 k2 e2 e3 => ⟨_, rfl, ?_⟩))⟩
  rw [k1.p24] at e3 ⊢
  exact ⟨⟨(sf_w32R _).1, (sf_w32R _).2, sf_w32R _⟩, fun _ => q g2 l2 (h.q k1 k2 e1 e2 e3), fun z => absurd rfl z⟩
