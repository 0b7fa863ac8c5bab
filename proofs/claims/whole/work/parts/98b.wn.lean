/-! way and wayAt in the model: the search goes through all rows; the calls. -/
theorem sf_PSc {m L : Nat} {W : Int → Int} {d T : Int → Int → Int} {u a far c x : Int} {G1 G2 G' G'' : iq_I} (hx : c < x ∧ x < m) (hb : sf_bt u x = false) (hz : ∀ z : Int, c < z → z < x → sf_bt u z = true) (h0 : 0 ≤ far + (d a x + T (sf_or u x) x)) (e36 : G2 77 36 = G1 77 36) (e93 : G2 93 = G1 93) (e91 : ∀ i : Nat, i < L → G2 91 i = G1 91 i) (eL : G2 91 L = x) (e91' : ∀ i : Nat, i < L → G' 91 i = G1 91 i) (pe : sf_PE m (L + 1) W d T (sf_or u x) x (far + d a x) G2 G') (ps : sf_PS m L W d T u a far x G' G'') : sf_PS m L W d T u a far c G1 G'' := by
  have as : far + d a x + T (sf_or u x) x = far + (d a x + T (sf_or u x) x) := by omega
  unfold sf_PE at pe
  rw [as, e36, e93] at pe
  have cand : ∀ y : Int, c < y → y < m → sf_bt u y = false → y = x ∨ x < y := fun y y1 y2 y3 => by
    rcases Int.lt_trichotomy y x with z | z | z
    · rw [hz y y1 z] at y3; cases y3
    · exact .inl z
    · exact .inr z
  rcases pe with ⟨p1, p2, p3⟩ | ⟨p1, p2, p3⟩
  · rcases ps with ⟨s1, s2, s3⟩ | ⟨z, s1, s2, s3, s4, s5, s6, s7⟩
    · refine .inl ⟨fun y y1 y2 y3 => ?_, by rw [s2, p2], fun i hi => by rw [s3 i hi, p3 i hi]⟩
      rcases cand y y1 y2 y3 with e | e
      · rw [e]; exact p1
      · rw [← p2]; exact s1 y e y2 y3
    · rw [p2] at s3
      refine .inr ⟨z, by omega, s2, s3, fun y y1 y2 y3 => ?_, fun y y1 y2 y3 => ?_, s6, fun i hi => ?_⟩
      · rcases cand y y1 y2 y3 with e | e
        · rw [e]; unfold sf_bet at p1 s3; omega
        · exact s4 y e y2 y3
      · rcases cand y y1 (by omega) y3 with e | e
        · rw [e]; unfold sf_bet at p1 s3; omega
        · exact s5 y e y2 y3
      · rw [s7 i hi]
        by_cases k : i < L
        · rw [if_pos k, if_pos k, e91' i k]
        · rw [if_neg k, if_neg k]
  · rcases ps with ⟨s1, s2, s3⟩ | ⟨z, s1, s2, s3, s4, s5, s6, s7⟩
    · refine .inr ⟨x, hx, hb, p1, fun y y1 y2 y3 => ?_, fun y y1 y2 y3 => ?_, by rw [s2, p2], fun i hi => ?_⟩
      · rcases cand y y1 y2 y3 with e | e
        · rw [e]; omega
        · have := s1 y e y2 y3
          rw [p2] at this
          unfold sf_bet at this
          omega
      · rcases cand y y1 (by omega) y3 with e | e
        · omega
        · omega
      · rw [s3 i hi, p3 i hi]
        by_cases k : i < L
        · rw [if_pos (by omega), if_pos k, e91 i k]
        · rw [if_neg k]
          by_cases k2 : i = L
          · rw [if_pos (by omega), if_pos k2, k2, eL]
          · rw [if_neg (by omega), if_neg k2, show i - (L + 1) + 1 = i - L by omega]
    · rw [p2] at s3
      refine .inr ⟨z, by omega, s2, ?_, fun y y1 y2 y3 => ?_, fun y y1 y2 y3 => ?_, s6, fun i hi => ?_⟩
      · unfold sf_bet at p1 s3 ⊢; omega
      · rcases cand y y1 y2 y3 with e | e
        · rw [e]; unfold sf_bet at s3; omega
        · exact s4 y e y2 y3
      · rcases cand y y1 (by omega) y3 with e | e
        · rw [e]; unfold sf_bet at s3; omega
        · exact s5 y e y2 y3
      · rw [s7 i hi]
        by_cases k : i < L
        · rw [if_pos k, if_pos k, e91' i k]
        · rw [if_neg k, if_neg k]
section WN
variable {N : Nat} {xs : Nat → Int32} {Q : iq_T} {l : iq_J} {g0 : iq_I} {m : Nat} {p : Int} {W : Int → Int} {T : Int → Int → Int}
theorem sf_wex (hm : m ≤ 7) (m2 : 2 ≤ m) (hp : 2 ≤ p ∧ p ≤ 60) (hW : ∀ i : Int, 0 ≤ i → i < m → 0 ≤ W i ∧ W i < p) (rc : sf_RC m (sf_dd W p) T) (h35 : g0 77 35 = m) (h90 : ∀ i : Int, 0 ≤ i → i < m → g0 90 i = W i) (h1 : g0 78 1 = p) (r : Nat) : ∀ (L : Nat) (G : iq_I) (u a far : Int) (d3 : Option iq_V), L + r = m → 1 ≤ L → sf_WM g0 G → G 92 L = far → G 91 ((L : Int) - 1) = a → G 91 L = 0 → (∀ i : Int, 0 ≤ i → i < L → 0 ≤ G 91 i ∧ G 91 i < m) → (0 < u ∧ u < 2 ^ m) → sf_bt u 0 = true → iq_cn (fun x => !sf_bt u x) m = m - L → (0 ≤ far ∧ far ≤ 60 * L) → (-1 ≤ G 77 36 ∧ G 77 36 ≤ 100000) → (∀ (G' : iq_I) (d3' : Option iq_V), sf_WM g0 G' → (∀ i : Int, i < L → G' 91 i = G 91 i) → (∀ i : Int, i ≤ L → G' 92 i = G 92 i) → sf_PE m L W (sf_dd W p) T u a far G G' → iq_P N xs 287 113 [some (iq_r 77), some (iq_i ((L : Int) + (-1))), some (iq_i u), d3'] [] G' l Q) → iq_P N xs 287 113 [some (iq_r 77), some (iq_i L), some (iq_i u), d3] [] G l Q := by
  have p2 := sf_p2 hm
  induction r with
  | zero =>
    intro L G u a far d3 hL L1 hK hf ha hz h91 hu hb hc fR sR k
    have Lm : L = m := by omega
    subst Lm
    have aR := h91 ((L : Int) - 1) (by omega) (by omega)
    rw [ha] at aR
    have e35 : G 77 35 = L := by rw [hK.2 35 (by decide)]; exact h35
    have t0 : T u a = 0 := (rc u a hu.1 hu.2 aR.1 aR.2).2.1 (sf_left0 (by omega))
    refine B287_p113_77 _ _ _ _ _ ?_
    rw [e35]
    refine ⟨by omega, fun h => by omega, fun _ => ⟨by omega, fun h => by omega, fun _ => ⟨by omega, fun h => absurd rfl h, fun _ => ?_⟩⟩⟩
    refine sp285 (far := far) hm hK h35 h90 h91 hf (by omega) sR (fun G' w1 w2 pe => ⟨rfl, k G' _ w1 (fun i _ => by rw [w2 91 (by decide) (by decide)]) (fun i _ => by rw [w2 92 (by decide) (by decide)]) ?_⟩)
    unfold sf_PE
    rw [t0, Int.add_zero]
    rcases pe with ⟨q1, q2, q3⟩ | ⟨q1, q2, q3⟩
    · exact .inl ⟨q1, q2, q3⟩
    · exact .inr ⟨q1, q2, fun i hi => by rw [if_pos hi]; exact q3 i hi⟩
  | succ r ih =>
    intro L G u a far d3 hL L1 hK hf ha hz h91 hu hb hc fR sR k
    have aR := h91 ((L : Int) - 1) (by omega) (by omega)
    rw [ha] at aR
    have hR := rc u a hu.1 hu.2 aR.1 aR.2
    have exc := sf_left (m := m) (u := u) (by omega)
    have costR : ∀ x : Int, 0 ≤ x → x < m → sf_bt u x = false → (0 ≤ sf_dd W p a x ∧ sf_dd W p a x ≤ 60) ∧ (0 ≤ T (sf_or u x) x ∧ T (sf_or u x) x ≤ 10000) := fun x y1 y2 y3 => by
      have ol := sf_or_lt (m := m) (u := u) (k := x) (by omega) ⟨y1, y2⟩
      have o6 := sf_c6 (u := u) (k := x) (by omega) (by omega) y3
      have tR := (rc _ x (by omega) ol.1 y1 y2).1
      have dR := sf_ddR (hW a aR.1 aR.2) (hW x y1 y2) hp.2
      omega
    have sib : ∀ (e c : Nat) (G1 : iq_I) (d3 : Option iq_V), m ≤ c + e + 1 → c < m → sf_WM g0 G1 → (∀ i : Int, i < L → G1 91 i = G 91 i) → (∀ i : Int, i ≤ L → G1 92 i = G 92 i) → G1 91 L = c → (c = 0 ∨ sf_bt u c = false) → (-1 ≤ G1 77 36 ∧ G1 77 36 ≤ 100000) → (∀ (G' : iq_I) (d3' : Option iq_V), sf_WM g0 G' → (∀ i : Int, i < L → G' 91 i = G 91 i) → (∀ i : Int, i ≤ L → G' 92 i = G 92 i) → sf_PS m L W (sf_dd W p) T u a far c G1 G' → iq_P N xs 287 113 [some (iq_r 77), some (iq_i ((L : Int) + (-1))), some (iq_i u), d3'] [] G' l Q) → iq_P N xs 287 113 [some (iq_r 77), some (iq_i L), some (iq_i (if (c : Int) = 0 then u else sf_or u c)), d3] [] G1 l Q := by
      intro e
      induction e with
      | zero =>
        intro c G1 d3 he hcm hK1 b1 b2 b3 b4 b5 K
        have cm : (c : Int) + 1 = m := by omega
        have e35 : G1 77 35 = m := by rw [hK1.2 35 (by decide)]; exact h35
        have lst : iq_P N xs 287 178 [some (iq_r 77), some (iq_i L), some (iq_i u), some (iq_i ((c : Int) + 1))] [] G1 l Q := by
          refine B287_p178_77 _ _ _ _ _ ?_
          rw [e35]
          exact ⟨by omega, fun _ => ⟨by omega, fun h => absurd cm h, fun _ => K G1 _ hK1 b1 b2 (.inl ⟨fun x y1 y2 => by omega, rfl, fun _ _ => rfl⟩)⟩, fun h => by omega⟩
        refine B287_p113_77 _ _ _ _ _ ?_
        rw [e35, b3]
        refine ⟨by omega, fun h => by omega, fun _ => ⟨by omega, fun h => by omega, fun _ => ⟨by omega, fun _ => ⟨by omega, by omega, fun c0 => ⟨by omega, by omega, ?_⟩, fun c0 => ⟨by omega, ?_⟩⟩, fun h => by omega⟩⟩⟩
        · rw [if_neg c0, sf_c3 (by omega) (by omega) (b4.resolve_left (by omega))]
          exact lst
        · rw [if_pos c0, sf_c4 (by omega)]
          exact lst
      | succ e ihe =>
        intro c G1 d3 he hcm hK1 b1 b2 b3 b4 b5 K
        have e35 : G1 77 35 = m := by rw [hK1.2 35 (by decide)]; exact h35
        have scan : ∀ (n y : Nat), y + n = m → c < y → (∀ z : Int, (c : Int) < z → z < y → sf_bt u z = true) → iq_P N xs 287 178 [some (iq_r 77), some (iq_i L), some (iq_i u), some (iq_i y)] [] G1 l Q := by
          intro n
          induction n with
          | zero =>
            intro y hy cy hz
            have ym : (y : Int) = m := by omega
            refine B287_p178_77 _ _ _ _ _ ?_
            rw [e35]
            exact ⟨by omega, fun _ => ⟨by omega, fun h => absurd ym h, fun _ => K G1 _ hK1 b1 b2 (.inl ⟨fun x y1 y2 y3 => (by rw [hz x y1 (by omega)] at y3; cases y3), rfl, fun _ _ => rfl⟩)⟩, fun h => by omega⟩
          | succ n ihn =>
            intro y hy cy hz
            have nx := ihn (y + 1) (by omega) (by omega)
            rw [show ((y + 1 : Nat) : Int) = (y : Int) + 1 by omega] at nx
            refine B287_p178_77 _ _ _ _ _ ?_
            rw [e35]
            refine ⟨by omega, fun h => by omega, fun _ => sp101 (by omega) (by omega) (fun t => ⟨_, rfl, by omega, fun h => by omega, fun _ => nx (fun z z1 z2 => ?_)⟩) (fun t => ⟨_, rfl, by omega, fun _ => ?_, fun h => absurd rfl h⟩)⟩
            · by_cases q : z = y
              · rw [q]; exact t
              · exact hz z z1 (by omega)
            · have cR := costR y (by omega) (by omega) t
              have ol := sf_or_lt (m := m) (u := u) (k := y) (by omega) (by omega)
              have o6 := sf_c6 (u := u) (k := y) (by omega) (by omega) t
              have cS := sf_leftS (m := m) (u := u) (x := y) (by omega) (by omega) t
              have eA : (iq_uz G1 91 L y) 91 ((L : Int) - 1) = a := by
                rw [← ha, ← b1 _ (by omega)]
                have : ¬ (L : Int) - 1 = L := by omega
                simp [iq_uz, this]
              rw [e35, eA, hK1.1 90 (by decide) (by decide), h90 a aR.1 aR.2, h90 y (by omega) (by omega)]
              refine ⟨by omega, fun _ => ⟨by omega, by omega, by omega, by omega, by omega, ?_⟩, fun h => by omega⟩
              refine sp286 hp (by rw [sf_uzn _ (by decide), hK1.1 78 (by decide) (by decide)]; exact h1) (hW a aR.1 aR.2) (hW y (by omega) (by omega)) ⟨_, rfl, by omega, B287_p266_77 _ _ _ _ _ ⟨by omega, ?_⟩⟩
              rw [sf_c1 (by omega) (by omega), b2 L (by omega), hf, show ((L : Nat) : Int) + 1 = ((L + 1 : Nat) : Int) by omega]
              have g91 : ∀ i : Int, ¬ i = L → ¬ i = (L + 1 : Nat) → (iq_uz (iq_uz (iq_uz G1 91 L y) 92 (L + 1 : Nat) (far + sf_dd W p a y)) 91 (L + 1 : Nat) 0) 91 i = G1 91 i := fun i y1 y2 => by
                unfold iq_uz
                rw [if_neg (fun z => y2 z.2), if_neg (fun z => absurd z.1 (by decide)), if_neg (fun z => y1 z.2)]
              have gL : (iq_uz (iq_uz (iq_uz G1 91 L y) 92 (L + 1 : Nat) (far + sf_dd W p a y)) 91 (L + 1 : Nat) 0) 91 L = y := by
                have : ¬ (L : Int) = (L + 1 : Nat) := by omega
                unfold iq_uz
                rw [if_neg (fun z => this z.2), if_neg (fun z => absurd z.1 (by decide)), if_pos ⟨rfl, rfl⟩]
              have gS : (iq_uz (iq_uz (iq_uz G1 91 L y) 92 (L + 1 : Nat) (far + sf_dd W p a y)) 91 (L + 1 : Nat) 0) 77 36 = G1 77 36 := by simp [iq_uz]
              refine ih (L + 1) _ (sf_or u y) y (far + sf_dd W p a y) _ (by omega) (by omega) (((hK1.uz (by omega)).uz (by omega)).uz (by omega)) (by simp [iq_uz]) (by rw [show ((L + 1 : Nat) : Int) - 1 = L by omega]; exact gL) (by simp [iq_uz]) (fun i y1 y2 => ?_) (by omega) (by rw [sf_bt_or (by omega) (by omega) (by omega), hb]; rfl) (by omega) (by omega) (by rw [gS]; exact b5) (fun G' d3' w1 w2 w3 pe => ?_)
              · by_cases q : i = L
                · rw [q, gL]; omega
                · rw [g91 i q (by omega), b1 i (by omega)]; exact h91 i y1 (by omega)
              · have s36 : -1 ≤ G' 77 36 ∧ G' 77 36 ≤ 100000 := by
                  rcases pe with ⟨_, q2, _⟩ | ⟨_, q2, _⟩
                  · rw [q2, gS]; exact b5
                  · rw [q2]; omega
                have x91 : ∀ i : Int, i < L → G' 91 i = G1 91 i := fun i hi => by rw [w2 i (by omega), g91 i (by omega) (by omega)]
                have xx := ihe y G' d3' (by omega) (by omega) w1 (fun i hi => by rw [x91 i hi]; exact b1 i hi) (fun i hi => by
                    rw [w3 i (by omega), ← b2 i hi]
                    have : ¬ i = (L + 1 : Nat) := by omega
                    unfold iq_uz
                    rw [if_neg (fun z => absurd z.1 (by decide)), if_neg (fun z => this z.2), if_neg (fun z => absurd z.1 (by decide))]) (by rw [w2 L (by omega)]; exact gL) (.inr t) s36 (fun G'' d3'' v1 v2 v3 ps => K G'' d3'' v1 v2 v3 (sf_PSc (x := y) (by omega) t (fun z z1 z2 => hz z z1 z2) (by omega) gS (by funext i; simp [iq_uz]) (fun i hi => g91 i (by omega) (by omega)) gL (fun i hi => x91 i (by omega)) pe ps))
                rw [if_neg (by omega)] at xx
                rw [show ((L + 1 : Nat) : Int) + -1 = L by omega]
                exact xx
        have sc := scan (m - (c + 1)) (c + 1) (by omega) (by omega) (fun z z1 z2 => by omega)
        rw [show ((c + 1 : Nat) : Int) = (c : Int) + 1 by omega] at sc
        refine B287_p113_77 _ _ _ _ _ ?_
        rw [e35, b3]
        refine ⟨by omega, fun h => by omega, fun _ => ⟨by omega, fun h => by omega, fun _ => ⟨by omega, fun _ => ⟨by omega, by omega, fun c0 => ⟨by omega, by omega, ?_⟩, fun c0 => ⟨by omega, ?_⟩⟩, fun h => by omega⟩⟩⟩
        · rw [if_neg c0, sf_c3 (by omega) (by omega) (b4.resolve_left (by omega))]
          exact sc
        · rw [if_pos c0, sf_c4 (by omega)]
          exact sc
    have main := sib m 0 G d3 (by omega) (by omega) hK (fun _ _ => rfl) (fun _ _ => rfl) hz (.inl rfl) sR (fun G' d3' w1 w2 w3 ps => k G' d3' w1 w2 w3 (sf_PSE ps hR hb exc))
    rw [if_pos (by rfl)] at main
    exact main
end WN
