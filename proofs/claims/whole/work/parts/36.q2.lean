/-! told, chain, tone, degree, step, span, sizeAt, sizeMany. -/
def aTone (P : Int → Int) (d : Int) : Int × Int := if 0 ≤ d ∧ d < iq_m P then (iq_t P d, 0) else (-1, 1)
theorem cTone {N : Nat} {xs : Nat → Int32} {Q : iq_T} {g : iq_I} {l : iq_J} {d : Int} (hs : iq_SR g l 23 24 25 0) (hd : -2147483648 ≤ d ∧ d ≤ 2147483647) (q : ∀ (g' : iq_I) (l' : iq_J), iq_KK g l g' l' → g' 0 0 = (aTone (g 24) d).2 → Q (some (iq_i (aTone (g 24) d).1)) g' l') : iq_P N xs 152 0 [some (iq_r 0), some (iq_i d)] [] g l Q := by
  unfold aTone at q
  refine B152_0 _ _ _ (sp151 hs hd (fun a b => ⟨_, rfl, by omega, fun h => by omega, fun _ => sp137 hs (fun g' e1 e2 e3 e4 e5 => ?_)⟩) (fun a => ⟨_, rfl, by omega, fun _ => sp44 ⟨_, rfl, ?_⟩, fun h => by omega⟩))
  · rw [if_pos ⟨a, b⟩] at q
    refine B152_q13_31 _ _ _ (sp138 e5 ⟨a, by omega⟩ ⟨_, rfl, sp90 ⟨_, rfl, ?_⟩⟩)
    rw [e4 d a b]
    exact q _ _ ((iq_KKr e1).uz iq_sx00) (by simp [iq_uz])
  · rw [if_neg a] at q
    exact q _ _ ((iq_KK.refl _ _).uz iq_sx00) (by simp [iq_uz])
theorem mTone {N : Nat} {xs : Nat → Int32} {Q : iq_T} {g : iq_I} {l : iq_J} {d : Int} (hs : iq_SR g l 23 24 25 0) (hd : -2147483648 ≤ d ∧ d ≤ 2147483647) (q : ∀ (g' : iq_I) (l' : iq_J), iq_KK g l g' l' → g' 0 0 = g 0 0 → g' 77 1 = (aTone (g 24) d).2 → Q (some (iq_i (aTone (g 24) d).1)) g' l') : iq_P N xs 154 0 [some (iq_r 77), some (iq_i d)] [] g l Q := by
  unfold aTone at q
  have hm := iq_mR hs.1
  have hp3 := hs.1.2.2.2.1
  refine B154_77 _ _ _ (sp153 hs hd (fun g' k0 k1 k2 a b => ⟨_, rfl, by omega, fun h => by omega, fun _ => ⟨by omega, sp115 ⟨_, rfl, ?_⟩⟩⟩) (fun g' k0 k1 a => ⟨_, rfl, by omega, fun _ => sp98 ⟨_, rfl, ?_⟩, fun h => by omega⟩))
  · rw [if_pos ⟨a, b⟩] at q
    rw [k2.2.1 d a b]
    exact q _ _ (k0.uz iq_sx771) (by simp [iq_uz, k1]) (by simp [iq_uz])
  · rw [if_neg a] at q
    exact q _ _ (k0.uz iq_sx771) (by simp [iq_uz, k1]) (by simp [iq_uz])
def aStep (P : Int → Int) (d : Int) : Int × Int := if 0 ≤ d ∧ d < iq_m P then (iq_sp (iq_t P) (iq_m P) (P 1) d 1, 0) else (-1, 1)
theorem cStep {N : Nat} {xs : Nat → Int32} {Q : iq_T} {g : iq_I} {l : iq_J} {d : Int} (hs : iq_SR g l 23 24 25 0) (hd : -2147483648 ≤ d ∧ d ≤ 2147483647) (q : ∀ (g' : iq_I) (l' : iq_J), iq_KK g l g' l' → g' 0 0 = (aStep (g 24) d).2 → Q (some (iq_i (aStep (g 24) d).1)) g' l') : iq_P N xs 161 0 [some (iq_r 0), some (iq_i d)] [] g l Q := by
  unfold aStep at q
  have hm := iq_mR hs.1
  refine B161_0 _ _ _ (sp151 hs hd (fun a b => ⟨_, rfl, by omega, fun h => by omega, fun _ => sp137 hs (fun g' e1 e2 e3 e4 e5 => ?_)⟩) (fun a => ⟨_, rfl, by omega, fun _ => sp44 ⟨_, rfl, ?_⟩, fun h => by omega⟩))
  · rw [if_pos ⟨a, b⟩] at q
    refine B161_q13_31 _ _ _ (sp140 e5 ⟨a, by omega⟩ (by omega) ⟨_, rfl, sp90 ⟨_, rfl, ?_⟩⟩)
    rw [e2, e3, iq_sp_congr (by omega) e4 a b]
    exact q _ _ ((iq_KKr e1).uz iq_sx00) (by simp [iq_uz])
  · rw [if_neg a] at q
    exact q _ _ ((iq_KK.refl _ _).uz iq_sx00) (by simp [iq_uz])
theorem mStep {N : Nat} {xs : Nat → Int32} {Q : iq_T} {g : iq_I} {l : iq_J} {d : Int} (hs : iq_SR g l 23 24 25 0) (hd : -2147483648 ≤ d ∧ d ≤ 2147483647) (q : ∀ (g' : iq_I) (l' : iq_J), iq_KK g l g' l' → g' 0 0 = g 0 0 → g' 77 1 = (aStep (g 24) d).2 → Q (some (iq_i (aStep (g 24) d).1)) g' l') : iq_P N xs 162 0 [some (iq_r 77), some (iq_i d)] [] g l Q := by
  unfold aStep at q
  have hm := iq_mR hs.1
  have hp3 := hs.1.2.2.2.1
  refine B162_77 _ _ _ (sp153 hs hd (fun g' k0 k1 k2 a b => ⟨_, rfl, by omega, fun h => by omega, fun _ => ⟨by omega, sp115 ⟨_, rfl, ?_⟩⟩⟩) (fun g' k0 k1 a => ⟨_, rfl, by omega, fun _ => sp98 ⟨_, rfl, ?_⟩, fun h => by omega⟩))
  · rw [if_pos ⟨a, b⟩] at q
    rw [k2.2.2.2.1 d a b]
    exact q _ _ (k0.uz iq_sx771) (by simp [iq_uz, k1]) (by simp [iq_uz])
  · rw [if_neg a] at q
    exact q _ _ (k0.uz iq_sx771) (by simp [iq_uz, k1]) (by simp [iq_uz])
def aSpan (P : Int → Int) (d n : Int) : Int × Int := if (0 ≤ d ∧ d < iq_m P) ∧ 0 ≤ n ∧ n ≤ 24 then (iq_sp (iq_t P) (iq_m P) (P 1) d n, 0) else (-1, 1)
theorem cSpan {N : Nat} {xs : Nat → Int32} {Q : iq_T} {g : iq_I} {l : iq_J} {d n : Int} (hs : iq_SR g l 23 24 25 0) (hd : -2147483648 ≤ d ∧ d ≤ 2147483647) (hn : -2147483648 ≤ n ∧ n ≤ 2147483647) (q : ∀ (g' : iq_I) (l' : iq_J), iq_KK g l g' l' → g' 0 0 = (aSpan (g 24) d n).2 → Q (some (iq_i (aSpan (g 24) d n).1)) g' l') : iq_P N xs 163 0 [some (iq_r 0), some (iq_i d), some (iq_i n)] [] g l Q := by
  unfold aSpan at q
  have hm := iq_mR hs.1
  refine B163_0 _ _ _ _ (sp151 hs hd (fun a b => ⟨_, rfl, by omega, fun h => by omega, fun _ => ⟨by omega, fun c => sp44 ⟨_, rfl, ?_⟩, fun c => ⟨by omega, fun c2 => sp137 hs (fun g' e1 e2 e3 e4 e5 => ?_), fun c2 => sp44 ⟨_, rfl, ?_⟩⟩⟩⟩) (fun a => ⟨_, rfl, by omega, fun _ => sp44 ⟨_, rfl, ?_⟩, fun h => by omega⟩))
  · rw [if_neg (by omega)] at q
    exact q _ _ ((iq_KK.refl _ _).uz iq_sx00) (by simp [iq_uz])
  · rw [if_pos ⟨⟨a, b⟩, c, c2⟩] at q
    refine B163_q29_31 _ _ _ _ (sp140 e5 ⟨a, by omega⟩ (by omega) ⟨_, rfl, sp90 ⟨_, rfl, ?_⟩⟩)
    rw [e2, e3, iq_sp_congr (by omega) e4 a b]
    exact q _ _ ((iq_KKr e1).uz iq_sx00) (by simp [iq_uz])
  · rw [if_neg (by omega)] at q
    exact q _ _ ((iq_KK.refl _ _).uz iq_sx00) (by simp [iq_uz])
  · rw [if_neg (by omega)] at q
    exact q _ _ ((iq_KK.refl _ _).uz iq_sx00) (by simp [iq_uz])
theorem iq_of24 : (Int64.ofNat 24).toInt = 24 := by decide
theorem iq_of60 : (Int64.ofNat 60).toInt = 60 := by decide
theorem iq_ofm60 : (Int64.ofNat 18446744073709551556).toInt = -60 := by decide
theorem iq_of640 : (0 : Int64).toInt = 0 := by decide
theorem iq_of641 : (1 : Int64).toInt = 1 := by decide
theorem mSpan {N : Nat} {xs : Nat → Int32} {Q : iq_T} {g : iq_I} {l : iq_J} {d n : Int} (hs : iq_SR g l 23 24 25 0) (hd : -2147483648 ≤ d ∧ d ≤ 2147483647) (hn : -2147483648 ≤ n ∧ n ≤ 2147483647) (q : ∀ (g' : iq_I) (l' : iq_J), iq_KK g l g' l' → g' 0 0 = g 0 0 → g' 77 1 = (aSpan (g 24) d n).2 → Q (some (iq_i (aSpan (g 24) d n).1)) g' l') : iq_P N xs 165 0 [some (iq_r 77), some (iq_i d), some (iq_i n)] [] g l Q := by
  unfold aSpan at q
  have hm := iq_mR hs.1
  have hp3 := hs.1.2.2.2.1
  have en := iq_i2lv hn.1 hn.2
  refine B165_77 _ _ _ _ (sp153 hs hd (fun g' k0 k1 k2 a b => ⟨_, rfl, by omega, fun h => by omega, fun _ => sp149 (fun c c2 => ⟨_, rfl, by omega, fun h => by omega, fun _ => ?_⟩) (fun c => ⟨_, rfl, by omega, fun _ => sp98 ⟨_, rfl, ?_⟩, fun h => by omega⟩)⟩) (fun g' k0 k1 a => ⟨_, rfl, by omega, fun _ => sp98 ⟨_, rfl, ?_⟩, fun h => by omega⟩))
  · rw [en, iq_of640] at c
    rw [en, iq_of24] at c2
    rw [if_pos ⟨⟨a, b⟩, c, c2⟩] at q
    exact sp164 hs.1 k2 ⟨a, b⟩ (by omega) ⟨_, rfl, sp115 ⟨_, rfl, q _ _ (k0.uz iq_sx771) (by simp [iq_uz, k1]) (by simp [iq_uz])⟩⟩
  · rw [en, iq_of640, iq_of24] at c
    rw [if_neg (by omega)] at q
    exact q _ _ (k0.uz iq_sx771) (by simp [iq_uz, k1]) (by simp [iq_uz])
  · rw [if_neg (by omega)] at q
    exact q _ _ (k0.uz iq_sx771) (by simp [iq_uz, k1]) (by simp [iq_uz])
def aDegree (P : Int → Int) (t : Int) : Int × Int := if ¬ (0 ≤ t ∧ t < P 1) then (-1, 1) else if iq_f P t = true then (iq_cn (iq_f P) t.toNat, 0) else (-1, 6)
theorem cDegree {N : Nat} {xs : Nat → Int32} {Q : iq_T} {g : iq_I} {l : iq_J} {t : Int} (hs : iq_SR g l 23 24 25 0) (hd : -2147483648 ≤ t ∧ t ≤ 2147483647) (q : ∀ (g' : iq_I) (l' : iq_J), iq_KK g l g' l' → g' 0 0 = (aDegree (g 24) t).2 → Q (some (iq_i (aDegree (g 24) t).1)) g' l') : iq_P N xs 157 0 [some (iq_r 0), some (iq_i t)] [] g l Q := by
  unfold aDegree at q
  have hp1 := hs.1.2.1
  refine B157_0 _ _ _ (sp77_23 hd (by omega) (fun a b => ⟨_, rfl, by omega, fun _ => sp155_23 hd (fun c => ⟨_, rfl, by omega, fun h => by omega, fun _ => sp156 hs ⟨a, by omega⟩ ⟨_, rfl, sp90 ⟨_, rfl, ?_⟩⟩⟩) (fun c => ⟨_, rfl, by omega, fun _ => sp44 ⟨_, rfl, ?_⟩, fun h => by omega⟩), fun h => by omega⟩) (fun a => ⟨_, rfl, by omega, fun h => by omega, fun _ => sp44 ⟨_, rfl, ?_⟩⟩))
  · rw [hs.2.2.1] at c
    rw [if_neg (by omega), if_pos c] at q
    exact q _ _ ((iq_KK.refl _ _).uz iq_sx00) (by simp [iq_uz])
  · rw [hs.2.2.1] at c
    rw [if_neg (by omega), if_neg (by rw [c]; decide)] at q
    exact q _ _ ((iq_KK.refl _ _).uz iq_sx00) (by simp [iq_uz])
  · rw [if_pos a] at q
    exact q _ _ ((iq_KK.refl _ _).uz iq_sx00) (by simp [iq_uz])
theorem mDegree {N : Nat} {xs : Nat → Int32} {Q : iq_T} {g : iq_I} {l : iq_J} {t : Int} (hs : iq_SR g l 23 24 25 0) (hd : -2147483648 ≤ t ∧ t ≤ 2147483647) (q : ∀ (g' : iq_I) (l' : iq_J), iq_KK g l g' l' → g' 0 0 = g 0 0 → g' 77 1 = (aDegree (g 24) t).2 → Q (some (iq_i (aDegree (g 24) t).1)) g' l') : iq_P N xs 160 0 [some (iq_r 77), some (iq_i t)] [] g l Q := by
  unfold aDegree at q
  have hp1 := hs.1.2.1
  have e1 := hs.p78 1 (by omega) (by omega)
  refine B160_77 _ _ _ (sp158 hd (by omega) (fun a b => ⟨_, rfl, by omega, fun _ => sp114c hs (fun g' f1 f2 f3 => ⟨rfl, by omega, ?_⟩), fun h => by omega⟩) (fun a => ⟨_, rfl, by omega, fun h => by omega, fun _ => sp98 ⟨_, rfl, ?_⟩⟩))
  · rw [e1] at b
    rw [if_neg (by omega)] at q
    have e2 := f3.2.2.1 t.toNat (by omega)
    rw [Int.toNat_of_nonneg a] at e2
    have hc := iq_cn_nonneg (iq_f (g 24)) t.toNat
    have h0 : g' 0 0 = g 0 0 := congrFun (f1 0 (by decide) (.inl (by decide))) 0
    rw [e2]
    rcases hb : iq_f (g 24) t with _ | _
    · rw [hb] at q
      rw [if_neg (show ¬ (false = true) by decide)]
      exact sp159 (by decide) (fun _ => ⟨_, rfl, q _ _ ((iq_KKl f1 f2).uz iq_sx771) (by simp [iq_uz, h0]) (by simp [iq_uz])⟩) (fun h => absurd rfl h)
    · rw [hb, if_pos rfl] at q
      rw [if_pos rfl]
      exact sp159 (by omega) (fun h => by omega) (fun h => ⟨_, rfl, q _ _ ((iq_KKl f1 f2).uz iq_sx771) (by simp [iq_uz, h0]) (by simp [iq_uz])⟩)
  · rw [e1] at a
    rw [if_pos a] at q
    exact q _ _ ((iq_KK.refl _ _).uz iq_sx771) (by simp [iq_uz]) (by simp [iq_uz])
def aChain (P : Int → Int) (k : Int) : Int × Int := if -60 ≤ k ∧ k ≤ 60 then (iq_ch (P 1) (P 4) (P 2) (P 5) k, 0) else (-1, 1)
theorem cChain {N : Nat} {xs : Nat → Int32} {Q : iq_T} {g : iq_I} {l : iq_J} {k : Int} (hs : iq_SR g l 23 24 25 0) (hd : -2147483648 ≤ k ∧ k ≤ 2147483647) (q : ∀ (g' : iq_I) (l' : iq_J), iq_KK g l g' l' → g' 0 0 = (aChain (g 24) k).2 → Q (some (iq_i (aChain (g 24) k).1)) g' l') : iq_P N xs 148 0 [some (iq_r 0), some (iq_i k)] [] g l Q := by
  unfold aChain at q
  refine B148_0 _ _ _ (sp146 hd (fun a => ⟨_, rfl, by omega, fun h => by omega, fun _ => sp44 ⟨_, rfl, ?_⟩⟩) (fun a b => ⟨_, rfl, by omega, fun _ => sp147_23 hs.1 (by omega) ⟨_, rfl, sp90 ⟨_, rfl, ?_⟩⟩, fun h => by omega⟩))
  · rw [if_neg a] at q
    exact q _ _ ((iq_KK.refl _ _).uz iq_sx00) (by simp [iq_uz])
  · rw [if_pos ⟨a, b⟩] at q
    exact q _ _ ((iq_KK.refl _ _).uz iq_sx00) (by simp [iq_uz])
theorem iq_SR.ch {g : iq_I} {l : iq_J} {S P R : Nat} (hs : iq_SR g l S P R 0) (gen root k : Int) : iq_ch (g 78 1) (g 78 4) gen root k = iq_ch (g P 1) (g P 4) gen root k := by
  rw [hs.p78 1 (by omega) (by omega), hs.p78 4 (by omega) (by omega)]
theorem mChain {N : Nat} {xs : Nat → Int32} {Q : iq_T} {g : iq_I} {l : iq_J} {k : Int} (hs : iq_SR g l 23 24 25 0) (hd : -2147483648 ≤ k ∧ k ≤ 2147483647) (q : ∀ (g' : iq_I) (l' : iq_J), iq_KK g l g' l' → g' 0 0 = g 0 0 → g' 77 1 = (aChain (g 24) k).2 → Q (some (iq_i (aChain (g 24) k).1)) g' l') : iq_P N xs 150 0 [some (iq_r 77), some (iq_i k)] [] g l Q := by
  unfold aChain at q
  have en := iq_i2lv hd.1 hd.2
  have hp := hs.1
  obtain ⟨p0, p1, p2, p3, p4, p5, p6, p7, p8⟩ := hp
  refine B150_77 _ _ _ (sp149 (fun c c2 => ⟨_, rfl, by omega, fun h => by omega, fun _ => ?_⟩) (fun c => ⟨_, rfl, by omega, fun _ => sp98 ⟨_, rfl, ?_⟩, fun h => by omega⟩))
  · rw [en, iq_ofm60] at c
    rw [en, iq_of60] at c2
    rw [if_pos ⟨c, c2⟩] at q
    have e2 := hs.p78 2 (by omega) (by omega)
    have e5 := hs.p78 5 (by omega) (by omega)
    refine sp112 (iq_pb_congr hs.p78 hs.1) (by omega) (by omega) ⟨_, rfl, sp115 ⟨_, rfl, ?_⟩⟩
    rw [hs.ch, e2, e5]
    exact q _ _ ((iq_KK.refl _ _).uz iq_sx771) (by simp [iq_uz]) (by simp [iq_uz])
  · rw [en, iq_ofm60, iq_of60] at c
    rw [if_neg c] at q
    exact q _ _ ((iq_KK.refl _ _).uz iq_sx771) (by simp [iq_uz]) (by simp [iq_uz])
def aSizeAt (P : Int → Int) (k : Int) : Int × Int := if 0 ≤ k ∧ k < iq_sn P then (iq_sk P k, 0) else (-1, 6)
theorem cSizeAt {N : Nat} {xs : Nat → Int32} {Q : iq_T} {g : iq_I} {l : iq_J} {k : Int} (hs : iq_SR g l 23 24 25 0) (hd : -2147483648 ≤ k ∧ k ≤ 2147483647) (q : ∀ (g' : iq_I) (l' : iq_J), iq_KK g l g' l' → g' 0 0 = (aSizeAt (g 24) k).2 → Q (some (iq_i (aSizeAt (g 24) k).1)) g' l') : iq_P N xs 168 0 [some (iq_r 0), some (iq_i k)] [] g l Q := by
  unfold aSizeAt at q
  have hp1 := hs.1.2.1
  refine B168_0 _ _ _ (sp137 hs (fun g' e1 e2 e3 e4 e5 => B168_q5_31 _ _ _ (sp141 e5 (fun y hy => ⟨_, rfl, sp166 hd ⟨_, rfl, ?_⟩⟩))))
  rw [iq_pk_sk (iq_szb hs.1 e2 e3 e4 hy)]
  obtain ⟨v1, v2⟩ := iq_skv hs.1 (k := k)
  by_cases c : 0 ≤ k ∧ k < iq_sn (g 24)
  · obtain ⟨v, w1, w2, w3, w4, w5⟩ := v1 c.1 c.2
    rw [if_pos c] at q
    exact sp167 (by omega) (fun h => by omega) (fun _ => ⟨_, rfl, q _ _ ((iq_KKr e1).uz iq_sx00) (by simp [iq_uz])⟩)
  · have w := v2 c
    rw [if_neg c] at q
    exact sp167 (by omega) (fun _ => ⟨_, rfl, q _ _ ((iq_KKr e1).uz iq_sx00) (by simp [iq_uz])⟩) (fun h => by omega)
theorem mSizeAt {N : Nat} {xs : Nat → Int32} {Q : iq_T} {g : iq_I} {l : iq_J} {k : Int} (hs : iq_SR g l 23 24 25 0) (hd : -2147483648 ≤ k ∧ k ≤ 2147483647) (q : ∀ (g' : iq_I) (l' : iq_J), iq_KK g l g' l' → g' 0 0 = g 0 0 → g' 77 1 = (aSizeAt (g 24) k).2 → Q (some (iq_i (aSizeAt (g 24) k).1)) g' l') : iq_P N xs 170 0 [some (iq_r 77), some (iq_i k)] [] g l Q := by
  unfold aSizeAt at q
  have hm := iq_snR hs.1
  refine B170_77 _ _ _ (sp169 hs hd (fun g' k0 k1 k2 a b => ⟨_, rfl, by omega, fun h => by omega, fun _ => ⟨by omega, sp115 ⟨_, rfl, ?_⟩⟩⟩) (fun g' k0 k1 a => ⟨_, rfl, by omega, fun _ => sp98 ⟨_, rfl, ?_⟩, fun h => by omega⟩))
  · rw [if_pos ⟨a, b⟩] at q
    obtain ⟨v, w1, w2, w3, w4, w5⟩ := (iq_skv hs.1 (k := k)).1 a b
    have e := k2.2.2.2.2.2 v w1 w3
    have w4' : iq_cn (iq_dg (fun d => iq_sp (iq_t (g 24)) (iq_m (g 24)) (g 24 1) d 1) (iq_m (g 24)).toNat) v = k := w4
    rw [w4'] at e
    rw [e, ← w5]
    exact q _ _ (k0.uz iq_sx771) (by simp [iq_uz, k1]) (by simp [iq_uz])
  · rw [if_neg a] at q
    exact q _ _ (k0.uz iq_sx771) (by simp [iq_uz, k1]) (by simp [iq_uz])
def aSizeMany (P : Int → Int) (k : Int) : Int × Int := if 0 ≤ k ∧ k < iq_sn P then (iq_cn (fun d => decide (iq_sp (iq_t P) (iq_m P) (P 1) d 1 = iq_sk P k)) (iq_m P).toNat, 0) else (-1, 6)
theorem cSizeMany {N : Nat} {xs : Nat → Int32} {Q : iq_T} {g : iq_I} {l : iq_J} {k : Int} (hs : iq_SR g l 23 24 25 0) (hd : -2147483648 ≤ k ∧ k ≤ 2147483647) (q : ∀ (g' : iq_I) (l' : iq_J), iq_KK g l g' l' → g' 0 0 = (aSizeMany (g 24) k).2 → Q (some (iq_i (aSizeMany (g 24) k).1)) g' l') : iq_P N xs 172 0 [some (iq_r 0), some (iq_i k), none] [] g l Q := by
  unfold aSizeMany at q
  have hp1 := hs.1.2.1
  have hm := iq_mR hs.1
  refine B172_0 _ _ _ (sp137 hs (fun g' e1 e2 e3 e4 e5 => B172_q4_31 _ _ _ (sp141 e5 (fun y hy => ⟨_, rfl, sp166 hd ⟨_, rfl, ?_⟩⟩))))
  rw [iq_pk_sk (iq_szb hs.1 e2 e3 e4 hy)]
  obtain ⟨v1, v2⟩ := iq_skv hs.1 (k := k)
  by_cases c : 0 ≤ k ∧ k < iq_sn (g 24)
  · obtain ⟨v, w1, w2, w3, w4, w5⟩ := v1 c.1 c.2
    rw [if_pos c] at q
    refine ⟨by omega, fun _ => sp171 (by omega) e5 ⟨_, rfl, sp90 ⟨_, rfl, ?_⟩⟩, fun h => by omega⟩
    rw [e2, e3]
    have e : iq_cn (fun d => decide (iq_sp (g' 32) (iq_m (g 24)) (g 24 1) d 1 = iq_sk (g 24) k)) (iq_m (g 24)).toNat = iq_cn (fun d => decide (iq_sp (iq_t (g 24)) (iq_m (g 24)) (g 24 1) d 1 = iq_sk (g 24) k)) (iq_m (g 24)).toNat := by
      refine iq_cn_congr (fun i a b => ?_)
      try dsimp only
      rw [iq_sp_congr (by omega) e4 a (by omega)]
    rw [e]
    exact q _ _ ((iq_KKr e1).uz iq_sx00) (by simp [iq_uz])
  · have w := v2 c
    rw [if_neg c] at q
    refine ⟨by omega, fun h => by omega, fun _ => sp44 ⟨_, rfl, q _ _ ((iq_KKr e1).uz iq_sx00) (by simp [iq_uz])⟩⟩
theorem mSizeMany {N : Nat} {xs : Nat → Int32} {Q : iq_T} {g : iq_I} {l : iq_J} {k : Int} (hs : iq_SR g l 23 24 25 0) (hd : -2147483648 ≤ k ∧ k ≤ 2147483647) (q : ∀ (g' : iq_I) (l' : iq_J), iq_KK g l g' l' → g' 0 0 = g 0 0 → g' 77 1 = (aSizeMany (g 24) k).2 → Q (some (iq_i (aSizeMany (g 24) k).1)) g' l') : iq_P N xs 174 0 [some (iq_r 77), some (iq_i k)] [] g l Q := by
  unfold aSizeMany at q
  have hsn := iq_snR hs.1
  have hm := iq_mR hs.1
  have hp1 := hs.1.2.1
  have hp3 := hs.1.2.2.2.1
  refine B174_77 _ _ _ (sp169 hs hd (fun g' k0 k1 k2 a b => ⟨_, rfl, by omega, fun h => by omega, fun _ => ?_⟩) (fun g' k0 k1 a => ⟨_, rfl, by omega, fun _ => sp98 ⟨_, rfl, ?_⟩, fun h => by omega⟩))
  · rw [if_pos ⟨a, b⟩] at q
    obtain ⟨v, w1, w2, w3, w4, w5⟩ := (iq_skv hs.1 (k := k)).1 a b
    have e := k2.2.2.2.2.2 v w1 w3
    have w4' : iq_cn (iq_dg (fun d => iq_sp (iq_t (g 24)) (iq_m (g 24)) (g 24 1) d 1) (iq_m (g 24)).toNat) v = k := w4
    rw [w4'] at e
    refine B173_77 _ _ _ (sp173_p (m := iq_m (g 24)) (c := fun d => iq_sp (iq_t (g 24)) (iq_m (g 24)) (g 24 1) d 1) k2.1 (by omega) (by omega) k2.2.2.2.1 (fun d x y => by have := iq_sp1 (iq_trg hs.1) x y; omega) (by omega) ⟨_, rfl, sp115 ⟨_, rfl, ?_⟩⟩ (iq_m (g 24)).toNat 0 (by omega))
    rw [e, ← w5]
    exact q _ _ (k0.uz iq_sx771) (by simp [iq_uz, k1]) (by simp [iq_uz])
  · rw [if_neg a] at q
    exact q _ _ (k0.uz iq_sx771) (by simp [iq_uz, k1]) (by simp [iq_uz])
def aTold (P : Int → Int) (S : Int64) (a : Int) : Int × Int := if 0 ≤ a ∧ a < 9 then (P a, 0) else if a = 9 then (iq_m P, 0) else if a = 10 then (iq_sn P, 0) else if a = 11 then (iq_cn (iq_tb S) 64, 0) else (-1, 1)
theorem cTold {N : Nat} {xs : Nat → Int32} {Q : iq_T} {g : iq_I} {l : iq_J} {a : Int} (hs : iq_SR g l 23 24 25 0) (hd : -2147483648 ≤ a ∧ a ≤ 2147483647) (q : ∀ (g' : iq_I) (l' : iq_J), iq_KK g l g' l' → g' 0 0 = (aTold (g 24) (l 23 3) a).2 → Q (some (iq_i (aTold (g 24) (l 23 3) a).1)) g' l') : iq_P N xs 142 0 [some (iq_r 0), some (iq_i a)] [] g l Q := by
  unfold aTold at q
  have h9 : a = 9 → iq_P N xs 89 0 [some (iq_r 23)] [] g l (fun r g1 l2 => ∃ z3, r = some (iq_i z3) ∧ (iq_P N xs 90 0 [some (iq_r 0), some (iq_i z3)] [] g1 l2 (fun r g4 l5 => ∃ z6, r = some (iq_i z6) ∧ (Q (some (iq_i z6)) g4 l5)))) := fun c => by
    rw [if_neg (by omega), if_pos c] at q
    refine sp89_23 ⟨_, rfl, sp90 ⟨_, rfl, ?_⟩⟩
    rw [iq_cn64 hs.1 hs.2.2.1]
    exact q _ _ ((iq_KK.refl _ _).uz iq_sx00) (by simp [iq_uz])
  have h10 : a = 10 → iq_P N xs 137 0 [some (iq_r 0)] [] g l (fun r g7 l8 => iq_P N xs 142 69 [some (iq_r 0), some (iq_i a)] (r.toList ++ [iq_r 0]) g7 l8 Q) := fun c => by
    rw [if_neg (by omega), if_neg (by omega), if_pos c] at q
    refine sp137 hs (fun g' e1 e2 e3 e4 e5 => B142_q69_31 _ _ _ (sp141 e5 (fun y hy => ⟨_, rfl, sp88 ⟨_, rfl, sp90 ⟨_, rfl, ?_⟩⟩⟩)))
    rw [iq_cn_congr (h := iq_sy (g 24)) (fun i _ _ => iq_szb hs.1 e2 e3 e4 hy i), iq_sn64 hs.1]
    exact q _ _ ((iq_KKr e1).uz iq_sx00) (by simp [iq_uz])
  have h11 : a = 11 → iq_P N xs 88 0 [some (iq_l (l 23 3)), none] [] g l (fun r g9 l10 => ∃ z11, r = some (iq_i z11) ∧ (iq_P N xs 90 0 [some (iq_r 0), some (iq_i z11)] [] g9 l10 (fun r g12 l13 => ∃ z14, r = some (iq_i z14) ∧ (Q (some (iq_i z14)) g12 l13)))) := fun c => by
    rw [if_neg (by omega), if_neg (by omega), if_neg (by omega), if_pos c] at q
    exact sp88 ⟨_, rfl, sp90 ⟨_, rfl, q _ _ ((iq_KK.refl _ _).uz iq_sx00) (by simp [iq_uz])⟩⟩
  have hx : (a < 9 ∨ 11 < a) → ¬ (0 ≤ a ∧ a < 9) → iq_P N xs 44 0 [some (iq_r 0), some (iq_i 1)] [] g l (fun r g15 l16 => ∃ z17, r = some (iq_i z17) ∧ (Q (some (iq_i z17)) g15 l16)) := fun c c2 => by
    rw [if_neg c2, if_neg (by omega), if_neg (by omega), if_neg (by omega)] at q
    exact sp44 ⟨_, rfl, q _ _ ((iq_KK.refl _ _).uz iq_sx00) (by simp [iq_uz])⟩
  refine B142_0 _ _ _ ⟨by omega, fun c => ⟨by omega, ⟨h9, h10, h11, trivial⟩, fun d => hx d (by omega)⟩, fun c => ⟨by omega, fun c2 => ⟨by omega, ⟨h9, h10, h11, trivial⟩, fun d => hx d (by omega)⟩, fun c2 => sp135_23 ⟨c, c2⟩ ⟨_, rfl, sp90 ⟨_, rfl, ?_⟩⟩⟩⟩
  rw [if_pos ⟨c, c2⟩] at q
  exact q _ _ ((iq_KK.refl _ _).uz iq_sx00) (by simp [iq_uz])
theorem mTold {N : Nat} {xs : Nat → Int32} {Q : iq_T} {g : iq_I} {l : iq_J} {a : Int} (hs : iq_SR g l 23 24 25 0) (hd : -2147483648 ≤ a ∧ a ≤ 2147483647) (q : ∀ (g' : iq_I) (l' : iq_J), iq_KK g l g' l' → g' 0 0 = g 0 0 → g' 77 1 = (aTold (g 24) (l 23 3) a).2 → Q (some (iq_i (aTold (g 24) (l 23 3) a).1)) g' l') : iq_P N xs 145 0 [some (iq_r 77), some (iq_i a)] [] g l Q := by
  unfold aTold at q
  have key : ¬ (0 ≤ a ∧ a < 9) → iq_P N xs 114 0 [some (iq_r 77)] [] g l (fun r g1 l2 => r = none ∧ ((-2147483648 ≤ a ∧ a ≤ 2147483647 ∧ (11 : Int) - 9 + 1 = 3) ∧ (
        (a = 9 → (iq_P N xs 115 0 [some (iq_r 77), some (iq_i (g1 77 26))] [] g1 l2 (fun r g3 l4 => ∃ z5, r = some (iq_i z5) ∧ (Q (some (iq_i z5)) g3 l4)))) ∧
        (a = 10 → (iq_P N xs 115 0 [some (iq_r 77), some (iq_i (g1 77 27))] [] g1 l2 (fun r g6 l7 => ∃ z8, r = some (iq_i z8) ∧ (Q (some (iq_i z8)) g6 l7)))) ∧
        (a = 11 → (iq_P N xs 144 0 [some (iq_r 77), none, none] [] g1 l2 (fun r g9 l10 => ∃ z11, r = some (iq_i z11) ∧ (iq_P N xs 115 0 [some (iq_r 77), some (iq_i z11)] [] g9 l10 (fun r g12 l13 => ∃ z14, r = some (iq_i z14) ∧ (Q (some (iq_i z14)) g12 l13)))))) ∧ True) ∧
        ((a < 9 ∨ 11 < a) → (iq_P N xs 98 0 [some (iq_r 77), some (iq_i 1)] [] g1 l2 (fun r g15 l16 => ∃ z17, r = some (iq_i z17) ∧ (Q (some (iq_i z17)) g15 l16)))))) := by
    intro c
    refine sp114c hs (fun g' f1 f2 f3 => ⟨rfl, by omega, ⟨fun e => ?_, fun e => ?_, fun e => ?_, trivial⟩, fun e => ?_⟩)
    all_goals have h0 : g' 0 0 = g 0 0 := congrFun (f1 0 (by decide) (.inl (by decide))) 0
    · rw [if_neg c, if_pos e] at q
      rw [f3.1]
      exact sp115 ⟨_, rfl, q _ _ ((iq_KKl f1 f2).uz iq_sx771) (by simp [iq_uz, h0]) (by simp [iq_uz])⟩
    · rw [if_neg c, if_neg (by omega), if_pos e] at q
      rw [show g' 77 27 = iq_sn (g 24) from f3.2.2.2.2.1]
      exact sp115 ⟨_, rfl, q _ _ ((iq_KKl f1 f2).uz iq_sx771) (by simp [iq_uz, h0]) (by simp [iq_uz])⟩
    · rw [if_neg c, if_neg (by omega), if_neg (by omega), if_pos e] at q
      have h78 : g' 78 = g 78 := f1 78 (by decide) (.inl (by decide))
      have h24 : g' 24 = g 24 := f1 24 (by decide) (.inl (by decide))
      have h23 : g' 23 = g 23 := f1 23 (by decide) (.inl (by decide))
      have h25 : g' 25 = g 25 := f1 25 (by decide) (.inl (by decide))
      refine sp144 (by unfold iq_SR; rw [h78, h24, h23, h25]; exact hs) ⟨_, rfl, sp115 ⟨_, rfl, q _ _ ((iq_KKl f1 f2).uz iq_sx771) (by simp [iq_uz, h0]) (by simp [iq_uz])⟩⟩
    · rw [if_neg c, if_neg (by omega), if_neg (by omega), if_neg (by omega)] at q
      exact sp98 ⟨_, rfl, q _ _ ((iq_KKl f1 f2).uz iq_sx771) (by simp [iq_uz, h0]) (by simp [iq_uz])⟩
  refine B145_77 _ _ _ ⟨by omega, fun c => key (by omega), fun c => ⟨by omega, fun c2 => key (by omega), fun c2 => ⟨by omega, sp115 ⟨_, rfl, ?_⟩⟩⟩⟩
  rw [if_pos (by omega)] at q
  rw [hs.p78 a c (by omega)]
  exact q _ _ ((iq_KK.refl _ _).uz iq_sx771) (by simp [iq_uz]) (by simp [iq_uz])
