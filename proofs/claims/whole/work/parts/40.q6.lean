/-! variety, myhill. -/
theorem iq_cn_or_eq {f : Int → Bool} {a : Int} {n : Nat} (h1 : 0 ≤ a) (h2 : a < n) : iq_cn (fun t => f t || decide (a = t)) n = iq_cn f n + (if f a = true then 0 else 1) := by
  induction n with
  | zero => omega
  | succ n ih =>
    rw [iq_cn, iq_cn]
    by_cases c : a = n
    · subst c
      have e : iq_cn (fun t => f t || decide ((n : Int) = t)) n = iq_cn f n := iq_cn_congr (fun i a b => by
        have : ¬ (n : Int) = i := by omega
        simp [this])
      rw [e]
      rcases hb : f n with _ | _ <;> simp
    · have e : (f n || decide (a = (n : Int))) = f n := by simp [c]
      rw [e, ih (by omega)]
      omega
/-- how many unlike ones: the first of each -/
def iq_fo (c : Int → Int) (m : Nat) : Int := iq_cn (fun d => !iq_dg c d.toNat (c d)) m
theorem iq_fo_ok {c : Int → Int} {n : Nat} (m : Nat) (h : ∀ d : Int, 0 ≤ d → d < m → 0 ≤ c d ∧ c d < n) : iq_cn (iq_dg c m) n = iq_fo c m := by
  induction m with
  | zero =>
    rw [iq_cn_ext (f := iq_dg c 0) (a := 0) (b := n) (by omega) (fun i _ _ => rfl)]
    rfl
  | succ m ih =>
    have hm := h m (by omega) (by omega)
    have e : iq_cn (iq_dg c (m + 1)) n = iq_cn (fun t => iq_dg c m t || decide (c m = t)) n := iq_cn_congr (fun i _ _ => rfl)
    rw [e, iq_cn_or_eq hm.1 hm.2, ih (fun d a b => h d a (by omega))]
    unfold iq_fo
    rw [iq_cn, show ((m : Int)).toNat = m by omega]
    rcases hb : iq_dg c m (c m) with _ | _ <;> simp [hb]
theorem iq_dg_iff {c c' : Int → Int} {k : Nat} {t t' : Int} (h : ∀ o : Int, 0 ≤ o → o < k → (c o = t ↔ c' o = t')) : iq_dg c k t = iq_dg c' k t' := by
  induction k with
  | zero => rfl
  | succ k ih =>
    rw [iq_dg, iq_dg, ih (fun o a b => h o a (by omega))]
    have := h k (by omega) (by omega)
    by_cases e : c k = t
    · simp [e, this.mp e]
    · have e2 : ¬ c' k = t' := fun x => e (this.mpr x)
      simp [e, e2]
def iq_vr (P : Int → Int) (n : Int) : Int := iq_fo (fun d => iq_sp (iq_t P) (iq_m P) (P 1) d n) (iq_m P).toNat
/-- as the class counts them -/
theorem iq_vrb {g : iq_I} {P : Int → Int} (hp : iq_pb P) (h2 : g 31 2 = P 1) (h3 : g 31 3 = iq_m P) (ht : ∀ d, 0 ≤ d → d < iq_m P → g 32 d = iq_t P d) {n : Int} {y : Int64} (hy : ∀ t, iq_tb y t = true ↔ ∃ d, 0 ≤ d ∧ d < g 31 3 ∧ iq_bt (g 32) (g 31 2) d ((d + n) % g 31 3) = t) : iq_cn (iq_tb y) 64 = iq_vr P n := by
  have hm := iq_mR hp
  have hp1 := hp.2.1
  have hb : ∀ t, iq_tb y t = iq_dg (fun d => iq_bt (iq_t P) (P 1) d ((d + n) % iq_m P)) (iq_m P).toNat t := fun t => iq_beq (by
    rw [hy t, iq_dgi, h2, h3]
    constructor
    · rintro ⟨d, a, b, c⟩
      exact ⟨d, a, by omega, by rw [← c]; exact (iq_bt_congr (ht d a b) (ht _ (Int.emod_nonneg _ (by omega)) (Int.emod_lt_of_pos _ (by omega)))).symm⟩
    · rintro ⟨d, a, b, c⟩
      exact ⟨d, a, by omega, by rw [← c]; exact iq_bt_congr (ht d a (by omega)) (ht _ (Int.emod_nonneg _ (by omega)) (Int.emod_lt_of_pos _ (by omega)))⟩)
  rw [iq_cn_congr (h := iq_dg (fun d => iq_bt (iq_t P) (P 1) d ((d + n) % iq_m P)) (iq_m P).toNat) (fun i _ _ => hb i)]
  rw [iq_fo_ok (n := 64) (iq_m P).toNat (fun d a b => by
    have := iq_btR (iq_trg hp) a (show d < iq_m P by omega) (Int.emod_nonneg (d + n) (show iq_m P ≠ 0 by omega)) (Int.emod_lt_of_pos (d + n) (show 0 < iq_m P by omega))
    omega)]
  unfold iq_vr iq_fo
  refine iq_cn_congr (fun d a b => ?_)
  congr 1
  refine iq_dg_iff (fun o a b => ?_)
  unfold iq_sp
  dsimp only
  omega
def aVariety (P : Int → Int) (n : Int) : Int × Int := if 1 ≤ n ∧ n ≤ 24 then (iq_vr P n, 0) else (-1, 1)
theorem cVariety {N : Nat} {xs : Nat → Int32} {Q : iq_T} {g : iq_I} {l : iq_J} {n : Int} (hs : iq_SR g l 23 24 25 0) (hd : -2147483648 ≤ n ∧ n ≤ 2147483647) (q : ∀ (g' : iq_I) (l' : iq_J), iq_KK g l g' l' → g' 0 0 = (aVariety (g 24) n).2 → Q (some (iq_i (aVariety (g 24) n).1)) g' l') : iq_P N xs 204 0 [some (iq_r 0), some (iq_i n)] [] g l Q := by
  unfold aVariety at q
  have no : ¬ (1 ≤ n ∧ n ≤ 24) → iq_P N xs 44 0 [some (iq_r 0), some (iq_i 1)] [] g l (fun r g1 l2 => ∃ z3, r = some (iq_i z3) ∧ (Q (some (iq_i z3)) g1 l2)) := fun c => by
    rw [if_neg c] at q
    exact sp44 ⟨_, rfl, q _ _ ((iq_KK.refl _ _).uz iq_sx00) (by simp [iq_uz])⟩
  refine B204_0 _ _ _ ⟨by omega, fun c => no (by omega), fun c => ⟨by omega, fun c2 => sp137 hs (fun g' e1 e2 e3 e4 e5 => B204_q22_31 _ _ _ (sp203 (by omega) e5 (fun y hy => ⟨_, rfl, sp90 ⟨_, rfl, ?_⟩⟩))), fun c2 => no (by omega)⟩⟩
  rw [if_pos ⟨c, c2⟩] at q
  rw [iq_vrb hs.1 e2 e3 e4 hy]
  exact q _ _ ((iq_KKr e1).uz iq_sx00) (by simp [iq_uz])
theorem iq_spR {P : Int → Int} (hp : iq_pb P) {d n : Int} (h1 : 0 ≤ d) (h2 : d < iq_m P) (h3 : 0 ≤ n) (h4 : n ≤ 100) : 0 ≤ iq_sp (iq_t P) (iq_m P) (P 1) d n ∧ iq_sp (iq_t P) (iq_m P) (P 1) d n ≤ 10000 := by
  have hm := iq_mR hp
  have hp1 := hp.2.1
  have b := iq_btR (iq_trg hp) h1 h2 (Int.emod_nonneg (d + n) (show iq_m P ≠ 0 by omega)) (Int.emod_lt_of_pos (d + n) (show 0 < iq_m P by omega))
  have e1 : 0 ≤ n / iq_m P := Int.ediv_nonneg h3 (by omega)
  have e2 : n / iq_m P ≤ 100 := by
    have := Int.ediv_le_self (iq_m P) h3
    omega
  have := iq_mulR (a := n / iq_m P) (b := P 1) (x := 100) (y := 60) e1 e2 (by omega) (by omega)
  unfold iq_sp
  omega
theorem sp205i {N : Nat} {xs : Nat → Int32} {Q : iq_T} {g : iq_I} {l : iq_J} {P : Int → Int} {n0 : Int} (hp : iq_pb P) (hl : iq_LS g P) (hn : 0 ≤ n0 ∧ n0 ≤ 100) {d v : Int} (hd : 0 ≤ d ∧ d < iq_m P) (q : ∀ d4 d5, iq_P N xs 205 4 [some (iq_r 77), some (iq_i n0), some (iq_i (v + (if iq_dg (fun d => iq_sp (iq_t P) (iq_m P) (P 1) d n0) d.toNat (iq_sp (iq_t P) (iq_m P) (P 1) d n0) = true then 0 else 1))), some (iq_i (d + 1)), d4, d5] [] g l Q) (n : Nat) : ∀ o : Nat, (o : Int) + n = d → iq_P N xs 205 18 [some (iq_r 77), some (iq_i n0), some (iq_i v), some (iq_i d), some (iq_i (if iq_dg (fun d => iq_sp (iq_t P) (iq_m P) (P 1) d n0) o (iq_sp (iq_t P) (iq_m P) (P 1) d n0) = true then 0 else 1)), some (iq_i o)] [] g l Q := by
  have hm := iq_mR hp
  have hp3 := hp.2.2.2.1
  induction n with
  | zero =>
    intro o h
    rw [show d.toNat = o by omega] at q
    rcases hb : iq_dg (fun d => iq_sp (iq_t P) (iq_m P) (P 1) d n0) o (iq_sp (iq_t P) (iq_m P) (P 1) d n0) with _ | _
    · rw [hb] at q
      exact B205_p18_77 _ _ _ _ _ _ _ ⟨by omega, fun h => ⟨by decide, fun h => by simp at h, fun _ => q _ _⟩, fun h => by omega⟩
    · rw [hb] at q
      exact B205_p18_77 _ _ _ _ _ _ _ ⟨by omega, fun h => ⟨by decide, fun _ => q _ _, fun h => by simp at h⟩, fun h => by omega⟩
  | succ n ih =>
    intro o h
    have := ih (o + 1) (by omega)
    rw [iq_dg] at this
    have r1 := iq_spR hp (show (0 : Int) ≤ o by omega) (show (o : Int) < iq_m P by omega) hn.1 hn.2
    have r2 := iq_spR hp hd.1 hd.2 hn.1 hn.2
    rcases hb : iq_dg (fun d => iq_sp (iq_t P) (iq_m P) (P 1) d n0) o (iq_sp (iq_t P) (iq_m P) (P 1) d n0) with _ | _
    · rw [hb] at this
      refine B205_p18_77 _ _ _ _ _ _ _ ⟨by omega, fun h => by omega, fun h => ⟨by decide, fun h => by simp at h, fun _ => sp164 hp hl ⟨by omega, by omega⟩ (by omega) ⟨_, rfl, sp164 hp hl hd (by omega) ⟨_, rfl, by omega, fun c => ?_, fun c => ?_⟩⟩⟩⟩
      · simp [c] at this
        exact this
      · simp [c] at this
        exact this
    · rw [hb] at this
      refine B205_p18_77 _ _ _ _ _ _ _ ⟨by omega, fun h => by omega, fun h => ⟨by decide, fun _ => ?_, fun h => by simp at h⟩⟩
      simp at this
      exact this
theorem sp205o {N : Nat} {xs : Nat → Int32} {Q : iq_T} {g : iq_I} {l : iq_J} {P : Int → Int} {n0 : Int} (hp : iq_pb P) (hl : iq_LS g P) (hn : 0 ≤ n0 ∧ n0 ≤ 100) (q : Q (some (iq_i (iq_vr P n0))) g l) (n : Nat) : ∀ (d : Nat) (d4 d5 : Option iq_V), (d : Int) + n = iq_m P → iq_P N xs 205 4 [some (iq_r 77), some (iq_i n0), some (iq_i (iq_fo (fun d => iq_sp (iq_t P) (iq_m P) (P 1) d n0) d)), some (iq_i d), d4, d5] [] g l Q := by
  have hm := iq_mR hp
  have hp3 := hp.2.2.2.1
  induction n with
  | zero =>
    intro d d4 d5 h
    unfold iq_vr at q
    rw [show (iq_m P).toNat = d by omega] at q
    exact B205_p4_77 _ _ _ _ _ _ _ ⟨by rw [hl.1]; omega, fun h => q, fun h => by rw [hl.1] at h; omega⟩
  | succ n ih =>
    intro d d4 d5 h
    refine B205_p4_77 _ _ _ _ _ _ _ ⟨by rw [hl.1]; omega, fun h => by rw [hl.1] at h; omega, fun h => ?_⟩
    have := sp205i (N := N) (xs := xs) (Q := Q) (l := l) hp hl hn (d := d) (v := iq_fo (fun d => iq_sp (iq_t P) (iq_m P) (P 1) d n0) d) (by omega) (fun d4 d5 => ?_) d 0 (by omega)
    · rw [iq_dg] at this
      simp at this
      exact this
    · have := ih (d + 1) d4 d5 (by omega)
      unfold iq_fo at this ⊢
      rw [iq_cn] at this
      rw [show ((d : Int)).toNat = d by omega] at this ⊢
      rcases hb : iq_dg (fun d => iq_sp (iq_t P) (iq_m P) (P 1) d n0) d (iq_sp (iq_t P) (iq_m P) (P 1) d n0) with _ | _
      · simp [hb] at this ⊢
        exact this
      · simp [hb] at this ⊢
        exact this
theorem sp205 {N : Nat} {xs : Nat → Int32} {Q : iq_T} {g : iq_I} {l : iq_J} {P : Int → Int} {n0 : Int} (hp : iq_pb P) (hl : iq_LS g P) (hn : 0 ≤ n0 ∧ n0 ≤ 100) (q : Q (some (iq_i (iq_vr P n0))) g l) : iq_P N xs 205 0 [some (iq_r 77), some (iq_i n0), none, none, none, none] [] g l Q := by
  have hm := iq_mR hp
  exact B205_77 _ _ _ (sp205o hp hl hn q (iq_m P).toNat 0 none none (by omega))
theorem mVariety {N : Nat} {xs : Nat → Int32} {Q : iq_T} {g : iq_I} {l : iq_J} {n : Int} (hs : iq_SR g l 23 24 25 0) (hd : -2147483648 ≤ n ∧ n ≤ 2147483647) (q : ∀ (g' : iq_I) (l' : iq_J), iq_KK g l g' l' → g' 0 0 = g 0 0 → g' 77 1 = (aVariety (g 24) n).2 → Q (some (iq_i (aVariety (g 24) n).1)) g' l') : iq_P N xs 206 0 [some (iq_r 77), some (iq_i n)] [] g l Q := by
  unfold aVariety at q
  have en := iq_i2lv hd.1 hd.2
  refine B206_77 _ _ _ (sp149 (fun c c2 => ⟨_, rfl, by omega, fun _ => sp114c hs (fun g' f1 f2 f3 => ⟨rfl, ?_⟩), fun h => by omega⟩) (fun c => ⟨_, rfl, by omega, fun h => by omega, fun _ => sp98 ⟨_, rfl, ?_⟩⟩))
  · rw [en, iq_of641] at c
    rw [en, iq_of24] at c2
    rw [if_pos ⟨c, c2⟩] at q
    have h0 : g' 0 0 = g 0 0 := congrFun (f1 0 (by decide) (.inl (by decide))) 0
    exact sp205 hs.1 f3 (by omega) ⟨_, rfl, sp115 ⟨_, rfl, q _ _ ((iq_KKl f1 f2).uz iq_sx771) (by simp [iq_uz, h0]) (by simp [iq_uz])⟩⟩
  · rw [en, iq_of641, iq_of24] at c
    rw [if_neg c] at q
    exact q _ _ ((iq_KK.refl _ _).uz iq_sx771) (by simp [iq_uz]) (by simp [iq_uz])
theorem iq_vrR {P : Int → Int} (hp : iq_pb P) (n : Int) : 0 ≤ iq_vr P n ∧ iq_vr P n ≤ 60 := by
  have hm := iq_mR hp
  have hp1 := hp.2.1
  have := iq_cn_nonneg (fun d => !iq_dg (fun d => iq_sp (iq_t P) (iq_m P) (P 1) d n) d.toNat ((fun d => iq_sp (iq_t P) (iq_m P) (P 1) d n) d)) (iq_m P).toNat
  unfold iq_vr iq_fo
  omega
/-- all from i on, n of them -/
def iq_aw (f : Int → Bool) : Nat → Int → Bool
  | 0, _ => true
  | n + 1, i => f i && iq_aw f n (i + 1)
def aMyhill (P : Int → Int) : Int := if iq_m P < 2 then 0 else if iq_aw (fun n => decide (iq_vr P n = 2)) (iq_m P - 1).toNat 1 = true then 1 else 0
theorem sp207_p {N : Nat} {xs : Nat → Int32} {Q : iq_T} {g : iq_I} {l : iq_J} {P : Int → Int} (hp : iq_pb P) (h2 : g 31 2 = P 1) (h3 : g 31 3 = iq_m P) (ht : ∀ d, 0 ≤ d → d < iq_m P → g 32 d = iq_t P d) (hr : iq_RG g) (n : Nat) : ∀ i : Int, 1 ≤ i → i + n = iq_m P → Q (some (iq_i (if iq_aw (fun n => decide (iq_vr P n = 2)) n i = true then 1 else 0))) (iq_uz g 0 0 0) l → iq_P N xs 207 21 [some (iq_r 0), some (iq_r 31), some (iq_i i)] [] g l Q := by
  have hm := iq_mR hp
  have hp3 := hp.2.2.2.1
  induction n with
  | zero =>
    intro i h1 h q
    exact B207_p21_31 _ _ _ ⟨by omega, fun h => sp90 ⟨_, rfl, q⟩, fun h => by omega⟩
  | succ n ih =>
    intro i h1 h q
    rw [iq_aw] at q
    refine B207_p21_31 _ _ _ ⟨by omega, fun h => by omega, fun h => sp203 (by omega) hr (fun y hy => ⟨_, rfl, ?_⟩)⟩
    rw [iq_vrb hp h2 h3 ht hy]
    have := iq_vrR hp i
    refine ⟨by omega, fun c => ?_, fun c => sp90 ⟨_, rfl, ?_⟩⟩
    · simp only [c, decide_true, Bool.true_and] at q
      exact ih (i + 1) (by omega) (by omega) q
    · simp [c] at q
      exact q
theorem cMyhill {N : Nat} {xs : Nat → Int32} {Q : iq_T} {g : iq_I} {l : iq_J} (hs : iq_SR g l 23 24 25 0) (q : ∀ (g' : iq_I) (l' : iq_J), iq_KK g l g' l' → g' 0 0 = 0 → Q (some (iq_i (aMyhill (g 24)))) g' l') : iq_P N xs 207 0 [some (iq_r 0), none, none] [] g l Q := by
  unfold aMyhill at q
  have hm := iq_mR hs.1
  have hp3 := hs.1.2.2.2.1
  refine B207_0 _ _ (sp137 hs (fun g' e1 e2 e3 e4 e5 => B207_q4_31 _ _ ⟨by omega, fun c => sp207_p hs.1 e2 e3 e4 e5 (iq_m (g 24) - 1).toNat 1 (by omega) (by omega) ?_, fun c => sp90 ⟨_, rfl, ?_⟩⟩))
  · rw [if_neg (by omega)] at q
    exact q _ _ ((iq_KKr e1).uz iq_sx00) (by simp [iq_uz])
  · rw [if_pos (by omega)] at q
    exact q _ _ ((iq_KKr e1).uz iq_sx00) (by simp [iq_uz])
theorem sp208_p {N : Nat} {xs : Nat → Int32} {Q : iq_T} {g : iq_I} {l : iq_J} {P : Int → Int} (hp : iq_pb P) (hl : iq_LS g P) (n : Nat) : ∀ (i : Int) (b : Bool), 1 ≤ i → i + n = max 1 (iq_m P) → Q (some (iq_i (if (b && iq_aw (fun n => decide (iq_vr P n = 2)) n i) = true then 1 else 0))) (iq_uz g 77 1 0) l → iq_P N xs 208 20 [some (iq_r 77), some (iq_i (if b = true then 1 else 0)), some (iq_i i)] [] g l Q := by
  have hm := iq_mR hp
  have hp3 := hp.2.2.2.1
  have h26 := hl.1
  induction n with
  | zero =>
    intro i b h1 h q
    rw [iq_aw] at q
    cases b
    · exact B208_p20_77 _ _ _ _ ⟨by omega, fun h => ⟨by decide, fun _ => sp115 ⟨_, rfl, by simpa using q⟩, fun h => by simp at h⟩, fun h => by omega⟩
    · exact B208_p20_77 _ _ _ _ ⟨by omega, fun h => ⟨by decide, fun h => by simp at h, fun _ => sp115 ⟨_, rfl, by simpa using q⟩⟩, fun h => by omega⟩
  | succ n ih =>
    intro i b h1 h q
    have hv := iq_vrR hp i
    cases b
    · refine B208_p20_77 _ _ _ _ ⟨by omega, fun h => by omega, fun h => ⟨by decide, fun _ => ⟨by decide, fun _ => sp115 ⟨_, rfl, by simpa using q⟩, fun h => by simp at h⟩, fun h => by simp at h⟩⟩
    · refine B208_p20_77 _ _ _ _ ⟨by omega, fun h => by omega, fun h => ⟨by decide, fun h => by simp at h, fun _ => sp205 hp hl (by omega) ⟨_, rfl, by omega, fun c => ?_, fun c => ?_⟩⟩⟩
      · have := ih (i + 1) false (by omega) (by omega) (by rw [iq_aw] at q; simp [c] at q; simpa using q)
        simpa using this
      · have := ih (i + 1) true (by omega) (by omega) (by rw [iq_aw] at q; simp only [c, decide_true, Bool.true_and] at q; simpa using q)
        simpa using this
theorem mMyhill {N : Nat} {xs : Nat → Int32} {Q : iq_T} {g : iq_I} {l : iq_J} (hs : iq_SR g l 23 24 25 0) (q : ∀ (g' : iq_I) (l' : iq_J), iq_KK g l g' l' → g' 0 0 = g 0 0 → g' 77 1 = 0 → Q (some (iq_i (aMyhill (g 24)))) g' l') : iq_P N xs 208 0 [some (iq_r 77), none, none] [] g l Q := by
  unfold aMyhill at q
  have hm := iq_mR hs.1
  have hp3 := hs.1.2.2.2.1
  refine B208_77 _ _ (sp114c hs (fun g' f1 f2 f3 => ⟨rfl, ?_⟩))
  have h0 : g' 0 0 = g 0 0 := congrFun (f1 0 (by decide) (.inl (by decide))) 0
  have q := q _ _ ((iq_KKl (l := l) f1 f2).uz (v := 0) iq_sx771) (by simp [iq_uz, h0]) (by simp [iq_uz])
  have h26 := f3.1
  refine ⟨by omega, fun c => ?_, fun c => ?_⟩
  · rw [if_pos (by omega)] at q
    exact sp208_p hs.1 f3 0 1 false (by omega) (by omega) (by simpa using q)
  · rw [if_neg (by omega)] at q
    exact sp208_p hs.1 f3 (iq_m (g 24) - 1).toNat 1 true (by omega) (by omega) (by simpa using q)
