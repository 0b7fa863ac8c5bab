/-! Studies as a text in the class: a statement, to its end. -/
theorem sp124 {N : Nat} {xs : Nat → Int32} {Q : iq_T} {g : iq_I} {l : iq_J} {a b : Int} (ha : -10 ≤ a ∧ a ≤ 100) (hb : -10 ≤ b ∧ b ≤ 100) (q : Q (some (iq_i (if a = 6 then 99 else if b < 2 then 59 else 60))) g l) : iq_P N xs 124 0 [some (iq_i a), some (iq_i b)] [] g l Q := by
  refine B124 _ _ _ _ ⟨by omega, fun c => ⟨by omega, fun d => ?_, fun d => ?_⟩, fun c => ?_⟩
  · rw [if_neg c, if_pos d] at q; exact q
  · rw [if_neg c, if_neg (by omega)] at q; exact q
  · rw [if_pos c] at q; exact q
theorem sf_ckR (k : Int) : -1 ≤ sf_ck k ∧ sf_ck k ≤ 8 := by
  unfold sf_ck
  repeat (split; omega)
  omega
section UM
variable {N : Nat} {xs : Nat → Int32} {Q : iq_T} {g0 g : iq_I} {l : iq_J} {A : Int → Int} {n p : Int} {D : Int → Int} {m : Nat}
def sf_opn (k : Int) : Bool := decide (k = 12 ∨ k = 15 ∨ k = 16)
theorem sp125_e {H : iq_I} {v1 v2 v3 v4 : Int} (hs : sf_SS g0 g D m) (h : sf_SM g0 g H (sf_c D m) (sf_ck (sf_kp A n p)) (sf_E D m).length (sf_opn (sf_kp A n p))) (hA : sf_AB H A n) (e3 : H 10 3 = sf_sq A n p) (hq : 0 ≤ sf_sq A n p ∧ sf_sq A n p ≤ n) (hf : sf_hf A n p (sf_E D m).length (sf_c D m) = 0) (k17 : ¬ sf_kp A n p = 17) (hw : sf_kp A n p = 15 → sf_qf A n (sf_te A n p) = 0) (hn : sf_hn (sf_kp A n p) = true → sf_num A n (sf_np A n p) (sf_l2 (sf_kp A n p)) (sf_h2 A n p) = 0) (hT : sf_kp A n p = 15 → H 19 (sf_c D m) = sf_tc A n (sf_te A n p)) (hM : H 20 (sf_c D m) = if sf_hn (sf_kp A n p) = true then sf_tv A n (sf_np A n p) else 0) (q1 : sf_sem A n (sf_sq A n p) = 0 → ∀ g' : iq_I, sf_SS g0 g' (sf_nx A n p D m) (m + 1) → sf_AB g' A n → g' 10 3 = sf_ep A n p → Q (some (iq_i 1)) g' l) (q0 : ¬ sf_sem A n (sf_sq A n p) = 0 → ∀ g' : iq_I, sf_SK g0 g' → g' 10 7 = sf_sem A n (sf_sq A n p) → g' 10 8 = sf_ts A n (sf_sq A n p) → Q (some (iq_i 0)) g' l) : iq_P N xs 125 267 [some (iq_r 16), some (iq_i v1), some (iq_i v2), some (iq_i v3), some (iq_i v4)] [] H l Q := by
  refine B125_p267_16 _ _ _ _ _ _ (sp84 hA e3 hq (fun c g' r t => ⟨_, rfl, .inr rfl, q1 c g' ?_ (hA.k r) t.1⟩) (fun c g' r f7 f8 => ⟨_, rfl, .inl rfl, q0 c g' (h.1.rk r (by omega)) f7 f8⟩))
  exact sf_SM.fin hs (h.rk r) hf k17 hw hn (fun e => by rw [r.1 19 (by decide)]; exact hT e) (by rw [r.1 20 (by decide)]; exact hM)
theorem sf_sf0 {d c : Nat} (hf : sf_hf A n p d c = 0) (hw : sf_kp A n p = 15 → sf_qf A n (sf_te A n p) = 0) (hn : sf_hn (sf_kp A n p) = true → sf_num A n (sf_np A n p) (sf_l2 (sf_kp A n p)) (sf_h2 A n p) = 0) : sf_sf A n p d c = (sf_sem A n (sf_sq A n p), sf_ts A n (sf_sq A n p)) := by
  unfold sf_sf
  rw [if_neg (fun h => h hf), if_neg (fun h => h.2 (hw h.1)), if_neg (fun h => h.2 (hn h.1))]
theorem sf_sf1 {d c : Nat} (hf : sf_hf A n p d c = 0) (hw : sf_kp A n p = 15 → sf_qf A n (sf_te A n p) = 0) (b : sf_hn (sf_kp A n p) = true) (hn : ¬ sf_num A n (sf_np A n p) (sf_l2 (sf_kp A n p)) (sf_h2 A n p) = 0) : sf_sf A n p d c = (sf_num A n (sf_np A n p) (sf_l2 (sf_kp A n p)) (sf_h2 A n p), sf_ts A n (sf_np A n p)) := by
  unfold sf_sf
  rw [if_neg (fun h => h hf), if_neg (fun h => h.2 (hw h.1)), if_pos ⟨b, hn⟩]
theorem sf_npR (hp : 0 ≤ p ∧ p ≤ n) : 0 ≤ sf_np A n p ∧ sf_np A n p ≤ n ∧ sf_te A n p ≤ sf_np A n p := by
  have a := sf_teR (A := A) hp
  have a' := sf_tsR (A := A) hp
  have hq : 0 ≤ sf_te A n p ∧ sf_te A n p ≤ n := by omega
  have b := sf_teR (A := A) hq
  have b' := sf_tsR (A := A) hq
  have hr : 0 ≤ sf_te A n (sf_te A n p) ∧ sf_te A n (sf_te A n p) ≤ n := by omega
  have c := sf_teR (A := A) hr
  have c' := sf_tsR (A := A) hr
  unfold sf_np sf_qa
  split
  · split <;> omega
  · omega
theorem sf_sqR (hp : 0 ≤ p ∧ p ≤ n) : 0 ≤ sf_sq A n p ∧ sf_sq A n p ≤ n ∧ sf_te A n p ≤ sf_sq A n p := by
  have a := sf_npR (A := A) hp
  have hq : 0 ≤ sf_np A n p ∧ sf_np A n p ≤ n := by omega
  have b := sf_teR (A := A) hq
  have b' := sf_tsR (A := A) hq
  have c := sf_teR (A := A) hp
  have c' := sf_tsR (A := A) hp
  unfold sf_sq
  split <;> omega
theorem sp125_177 {H : iq_I} {v3 : Int} (hs : sf_SS g0 g D m) (h : sf_SM g0 g H (sf_c D m) (sf_ck (sf_kp A n p)) (sf_E D m).length (sf_opn (sf_kp A n p))) (hA : sf_AB H A n) (e3 : H 10 3 = sf_np A n p) (hp : 0 ≤ p ∧ p ≤ n) (hf : sf_hf A n p (sf_E D m).length (sf_c D m) = 0) (kk : sf_kp A n p = 5 ∨ (10 ≤ sf_kp A n p ∧ sf_kp A n p ≤ 18)) (c30 : sf_c D m < 30) (k17 : ¬ sf_kp A n p = 17) (hw : sf_kp A n p = 15 → sf_qf A n (sf_te A n p) = 0) (hT : H 19 (sf_c D m) = if sf_kp A n p = 15 then sf_tc A n (sf_te A n p) else -1) (q1 : (sf_sf A n p (sf_E D m).length (sf_c D m)).1 = 0 → ∀ g' : iq_I, sf_SS g0 g' (sf_nx A n p D m) (m + 1) → sf_AB g' A n → g' 10 3 = sf_ep A n p → Q (some (iq_i 1)) g' l) (q0 : ¬ (sf_sf A n p (sf_E D m).length (sf_c D m)).1 = 0 → ∀ g' : iq_I, sf_SK g0 g' → g' 10 7 = (sf_sf A n p (sf_E D m).length (sf_c D m)).1 → g' 10 8 = (sf_sf A n p (sf_E D m).length (sf_c D m)).2 → Q (some (iq_i 0)) g' l) : iq_P N xs 125 177 [some (iq_r 16), some (iq_i (sf_ck (sf_kp A n p))), some (iq_i (sf_c D m)), some (iq_i v3), none] [] H l Q := by
  have sqR := sf_sqR (A := A) hp
  have npR := sf_npR (A := A) hp
  have ckR := sf_ckR (sf_kp A n p)
  have u20 : ∀ (G : iq_I) (x : Int), (iq_uz G 20 (sf_c D m) x) 20 (sf_c D m) = x := fun G x => by simp [iq_uz]
  have smu : ∀ (G : iq_I) (x : Int), sf_SM g0 g G (sf_c D m) (sf_ck (sf_kp A n p)) (sf_E D m).length (sf_opn (sf_kp A n p)) → sf_SM g0 g (iq_uz G 20 (sf_c D m) x) (sf_c D m) (sf_ck (sf_kp A n p)) (sf_E D m).length (sf_opn (sf_kp A n p)) := fun G x z => z.keep (fun j _ _ y => sf_uzn _ y _ _) (fun i _ => by rw [sf_uzn _ (by decide)]) (fun i _ => by rw [sf_uzn _ (by decide)]) (fun i y => by simp [iq_uz, y])
  have abu : ∀ (G : iq_I) (x : Int), sf_AB G A n → sf_AB (iq_uz G 20 (sf_c D m) x) A n := fun G x z => ⟨by rw [sf_uzn _ (by decide)]; exact z.1, z.2.1, by rw [sf_uzn _ (by decide)]; exact z.2.2⟩
  by_cases b : sf_hn (sf_kp A n p) = true
  · have esq : sf_sq A n p = sf_te A n (sf_np A n p) := by unfold sf_sq; rw [if_pos b]
    have kn : ¬ sf_kp A n p = 13 ∧ ¬ sf_kp A n p = 14 ∧ ¬ sf_kp A n p = 18 := by
      refine ⟨fun e => ?_, fun e => ?_, fun e => ?_⟩ <;> rw [e] at b <;> cases b
    have nck : ¬ sf_ck (sf_kp A n p) = 3 ∧ ¬ sf_ck (sf_kp A n p) = 7 ∧ ¬ sf_ck (sf_kp A n p) = 8 := by
      have : sf_kp A n p = 5 ∨ sf_kp A n p = 10 ∨ sf_kp A n p = 11 ∨ sf_kp A n p = 12 ∨ sf_kp A n p = 15 ∨ sf_kp A n p = 16 := by omega
      rcases this with e | e | e | e | e | e <;> rw [e] <;> decide
    have ck6 : sf_ck (sf_kp A n p) = 6 ↔ sf_kp A n p = 16 := by
      have : sf_kp A n p = 5 ∨ sf_kp A n p = 10 ∨ sf_kp A n p = 11 ∨ sf_kp A n p = 12 ∨ sf_kp A n p = 15 ∨ sf_kp A n p = 16 := by omega
      rcases this with e | e | e | e | e | e <;> rw [e] <;> decide
    have hTR : -1 ≤ H 19 (sf_c D m) ∧ H 19 (sf_c D m) ≤ 4 := by
      rw [hT]
      unfold sf_tc
      repeat (split; omega)
      omega
    have hhi : (if sf_ck (sf_kp A n p) = 6 then 99 else if H 19 (sf_c D m) < 2 then 59 else 60) = sf_h2 A n p := by
      unfold sf_h2
      by_cases e : sf_kp A n p = 16
      · rw [if_pos (ck6.mpr e), if_pos e]
      · rw [if_neg (fun z => e (ck6.mp z)), if_neg e, hT]
        by_cases e5 : sf_kp A n p = 15
        · rw [if_pos e5]
          have w := hw e5
          have w9 : sf_kp A n (sf_te A n p) = 9 ∨ 19 ≤ sf_kp A n (sf_te A n p) := by
            unfold sf_qf at w
            split at w
            · split at w <;> omega
            · omega
          have kR := sf_kpR A n (sf_te A n p)
          unfold sf_tc
          by_cases c20 : sf_kp A n (sf_te A n p) = 20
          · rw [if_neg (c := sf_kp A n (sf_te A n p) = 9) (by omega), if_neg (c := sf_kp A n (sf_te A n p) = 19) (by omega), if_pos (c := sf_kp A n p = 15 ∧ _) ⟨e5, c20⟩, if_neg]
            split
            · omega
            split <;> omega
          · rw [if_neg (c := sf_kp A n p = 15 ∧ _) (fun z => c20 z.2), if_pos]
            split
            · omega
            · rw [if_pos (by omega)]; omega
        · rw [if_neg e5, if_pos (by omega), if_neg (fun z => e5 z.1)]
    have hiR : 59 ≤ sf_h2 A n p ∧ sf_h2 A n p ≤ 99 := by
      unfold sf_h2
      split
      · omega
      split <;> omega
    have main : ∀ lo : Int, lo = sf_l2 (sf_kp A n p) → (0 ≤ lo ∧ lo ≤ 1) → iq_P N xs 82 0 [some (iq_r 10), some (iq_i lo), some (iq_i (sf_h2 A n p))] [] H l (fun r g1 l2 => ∃ z1, r = some (iq_i z1) ∧ ((-2147483648 ≤ z1 ∧ z1 ≤ 2147483647) ∧ (¬ z1 = (0 : Int) → (iq_P N xs 125 242 [some (iq_r 16), some (iq_i (sf_ck (sf_kp A n p))), some (iq_i (sf_c D m)), some (iq_i v3), some (iq_i 0)] [] g1 l2 Q)) ∧ (z1 = (0 : Int) → (iq_P N xs 125 240 [some (iq_r 16), some (iq_i (sf_ck (sf_kp A n p))), some (iq_i (sf_c D m)), some (iq_i v3), some (iq_i 0)] [] g1 l2 Q)))) := by
      intro lo el lR
      refine sp82 hA e3 (by omega) (by omega) (by omega) (fun c G r t => ⟨_, rfl, by omega, fun _ => ?_, fun x => by omega⟩) (fun c G r f7 f8 => ⟨_, rfl, by omega, fun x => absurd rfl x, fun _ => ?_⟩)
      · rw [el] at c
        have e0 := sf_sf0 hf hw (fun _ => c)
        rw [e0] at q1 q0
        refine B125_p242_16 _ _ _ _ _ _ ⟨by omega, fun _ => ⟨by omega, ?_⟩, fun x => absurd rfl x⟩
        refine sp125_e hs (smu G _ (h.rk r)) (abu G _ (hA.k r)) (by rw [sf_uzn _ (by decide), esq]; exact t.1) (by omega) hf k17 hw (fun _ => c) (fun e => by rw [sf_uzn _ (by decide), r.1 19 (by decide), hT, if_pos e]) ?_ q1 q0
        rw [u20, if_pos b]
        exact t.2.2.2 (.inl (sf_num0 c).1)
      · rw [el] at c f7
        have e0 := sf_sf1 hf hw b c
        rw [e0] at q0
        exact B125_p240_16 _ _ _ _ _ _ (q0 c G (h.1.rk r (by omega)) f7 f8)
    refine B125_p177_16 _ _ _ _ _ ⟨by omega, fun x => absurd x nck.1, fun _ => B125_p182_16 _ _ _ _ _ ⟨by omega, fun x => absurd x nck.2.1, fun _ => ⟨by omega, fun _ => B125_p201_16 _ _ _ _ _ _ ⟨by omega, fun x => absurd rfl x, fun _ => ⟨by omega, fun c6 => ⟨by omega, sp124 (by omega) (by omega) ⟨_, rfl, ?_⟩⟩, fun c6 => ⟨by omega, sp124 (by omega) (by omega) ⟨_, rfl, ?_⟩⟩⟩⟩, fun x => absurd x nck.2.2⟩⟩⟩
    · rw [hhi]
      exact main 0 (by unfold sf_l2; rw [if_neg (fun z => c6 (ck6.mpr z))]) (by omega)
    · rw [hhi]
      exact main 1 (by unfold sf_l2; rw [if_pos (ck6.mp c6)]) (by omega)
  · have kn : sf_kp A n p = 13 ∨ sf_kp A n p = 14 ∨ sf_kp A n p = 18 := by
      have : sf_hn (sf_kp A n p) = false := by simpa using b
      unfold sf_hn at this
      simp at this
      omega
    have ckn : sf_ck (sf_kp A n p) = 3 ∨ sf_ck (sf_kp A n p) = 7 ∨ sf_ck (sf_kp A n p) = 8 := by
      rcases kn with e | e | e <;> rw [e] <;> decide
    have k15 : ¬ sf_kp A n p = 15 := by omega
    have enp : sf_np A n p = sf_te A n p := by unfold sf_np; rw [if_neg k15]
    have esq : sf_sq A n p = sf_te A n p := by unfold sf_sq; rw [if_neg b]
    have e0 := sf_sf0 hf hw (fun z => absurd z b)
    rw [e0] at q1 q0
    have z194 : iq_P N xs 125 194 [some (iq_r 16), some (iq_i (sf_ck (sf_kp A n p))), some (iq_i (sf_c D m)), some (iq_i v3), none] [] H l Q := by
      refine B125_p194_16 _ _ _ _ _ (B125_p201_16 _ _ _ _ _ _ ⟨by omega, fun _ => B125_p242_16 _ _ _ _ _ _ ⟨by omega, fun x => by omega, fun _ => ⟨by omega, ?_⟩⟩, fun x => by omega⟩)
      exact sp125_e hs (smu H _ h) (abu H _ hA) (by rw [sf_uzn _ (by decide), esq, ← enp]; exact e3) (by omega) hf k17 hw (fun z => absurd z b) (fun z => absurd z k15) (by rw [u20, if_neg b]) q1 q0
    exact B125_p177_16 _ _ _ _ _ ⟨by omega, fun _ => z194, fun x => B125_p182_16 _ _ _ _ _ ⟨by omega, fun _ => z194, fun y => ⟨by omega, fun w => by omega, fun _ => z194⟩⟩⟩
end UM
