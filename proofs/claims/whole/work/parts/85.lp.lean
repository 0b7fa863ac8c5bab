/-! Studies lived: one turn after the other, as plain values. X 0: what a life holds, X 1: open, X 2: rounds, X 3: log, X 4: parts, X 5: pressed, X 6 0: how many; S: what sounds. -/
def sf_top (X : iq_I) : Int := X 1 (X 0 7 - 1)
def sf_ae (B : Int → Int) (X : iq_I) : Bool := decide (0 < X 0 7) && decide (X 0 3 = B (sf_top X))
def sf_rlS (S : Int64) (t : Int) : Int64 := if iq_tb S t = true then S &&& (iq_of t ^^^ Int64.ofNat 18446744073709551615) else S
def sf_dX (X : iq_I) (t : Int) : iq_I := iq_uz (if X 0 13 < 60 then iq_uz X 3 (X 0 13) t else X) 0 13 (X 0 13 + 1)
def sf_eX (K M : Int → Int) (X : iq_I) : iq_I := if K (sf_top X) = 4 then sf_dX (iq_uz X 0 7 (X 0 7 - 1)) (M (sf_top X)) else if 0 < X 2 (X 0 7 - 1) - 1 then iq_uz (iq_uz X 2 (X 0 7 - 1) (X 2 (X 0 7 - 1) - 1)) 0 3 (sf_top X + 1) else iq_uz (iq_uz X 2 (X 0 7 - 1) (X 2 (X 0 7 - 1) - 1)) 0 7 (X 0 7 - 1)
def sf_eS (K M : Int → Int) (X : iq_I) (S : Int64) : Int64 := if K (sf_top X) = 4 then sf_rlS S (M (sf_top X)) else S
def sf_cX (n : Int) (X : iq_I) : iq_I := if X 0 3 < n then (if X 0 9 < 300 then iq_uz (iq_uz (iq_uz X 0 14 0) 0 4 0) 0 9 (X 0 9 + 1) else iq_uz (iq_uz (iq_uz X 0 14 1) 0 4 1) 0 9 (X 0 9)) else iq_uz (iq_uz (iq_uz X 0 14 0) 0 4 1) 0 9 (X 0 9)
def sf_can (X : iq_I) (S : Int64) (t : Int) : Bool := decide (0 ≤ t) && decide (t < X 4 1) && !iq_tb S t
def sf_sX (X : iq_I) (S : Int64) (t : Int) : iq_I := if sf_can X S t = true then iq_uz (iq_uz (iq_rz X 5 (sf_sh (X 5) t)) 6 0 (min (X 6 0 + 1) 12)) 0 11 (X 0 11 + 1) else iq_uz X 0 10 (X 0 10 + 1)
def sf_sS (X : iq_I) (S : Int64) (t : Int) : Int64 := if sf_can X S t = true then S ||| iq_of t else S
def sf_lX (X : iq_I) (S : Int64) (t : Int) : iq_I := if iq_tb S t = true then iq_uz X 0 12 (X 0 12 + 1) else iq_uz X 0 10 (X 0 10 + 1)
def sf_mv (X : iq_I) (t : Int) : Bool := decide (0 ≤ t) && decide (t < X 4 1) && !decide (X 4 5 = t)
def sf_mX (X : iq_I) (t : Int) : iq_I := if sf_mv X t = true then iq_uz X 4 5 t else iq_uz X 0 10 (X 0 10 + 1)
def sf_dw (d : Int) : Int := (d * 3293 + 11527) % 65536
def sf_an (X : iq_I) : Bool := decide (sf_dw (sf_dw (X 0 2)) / 8 % 16 < X 4 0)
def sf_at (X : iq_I) : Int := sf_dw (X 0 2) / 8 % X 4 1
def sf_aX (X : iq_I) (S : Int64) : iq_I := if sf_an X = true then sf_lX (iq_uz X 0 2 (sf_dw (sf_dw (X 0 2)))) S (sf_at X) else sf_sX (iq_uz X 0 2 (sf_dw (sf_dw (X 0 2)))) S (sf_at X)
def sf_aS (X : iq_I) (S : Int64) : Int64 := if sf_an X = true then sf_rlS S (sf_at X) else sf_sS X S (sf_at X)
def sf_nX (B : Int → Int) (X : iq_I) (b : Bool) (s w : Int) : iq_I := if b = true ∧ X 0 7 < 3 then iq_uz (iq_uz (iq_uz X 1 (X 0 7) s) 2 (X 0 7) w) 0 7 (X 0 7 + 1) else iq_uz X 0 3 (B s)
def sf_so (X : iq_I) (S : Int64) (t m : Int) : Bool := if t = 0 then iq_tb S m else if t = 1 then iq_f (X 4) m else if t = 2 then decide (aFit (X 4) S < m) else if t = 3 then decide (m < aFit (X 4) S) else decide (aFit (X 4) S = m)
def sf_vX (K B : Int → Int) : Nat → iq_I → iq_I
  | 0, X => iq_uz X 0 4 1
  | k + 1, X => if K (sf_top X) = 4 then iq_uz X 0 3 (B (sf_top X)) else sf_vX K B k (iq_uz X 0 7 (X 0 7 - 1))
def sf_oX (K T M B : Int → Int) (X : iq_I) (S : Int64) (s : Int) : iq_I :=
  if K s = 0 then sf_sX X S (M s) else if K s = 1 then sf_lX X S (M s) else if K s = 2 then sf_mX X (M s) else if K s = 3 then sf_aX X S else if K s = 4 then sf_nX B (sf_sX X S (M s)) (sf_can X S (M s)) s 1 else if K s = 5 then (if sf_so X S (T s) (M s) = true then X else iq_uz X 0 3 (B s)) else if K s = 6 then sf_nX B X (decide (s + 1 < B s)) s (M s) else if K s = 7 then sf_vX K B (X 0 7).toNat X else iq_uz X 0 4 1
def sf_oS (K M : Int → Int) (X : iq_I) (S : Int64) (s : Int) : Int64 :=
  if K s = 0 then sf_sS X S (M s) else if K s = 1 then sf_rlS S (M s) else if K s = 3 then sf_aS X S else if K s = 4 then sf_sS X S (M s) else S
/-- the STEP begun: where it goes on -/
def sf_bX (n : Int) (X : iq_I) : iq_I := iq_uz (sf_cX n X) 0 3 (X 0 3 + 1)
def sf_go (n : Int) (X : iq_I) : Bool := decide (X 0 3 < n) && decide (X 0 9 < 300)
def sf_tX (n : Int) (K T M B : Int → Int) (X : iq_I) (S : Int64) : iq_I := if sf_ae B X = true then sf_eX K M X else if sf_go n X = true then sf_oX K T M B (sf_bX n X) S (X 0 3) else sf_cX n X
def sf_tS (n : Int) (K M B : Int → Int) (X : iq_I) (S : Int64) : Int64 := if sf_ae B X = true then sf_eS K M X S else if sf_go n X = true then sf_oS K M (sf_bX n X) S (X 0 3) else S
def sf_lp (n : Int) (K T M B : Int → Int) : Nat → iq_I → Int64 → iq_I × Int64
  | 0, X, S => (X, S)
  | f + 1, X, S => if X 0 4 = 0 then sf_lp n K T M B f (sf_tX n K T M B X S) (sf_tS n K M B X S) else (X, S)
def sf_gX (K M : Int → Int) : Nat → iq_I → Int64 → iq_I × Int64
  | 0, X, S => (X, S)
  | k + 1, X, S => if K (sf_top X) = 4 then sf_gX K M k (iq_uz (sf_dX X (M (sf_top X))) 0 7 (X 0 7 - 1)) (sf_rlS S (M (sf_top X))) else sf_gX K M k (iq_uz X 0 7 (X 0 7 - 1)) S
def sf_iX (X : iq_I) (a : Int) : iq_I := iq_uz (iq_uz (iq_uz (iq_uz (iq_uz (iq_uz (iq_uz (iq_uz (iq_uz (iq_uz (iq_uz X 0 2 a) 0 3 0) 0 4 0) 0 7 0) 0 8 1) 0 9 0) 0 10 0) 0 11 0) 0 12 0) 0 13 0) 0 14 0
def sf_run (n : Int) (K T M B : Int → Int) (X : iq_I) (S : Int64) (a : Int) : iq_I × Int64 := sf_gX K M ((sf_lp n K T M B 10000 (sf_iX X a) S).1 0 7).toNat (sf_lp n K T M B 10000 (sf_iX X a) S).1 (sf_lp n K T M B 10000 (sf_iX X a) S).2
/-! what stays true -/
def sf_GP (n : Int) (K T M B : Int → Int) : Prop := (0 ≤ n ∧ n ≤ 30) ∧ ∀ i, 0 ≤ i → i < n → (0 ≤ K i ∧ K i ≤ 8) ∧ (K i = 5 → 0 ≤ T i ∧ T i ≤ 4) ∧ (0 ≤ M i ∧ M i ≤ 99) ∧ (0 ≤ B i ∧ B i ≤ n) ∧ (K i = 6 → 1 ≤ M i)
def sf_GX (n b : Int) (X : iq_I) : Prop := (0 ≤ X 0 3 ∧ X 0 3 ≤ n) ∧ (X 0 4 = 0 ∨ X 0 4 = 1) ∧ (0 ≤ X 0 7 ∧ X 0 7 ≤ 3) ∧ (∀ i, 0 ≤ i → i < X 0 7 → (0 ≤ X 1 i ∧ X 1 i < n) ∧ (1 ≤ X 2 i ∧ X 2 i ≤ 99)) ∧ (0 ≤ X 0 2 ∧ X 0 2 < 65536) ∧ (0 ≤ X 0 9 ∧ X 0 9 ≤ 300) ∧ (0 ≤ X 0 13 ∧ X 0 13 ≤ b) ∧ (∀ k, 0 ≤ k → k < X 0 13 → k < 60 → 0 ≤ X 3 k ∧ X 3 k ≤ 99)
