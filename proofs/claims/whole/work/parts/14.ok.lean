/-! All that the theorem asks of the tables. -/
theorem ij_yk_all : ∀ y, y < 362 → ij_yk y = true := by
  intro y hy
  have key : ∀ a n, (List.range' a n).all ij_yk = true → a ≤ y → y < a + n → ij_yk y = true := fun a n h h1 h2 => List.all_eq_true.mp h y (List.mem_range'_1.mpr ⟨h1, h2⟩)
  rcases Nat.lt_or_ge y 30 with h0 | h0
  · exact key 0 30 ij_yk0 (by omega) (by omega)
  rcases Nat.lt_or_ge y 60 with h1 | h1
  · exact key 30 30 ij_yk30 (by omega) (by omega)
  rcases Nat.lt_or_ge y 90 with h2 | h2
  · exact key 60 30 ij_yk60 (by omega) (by omega)
  rcases Nat.lt_or_ge y 120 with h3 | h3
  · exact key 90 30 ij_yk90 (by omega) (by omega)
  rcases Nat.lt_or_ge y 150 with h4 | h4
  · exact key 120 30 ij_yk120 (by omega) (by omega)
  rcases Nat.lt_or_ge y 180 with h5 | h5
  · exact key 150 30 ij_yk150 (by omega) (by omega)
  rcases Nat.lt_or_ge y 210 with h6 | h6
  · exact key 180 30 ij_yk180 (by omega) (by omega)
  rcases Nat.lt_or_ge y 240 with h7 | h7
  · exact key 210 30 ij_yk210 (by omega) (by omega)
  rcases Nat.lt_or_ge y 270 with h8 | h8
  · exact key 240 30 ij_yk240 (by omega) (by omega)
  rcases Nat.lt_or_ge y 300 with h9 | h9
  · exact key 270 30 ij_yk270 (by omega) (by omega)
  rcases Nat.lt_or_ge y 330 with h10 | h10
  · exact key 300 30 ij_yk300 (by omega) (by omega)
  rcases Nat.lt_or_ge y 360 with h11 | h11
  · exact key 330 30 ij_yk330 (by omega) (by omega)
  exact key 360 2 ij_yk360 (by omega) (by omega)
theorem ij_dk_all : ∀ y, y < 361 → ij_dk y = true := by
  intro y hy
  have key : ∀ a n, (List.range' a n).all ij_dk = true → a ≤ y → y < a + n → ij_dk y = true := fun a n h h1 h2 => List.all_eq_true.mp h y (List.mem_range'_1.mpr ⟨h1, h2⟩)
  rcases Nat.lt_or_ge y 19 with h0 | h0
  · exact key 0 19 ij_dk0 (by omega) (by omega)
  rcases Nat.lt_or_ge y 47 with h1 | h1
  · exact key 19 28 ij_dk19 (by omega) (by omega)
  rcases Nat.lt_or_ge y 72 with h2 | h2
  · exact key 47 25 ij_dk47 (by omega) (by omega)
  rcases Nat.lt_or_ge y 96 with h3 | h3
  · exact key 72 24 ij_dk72 (by omega) (by omega)
  rcases Nat.lt_or_ge y 108 with h4 | h4
  · exact key 96 12 ij_dk96 (by omega) (by omega)
  rcases Nat.lt_or_ge y 117 with h5 | h5
  · exact key 108 9 ij_dk108 (by omega) (by omega)
  rcases Nat.lt_or_ge y 125 with h6 | h6
  · exact key 117 8 ij_dk117 (by omega) (by omega)
  rcases Nat.lt_or_ge y 129 with h7 | h7
  · exact key 125 4 ij_dk125 (by omega) (by omega)
  rcases Nat.lt_or_ge y 131 with h8 | h8
  · exact key 129 2 ij_dk129 (by omega) (by omega)
  rcases Nat.lt_or_ge y 132 with h9 | h9
  · exact key 131 1 ij_dk131 (by omega) (by omega)
  rcases Nat.lt_or_ge y 162 with h10 | h10
  · exact key 132 30 ij_dk132 (by omega) (by omega)
  rcases Nat.lt_or_ge y 192 with h11 | h11
  · exact key 162 30 ij_dk162 (by omega) (by omega)
  rcases Nat.lt_or_ge y 222 with h12 | h12
  · exact key 192 30 ij_dk192 (by omega) (by omega)
  rcases Nat.lt_or_ge y 251 with h13 | h13
  · exact key 222 29 ij_dk222 (by omega) (by omega)
  rcases Nat.lt_or_ge y 271 with h14 | h14
  · exact key 251 20 ij_dk251 (by omega) (by omega)
  rcases Nat.lt_or_ge y 287 with h15 | h15
  · exact key 271 16 ij_dk271 (by omega) (by omega)
  rcases Nat.lt_or_ge y 294 with h16 | h16
  · exact key 287 7 ij_dk287 (by omega) (by omega)
  rcases Nat.lt_or_ge y 302 with h17 | h17
  · exact key 294 8 ij_dk294 (by omega) (by omega)
  rcases Nat.lt_or_ge y 310 with h18 | h18
  · exact key 302 8 ij_dk302 (by omega) (by omega)
  rcases Nat.lt_or_ge y 317 with h19 | h19
  · exact key 310 7 ij_dk310 (by omega) (by omega)
  rcases Nat.lt_or_ge y 331 with h20 | h20
  · exact key 317 14 ij_dk317 (by omega) (by omega)
  rcases Nat.lt_or_ge y 343 with h21 | h21
  · exact key 331 12 ij_dk331 (by omega) (by omega)
  rcases Nat.lt_or_ge y 347 with h22 | h22
  · exact key 343 4 ij_dk343 (by omega) (by omega)
  exact key 347 14 ij_dk347 (by omega) (by omega)
theorem ij_three {α : Type} {l : List α} {f : α → Bool} (h0 : ((l.drop 0).take 50).all f = true) (h1 : ((l.drop 50).take 50).all f = true) (h2 : ((l.drop 100).take 50).all f = true) (hl : l.length ≤ 150) : l.all f = true := by
  have e : l = (l.drop 0).take 50 ++ ((l.drop 50).take 50 ++ (l.drop 100).take 50) := by
    rw [List.drop_zero]
    have a1 : (l.drop 100).take 50 = l.drop 100 := List.take_of_length_le (by simp; omega)
    have a2 : l.drop 100 = (l.drop 50).drop 50 := by rw [List.drop_drop]
    rw [a1, a2, List.take_append_drop, List.take_append_drop]
  rw [e, List.all_append, List.all_append, h0, h1, h2]
  rfl
theorem ij_dlk0 : ij_t361_0.all (fun q => decide (decode (ij_bt 361) q.1 = .ok (q.2.1, q.2.2.1))) = true := ij_three ij_dl0_0 ij_dl0_1 ij_dl0_2 (by decide +kernel)
theorem ij_dlk1 : ij_t361_1.all (fun q => decide (decode (ij_bt 361) q.1 = .ok (q.2.1, q.2.2.1))) = true := ij_three ij_dl1_0 ij_dl1_1 ij_dl1_2 (by decide +kernel)
theorem ij_dlk2 : ij_t361_2.all (fun q => decide (decode (ij_bt 361) q.1 = .ok (q.2.1, q.2.2.1))) = true := ij_three ij_dl2_0 ij_dl2_1 ij_dl2_2 (by decide +kernel)
theorem ij_dlk3 : ij_t361_3.all (fun q => decide (decode (ij_bt 361) q.1 = .ok (q.2.1, q.2.2.1))) = true := ij_three ij_dl3_0 ij_dl3_1 ij_dl3_2 (by decide +kernel)
theorem ij_dlk4 : ij_t361_4.all (fun q => decide (decode (ij_bt 361) q.1 = .ok (q.2.1, q.2.2.1))) = true := ij_three ij_dl4_0 ij_dl4_1 ij_dl4_2 (by decide +kernel)
theorem ij_dlk5 : ij_t361_5.all (fun q => decide (decode (ij_bt 361) q.1 = .ok (q.2.1, q.2.2.1))) = true := ij_three ij_dl5_0 ij_dl5_1 ij_dl5_2 (by decide +kernel)
theorem ij_dlk6 : ij_t361_6.all (fun q => decide (decode (ij_bt 361) q.1 = .ok (q.2.1, q.2.2.1))) = true := ij_three ij_dl6_0 ij_dl6_1 ij_dl6_2 (by decide +kernel)
theorem ij_dlk7 : ij_t361_7.all (fun q => decide (decode (ij_bt 361) q.1 = .ok (q.2.1, q.2.2.1))) = true := ij_three ij_dl7_0 ij_dl7_1 ij_dl7_2 (by decide +kernel)
theorem ij_dlk8 : ij_t361_8.all (fun q => decide (decode (ij_bt 361) q.1 = .ok (q.2.1, q.2.2.1))) = true := ij_three ij_dl8_0 rfl rfl (by decide +kernel)
theorem ij_dk_law : ij_dk 361 = true := by
  show (ij_tab 361).all _ = true
  rw [show ij_tab 361 = ij_t361 from rfl]
  unfold ij_t361
  simp only [List.all_append, ij_dlk0, ij_dlk1, ij_dlk2, ij_dlk3, ij_dlk4, ij_dlk5, ij_dlk6, ij_dlk7, ij_dlk8, Bool.and_self]
theorem ij_dk_every : ∀ y, y < 362 → ij_dk y = true := by
  intro y hy
  by_cases h : y < 361
  · exact ij_dk_all y h
  · rw [show y = 361 by omega]
    exact ij_dk_law
theorem ij_Ok0 : ij_Ok ij_G0 ij_Z0 ij_X0 ij_ty0 ij_gw ij_n1 ij_n2 ij_sr ij_cl := by
  refine ⟨?_, fun ci h w hw => ij_lw w (List.mem_flatMap.mpr ⟨ci, List.mem_range.mpr h, hw⟩), ?_, ?_, ?_, ?_, ⟨rfl, rfl, rfl⟩, fun w hw => good_of_word (List.mem_filter.mp hw).2, ?_⟩
  · intro ci h
    match ci, h with
    | 0, _ => rfl
    | 1, _ => rfl
    | 2, _ => rfl
    | 3, _ => rfl
    | 4, _ => rfl
    | 5, _ => rfl
    | 6, _ => rfl
    | 7, _ => rfl
    | 8, _ => rfl
    | 9, _ => rfl
    | 10, _ => rfl
    | 11, _ => rfl
    | n + 12, h => omega
  · show ∀ ci, ci < 12 → ∀ k, k < ij_nf ci → parseFieldDescriptor (ij_tx ci k).2.2.1 = some (ij_ty0 ci k)
    decide +kernel
  · show ∀ ci, ci < 12 → ∀ k, k < ij_nf ci → ij_tk (ij_ty0 ci k) = ij_tt ci k
    decide +kernel
  · show ∀ ci, ci < 12 → ∀ k, k < ij_nf ci → ij_tt ci k < 4
    decide +kernel
  · show ∀ ci, ci < 12 → ∀ a, a < ij_nf ci → ∀ b, b < ij_nf ci → a ≠ b → (ij_tx ci a).2.1 ≠ (ij_tx ci b).2.1
    decide +kernel
  · intro y hy
    have h1 := ij_yk_all y hy
    unfold ij_yk at h1
    rw [Bool.and_eq_true] at h1
    have h2 := ij_dk_every y hy
    have h3 := List.all_eq_true.mp ij_rkc y (List.mem_range'_1.mpr ⟨Nat.zero_le _, by simpa using hy⟩)
    refine ⟨h1.1, ij_rkk_ok h3, fun q hq => ?_⟩
    have h4 := List.all_eq_true.mp h1.2 q hq
    have h5 := List.all_eq_true.mp h2 q hq
    unfold ij_ck at h4
    simp only [Bool.and_eq_true] at h4
    obtain ⟨⟨⟨⟨g1, g2⟩, g3⟩, g4⟩, g5⟩ := h4
    refine ⟨of_decide_eq_true h5, ?_, g2, ij_ckR_ok g3, ij_ckW_ok g4, ij_ckC_ok g5⟩
    rcases Bool.or_eq_true_iff.mp g1 with g | g
    · exact Or.inl (ij_beq g)
    · unfold ij_ts at g
      split at g
      · next d lo hi os he => exact Or.inr ⟨d, lo, hi, os, he⟩
      · cases g
