/-! THE CLAIM OUT OF ONE WALK OF THE LAW'S BODY. Your part is whole_start (and what it stands on); all else here is the same for every law, but numbers. -/
def R_law : String := "ScaleForgeLaw"
def lw_P (b : Addr) (xs : List Int32) (args : Array Value) (s : State) : Prop := args = #[.ref b] ∧ s.IntsAt b xs ∧ xs.length ≤ 3072 ∧ (Jvm.Cond.and given_1 narrow_1).before args s = true
def lw_Q (_ : Array Value) (s : State) (o : Outcome) (t : State) : Prop := o = .returned (some (.int 1)) ∧ Framed s o t [] 600000 7302250
def lw_Z (below : List Frame) (a : Array Value) (s : State) : State → Prop := fun t => ∃ o, t.status = .running ∧ Ended t below o ∧ lw_Q a s o t
/-- the law's own end, with 1 on the stack, nothing written that was there before, its room as the claim has it -/
theorem lw_ret {p : Program} {l : Launch} {e : Env} {s : State} {m : MethodId} {below : List Frame} {meth : Method} {c : Code} {b : Nat} (hx : p.tables.exec = Jvm.exec) (hb : c.code = code) (hr : meth.sig.returnType = ret) (hlocks : meth.locks = false) {pc : Nat} {H : Heap} {ls : Array Slot} (hdg : decode code pc = .ok (.ireturn, 1)) : W p l e room_1 s m #[Value.ref b] below meth c H [] 600000 7302250 (lw_Z below #[Value.ref b] s) (F0 m pc ls [.int 1]) := by
  intro T hT X
  obtain ⟨fs, hret, hrun, hended, hW, hframe⟩ := X.leave (v := some (.int 1)) (hlocks := hlocks) (fun h => by rw [hr] at h; cases h)
  have hmeth' : T.vm.method? m = some meth := X.method'
  refine ⟨T.setFrames fs, ?_, .returned (some (.int 1)), hrun, hended, rfl, ⟨_, rfl⟩, hW, hframe⟩
  jvm_step X.here [X.here.top, hx, hb, hdg, hmeth', hr, ret, narrow_b1]
  (try refine ⟨rfl, ?_⟩); (try refine ⟨rfl, ?_⟩)
  first | (intro acts; rw [hret _ acts rfl rfl rfl]) | rw [hret _ _ rfl rfl rfl]
  exact Steps.refl _
/-- what holds at the law's entry: the machine, the code, the tables' words (any of lw_tbl by 'hts w (by decide +kernel)'), the script of L ints xs at the cell b, what the Statement gives of the start (any of its parts by flat_of_before) -/
def lw_At (p : Program) (s : State) (m : MethodId) (meth : Method) (c : Code) (b L : Nat) (xs : Nat → Int32) : Prop :=
  p.tables.exec = Jvm.exec ∧ c.code = code ∧ meth.sig.returnType = ret ∧ c.maxLocals = 4 ∧ s.vm.findClass R_law = some m.cls ∧ (∀ w ∈ lw_tbl, w.before #[Value.ref b] s = true) ∧ va_X b L xs s s.heap ∧ b < s.heap.size ∧ meth.locks = false ∧ (Jvm.Cond.and given_1 narrow_1).before #[Value.ref b] s = true ∧ meth.name = "law"

/-! The start: what the Statement gives there. -/
def ij_sb : List (List Int32) := [[111, 100, 100, 115], [112, 101, 114, 105, 111, 100], [103, 101, 110, 101, 114, 97, 116, 111, 114], [108, 101, 110, 103, 116, 104], [100, 111, 119, 110], [114, 111, 111, 116], [110, 111, 109, 105, 110, 97, 108, 115], [114, 105, 103, 104, 116], [117, 112], [115, 111, 117, 110, 100, 115], [101, 110, 100], [112, 114, 101, 115, 115], [108, 105, 102, 116], [114, 111, 111, 116], [97, 110, 121], [104, 111, 108, 100], [119, 104, 101, 110], [108, 111, 111, 112], [108, 101, 97, 118, 101], [115, 116, 111, 112], [102, 105, 116], [115, 111, 117, 110, 100, 115], [100, 101, 103, 114, 101, 101], [32, 111, 100, 100, 115, 32, 112, 101, 114, 105, 111, 100, 32, 103, 101, 110, 101, 114, 97, 116, 111, 114, 32, 108, 101, 110, 103, 116, 104, 32, 100, 111, 119, 110, 32, 114, 111, 111, 116, 32, 110, 111, 109, 105, 110, 97, 108, 115, 32, 114, 105, 103, 104, 116, 32, 117, 112, 32, 115, 111, 117, 110, 100, 115, 32, 112, 114, 101, 115, 115, 32, 108, 105, 102, 116, 32, 104, 111, 108, 100, 32, 108, 101, 97, 118, 101, 32, 97, 110, 121, 32, 119, 104, 101, 110, 32, 108, 111, 111, 112, 32, 101, 110, 100, 32, 115, 116, 111, 112, 32, 100, 101, 103, 114, 101, 101, 32, 102, 105, 116, 32]]
def ij_sa : List (List Int32) := [[4, 12, 7, 7, 0, 0, 7, 2, 1], [0, 2, 0, 1, 0, 0, 1, 0, 0], [16, 60, 59, 24, 23, 59, 7, 59, 59]]
def ij_stm (i : Nat) : Term := .string (ij_cn (ij_st.getD i (0, 0, "", 0)).1) (ij_st.getD i (0, 0, "", 0)).2.1
def ij_sw (i : Nat) : List Cond := [.exactly (ij_stm i) "java/lang/String", .eq (.field (ij_stm i) "java/lang/String" "coder" "B") (.int 0), .arrayOf (.field (ij_stm i) "java/lang/String" "value" "[B") .byte, .eq (.length (.field (ij_stm i) "java/lang/String" "value" "[B")) (.int (Int32.ofNat (ij_sb.getD i []).length))] ++ (List.range (ij_sb.getD i []).length).map (fun j => .eq (.elem (.field (ij_stm i) "java/lang/String" "value" "[B") (.int (Int32.ofNat j))) (.int ((ij_sb.getD i []).getD j 0)))
def ij_aw (k : Nat) : List Cond := [.arrayOf (.static "ScaleForge" (ij_sn k) "[I") .int, .eq (.length (.static "ScaleForge" (ij_sn k) "[I")) (.int (Int32.ofNat 9))] ++ (List.range 9).map (fun j => .eq (.elem (.static "ScaleForge" (ij_sn k) "[I") (.int (Int32.ofNat j))) (.int ((ij_sa.getD k []).getD j 0)))
def ij_bw : List Cond := [.eq (.static "java/lang/String" "COMPACT_STRINGS" "Z") (.int 1), .isRef (.static "jdk/internal/util/Preconditions" "SIOOBE_FORMATTER" "Ljava/util/function/BiFunction;")]
noncomputable def ij_flat : List Cond := flatC (Jvm.Cond.and given_1 narrow_1)
theorem ij_in_flat {ws : List Cond} {ps : List Nat} (h1 : ws = ps.filterMap (fun i => ij_flat[i]?)) : ∀ w ∈ ws, w ∈ ij_flat := by
  intro w hw
  rw [h1] at hw
  obtain ⟨i, -, hi⟩ := List.mem_filterMap.mp hw
  exact List.mem_of_getElem? hi
theorem ij_in_tbl {ws : List Cond} {ps : List Nat} (h1 : ws = ps.filterMap (fun i => lw_tbl[i]?)) : ∀ w ∈ ws, w ∈ lw_tbl := by
  intro w hw
  rw [h1] at hw
  obtain ⟨i, -, hi⟩ := List.mem_filterMap.mp hw
  exact List.mem_of_getElem? hi
set_option maxRecDepth 20000 in
theorem ij_sww : ∀ w ∈ (List.range 24).flatMap ij_sw, w ∈ ij_flat := ij_in_flat (ps := [81, 82, 83, 84, 85, 86, 87, 88, 89, 90, 91, 92, 93, 94, 95, 96, 97, 98, 100, 101, 102, 103, 104, 105, 106, 107, 108, 109, 110, 111, 112, 115, 116, 117, 118, 119, 120, 121, 122, 123, 124, 128, 129, 130, 131, 132, 133, 134, 135, 140, 141, 142, 143, 144, 145, 146, 147, 153, 154, 155, 156, 157, 158, 159, 160, 161, 162, 163, 164, 171, 172, 173, 174, 175, 176, 177, 178, 179, 187, 188, 189, 190, 191, 192, 201, 202, 203, 204, 205, 206, 207, 208, 209, 210, 220, 221, 222, 223, 224, 225, 226, 237, 238, 239, 240, 241, 242, 243, 244, 245, 257, 258, 259, 260, 261, 262, 263, 264, 277, 278, 279, 280, 281, 282, 283, 284, 298, 299, 300, 301, 302, 303, 304, 319, 320, 321, 322, 323, 324, 325, 326, 342, 343, 344, 345, 346, 347, 348, 349, 366, 367, 368, 369, 370, 371, 372, 373, 391, 392, 393, 394, 395, 396, 397, 398, 399, 418, 419, 420, 421, 422, 423, 424, 425, 445, 446, 447, 448, 449, 450, 451, 472, 473, 474, 475, 476, 477, 478, 479, 480, 481, 503, 504, 505, 506, 507, 508, 509, 510, 511, 512, 535, 536, 537, 538, 539, 540, 541, 542, 543, 544, 545, 546, 547, 548, 549, 550, 551, 552, 553, 554, 555, 556, 557, 558, 559, 560, 561, 562, 563, 564, 565, 566, 567, 568, 569, 570, 571, 572, 573, 574, 575, 576, 577, 578, 579, 580, 581, 582, 583, 584, 585, 586, 587, 588, 589, 590, 591, 592, 593, 594, 595, 596, 597, 598, 599, 600, 601, 602, 603, 604, 605, 606, 607, 608, 609, 610, 611, 612, 613, 614, 615, 616, 617, 618, 619, 620, 621, 622, 623, 624, 625, 626, 627, 628, 629, 630, 631, 632, 633, 634, 635, 636, 637, 638, 639, 640, 641, 642, 643, 644, 645, 646, 647, 648, 649, 650, 651, 652, 653, 654, 655, 656, 657, 658, 659]) (by decide +kernel)
set_option maxRecDepth 20000 in
theorem ij_aww : ∀ w ∈ (List.range 3).flatMap ij_aw, w ∈ ij_flat := ij_in_flat (ps := [5, 6, 7, 8, 9, 10, 11, 12, 13, 14, 15, 22, 23, 24, 25, 26, 27, 28, 29, 30, 31, 32, 34, 35, 36, 37, 38, 39, 40, 41, 42, 43, 44]) (by decide +kernel)
set_option maxRecDepth 20000 in
theorem ij_bww : ∀ w ∈ ij_bw, w ∈ ij_flat := ij_in_flat (ps := [16, 17]) (by decide +kernel)
def ij_zw : List Cond := [.laysStatic "ScaleForge" "WITHOUT" "[I", .laysStatic "ScaleForge" "LEAST" "[I", .laysStatic "ScaleForge" "MOST" "[I", .laysStatic "java/lang/String" "COMPACT_STRINGS" "Z", .laysStatic "jdk/internal/util/Preconditions" "SIOOBE_FORMATTER" "Ljava/util/function/BiFunction;", .arrayOver (.object "ScaleForge$Tray"), .arrayOver (.object "ScaleForge$Scale"), .arrayOver (.object "ScaleForge$Studies"), .initialized "ScaleForge", .initialized "java/lang/String", .initialized "jdk/internal/util/Preconditions", .fieldLinkNest "ScaleForge$Scale" 24 "ScaleForge" "WITHOUT" "[I" "ScaleForge"]
set_option maxRecDepth 20000 in
theorem ij_zww : ∀ w ∈ ij_zw, w ∈ lw_tbl := ij_in_tbl (ps := [226, 749, 759, 672, 688, 148, 462, 463, 119, 134, 136, 225]) (by decide +kernel)
set_option maxRecDepth 20000 in
theorem ij_knw : ∀ w ∈ ij_n2.map (fun q => Cond.methodLinkNest q.1 q.2.1 q.2.2.1 q.2.2.2), w ∈ lw_tbl := ij_in_tbl (ps := ij_knp) (by decide +kernel)
set_option maxRecDepth 20000 in
theorem ij_srw : ∀ w ∈ ij_sr.map (fun q => Cond.stringRef q.1 q.2.1 q.2.2.1), w ∈ lw_tbl := ij_in_tbl (ps := ij_stp) (by decide +kernel)
theorem ij_srk : ∀ q ∈ ij_st, q.2.2.2 < 24 ∧ ij_st.getD q.2.2.2 (0, 0, "", 0) = q := by decide +kernel
theorem ij_lay3 : ∀ k, k < 3 → Cond.laysStatic "ScaleForge" (ij_sn k) "[I" ∈ ij_zw := by decide +kernel
theorem ij_lay4 : Cond.laysStatic "java/lang/String" "COMPACT_STRINGS" "Z" ∈ lw_tbl := ij_zww _ (by decide +kernel)
theorem ij_lay5 : Cond.laysStatic "jdk/internal/util/Preconditions" "SIOOBE_FORMATTER" "Ljava/util/function/BiFunction;" ∈ lw_tbl := ij_zww _ (by decide +kernel)
theorem ij_ini1 : Cond.initialized "ScaleForge" ∈ lw_tbl := ij_zww _ (by decide +kernel)
theorem ij_ini2 : Cond.initialized "java/lang/String" ∈ lw_tbl := ij_zww _ (by decide +kernel)
theorem ij_ini3 : Cond.initialized "jdk/internal/util/Preconditions" ∈ lw_tbl := ij_zww _ (by decide +kernel)
theorem ij_ao1 : Cond.arrayOver (.object "ScaleForge$Tray") ∈ lw_tbl := ij_zww _ (by decide +kernel)
theorem ij_ao2 : Cond.arrayOver (.object "ScaleForge$Scale") ∈ lw_tbl := ij_zww _ (by decide +kernel)
theorem ij_ao3 : Cond.arrayOver (.object "ScaleForge$Studies") ∈ lw_tbl := ij_zww _ (by decide +kernel)
theorem ij_fln : Cond.fieldLinkNest "ScaleForge$Scale" 24 "ScaleForge" "WITHOUT" "[I" "ScaleForge" ∈ lw_tbl := ij_zww _ (by decide +kernel)
theorem ij_bw0 : Cond.eq (.static "java/lang/String" "COMPACT_STRINGS" "Z") (.int 1) ∈ ij_flat := ij_bww _ (by decide +kernel)
theorem ij_bw1 : Cond.isRef (.static "jdk/internal/util/Preconditions" "SIOOBE_FORMATTER" "Ljava/util/function/BiFunction;") ∈ ij_flat := ij_bww _ (by decide +kernel)
/-- the outer cells' contents: the script, three static arrays, the Strings' bytes -/
def ij_xt (L : Nat) (xs : Nat → Int32) : ij_X := fun k => if k = 1000000 then some (100, L, xs) else if 1000001 ≤ k ∧ k < 1000004 then some (100, 9, fun j => (ij_sa.getD (k - 1000001) []).getD j 0) else if 1000060 ≤ k ∧ k < 1000084 then some (102, (ij_sb.getD (k - 1000060) []).length, fun j => (ij_sb.getD (k - 1000060) []).getD j 0) else none
def ij_h0 : ij_H := ([], fun _ _ => 0, fun _ _ => 0, fun _ _ => none)
def ij_xa (b : Nat) (ts : Nat → Nat) (ad : Nat → Nat × Nat) (k : Nat) : Nat := if k = 1000000 then b else if 1000001 ≤ k ∧ k < 1000004 then ts (k - 1000001) else if k < 1000060 then (ad (k - 1000010)).1 else (ad (k - 1000060)).2
/-- the small machine's run of the law is enough -/
def ij_Goal : Prop := ∀ (L : Nat) (xs : Nat → Int32), L ≤ 3072 → ∃ (n : Nat) (h' : ij_H), ij_run ij_G0 (ij_xt L xs) n 361 0 [some (.ref 1000000), none, none, none] [] ij_h0 = some (some (.int 1), h') ∧ h'.1.length ≤ 600000 ∧ ij_sl h' ≤ 7302250
set_option maxHeartbeats 4000000 in
theorem ij_start (hgoal : ij_Goal) {p : Program} {e : Env} {s : State} {m : MethodId} {below : List Frame} {meth : Method} {c : Code} (l : Launch) {b L : Nat} {xs : Nat → Int32} (hL : L ≤ 3072) (C0 : lw_At p s m meth c b L xs) : W p l e room_1 s m #[Value.ref b] below meth c s.heap [] 0 0 (lw_Z below #[Value.ref b] s) (entryFrame m ([Value.ref b] : List Value).toArray 4) := by
  obtain ⟨hx, hb, hr, hml, hown, hts, hX, hbl, hlocks, hgv, hname⟩ := C0
  have hfl : ∀ w ∈ ij_flat, w.before #[Value.ref b] s = true := by
    unfold ij_flat
    exact flat_of_before _ hgv
  have htg : ∀ w ∈ ij_gw, w.before #[Value.ref b] s = true := fun w hw => hts w (List.mem_filter.mp hw).1
  have hA0 : ∀ a : Nat, a < s.heap.size → ¬ (fun q : Nat => s.heap.size ≤ q) a := fun a h => Nat.not_le.mpr h
  -- classes
  have hk0 : ∀ ci : Nat, ∃ q : ClassId × (Nat → Nat), ci < 12 → u_Kn s (ij_cn ci) (ij_tx ci) (ij_nf ci) q.1 q.2 := by
    intro ci
    by_cases h : ci < 12
    · obtain ⟨cC, iS, h1⟩ := u_known (n := ij_nf ci) htg (fun w hw => ij_lw w (List.mem_flatMap.mpr ⟨ci, List.mem_range.mpr h, hw⟩)) (htg _ (ij_iw1 h))
      exact ⟨(cC, iS), fun _ => h1⟩
    · exact ⟨(0, fun _ => 0), fun q => absurd q h⟩
  obtain ⟨dd, hdd⟩ := Classical.axiomOfChoice hk0
  -- array classes
  have hprim : ∀ ty : FieldType, (∀ C, ty ≠ .object C) → Cond.arrayClass ty ∈ ij_gw → ∃ cA, ArrOfT s cA ty ∧ va_RA s cA ty := by
    intro ty hne hw
    obtain ⟨cA, k, comp, h1, h2, h3⟩ := Cond.arrayClass_spec (htg _ hw)
    refine ⟨cA, fun n z => ⟨fun k h => (by cases h), k, h2, comp, h3⟩, ?_⟩
    cases ty <;> first | exact h1 | exact absurd rfl (hne _)
  have hobj : ∀ C : String, Cond.arrayOver (.object C) ∈ lw_tbl → ∃ cA, ArrOfT s cA (.object C) ∧ va_RA s cA (.object C) := by
    intro C hw
    obtain ⟨comp, cA, k, h1, -, h2, h3, h4⟩ := Cond.arrayOver_spec (hts _ hw)
    exact ⟨cA, fun n z => ⟨fun k h => (by cases h), k, h2, comp, h3⟩, k, comp, h2, h3, h1, h4⟩
  obtain ⟨a0, ha0⟩ := hprim .int (fun C h => by cases h) (ij_ms_in 7 rfl)
  obtain ⟨a1, ha1⟩ := hprim .long (fun C h => by cases h) (ij_ms_in 8 rfl)
  obtain ⟨a2, ha2⟩ := hprim .byte (fun C h => by cases h) (ij_ms_in 9 rfl)
  obtain ⟨a3, ha3⟩ := hprim .boolean (fun C h => by cases h) (ij_ms_in 10 rfl)
  obtain ⟨a4, ha4⟩ := hobj "ScaleForge$Tray" ij_ao1
  obtain ⟨a5, ha5⟩ := hobj "ScaleForge$Scale" ij_ao2
  obtain ⟨a6, ha6⟩ := hobj "ScaleForge$Studies" ij_ao3
  obtain ⟨aC, haC⟩ : ∃ aC : Nat → ClassId, aC 0 = a0 ∧ aC 1 = a1 ∧ aC 2 = a2 ∧ aC 3 = a3 ∧ aC 4 = a4 ∧ aC 5 = a5 ∧ aC 6 = a6 :=
    ⟨fun k => match k with
      | 0 => a0
      | 1 => a1
      | 2 => a2
      | 3 => a3
      | 4 => a4
      | 5 => a5
      | _ => a6, rfl, rfl, rfl, rfl, rfl, rfl, rfl⟩
  obtain ⟨rfl, rfl, rfl, rfl, rfl, rfl, rfl⟩ := haC
  have hK : va_K (fun ci => (dd ci).1, fun ci => (dd ci).2) ij_cl (ij_tys aC) s := by
    refine ⟨fun ci q hq => ?_, fun k q hq => ?_⟩
    · have hlt : ci < 12 := (List.getElem?_eq_some_iff.mp hq).1
      have e := ij_Ok0.1 ci hlt
      cases Option.some.inj (hq.symm.trans e)
      exact hdd ci hlt
    · match k, hq with
      | 0, hq => cases hq; exact ha0
      | 1, hq => cases hq; exact ha1
      | 2, hq => cases hq; exact ha2
      | 3, hq => cases hq; exact ha3
      | 4, hq => cases hq; exact ha4
      | 5, hq => cases hq; exact ha5
      | 6, hq => cases hq; exact ha6
      | k + 7, hq => simp [ij_tys] at hq
  -- static arrays
  have hst0 : ∀ k : Nat, ∃ t : Nat, k < 3 → va_Z "ScaleForge" (ij_sn k) "[I" (.ref t) (fun q : Nat => s.heap.size ≤ q) s s.heap ∧ va_T .int t 9 (fun j => .int ((ij_sa.getD k []).getD j 0)) (fun q : Nat => s.heap.size ≤ q) s s.heap := by
    intro k
    by_cases h : k < 3
    · have hw : ∀ w ∈ ij_aw k, w.before #[Value.ref b] s = true := fun w hw => hfl w (ij_aww w (List.mem_flatMap.mpr ⟨k, List.mem_range.mpr h, hw⟩))
      have w0 : (Cond.arrayOf (.static "ScaleForge" (ij_sn k) "[I") .int).before #[Value.ref b] s = true := hw _ (by unfold ij_aw; exact List.mem_append_left _ List.mem_cons_self)
      have w1 : (Cond.eq (.length (.static "ScaleForge" (ij_sn k) "[I")) (.int (Int32.ofNat 9))).before #[Value.ref b] s = true := hw _ (by unfold ij_aw; exact List.mem_append_left _ (List.mem_cons_of_mem _ List.mem_cons_self))
      have w2 : ∀ j, j < 9 → (Cond.eq (.elem (.static "ScaleForge" (ij_sn k) "[I") (.int (Int32.ofNat j))) (.int ((ij_sa.getD k []).getD j 0))).before #[Value.ref b] s = true := fun j hj => hw _ (by unfold ij_aw; exact List.mem_append_right _ (List.mem_map.mpr ⟨j, List.mem_range.mpr hj, rfl⟩))
      have h9 : 9 < 2 ^ 31 := Nat.le_of_ble_eq_true rfl
      obtain ⟨t, ht, hT⟩ := va_Tof (N := 9) (f := fun j => .int ((ij_sa.getD k []).getD j 0)) (A := fun q : Nat => s.heap.size ≤ q) h9 w0 (va_eqt w1) (fun j hj => va_eqt (w2 j hj)) hA0
      have hlay : (Cond.laysStatic "ScaleForge" (ij_sn k) "[I").before #[Value.ref b] s = true := hts _ (ij_zww _ (ij_lay3 k h))
      exact ⟨t, fun _ => ⟨va_Zof hlay (hts _ ij_ini1) ht hA0, hT⟩⟩
    · exact ⟨0, fun q => absurd q h⟩
  obtain ⟨ts, hst⟩ := Classical.axiomOfChoice hst0
  -- Strings
  have hsr0 : ∀ i : Nat, ∃ q : Nat × Nat, i < 24 → (ij_stm i).eval #[Value.ref b] s none [] s = some (.ref q.1) ∧ va_O "java/lang/String" q.1 (fun q : Nat => s.heap.size ≤ q) s s.heap ∧ va_OF "java/lang/String" "coder" "B" (.int 0) q.1 (fun q : Nat => s.heap.size ≤ q) s s.heap ∧ va_OF "java/lang/String" "value" "[B" (.ref q.2) q.1 (fun q : Nat => s.heap.size ≤ q) s s.heap ∧ va_T .byte q.2 (ij_sb.getD i []).length (fun j => .int ((ij_sb.getD i []).getD j 0)) (fun q : Nat => s.heap.size ≤ q) s s.heap := by
    intro i
    by_cases h : i < 24
    · have hw : ∀ w ∈ ij_sw i, w.before #[Value.ref b] s = true := fun w hw => hfl w (ij_sww w (List.mem_flatMap.mpr ⟨i, List.mem_range.mpr h, hw⟩))
      have hlen : ∀ i, i < 24 → (ij_sb.getD i []).length < 2 ^ 31 := by decide +kernel
      have w0 : (Cond.exactly (ij_stm i) "java/lang/String").before #[Value.ref b] s = true := hw _ (by unfold ij_sw; exact List.mem_append_left _ List.mem_cons_self)
      have w1 : (Cond.eq (.field (ij_stm i) "java/lang/String" "coder" "B") (.int 0)).before #[Value.ref b] s = true := hw _ (by unfold ij_sw; exact List.mem_append_left _ (List.mem_cons_of_mem _ List.mem_cons_self))
      have w2 : (Cond.arrayOf (.field (ij_stm i) "java/lang/String" "value" "[B") .byte).before #[Value.ref b] s = true := hw _ (by unfold ij_sw; exact List.mem_append_left _ (List.mem_cons_of_mem _ (List.mem_cons_of_mem _ List.mem_cons_self)))
      have w3 : (Cond.eq (.length (.field (ij_stm i) "java/lang/String" "value" "[B")) (.int (Int32.ofNat (ij_sb.getD i []).length))).before #[Value.ref b] s = true := hw _ (by unfold ij_sw; exact List.mem_append_left _ (List.mem_cons_of_mem _ (List.mem_cons_of_mem _ (List.mem_cons_of_mem _ List.mem_cons_self))))
      have w4 : ∀ j, j < (ij_sb.getD i []).length → (Cond.eq (.elem (.field (ij_stm i) "java/lang/String" "value" "[B") (.int (Int32.ofNat j))) (.int ((ij_sb.getD i []).getD j 0))).before #[Value.ref b] s = true := fun j hj => hw _ (by unfold ij_sw; exact List.mem_append_right _ (List.mem_map.mpr ⟨j, List.mem_range.mpr hj, rfl⟩))
      have h31 := hlen i h
      generalize ij_sb.getD i [] = bb at w3 w4 h31 ⊢
      generalize ij_stm i = tt at w0 w1 w2 w3 w4 ⊢
      obtain ⟨adK, adV, hS, hev⟩ := vk_Sof (N := 1) (tm := fun _ => tt) (len := [bb.length]) (byt := [bb]) (A := fun q : Nat => s.heap.size ≤ q) (args := #[Value.ref b]) (s := s) (fun j hj => by rw [show j = 0 by omega]; exact h31) (fun _ _ => w0) (fun _ _ => w1) (fun _ _ => w2) (fun j hj => by rw [show j = 0 by omega]; exact w3) (fun j hj q hq => by
          obtain rfl : j = 0 := by omega
          exact w4 q hq) (fun i j hi hj hne => by omega) hA0
      obtain ⟨f1, f2, f3, f4⟩ := hS.1 0 (by omega)
      exact ⟨(adK 0, adV 0), fun _ => ⟨hev 0 (by omega), f1, f2, f3, f4⟩⟩
    · exact ⟨(0, 0), fun q => absurd q h⟩
  obtain ⟨ad, hsr⟩ := Classical.axiomOfChoice hsr0
  -- the formatter
  obtain ⟨fm, hfc, hfm⟩ : ∃ fm : Value, fm.category = 1 ∧ va_Z "jdk/internal/util/Preconditions" "SIOOBE_FORMATTER" "Ljava/util/function/BiFunction;" fm (fun q : Nat => s.heap.size ≤ q) s s.heap := by
    rcases va_Zqof (A := fun q : Nat => s.heap.size ≤ q) (hts _ ij_lay5) (hts _ ij_ini3) (hfl _ ij_bw1) hA0 with h | ⟨t, h⟩
    · exact ⟨.null, rfl, h⟩
    · exact ⟨.ref t, rfl, h⟩
  have hcs := va_Zof (A := fun q : Nat => s.heap.size ≤ q) (hts _ ij_lay4) (hts _ ij_ini2) (va_eqt (hfl _ ij_bw0)) hA0
  have hE : ij_Ev (s.heap.size, ij_xa b ts ad, fm) (fun ci => (dd ci).1, fun ci => (dd ci).2) ij_cl aC ij_n1 ij_n2 ij_sr (ij_xt L xs) s := by
    refine ⟨hK, fun q hq => ?_, fun q hq => va_Nw.of rfl (hts _ (ij_knw _ (List.mem_map.mpr ⟨q, hq, rfl⟩))), ⟨va_AO.of (hts _ ij_ao1), va_AO.of (hts _ ij_ao2), va_AO.of (hts _ ij_ao3)⟩, fun k hk => ?_, hcs, hfm, ?_, fun i hi => ?_, fun q hq => ?_⟩
    · cases List.mem_singleton.mp hq
      exact va_Nw.of rfl (hts _ ij_fln)
    · have e : ij_xa b ts ad (1000001 + k) = ts k := by
        unfold ij_xa
        rw [if_neg (by omega), if_pos (by omega), show 1000001 + k - 1000001 = k by omega]
      show va_Z _ _ _ (.ref (ij_xa b ts ad (1000001 + k))) _ _ _
      rw [e]
      exact (hst k hk).1
    · intro k kd n f hxt
      unfold ij_xt at hxt
      show _ ∧ ∃ ty, va_T ty (ij_xa b ts ad k) n _ _ _ _ ∧ _
      split at hxt
      · next h1 =>
        cases hxt
        subst h1
        obtain ⟨scr, q1, q2, q3, q4, q5⟩ := hX
        refine ⟨by omega, .int, ?_, fun _ => rfl, fun h => by cases h⟩
        rw [show ij_xa b ts ad 1000000 = b from if_pos rfl]
        exact ⟨scr, q1, q2, q3, by omega, by rw [q4], q5, Nat.not_le.mpr hbl⟩
      · next h1 =>
        split at hxt
        · next h2 =>
          cases hxt
          refine ⟨by omega, .int, ?_, fun _ => rfl, fun h => by cases h⟩
          rw [show ij_xa b ts ad k = ts (k - 1000001) by unfold ij_xa; rw [if_neg h1, if_pos h2]]
          exact (hst (k - 1000001) (by omega)).2
        · next h2 =>
          split at hxt
          · next h3 =>
            obtain ⟨z1, z2⟩ := Prod.mk.inj (Option.some.inj hxt)
            obtain ⟨z2, z3⟩ := Prod.mk.inj z2
            subst z1
            subst z2
            subst z3
            refine ⟨by omega, .byte, ?_, fun h => (by cases h), fun _ => rfl⟩
            rw [show ij_xa b ts ad k = (ad (k - 1000060)).2 by unfold ij_xa; rw [if_neg h1, if_neg h2, if_neg (by omega)]]
            exact (hsr (k - 1000060) (by omega)).2.2.2.2
          · cases hxt
    · have e1 : ij_xa b ts ad (1000010 + i) = (ad i).1 := by
        unfold ij_xa
        rw [if_neg (by omega), if_neg (by omega), if_pos (by omega), show 1000010 + i - 1000010 = i by omega]
      have e2 : ij_xa b ts ad (1000060 + i) = (ad i).2 := by
        unfold ij_xa
        rw [if_neg (by omega), if_neg (by omega), if_neg (by omega), show 1000060 + i - 1000060 = i by omega]
      obtain ⟨-, f1, f2, f3, -⟩ := hsr i hi
      show va_O _ (ij_xa b ts ad (1000010 + i)) _ _ _ ∧ va_OF _ _ _ _ (ij_xa b ts ad (1000010 + i)) _ _ _ ∧ va_OF _ _ _ (.ref (ij_xa b ts ad (1000060 + i))) (ij_xa b ts ad (1000010 + i)) _ _ _
      rw [e1, e2]
      exact ⟨f1, f2, f3⟩
    · obtain ⟨q0, hq0, rfl⟩ := List.mem_map.mp hq
      obtain ⟨g1, g2⟩ := ij_srk q0 hq0
      have e1 : ij_xa b ts ad (1000010 + q0.2.2.2) = (ad q0.2.2.2).1 := by
        unfold ij_xa
        rw [if_neg (by omega), if_neg (by omega), if_pos (by omega), show 1000010 + q0.2.2.2 - 1000010 = q0.2.2.2 by omega]
      show vk_R (ij_cn q0.1) q0.2.1 q0.2.2.1 (ij_xa b ts ad (1000010 + q0.2.2.2)) s
      rw [e1]
      have h1 := (hsr q0.2.2.2 g1).1
      unfold ij_stm at h1
      rw [g2] at h1
      exact vk_R.of (A := #[Value.ref b]) (hts _ (ij_srw _ (List.mem_map.mpr ⟨_, hq, rfl⟩))) h1
  obtain ⟨n, h', hrun, hc, hs⟩ := hgoal L xs hL
  obtain ⟨-, hW⟩ := ij_walk (l := l) (B := (s.heap.size, ij_xa b ts ad, fm)) (D := (fun ci => (dd ci).1, fun ci => (dd ci).2)) (aC := aC) ij_Ok0 hfc n 361 0 _ [] ij_h0 _ h' (show 361 < 362 by omega) hrun
  rw [lg_entry_eq]
  have hLH := ij_ent_LH (B := (s.heap.size, ij_xa b ts ad, fm)) hfc (nL := 4) (as := [.ref 1000000]) (l0 := [some (.ref 1000000), none, none, none]) rfl
  have ecv : ([Value.ref 1000000] : List Value).map (ij_cv (s.heap.size, ij_xa b ts ad, fm)) = [Value.ref b] := by
    rw [List.map_cons, ij_cv_out _ (by omega) (by omega)]
    show [Value.ref (ij_xa b ts ad 1000000)] = _
    rw [show ij_xa b ts ad 1000000 = b from if_pos rfl]
  rw [ecv] at hLH
  refine hW p e room_1 s m #[Value.ref b] below meth c s.heap [] 0 0 h'.1.length (ij_sl h') _ _ hx hb hml hown htg hname (Nat.le_of_ble_eq_true rfl) (Nat.le_of_ble_eq_true rfl) hE (Nat.le_refl _) (fun k q h => by rw [ij_ws_get] at h; simp [ij_h0] at h) va_S.rf hLH rfl (by simp [ij_h0]) (by simp [ij_h0, ij_sl]) hc hs ?_
  intro i pc ls st H locs hd hri hP hS
  have hri : ij_rI 3 i st = some (some (.int 1)) := hri
  obtain ⟨rfl, rfl⟩ : i = .ireturn ∧ st = [.int 1] := by
    unfold ij_rI at hri
    split at hri
    · split at hri
      · next h0 => cases h0
      · cases hri
    · split at hri
      · next x =>
        split at hri
        · next h0 => cases h0
        · split at hri
          · cases hri; exact ⟨rfl, rfl⟩
          · cases hri
        · next h0 => cases h0
        · next h0 => cases h0
        · cases hri
      · cases hri
    · split at hri
      · next h0 => cases h0
      · cases hri
    · split at hri
      · next h0 => cases h0
      · next h0 => cases h0
      · cases hri
    · cases hri
  refine va_forget hS.2.2 (W.widen hc hs ?_)
  exact lw_ret hx hb hr hlocks hd
