/-! The heap of the small machine in the machine's: the world, and what stands beside it. -/
def ij_A (B : ij_B) : Nat → Prop := fun q => B.1 ≤ q
def ij_tys (aC : Nat → ClassId) : List (ClassId × FieldType) := [(aC 0, .int), (aC 1, .long), (aC 2, .byte), (aC 3, .boolean), (aC 4, .object "ScaleForge$Tray"), (aC 5, .object "ScaleForge$Scale"), (aC 6, .object "ScaleForge$Studies")]
def ij_fc (B : ij_B) (t : Nat) (m : ij_M) (j k : Nat) : Value := match t with
  | 1 => .long (m.2.1 j k)
  | 2 => va_rf ((m.2.2 j k).map (ij_ad B))
  | _ => .int (m.1 j k)
def ij_ar (B : ij_B) (kd : Nat) (m : ij_M) (j : Nat) : (Nat → Int32) ⊕ (Nat → Int64) ⊕ (Nat → UInt32) ⊕ (Nat → UInt64) ⊕ (Nat → Option Nat) :=
  if kd = 101 then .inr (.inl (m.2.1 j)) else if kd < 104 then .inl (m.1 j) else .inr (.inr (.inr (.inr (fun i => (m.2.2 j i).map (ij_ad B)))))
def ij_cell (B : ij_B) (tt : Nat → Nat → Nat) (aC : Nat → ClassId) (m : ij_M) (j : Nat) (sh : Nat × Nat) : va_E :=
  if sh.1 < 100 then .inr (sh.1, (List.range sh.2).map (fun k => ij_fc B (tt sh.1 k) m j k)) else .inl (aC (sh.1 - 100), sh.2, ij_ar B sh.1 m j)
def ij_ws (B : ij_B) (tt : Nat → Nat → Nat) (aC : Nat → ClassId) (h : ij_H) : va_W := h.1.mapIdx (fun j sh => (B.1 + j, ij_cell B tt aC h.2 j sh))
theorem ij_ws_get (B : ij_B) (tt : Nat → Nat → Nat) (aC : Nat → ClassId) (h : ij_H) (j : Nat) : (ij_ws B tt aC h)[j]? = (h.1[j]?).map (fun sh => (B.1 + j, ij_cell B tt aC h.2 j sh)) := by
  unfold ij_ws
  rw [List.getElem?_mapIdx]
theorem ij_ws_at {B : ij_B} {tt : Nat → Nat → Nat} {aC : Nat → ClassId} {h : ij_H} {j : Nat} {sh : Nat × Nat} (hj : h.1[j]? = some sh) : (ij_ws B tt aC h)[j]? = some (B.1 + j, ij_cell B tt aC h.2 j sh) := by
  rw [ij_ws_get, hj]; rfl
theorem ij_ws_D (B : ij_B) (tt : Nat → Nat → Nat) (aC : Nat → ClassId) (h : ij_H) : va_D (ij_A B) (ij_ws B tt aC h) := by
  refine ⟨fun i j p q hp hq e => ?_, fun k q hq => ?_⟩
  · rw [ij_ws_get] at hp hq
    obtain ⟨a, -, ha⟩ := Option.map_eq_some_iff.mp hp
    obtain ⟨b, -, hb⟩ := Option.map_eq_some_iff.mp hq
    rw [← ha, ← hb] at e
    dsimp only at e
    omega
  · rw [ij_ws_get] at hq
    obtain ⟨a, -, ha⟩ := Option.map_eq_some_iff.mp hq
    rw [← ha]
    show B.1 ≤ B.1 + k
    omega
/-- a cell is written anew: the world behind it -/
theorem ij_ws_set {B : ij_B} {tt : Nat → Nat → Nat} {aC : Nat → ClassId} {h : ij_H} {m' : ij_M} {j : Nat} {sh : Nat × Nat} {x : va_E} (hj : h.1[j]? = some sh) (hx : ij_cell B tt aC m' j sh = x)
    (h1 : ∀ i, i ≠ j → m'.1 i = h.2.1 i) (h2 : ∀ i, i ≠ j → m'.2.1 i = h.2.2.1 i) (h3 : ∀ i, i ≠ j → m'.2.2 i = h.2.2.2 i) : (ij_ws B tt aC h).set j (B.1 + j, x) = ij_ws B tt aC (h.1, m') := by
  apply List.ext_getElem?
  intro i
  rw [List.getElem?_set, ij_ws_get, ij_ws_get]
  by_cases hi : j = i
  · subst hi
    have hlt : j < (ij_ws B tt aC h).length := (List.getElem?_eq_some_iff.mp (ij_ws_at hj)).1
    rw [if_pos rfl, if_pos hlt]
    show _ = (h.1[j]?).map _
    rw [hj]
    show some (B.1 + j, x) = some (B.1 + j, ij_cell B tt aC m' j sh)
    rw [hx]
  · rw [if_neg hi]
    have hi : i ≠ j := fun q => hi q.symm
    have e : ∀ sh, ij_cell B tt aC h.2 i sh = ij_cell B tt aC m' i sh := by
      intro sh
      unfold ij_cell ij_ar ij_fc
      rw [h1 i hi, h2 i hi, h3 i hi]
    simp only [e]
theorem ij_ui_ne {f : Nat → Nat → Int32} {j k : Nat} {v : Int32} {i : Nat} (h : i ≠ j) : ij_ui f j k v i = f i := if_neg h
theorem ij_ui_eq {f : Nat → Nat → Int32} {j k : Nat} {v : Int32} : ij_ui f j k v j = upd (f j) k v := if_pos rfl
theorem ij_ul_ne {f : Nat → Nat → Int64} {j k : Nat} {v : Int64} {i : Nat} (h : i ≠ j) : ij_ul f j k v i = f i := if_neg h
theorem ij_ul_eq {f : Nat → Nat → Int64} {j k : Nat} {v : Int64} : ij_ul f j k v j = vp_updL (f j) k v := if_pos rfl
theorem ij_ur_ne {f : Nat → Nat → Option Nat} {j k : Nat} {v : Option Nat} {i : Nat} (h : i ≠ j) : ij_ur f j k v i = f i := if_neg h
theorem ij_ur_eq {f : Nat → Nat → Option Nat} {j k : Nat} {v : Option Nat} : ij_ur f j k v j = va_up (f j) k v := if_pos rfl
theorem ij_row_ne {α : Type} {f : Nat → Nat → α} {j : Nat} {r : Nat → α} {i : Nat} (h : i ≠ j) : ij_row f j r i = f i := if_neg h
theorem ij_row_eq {α : Type} {f : Nat → Nat → α} {j : Nat} {r : Nat → α} : ij_row f j r j = r := if_pos rfl
theorem ij_rv_ok (B : ij_B) {o : Option Nat} {v : Value} (h : ij_rv o = some v) : ij_cv B v = va_rf (o.map (ij_ad B)) := by
  unfold ij_rv at h
  split at h
  · cases h; rfl
  · split at h
    · next hx => cases h; rw [ij_cv_ref B (by omega)]; rfl
    · cases h
theorem ij_fv_ok (B : ij_B) {t : Nat} {m : ij_M} {j k : Nat} {v : Value} (h : ij_fv t m j k = some v) : ij_cv B v = ij_fc B t m j k := by
  unfold ij_fv at h
  unfold ij_fc
  split at h
  · cases h; rfl
  · exact ij_rv_ok B h
  · next h1 h2 =>
    cases h
    split
    · exact absurd rfl h1
    · exact absurd rfl h2
    · rfl
/-! what stands beside the world -/
abbrev ij_N1 : Type := List (String × Nat × String × String × String × String)
abbrev ij_N2 : Type := List (String × Nat × MethodName × String)
abbrev ij_S1 : Type := List (String × Nat × String × Nat)
def ij_sn (k : Nat) : String := match k with
  | 0 => "WITHOUT"
  | 1 => "LEAST"
  | _ => "MOST"
def ij_Ev (B : ij_B) (D : va_G) (cl : List vw_C) (aC : Nat → ClassId) (n1 : ij_N1) (n2 : ij_N2) (sr : ij_S1) (xt : ij_X) (U : State) : Prop :=
  va_K D cl (ij_tys aC) U ∧ (∀ q ∈ n1, va_Nw (.fieldLinkNest q.1 q.2.1 q.2.2.1 q.2.2.2.1 q.2.2.2.2.1 q.2.2.2.2.2) U) ∧ (∀ q ∈ n2, va_Nw (.methodLinkNest q.1 q.2.1 q.2.2.1 q.2.2.2) U)
  ∧ (va_AO "ScaleForge$Tray" U ∧ va_AO "ScaleForge$Scale" U ∧ va_AO "ScaleForge$Studies" U)
  ∧ (∀ k, k < 3 → va_Z "ScaleForge" (ij_sn k) "[I" (.ref (B.2.1 (1000001 + k))) (ij_A B) U U.heap)
  ∧ va_Z "java/lang/String" "COMPACT_STRINGS" "Z" (.int 1) (ij_A B) U U.heap
  ∧ va_Z "jdk/internal/util/Preconditions" "SIOOBE_FORMATTER" "Ljava/util/function/BiFunction;" B.2.2 (ij_A B) U U.heap
  ∧ (∀ k kd n f, xt k = some (kd, n, f) → (¬ k < 1000000 ∧ ¬ k = 1999999) ∧ ∃ ty, va_T ty (B.2.1 k) n (fun j => .int (f j)) (ij_A B) U U.heap ∧ (kd = 100 → ty = .int) ∧ (kd = 102 → ty = .byte))
  ∧ (∀ i, i < 24 → va_O "java/lang/String" (B.2.1 (1000010 + i)) (ij_A B) U U.heap ∧ va_OF "java/lang/String" "coder" "B" (.int 0) (B.2.1 (1000010 + i)) (ij_A B) U U.heap ∧ va_OF "java/lang/String" "value" "[B" (.ref (B.2.1 (1000060 + i))) (B.2.1 (1000010 + i)) (ij_A B) U U.heap)
  ∧ ∀ q ∈ sr, vk_R q.1 q.2.1 q.2.2.1 (B.2.1 (1000010 + q.2.2.2)) U
theorem ij_Ev.move {B : ij_B} {D : va_G} {cl : List vw_C} {aC : Nat → ClassId} {n1 : ij_N1} {n2 : ij_N2} {sr : ij_S1} {xt : ij_X} {s U : State} (h : ij_Ev B D cl aC n1 n2 sr xt s) (hq : ∀ a : Nat, a < s.heap.size → ¬ ij_A B a → U.heap[a]? = s.heap[a]?) (hW : s.WarmedH U.vm) : ij_Ev B D cl aC n1 n2 sr xt U := by
  obtain ⟨e1, e2, e3, ⟨e4, e5, e6⟩, e7, e8, e9, e10, e11, e12⟩ := h
  have ha := hW.alike
  refine ⟨va_K.moved ha e1, fun q hm => va_Nw.warmF hW (e2 q hm), fun q hm => va_Nw.warmM hW (e3 q hm), ⟨va_AO.moved ha e4, va_AO.moved ha e5, va_AO.moved ha e6⟩, fun k hk => (va_Z.moved ha (e7 k hk)).kept hq, (va_Z.moved ha e8).kept hq, (va_Z.moved ha e9).kept hq, fun k kd n f hx => ?_, fun i hi => ?_, fun q hm => vk_R.warm hW (e12 q hm)⟩
  · obtain ⟨g1, ty, g2, g3⟩ := e10 k kd n f hx
    exact ⟨g1, ty, (va_T.moved ha g2).kept hq, g3⟩
  · obtain ⟨g1, g2, g3⟩ := e11 i hi
    exact ⟨(va_O.moved ha g1).kept hq, (va_OF.moved ha g2).kept hq, (va_OF.moved ha g3).kept hq⟩
/-! what a row of a method must hold of the tables, for reads -/
abbrev ij_Cx : Type := (Nat → String) × (Nat → u_T) × (Nat → Nat)
def ij_okR (X : ij_Cx) (gw : List Cond) (n1 : ij_N1) (sr : ij_S1) (own : String) (R : Room) (i : Instr) (a b : Nat) : Prop := match i with
  | .getfield idx => (a < 12 ∧ b < X.2.2 a ∧ Cond.fieldLink own idx (X.2.1 a b).1 (X.2.1 a b).2.1 (X.2.1 a b).2.2.1 ∈ gw) ∨ (a = 114 ∧ b = 0 ∧ Cond.fieldLink own idx "java/lang/String" "value" "[B" ∈ gw) ∨ (a = 114 ∧ b = 1 ∧ Cond.fieldLink own idx "java/lang/String" "coder" "B" ∈ gw)
  | .getstatic idx => (a < 3 ∧ (Cond.fieldLink own idx "ScaleForge" (ij_sn a) "[I" ∈ gw ∨ ∃ hst, (own, idx, "ScaleForge", ij_sn a, "[I", hst) ∈ n1)) ∨ (a = 3 ∧ Cond.fieldLink own idx "java/lang/String" "COMPACT_STRINGS" "Z" ∈ gw) ∨ (a = 4 ∧ Cond.fieldLink own idx "jdk/internal/util/Preconditions" "SIOOBE_FORMATTER" "Ljava/util/function/BiFunction;" ∈ gw)
  | .ldc idx => (a = 0 ∧ Cond.constant own idx (Int32.ofNat b) ∈ gw) ∨ (a = 1 ∧ ∃ tx, (own, idx, tx, b) ∈ sr)
  | .ldc_w idx => Cond.constant own idx (Int32.ofNat b) ∈ gw
  | .ldc2_w idx => Cond.constantLong own idx (Int64.ofNat b) ∈ gw
  | .invokespecial idx => a = 999999 → (Cond.methodLink own idx Lib.objectInit ∈ gw ∧ Cond.instanceMethod Lib.objectInit ∈ gw ∧ Cond.code Lib.objectInit ⟨#[0xb1]⟩ 1 none ∈ gw ∧ 1 ≤ R.frames ∧ 20 ≤ R.locals)
  | _ => True
section IJ
variable {p : Program} {l : Launch} {e : Env} {R : Room} {s : State} {m : MethodId} {args : Array Value} {below : List Frame} {meth : Method} {c : Code} {H : Heap} {locs : List Loc} {cells slots : Nat} {Q : State → Prop}
variable {cc : ByteArray} {pc : Nat} {ls : Array Slot} {B : ij_B} {D : va_G} {cl : List vw_C} {aC : Nat → ClassId} {n1 : ij_N1} {n2 : ij_N2} {sr : ij_S1} {xt : ij_X} {X : ij_Cx} {gw : List Cond} {own : String} {tt : Nat → Nat → Nat}
theorem ij_in {i : Int32} {n : Nat} (h : ¬ (i < 0 ∨ n ≤ i.toNatClampNeg)) : vp_in i n := h
set_option maxHeartbeats 8000000 in
theorem ij_hR_ok (hB : B.2.2.category = 1) (hcl : ∀ ci, ci < 12 → cl[ci]? = some (X.1 ci, X.2.1 ci, X.2.2 ci)) (hcw : ∀ ci, ci < 12 → ∀ w ∈ u_ws (X.1 ci) (X.2.1 ci) (X.2.2 ci), w ∈ gw)
    (hx : p.tables.exec = Jvm.exec) (hb : c.code = cc) {i : Instr} (hd : decode cc pc = .ok (i, ij_len i)) (hown : s.vm.findClass own = some m.cls) (hts : ∀ w ∈ gw, w.before args s = true) (hE : ij_Ev B D cl aC n1 n2 sr xt s) {h : ij_H} (hP : va_P D cl (ij_ws B tt aC h) H) (hS : va_S (ij_A B) s.heap H locs) (hml : ls.size = c.maxLocals)
    {a b : Nat} (hok : ij_okR X gw n1 sr own R i a b) {st st' : List Value} (hr : ij_hR tt xt i a b st h = some st')
    (k : W p l e R s m args below meth c H locs cells slots Q (F0 m (pc + ij_len i) ls (st'.map (ij_cv B)))) : W p l e R s m args below meth c H locs cells slots Q (F0 m pc ls (st.map (ij_cv B))) := by
  obtain ⟨hK, e2, e3, -, e7, e8, e9, e10, e11, e12⟩ := hE
  unfold ij_hR at hr
  split at hr
  · -- getfield
    split at hr
    · next j r =>
      split at hr
      · next hj =>
        split at hr
        · next kd n hsh =>
          split at hr
          · next hc =>
            obtain ⟨rfl, h100, hbn⟩ := hc
            obtain ⟨v, hv, rfl⟩ := Option.map_eq_some_iff.mp hr
            rcases hok with ⟨g1, g2, g3⟩ | ⟨g1, -⟩ | ⟨g1, -⟩
            · rw [List.map_cons, ij_cv_cell B hj]
              rw [List.map_cons, ij_fv_ok B hv] at k
              have hw := ij_ws_at (B := B) (tt := tt) (aC := aC) hsh
              rw [show ij_cell B tt aC h.2 j (kd, n) = .inr (kd, (List.range n).map (fun k => ij_fc B (tt kd k) h.2 j k)) from if_pos h100] at hw
              exact va_get hx hb hts (hcw kd g1) hown hK hP j hw (hcl kd g1) b g2 (hts _ g3) (fun _ q => q) (by rw [List.getElem?_map, List.getElem?_range hbn]; rfl) hd k
            · omega
            · omega
          · cases hr
        · cases hr
      · split at hr
        · next hj hc =>
          obtain ⟨j, rfl⟩ : ∃ j' : Nat, j' = j := ⟨_, rfl⟩
          obtain ⟨c1, c2, rfl⟩ := hc
          have c1 : (1000010 : Nat) ≤ j := c1
          have c2 : j < (1000034 : Nat) := c2
          have hj2 : j = 1000010 + (j - 1000010) := by omega
          obtain ⟨f1, f2, f3⟩ := e11 (j - 1000010) (by omega)
          rw [← hj2] at f2 f3
          rw [List.map_cons, ij_cv_out B hj (by omega)]
          split at hr
          · cases hr
            rcases hok with ⟨g1, -⟩ | ⟨-, -, g3⟩ | ⟨-, g2, -⟩
            · omega
            · rw [List.map_cons, ij_cv_out B (by omega) (by omega)] at k
              refine vk_getf hx hb f3 hS hown (hts _ g3) (fun _ q => q) hd ?_
              rw [show 1000060 + (j - 1000010) = j + 50 by omega]
              exact k
            · cases g2
          · cases hr
            rcases hok with ⟨g1, -⟩ | ⟨-, g2, -⟩ | ⟨-, -, g3⟩
            · omega
            · cases g2
            · exact vk_getf hx hb f2 hS hown (hts _ g3) (fun _ q => q) hd k
          · cases hr
        · cases hr
    · cases hr
  · -- iaload
    split at hr
    · next i j r =>
      split at hr
      · next hj =>
        split at hr
        · next n hsh =>
          split at hr
          · cases hr
          · next hin =>
            cases hr
            rw [List.map_cons, List.map_cons, ij_cv_cell B hj]
            exact va_iald hx hb hK hP j 0 (cA := aC 0) (n := n) (f := h.2.1 j) (ij_ws_at hsh) rfl hin hd k
        · cases hr
      · next hj =>
        split at hr
        · next n f hxt =>
          split at hr
          · cases hr
          · next hin =>
            cases hr
            obtain ⟨⟨g1, g2⟩, ty, g3, g4, -⟩ := e10 _ _ _ _ hxt
            cases g4 rfl
            rw [List.map_cons, List.map_cons, ij_cv_out B g1 g2]
            exact va_ti hx hb g3 hS hin rfl hd k
        · cases hr
    · cases hr
  · -- baload
    split at hr
    · next i j r =>
      split at hr
      · next hj =>
        split at hr
        · next n hsh =>
          split at hr
          · cases hr
          · next hin =>
            cases hr
            rw [List.map_cons, List.map_cons, ij_cv_cell B hj]
            exact va_bald hx hb hK hP j 2 (cA := aC 2) (n := n) (f := h.2.1 j) (ij_ws_at hsh) rfl hin hd k
        · next n hsh =>
          split at hr
          · cases hr
          · next hin =>
            cases hr
            rw [List.map_cons, List.map_cons, ij_cv_cell B hj]
            exact va_zald hx hb hK hP j 3 (cA := aC 3) (n := n) (f := h.2.1 j) (ij_ws_at hsh) rfl hin hd k
        · cases hr
      · next hj =>
        split at hr
        · next n f hxt =>
          split at hr
          · cases hr
          · next hin =>
            cases hr
            obtain ⟨⟨g1, g2⟩, ty, g3, -, g4⟩ := e10 _ _ _ _ hxt
            cases g4 rfl
            rw [List.map_cons, List.map_cons, ij_cv_out B g1 g2]
            exact va_tb hx hb g3 hS hin rfl hd k
        · cases hr
    · cases hr
  · -- laload
    split at hr
    · next i j r =>
      split at hr
      · next hj =>
        split at hr
        · next n hsh =>
          split at hr
          · cases hr
          · next hin =>
            cases hr
            rw [List.map_cons, List.map_cons, ij_cv_cell B hj]
            exact va_lald hx hb hK hP j 1 (cA := aC 1) (n := n) (f := h.2.2.1 j) (ij_ws_at hsh) rfl hin hd k
        · cases hr
      · cases hr
    · cases hr
  · -- aaload
    split at hr
    · next i j r =>
      split at hr
      · next hj =>
        split at hr
        · next kd n hsh =>
          split at hr
          · cases hr
          · next hin =>
            obtain ⟨v, hv, rfl⟩ := Option.map_eq_some_iff.mp hr
            rw [List.map_cons, List.map_cons, ij_cv_cell B hj]
            rw [List.map_cons, ij_rv_ok B hv] at k
            have hin2 : vp_in i n := fun q => hin (Or.inr (Or.inr q))
            have h3 : kd = 104 ∨ kd = 105 ∨ kd = 106 := by omega
            rcases h3 with rfl | rfl | rfl
            · exact va_aldq hx hb hK hP j 4 (cA := aC 4) (n := n) (f := fun i => (h.2.2.2 j i).map (ij_ad B)) (ij_ws_at hsh) rfl hin2 hd k
            · exact va_aldq hx hb hK hP j 5 (cA := aC 5) (n := n) (f := fun i => (h.2.2.2 j i).map (ij_ad B)) (ij_ws_at hsh) rfl hin2 hd k
            · exact va_aldq hx hb hK hP j 6 (cA := aC 6) (n := n) (f := fun i => (h.2.2.2 j i).map (ij_ad B)) (ij_ws_at hsh) rfl hin2 hd k
        · cases hr
      · cases hr
    · cases hr
  · -- arraylength
    split at hr
    · next j r =>
      split at hr
      · next hj =>
        split at hr
        · next kd n hsh =>
          split at hr
          · cases hr
          · next hin =>
            cases hr
            rw [List.map_cons, ij_cv_cell B hj]
            have hw := ij_ws_at (B := B) (tt := tt) (aC := aC) hsh
            rw [show ij_cell B tt aC h.2 j (kd, n) = .inl (aC (kd - 100), n, ij_ar B kd h.2 j) from if_neg (by show ¬ kd < 100; omega)] at hw
            have h3 : kd = 100 ∨ kd = 101 ∨ kd = 102 ∨ kd = 103 ∨ kd = 104 ∨ kd = 105 ∨ kd = 106 := by omega
            rcases h3 with rfl | rfl | rfl | rfl | rfl | rfl | rfl
            · exact va_alen hx hb hK hP j 0 hw rfl rfl hd k
            · exact va_alen hx hb hK hP j 1 hw rfl rfl hd k
            · exact va_alen hx hb hK hP j 2 hw rfl rfl hd k
            · exact va_alen hx hb hK hP j 3 hw rfl rfl hd k
            · exact va_alen hx hb hK hP j 4 hw rfl rfl hd k
            · exact va_alen hx hb hK hP j 5 hw rfl rfl hd k
            · exact va_alen hx hb hK hP j 6 hw rfl rfl hd k
        · cases hr
      · next hj =>
        split at hr
        · next kd n f hxt =>
          cases hr
          obtain ⟨⟨g1, g2⟩, ty, g3, -⟩ := e10 _ _ _ _ hxt
          rw [List.map_cons, ij_cv_out B g1 g2]
          exact va_tlen hx hb g3 hS rfl hd k
        · cases hr
    · cases hr
  · -- getstatic
    split at hr
    · cases hr
      rw [List.map_cons, ij_cv_out B (by omega) (by omega)] at k
      rcases hok with ⟨-, g | ⟨hst, g⟩⟩ | ⟨g1, -⟩ | ⟨g1, -⟩
      · exact va_gets hx hb (e7 0 (by omega)) hS hown (hts _ g) (fun _ q => q) hd k
      · exact va_getsN hx hb (e7 0 (by omega)) hS hown (va_Nw.use rfl (e2 _ g)) (fun _ q => q) hd k
      · cases g1
      · cases g1
    · cases hr
      rw [List.map_cons, ij_cv_out B (by omega) (by omega)] at k
      rcases hok with ⟨-, g | ⟨hst, g⟩⟩ | ⟨g1, -⟩ | ⟨g1, -⟩
      · exact va_gets hx hb (e7 1 (by omega)) hS hown (hts _ g) (fun _ q => q) hd k
      · exact va_getsN hx hb (e7 1 (by omega)) hS hown (va_Nw.use rfl (e2 _ g)) (fun _ q => q) hd k
      · cases g1
      · cases g1
    · cases hr
      rw [List.map_cons, ij_cv_out B (by omega) (by omega)] at k
      rcases hok with ⟨-, g | ⟨hst, g⟩⟩ | ⟨g1, -⟩ | ⟨g1, -⟩
      · exact va_gets hx hb (e7 2 (by omega)) hS hown (hts _ g) (fun _ q => q) hd k
      · exact va_getsN hx hb (e7 2 (by omega)) hS hown (va_Nw.use rfl (e2 _ g)) (fun _ q => q) hd k
      · cases g1
      · cases g1
    · cases hr
      rcases hok with ⟨g1, -⟩ | ⟨-, g⟩ | ⟨g1, -⟩
      · omega
      · exact va_gets hx hb e8 hS hown (hts _ g) (fun _ q => q) hd k
      · cases g1
    · cases hr
      rcases hok with ⟨g1, -⟩ | ⟨g1, -⟩ | ⟨-, g⟩
      · omega
      · cases g1
      · exact va_gets hx hb e9 hS hown (hts _ g) (fun _ q => q) hd k
    · cases hr
  · -- ldc
    split at hr
    · cases hr
      rcases hok with ⟨-, g⟩ | ⟨g1, -⟩
      · exact lv_ldc hx hb hown (hts _ g) hd k
      · cases g1
    · split at hr
      · next hb24 =>
        cases hr
        rcases hok with ⟨g1, -⟩ | ⟨-, tx, g⟩
        · cases g1
        · rw [List.map_cons, ij_cv_out B (by omega) (by omega)] at k
          exact va_ldcS hx hb hown (e12 _ g) hd k
      · cases hr
    · cases hr
  · -- ldc_w
    split at hr
    · cases hr
      exact lv_ldcw hx hb hown (hts _ hok) hd k
    · cases hr
  · -- ldc2_w
    cases hr
    exact lv_ldc2 hx hb hown (hts _ hok) hd k
  · -- Object.<init>
    split at hr
    · next j r =>
      split at hr
      · next hj =>
        cases hr
        obtain ⟨g1, g2, g3, g4, g5⟩ := hok rfl
        rw [List.map_cons, ij_cv_cell B hj.1]
        refine W.objInit hx hb hown (hts _ g1) (hts _ g2) (hts _ g3) rfl hml rfl hd g4 ?_ k
        have := lv_room (m := m) (pc := pc) (ls := ls) (rest := .ref (B.1 + j) :: st'.map (ij_cv B)) (st := st'.map (ij_cv B)) (by rw [ij_cv_sum B hB]; exact hj.2)
        omega
      · cases hr
    · cases hr
  · cases hr
end IJ
