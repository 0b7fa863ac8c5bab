/-! Writes of the small machine are writes of the machine. -/
def ij_sl (h : ij_H) : Nat := (h.1.map Prod.snd).sum
def ij_tk (t : FieldType) : Nat := match t with
  | .int => 0
  | .long => 1
  | .boolean => 3
  | .object _ => 2
  | .array _ => 2
  | _ => 9
def ij_okW (X : ij_Cx) (gw : List Cond) (own : String) (ini : Prop) (R : Room) (i : Instr) (a b : Nat) : Prop := match i with
  | .putfield idx => a < 12 ∧ b < X.2.2 a ∧ Cond.fieldLink own idx (X.2.1 a b).1 (X.2.1 a b).2.1 (X.2.1 a b).2.2.1 ∈ gw ∧ ((X.2.1 a b).2.2.2 = false ∨ ((X.2.1 a b).2.2.2 = true ∧ ini ∧ (X.2.1 a b).1 = own))
  | .newarray t => Cond.arrayClass (newarray.typeOf t) ∈ gw
  | .anewarray idx => Cond.classLink own idx (X.1 (ij_ecl a)) ∈ gw
  | .new idx => a < 12 ∧ b = X.2.2 a ∧ Cond.classLink own idx (X.1 a) ∈ gw ∧ Cond.instantiable (X.1 a) (X.2.2 a) ∈ gw ∧ Cond.initialized (X.1 a) ∈ gw
  | .invokestatic idx => a = 999998 → (Cond.methodLink own idx arraycopyName ∈ gw ∧ Cond.native arraycopyName ∈ gw ∧ Cond.static arraycopyName ∈ gw ∧ Cond.initialized "java/lang/System" ∈ gw ∧ 1 ≤ R.frames ∧ 26 ≤ R.locals)
  | _ => True
section IJ
variable {p : Program} {l : Launch} {e : Env} {R : Room} {s : State} {m : MethodId} {args : Array Value} {below : List Frame} {meth : Method} {c : Code} {H : Heap} {locs : List Loc} {cells slots : Nat} {Q : State → Prop}
variable {cc : ByteArray} {pc : Nat} {ls : Array Slot} {B : ij_B} {D : va_G} {cl : List vw_C} {aC : Nat → ClassId} {n1 : ij_N1} {n2 : ij_N2} {sr : ij_S1} {xt : ij_X} {X : ij_Cx} {gw : List Cond} {own : String} {tt : Nat → Nat → Nat}
theorem ij_W_size {g : JFrame} (k : H.size ≤ s.heap.size + cells → W p l e R s m args below meth c H locs cells slots Q g) : W p l e R s m args below meth c H locs cells slots Q g := fun T hT X => k (by rw [← hT]; exact X.heapSize) T hT X
/-- a copy out of an int array that nobody writes -/
theorem ij_copyt {rest : List Value} {ws : va_W} {tys : List (ClassId × FieldType)} {A : Nat → Prop} {a : Nat} (hexec : p.tables.exec = Jvm.exec) (hb : c.code = cc) (hml : c.maxLocals = ls.size) {index : Nat} (hown : s.vm.findClass own = some m.cls) (hlink : (Cond.methodLink own index arraycopyName).before args s = true) (hnat : (Cond.native arraycopyName).before args s = true) (hstat : (Cond.static arraycopyName).before args s = true) (hini : (Cond.initialized "java/lang/System").before args s = true)
    (hK : va_K D cl tys s) (hP : va_P D cl ws H) (hD : va_D A ws) (hS : va_S A s.heap H locs) {b0 n0 : Nat} {f : Nat → Int32} (hX : va_T .int b0 n0 (fun j => .int (f j)) A s s.heap) (q1 t1 : Nat) {c1 : ClassId} {n1 : Nat} {g : Nat → Int32} (ha1 : ws[q1]? = some (a, .inl (c1, n1, .inl g))) (ht1 : tys[t1]? = some (c1, .int))
    {sp dp n : Int32} (h1 : ¬ sp < 0) (h2 : ¬ dp < 0) (h3 : ¬ n < 0) (h4 : sp.toNatClampNeg + n.toNatClampNeg ≤ n0) (h5 : dp.toNatClampNeg + n.toNatClampNeg ≤ n1)
    (hframes : 1 ≤ R.frames) (hlocals : (rest.map fun v => v.category).sum + (nativeFrameWords "java/lang/System" "arraycopy" 5 + 11) ≤ R.locals) (hdg : decode cc pc = .ok (.invokestatic index, 3))
    (kk : ∀ (H1 : Heap) (locs1 : List Loc), va_P D cl (ws.set q1 (a, .inl (c1, n1, .inl (va_cpy f g sp.toNatClampNeg dp.toNatClampNeg n.toNatClampNeg)))) H1 → va_S A s.heap H1 locs1 → W p l e R s m args below meth c H1 locs1 cells slots Q (F0 m (pc + 3) ls rest)) : W p l e R s m args below meth c H locs cells slots Q (F0 m pc ls (.int n :: .int dp :: .ref a :: .int sp :: .ref b0 :: rest)) := by
  have nn : ∀ z : Int32, ¬ z < 0 → z.toInt = (z.toNatClampNeg : Int) := by
    intro z hz
    have hz0 : (0 : Int) ≤ z.toInt := by simpa using Int32.le_iff_toInt_le.mp (Int32.not_lt.mp hz)
    show z.toInt = ((z.toInt.toNat : Nat) : Int)
    omega
  intro T hT Y
  obtain ⟨scr, hs1, hs2, hs3, hs4, -, hs5, hs7⟩ := hX
  have hc0 : H[b0]? = some scr := by rw [hS.2.1 b0 (Array.getElem?_eq_some_iff.mp hs1).1 hs7]; exact hs1
  have hc1 : H[a]? = some (vp_cell c1 (n1, .inl g)) := hP q1 _ ha1
  obtain ⟨hs6, k0, hk0, cm0, hkk0⟩ := hs2
  obtain ⟨-, k1, hk1, cm1, hkk1⟩ := (hK.2 t1 _ ht1).1 n1 (fun j => .int (g j))
  generalize hN : va_cpy f g sp.toNatClampNeg dp.toNatClampNeg n.toNatClampNeg = fN at kk
  obtain ⟨vm', Y', step⟩ := Y.arraycopy hexec hown hlink hnat hstat hini (src := b0) (dst := a) (cs := scr) (cd := vp_cell c1 (n1, .inl g)) (srcPos := sp) (destPos := dp) (n := n) (by rw [hT]; exact hc0) (by rw [hT]; exact hc1)
    hs6 (fun _ h => by cases h) hs3 (fun h => by cases h) hk0 hk1 hkk0 hkk1 (by simp [refKind]) h1 h2 h3
    (by rw [nn sp h1, nn n h3]; omega)
    (by rw [nn dp h2, nn n h3]; show ¬ _ > ((arrV c1 n1 (fun j => .int (g j))).slots.size : Int); rw [arrV_size]; omega)
    (fun vm₁ _ i hi => by
      have e : scr.slots.getD (sp.toNatClampNeg + i) .null = .int (f (sp.toNatClampNeg + i)) := by
        rw [Array.getD_eq_getD_getElem?, hs5 _ (by omega)]
        rfl
      rw [e]
      exact ⟨rfl, trivial⟩)
    (g := F0 m pc ls (.int n :: .int dp :: .ref a :: .int sp :: .ref b0 :: rest)) rfl (by rw [hml]) (rest := rest) rfl (by rw [hb]; exact hdg) hframes (by show 2 * 0 + _ + _ ≤ _; omega)
  have e1 : copied scr (vp_cell c1 (n1, .inl g)) sp dp n = vp_cell c1 (n1, .inl fN) := by
    rw [← hN]; exact va_copiedX (fun z => .int z) scr c1 f g hs5 h4
  rw [e1] at Y' step
  have hl : a < H.size := (Array.getElem?_eq_some_iff.mp hc1).1
  have hheap : ((T.setVm vm').setCell a (vp_cell c1 (n1, .inl fN))).heap = H.setIfInBounds a (vp_cell c1 (n1, .inl fN)) := by rw [← hT]; rfl
  have oq : ∀ q : Nat, q ≠ a → (H.setIfInBounds a (vp_cell c1 (n1, .inl fN)))[q]? = H[q]? := fun q hq => by simp [Array.getElem?_setIfInBounds, Ne.symm hq]
  obtain ⟨t, a1, b1⟩ := kk _ _ (hP.set hD ha1 (show (H.setIfInBounds a _)[a]? = some _ by simp [Array.getElem?_setIfInBounds, hl]) oq) ⟨by simp; exact hS.1, fun q g1 g2 => by
      rw [oq q (fun e => g2 (by rw [e]; exact hD.2 q1 _ ha1))]
      exact hS.2.1 q g1 g2, fun q hq => by
      rcases List.mem_append.mp hq with h | h
      · exact hS.2.2 q h
      · obtain ⟨z, -, hz⟩ := List.mem_map.mp h
        rw [← hz]
        exact hD.2 q1 _ ha1⟩ _ hheap Y'
  exact ⟨t, step t a1, b1⟩
theorem ij_fs_set {t : Nat → Nat} {mm m' : ij_M} {j k n : Nat} {v : Value} (hk : k < n) (hv : ij_fc B (t k) m' j k = v) (ho : ∀ i, i ≠ k → ij_fc B (t i) m' j i = ij_fc B (t i) mm j i) :
    ((List.range n).map (fun k => ij_fc B (t k) mm j k)).set k v = (List.range n).map (fun k => ij_fc B (t k) m' j k) := by
  apply List.ext_getElem?
  intro i
  rw [List.getElem?_set, List.getElem?_map, List.getElem?_map]
  by_cases hi : k = i
  · subst hi
    rw [if_pos rfl, if_pos (by simpa using hk), List.getElem?_range hk]
    show some v = some (ij_fc B (t k) m' j k)
    rw [hv]
  · rw [if_neg hi]
    by_cases hin : i < n
    · rw [List.getElem?_range hin]
      show some (ij_fc B (t i) mm j i) = some (ij_fc B (t i) m' j i)
      rw [ho i (fun q => hi q.symm)]
    · rw [List.getElem?_eq_none (by simpa using hin)]
      rfl
theorem ij_put_ok {t : Nat} {mm m' : ij_M} {j k : Nat} {v : Value} (h : ij_put t mm j k v = some m') {ty : FieldType} (hty : ij_tk ty = t) :
    narrow ty (ij_cv B v) = ij_cv B v ∧ fits ty (ij_cv B v) = true ∧ (∀ i, i ≠ j → m'.1 i = mm.1 i) ∧ (∀ i, i ≠ j → m'.2.1 i = mm.2.1 i) ∧ (∀ i, i ≠ j → m'.2.2 i = mm.2.2 i) ∧ ij_fc B t m' j k = ij_cv B v ∧ ∀ t' i, i ≠ k → ij_fc B t' m' j i = ij_fc B t' mm j i := by
  have hfc : ∀ {t' i : Nat}, i ≠ k → m'.1 j i = mm.1 j i → m'.2.1 j i = mm.2.1 j i → m'.2.2 j i = mm.2.2 j i → ij_fc B t' m' j i = ij_fc B t' mm j i := by
    intro t' i _ h1 h2 h3
    unfold ij_fc
    rw [h1, h2, h3]
  unfold ij_put at h
  split at h
  · next x =>
    cases h
    have hi : ty = .int := by cases ty <;> simp [ij_tk] at hty ⊢
    subst hi
    refine ⟨rfl, rfl, fun i hi => ij_ui_ne hi, fun _ _ => rfl, fun _ _ => rfl, ?_, fun t' i hi => hfc hi ?_ rfl rfl⟩
    · show Value.int (ij_ui mm.1 j k x j k) = _
      rw [ij_ui_eq]; simp [upd, ij_cv]
    · show ij_ui mm.1 j k x j i = _
      rw [ij_ui_eq]; simp [upd, hi]
  · next x =>
    cases h
    have hi : ty = .long := by cases ty <;> simp [ij_tk] at hty ⊢
    subst hi
    refine ⟨rfl, rfl, fun _ _ => rfl, fun i hi => ij_ul_ne hi, fun _ _ => rfl, ?_, fun t' i hi => hfc hi rfl ?_ rfl⟩
    · show Value.long (ij_ul mm.2.1 j k x j k) = _
      rw [ij_ul_eq]; simp [vp_updL, ij_cv]
    · show ij_ul mm.2.1 j k x j i = _
      rw [ij_ul_eq]; simp [vp_updL, hi]
  · next x =>
    split at h
    · next hx =>
      cases h
      have e0 : ij_cv B (.ref x) = .ref (B.1 + x) := ij_cv_cell B hx
      refine ⟨?_, ?_, fun _ _ => rfl, fun _ _ => rfl, fun i hi => ij_ur_ne hi, ?_, fun t' i hi => hfc hi rfl rfl ?_⟩
      · rw [e0]; cases ty <;> simp [ij_tk] at hty <;> rfl
      · rw [e0]; cases ty <;> simp [ij_tk] at hty <;> rfl
      · show va_rf ((ij_ur mm.2.2 j k (some x) j k).map (ij_ad B)) = _
        rw [ij_ur_eq, e0]; simp [va_up, va_rf, ij_ad_lt B hx]
      · show ij_ur mm.2.2 j k (some x) j i = _
        rw [ij_ur_eq]; simp [va_up, hi]
    · cases h
  · next x =>
    split at h
    · next hx =>
      cases h
      have hi : ty = .boolean := by cases ty <;> simp [ij_tk] at hty ⊢
      subst hi
      refine ⟨?_, ?_, fun i hi => ij_ui_ne hi, fun _ _ => rfl, fun _ _ => rfl, ?_, fun t' i hi => hfc hi ?_ rfl rfl⟩
      · show narrow .boolean (.int x) = .int x
        rcases hx with rfl | rfl <;> decide
      · show fits .boolean (.int x) = true
        rcases hx with rfl | rfl <;> decide
      · show Value.int (ij_ui mm.1 j k x j k) = _
        rw [ij_ui_eq]; simp [upd, ij_cv]
      · show ij_ui mm.1 j k x j i = _
        rw [ij_ui_eq]; simp [upd, hi]
    · cases h
  · cases h
theorem ij_ws_new (h : ij_H) (kd n : Nat) : ij_ws B tt aC (ij_new h kd n) = ij_ws B tt aC h ++ [(B.1 + h.1.length, ij_cell B tt aC (ij_new h kd n).2 h.1.length (kd, n))] := by
  apply List.ext_getElem?
  intro i
  have hlen : (ij_ws B tt aC h).length = h.1.length := by simp [ij_ws]
  by_cases hi : i < h.1.length
  · rw [List.getElem?_append_left (by rw [hlen]; exact hi), ij_ws_get, ij_ws_get]
    show ((h.1 ++ [(kd, n)])[i]?).map _ = _
    rw [List.getElem?_append_left hi]
    have hne : i ≠ h.1.length := by omega
    have e : ∀ sh, ij_cell B tt aC (ij_new h kd n).2 i sh = ij_cell B tt aC h.2 i sh := by
      intro sh
      unfold ij_cell ij_ar ij_fc ij_new
      simp only [ij_row_ne hne]
    simp only [e]
  · rw [List.getElem?_append_right (by rw [hlen]; omega), ij_ws_get, hlen]
    show ((h.1 ++ [(kd, n)])[i]?).map _ = _
    rw [List.getElem?_append_right (by omega)]
    by_cases h0 : i = h.1.length
    · subst h0
      simp
    · rw [List.getElem?_eq_none (by simp; omega), List.getElem?_eq_none (by simp; omega)]
      rfl
theorem ij_sl_new (h : ij_H) (kd n : Nat) : ij_sl (ij_new h kd n) = ij_sl h + n := by
  simp [ij_sl, ij_new]
/-- a new cell is the next one -/
theorem ij_addr {h : ij_H} {x : va_E} {q : Nat} {H1 : Heap} {cells1 : Nat} (hsz : s.heap.size + cells = B.1 + h.1.length) (hP : va_P D cl (ij_ws B tt aC h ++ [(q, x)]) H1) (hD : va_D (ij_A B) (ij_ws B tt aC h ++ [(q, x)])) (hc : cells1 = cells + 1) (hs : H1.size ≤ s.heap.size + cells1) : q = B.1 + h.1.length := by
  have hlen : (ij_ws B tt aC h).length = h.1.length := by simp [ij_ws]
  have hq : (ij_ws B tt aC h ++ [(q, x)])[h.1.length]? = some (q, x) := by
    rw [List.getElem?_append_right (by omega), hlen]
    simp
  have h1 : q < H1.size := (hP _ _ hq).lt
  have h2 : B.1 ≤ q := hD.2 _ _ hq
  rcases Nat.lt_or_ge q (B.1 + h.1.length) with h3 | h3
  · exfalso
    have hj : q - B.1 < h.1.length := by omega
    obtain ⟨sh, hsh⟩ : ∃ sh, h.1[q - B.1]? = some sh := ⟨_, List.getElem?_eq_getElem hj⟩
    have hw := ij_ws_at (B := B) (tt := tt) (aC := aC) hsh
    have hw2 : (ij_ws B tt aC h ++ [(q, x)])[q - B.1]? = some (B.1 + (q - B.1), ij_cell B tt aC h.2 (q - B.1) sh) := by
      rw [List.getElem?_append_left (by omega)]; exact hw
    have := hD.1 _ _ _ _ hw2 hq (by show B.1 + (q - B.1) = q; omega)
    omega
  · omega
theorem ij_newrow_i (h : ij_H) (kd n : Nat) : (ij_new h kd n).2.1 h.1.length = fun _ => 0 := ij_row_eq
theorem ij_newrow_l (h : ij_H) (kd n : Nat) : (ij_new h kd n).2.2.1 h.1.length = fun _ => 0 := ij_row_eq
theorem ij_newrow_r (h : ij_H) (kd n : Nat) : (ij_new h kd n).2.2.2 h.1.length = fun _ => none := ij_row_eq
set_option maxHeartbeats 8000000 in
theorem ij_hW_ok (hB : B.2.2.category = 1) (hcl : ∀ ci, ci < 12 → cl[ci]? = some (X.1 ci, X.2.1 ci, X.2.2 ci)) (hcw : ∀ ci, ci < 12 → ∀ w ∈ u_ws (X.1 ci) (X.2.1 ci) (X.2.2 ci), w ∈ gw)
    {ty0 : Nat → Nat → FieldType} (hty : ∀ ci, ci < 12 → ∀ k, k < X.2.2 ci → parseFieldDescriptor (X.2.1 ci k).2.2.1 = some (ty0 ci k)) (htk : ∀ ci, ci < 12 → ∀ k, k < X.2.2 ci → ij_tk (ty0 ci k) = tt ci k) (ht4 : ∀ ci, ci < 12 → ∀ k, k < X.2.2 ci → tt ci k < 4) (hnm : ∀ ci, ci < 12 → ∀ a, a < X.2.2 ci → ∀ b, b < X.2.2 ci → a ≠ b → (X.2.1 ci a).2.1 ≠ (X.2.1 ci b).2.1)
    (hcn : X.1 8 = "ScaleForge$Tray" ∧ X.1 4 = "ScaleForge$Scale" ∧ X.1 6 = "ScaleForge$Studies")
    (hx : p.tables.exec = Jvm.exec) (hb : c.code = cc) {i : Instr} (hd : decode cc pc = .ok (i, ij_len i)) (hown : s.vm.findClass own = some m.cls) (hts : ∀ w ∈ gw, w.before args s = true) (hE : ij_Ev B D cl aC n1 n2 sr xt s) {h h' : ij_H} (hP : va_P D cl (ij_ws B tt aC h) H) (hS : va_S (ij_A B) s.heap H locs) (hml : ls.size = c.maxLocals)
    {ini : Prop} (hini : ini → meth.name = "<init>") (hsz : s.heap.size + cells = B.1 + h.1.length) (hbase : B.1 ≤ s.heap.size) (hroom : cells + h'.1.length ≤ R.cells + h.1.length ∧ slots + ij_sl h' ≤ R.slots + ij_sl h)
    {a b : Nat} (hok : ij_okW X gw own ini R i a b) {st st' : List Value} (hr : ij_hW tt xt i a b st h = some (st', h'))
    (k : ∀ (H1 : Heap) (locs1 : List Loc) (cells1 slots1 : Nat), cells1 + h.1.length = cells + h'.1.length → slots1 + ij_sl h = slots + ij_sl h' → va_P D cl (ij_ws B tt aC h') H1 → va_S (ij_A B) s.heap H1 locs1 → W p l e R s m args below meth c H1 locs1 cells1 slots1 Q (F0 m (pc + ij_len i) ls (st'.map (ij_cv B)))) : W p l e R s m args below meth c H locs cells slots Q (F0 m pc ls (st.map (ij_cv B))) := by
  obtain ⟨hK, e2, e3, ⟨ao1, ao2, ao3⟩, e7, e8, e9, e10, e11, e12⟩ := hE
  have hD := ij_ws_D B tt aC h
  have hA : ∀ q : Nat, s.heap.size ≤ q → ij_A B q := fun q hq => Nat.le_trans hbase hq
  unfold ij_hW at hr
  split at hr
  · -- putfield
    split at hr
    · next v j r =>
      split at hr
      · next hj =>
        split at hr
        · next kd n hsh =>
          split at hr
          · next hc =>
            obtain ⟨rfl, h100, hbn⟩ := hc
            obtain ⟨m', hm, e0⟩ := Option.map_eq_some_iff.mp hr
            cases e0
            obtain ⟨g1, g2, g3, g4⟩ := hok
            obtain ⟨f1, f2, f3, f4, f5, f6, f7⟩ := ij_put_ok (B := B) hm (htk kd g1 b g2)
            have hw := ij_ws_at (B := B) (tt := tt) (aC := aC) hsh
            rw [show ij_cell B tt aC h.2 j (kd, n) = .inr (kd, (List.range n).map (fun k => ij_fc B (tt kd k) h.2 j k)) from if_pos h100] at hw
            have hset := ij_ws_set (B := B) (tt := tt) (aC := aC) (m' := m') (x := .inr (kd, ((List.range n).map (fun k => ij_fc B (tt kd k) h.2 j k)).set b (ij_cv B v))) hsh (by
              rw [show ij_cell B tt aC m' j (kd, n) = .inr (kd, (List.range n).map (fun k => ij_fc B (tt kd k) m' j k)) from if_pos h100, ij_fs_set hbn f6 (fun i hi => f7 _ i hi)]) f3 f4 f5
            rw [List.map_cons, List.map_cons, ij_cv_cell B hj]
            rcases g4 with g4 | ⟨g4, g5, g6⟩
            · refine va_put hx hb hts (hcw kd g1) (ty0 kd) (hty kd g1) (hnm kd g1) hown hK hP hD hS j hw (hcl kd g1) b g2 (hts _ g3) (fun _ q => q) g4 (hty kd g1 b g2) f1 f2 (by simpa using hbn) hd (fun H1 locs1 hP1 hD1 hS1 => ?_)
              rw [hset] at hP1
              exact k H1 locs1 cells slots rfl rfl hP1 hS1
            · refine va_putF hx hb hts (hcw kd g1) (ty0 kd) (hty kd g1) (hnm kd g1) hown hK hP hD hS j hw (hcl kd g1) b g2 (hts _ g3) (fun _ q => q) g4 (hini g5) g6 (hty kd g1 b g2) f1 f2 (by simpa using hbn) hd (fun H1 locs1 hP1 hD1 hS1 => ?_)
              rw [hset] at hP1
              exact k H1 locs1 cells slots rfl rfl hP1 hS1
          · cases hr
        · cases hr
      · cases hr
    · cases hr
  · -- iastore
    split at hr
    · next x i j r =>
      split at hr
      · next hj =>
        split at hr
        · next n hsh =>
          split at hr
          · cases hr
          · next hin =>
            cases hr
            rw [List.map_cons, List.map_cons, List.map_cons, ij_cv_cell B hj]
            refine va_iast hx hb hK hP hD hS j 0 (cA := aC 0) (n := n) (f := h.2.1 j) (ij_ws_at hsh) rfl hin hd (fun H1 locs1 hP1 hD1 hS1 => ?_)
            rw [ij_ws_set (m' := (ij_ui h.2.1 j i.toNatClampNeg x, h.2.2)) hsh (by show Sum.inl (aC 0, n, Sum.inl (ij_ui h.2.1 j i.toNatClampNeg x j)) = _; rw [ij_ui_eq]) (fun i hi => ij_ui_ne hi) (fun _ _ => rfl) (fun _ _ => rfl)] at hP1
            exact k H1 locs1 cells slots rfl rfl hP1 hS1
        · cases hr
      · cases hr
    · cases hr
  · -- bastore
    split at hr
    · next x i j r =>
      split at hr
      · next hj =>
        split at hr
        · next n hsh =>
          split at hr
          · cases hr
          · next hin =>
            cases hr
            rw [List.map_cons, List.map_cons, List.map_cons, ij_cv_cell B hj]
            refine va_bast hx hb hK hP hD hS j 2 (cA := aC 2) (n := n) (f := h.2.1 j) (ij_ws_at hsh) rfl hin hd (fun H1 locs1 hP1 hD1 hS1 => ?_)
            rw [ij_ws_set (m' := (ij_ui h.2.1 j i.toNatClampNeg (vp_nar .byte x), h.2.2)) hsh (by show Sum.inl (aC 2, n, Sum.inl (ij_ui h.2.1 j i.toNatClampNeg (vp_nar .byte x) j)) = _; rw [ij_ui_eq]) (fun i hi => ij_ui_ne hi) (fun _ _ => rfl) (fun _ _ => rfl)] at hP1
            exact k H1 locs1 cells slots rfl rfl hP1 hS1
        · next n hsh =>
          split at hr
          · cases hr
          · next hin =>
            cases hr
            rw [List.map_cons, List.map_cons, List.map_cons, ij_cv_cell B hj]
            refine va_zast hx hb hK hP hD hS j 3 (cA := aC 3) (n := n) (f := h.2.1 j) (ij_ws_at hsh) rfl hin hd (fun H1 locs1 hP1 hD1 hS1 => ?_)
            rw [ij_ws_set (m' := (ij_ui h.2.1 j i.toNatClampNeg (vp_nar .boolean x), h.2.2)) hsh (by show Sum.inl (aC 3, n, Sum.inl (ij_ui h.2.1 j i.toNatClampNeg (vp_nar .boolean x) j)) = _; rw [ij_ui_eq]) (fun i hi => ij_ui_ne hi) (fun _ _ => rfl) (fun _ _ => rfl)] at hP1
            exact k H1 locs1 cells slots rfl rfl hP1 hS1
        · cases hr
      · cases hr
    · cases hr
  · -- lastore
    split at hr
    · next x i j r =>
      split at hr
      · next hj =>
        split at hr
        · next n hsh =>
          split at hr
          · cases hr
          · next hin =>
            cases hr
            rw [List.map_cons, List.map_cons, List.map_cons, ij_cv_cell B hj]
            refine va_last hx hb hK hP hD hS j 1 (cA := aC 1) (n := n) (f := h.2.2.1 j) (ij_ws_at hsh) rfl hin hd (fun H1 locs1 hP1 hD1 hS1 => ?_)
            rw [ij_ws_set (m' := (h.2.1, ij_ul h.2.2.1 j i.toNatClampNeg x, h.2.2.2)) hsh (by show Sum.inl (aC 1, n, Sum.inr (Sum.inl (ij_ul h.2.2.1 j i.toNatClampNeg x j))) = _; rw [ij_ul_eq]) (fun _ _ => rfl) (fun i hi => ij_ul_ne hi) (fun _ _ => rfl)] at hP1
            exact k H1 locs1 cells slots rfl rfl hP1 hS1
        · cases hr
      · cases hr
    · cases hr
  · -- aastore
    split at hr
    · next v i j r =>
      split at hr
      · next hjv =>
        split at hr
        · next kd n kv nv hsh hvh =>
          split at hr
          · cases hr
          · next hin =>
            cases hr
            have hin2 : vp_in i n := fun q => hin (Or.inr (Or.inr (Or.inr q)))
            have hkv : kv = ij_ecl kd := Decidable.byContradiction fun q => hin (Or.inr (Or.inr (Or.inl q)))
            have h3 : kd = 104 ∨ kd = 105 ∨ kd = 106 := by
              have q1 : ¬ kd < 104 := fun q => hin (Or.inl q)
              have q2 : ¬ 106 < kd := fun q => hin (Or.inr (Or.inl q))
              omega
            rw [List.map_cons, List.map_cons, List.map_cons, ij_cv_cell B hjv.1, ij_cv_cell B hjv.2]
            have eup : ∀ (f : Nat → Option Nat), (fun q => (va_up f i.toNatClampNeg (some v) q).map (ij_ad B)) = va_up (fun q => (f q).map (ij_ad B)) i.toNatClampNeg (some (B.1 + v)) := by
              intro f
              funext q
              unfold va_up
              split
              · show some (ij_ad B v) = _
                rw [ij_ad_lt B hjv.2]
              · rfl
            have hwv := ij_ws_at (B := B) (tt := tt) (aC := aC) hvh
            rcases h3 with rfl | rfl | rfl
            · subst hkv
              refine va_astq hx hb hK hP hD hS j 4 v 8 (cA := aC 4) (r := (X.1 8, X.2.1 8, X.2.2 8)) (n := n) (f := fun i => (h.2.2.2 j i).map (ij_ad B)) (ij_ws_at hsh) (by show _ = some (aC 4, FieldType.object (X.1 8)); rw [hcn.1]; rfl) hwv (hcl 8 (by omega)) hin2 hd (fun H1 locs1 hP1 hD1 hS1 => ?_)
              rw [ij_ws_set (m' := (h.2.1, h.2.2.1, ij_ur h.2.2.2 j i.toNatClampNeg (some v))) hsh (by show Sum.inl (aC 4, n, Sum.inr (Sum.inr (Sum.inr (Sum.inr (fun q => (ij_ur h.2.2.2 j i.toNatClampNeg (some v) j q).map (ij_ad B)))))) = _; rw [ij_ur_eq, eup]) (fun _ _ => rfl) (fun _ _ => rfl) (fun i hi => ij_ur_ne hi)] at hP1
              exact k H1 locs1 cells slots rfl rfl hP1 hS1
            · subst hkv
              refine va_astq hx hb hK hP hD hS j 5 v 4 (cA := aC 5) (r := (X.1 4, X.2.1 4, X.2.2 4)) (n := n) (f := fun i => (h.2.2.2 j i).map (ij_ad B)) (ij_ws_at hsh) (by show _ = some (aC 5, FieldType.object (X.1 4)); rw [hcn.2.1]; rfl) hwv (hcl 4 (by omega)) hin2 hd (fun H1 locs1 hP1 hD1 hS1 => ?_)
              rw [ij_ws_set (m' := (h.2.1, h.2.2.1, ij_ur h.2.2.2 j i.toNatClampNeg (some v))) hsh (by show Sum.inl (aC 5, n, Sum.inr (Sum.inr (Sum.inr (Sum.inr (fun q => (ij_ur h.2.2.2 j i.toNatClampNeg (some v) j q).map (ij_ad B)))))) = _; rw [ij_ur_eq, eup]) (fun _ _ => rfl) (fun _ _ => rfl) (fun i hi => ij_ur_ne hi)] at hP1
              exact k H1 locs1 cells slots rfl rfl hP1 hS1
            · subst hkv
              refine va_astq hx hb hK hP hD hS j 6 v 6 (cA := aC 6) (r := (X.1 6, X.2.1 6, X.2.2 6)) (n := n) (f := fun i => (h.2.2.2 j i).map (ij_ad B)) (ij_ws_at hsh) (by show _ = some (aC 6, FieldType.object (X.1 6)); rw [hcn.2.2]; rfl) hwv (hcl 6 (by omega)) hin2 hd (fun H1 locs1 hP1 hD1 hS1 => ?_)
              rw [ij_ws_set (m' := (h.2.1, h.2.2.1, ij_ur h.2.2.2 j i.toNatClampNeg (some v))) hsh (by show Sum.inl (aC 6, n, Sum.inr (Sum.inr (Sum.inr (Sum.inr (fun q => (ij_ur h.2.2.2 j i.toNatClampNeg (some v) j q).map (ij_ad B)))))) = _; rw [ij_ur_eq, eup]) (fun _ _ => rfl) (fun _ _ => rfl) (fun i hi => ij_ur_ne hi)] at hP1
              exact k H1 locs1 cells slots rfl rfl hP1 hS1
        · cases hr
      · cases hr
    · cases hr
  · -- newarray
    next t =>
    split at hr
    · next n r =>
      split at hr
      · cases hr
      · next hn =>
        cases hr
        have hn0 : ¬ n < 0 := fun q => hn (Or.inl q)
        have hak : ¬ ij_akind t = 0 := fun q => hn (Or.inr (Or.inl q))
        have h64 : ¬ 65536 < n.toNatClampNeg := fun q => hn (Or.inr (Or.inr (Or.inl q)))
        have hl : h.1.length < 1000000 := by
          have q : ¬ 999999 < h.1.length := fun q => hn (Or.inr (Or.inr (Or.inr q)))
          omega
        have hr1 : cells + 1 ≤ R.cells := by
          have := hroom.1
          simp [ij_new] at this
          omega
        have hr2 : slots + n.toNatClampNeg ≤ R.slots := by
          have := hroom.2
          rw [ij_sl_new] at this
          omega
        cases t with
        | int =>
          refine va_newa (atype := .int) (ty := .int) hx hb (hts _ hok) rfl hK hP hD hS hA (N' := n.toNatClampNeg) (a0 := (n.toNatClampNeg, .inl (fun _ => 0))) (fun cA => rfl) hn0 rfl (by show _ * 4 ≤ _; omega) hr1 hr2 hd (fun q cA H1 hK1 hP1 hD1 hS1 => ij_W_size (fun hs => ?_))
          have h1 : s.vm.findClass ("[" ++ FieldType.int.toString) = some cA := (hK1.2 7 (cA, .int) rfl).2
          have h2 : s.vm.findClass ("[" ++ FieldType.int.toString) = some (aC 0) := (hK.2 0 (aC 0, .int) rfl).2
          cases Option.some.inj (h1.symm.trans h2)
          cases ij_addr hsz hP1 hD1 rfl hs
          have e : ij_cell B tt aC (ij_new h 100 n.toNatClampNeg).2 h.1.length (100, n.toNatClampNeg) = .inl (aC 0, n.toNatClampNeg, .inl (fun _ => 0)) := by
            show Sum.inl (aC 0, _, Sum.inl ((ij_new h 100 n.toNatClampNeg).2.1 h.1.length)) = _
            rw [ij_newrow_i]
          rw [← e, ← ij_ws_new] at hP1
          have := k H1 locs (cells + 1) (slots + n.toNatClampNeg) (by simp [ij_akind, ij_new]; omega) (by rw [show ij_akind .int = 100 from rfl, ij_sl_new]; omega) hP1 hS1
          rwa [List.map_cons, ij_cv_cell B hl] at this
        | long =>
          refine va_newa (atype := .long) (ty := .long) hx hb (hts _ hok) rfl hK hP hD hS hA (N' := n.toNatClampNeg) (a0 := (n.toNatClampNeg, .inr (.inl (fun _ => 0)))) (fun cA => rfl) hn0 rfl (by show _ * 8 ≤ _; omega) hr1 hr2 hd (fun q cA H1 hK1 hP1 hD1 hS1 => ij_W_size (fun hs => ?_))
          have h1 : s.vm.findClass ("[" ++ FieldType.long.toString) = some cA := (hK1.2 7 (cA, .long) rfl).2
          have h2 : s.vm.findClass ("[" ++ FieldType.long.toString) = some (aC 1) := (hK.2 1 (aC 1, .long) rfl).2
          cases Option.some.inj (h1.symm.trans h2)
          cases ij_addr hsz hP1 hD1 rfl hs
          have e : ij_cell B tt aC (ij_new h 101 n.toNatClampNeg).2 h.1.length (101, n.toNatClampNeg) = .inl (aC 1, n.toNatClampNeg, .inr (.inl (fun _ => 0))) := by
            show Sum.inl (aC 1, _, Sum.inr (Sum.inl ((ij_new h 101 n.toNatClampNeg).2.2.1 h.1.length))) = _
            rw [ij_newrow_l]
          rw [← e, ← ij_ws_new] at hP1
          have := k H1 locs (cells + 1) (slots + n.toNatClampNeg) (by simp [ij_akind, ij_new]; omega) (by rw [show ij_akind .long = 101 from rfl, ij_sl_new]; omega) hP1 hS1
          rwa [List.map_cons, ij_cv_cell B hl] at this
        | byte =>
          refine va_newa (atype := .byte) (ty := .byte) hx hb (hts _ hok) rfl hK hP hD hS hA (N' := n.toNatClampNeg) (a0 := (n.toNatClampNeg, .inl (fun _ => 0))) (fun cA => rfl) hn0 rfl (by show _ * 1 ≤ _; omega) hr1 hr2 hd (fun q cA H1 hK1 hP1 hD1 hS1 => ij_W_size (fun hs => ?_))
          have h1 : s.vm.findClass ("[" ++ FieldType.byte.toString) = some cA := (hK1.2 7 (cA, .byte) rfl).2
          have h2 : s.vm.findClass ("[" ++ FieldType.byte.toString) = some (aC 2) := (hK.2 2 (aC 2, .byte) rfl).2
          cases Option.some.inj (h1.symm.trans h2)
          cases ij_addr hsz hP1 hD1 rfl hs
          have e : ij_cell B tt aC (ij_new h 102 n.toNatClampNeg).2 h.1.length (102, n.toNatClampNeg) = .inl (aC 2, n.toNatClampNeg, .inl (fun _ => 0)) := by
            show Sum.inl (aC 2, _, Sum.inl ((ij_new h 102 n.toNatClampNeg).2.1 h.1.length)) = _
            rw [ij_newrow_i]
          rw [← e, ← ij_ws_new] at hP1
          have := k H1 locs (cells + 1) (slots + n.toNatClampNeg) (by simp [ij_akind, ij_new]; omega) (by rw [show ij_akind .byte = 102 from rfl, ij_sl_new]; omega) hP1 hS1
          rwa [List.map_cons, ij_cv_cell B hl] at this
        | boolean =>
          refine va_newa (atype := .boolean) (ty := .boolean) hx hb (hts _ hok) rfl hK hP hD hS hA (N' := n.toNatClampNeg) (a0 := (n.toNatClampNeg, .inl (fun _ => 0))) (fun cA => rfl) hn0 rfl (by show _ * 1 ≤ _; omega) hr1 hr2 hd (fun q cA H1 hK1 hP1 hD1 hS1 => ij_W_size (fun hs => ?_))
          have h1 : s.vm.findClass ("[" ++ FieldType.boolean.toString) = some cA := (hK1.2 7 (cA, .boolean) rfl).2
          have h2 : s.vm.findClass ("[" ++ FieldType.boolean.toString) = some (aC 3) := (hK.2 3 (aC 3, .boolean) rfl).2
          cases Option.some.inj (h1.symm.trans h2)
          cases ij_addr hsz hP1 hD1 rfl hs
          have e : ij_cell B tt aC (ij_new h 103 n.toNatClampNeg).2 h.1.length (103, n.toNatClampNeg) = .inl (aC 3, n.toNatClampNeg, .inl (fun _ => 0)) := by
            show Sum.inl (aC 3, _, Sum.inl ((ij_new h 103 n.toNatClampNeg).2.1 h.1.length)) = _
            rw [ij_newrow_i]
          rw [← e, ← ij_ws_new] at hP1
          have := k H1 locs (cells + 1) (slots + n.toNatClampNeg) (by simp [ij_akind, ij_new]; omega) (by rw [show ij_akind .boolean = 103 from rfl, ij_sl_new]; omega) hP1 hS1
          rwa [List.map_cons, ij_cv_cell B hl] at this
        | _ => exact absurd rfl hak
    · cases hr
  · -- anewarray
    split at hr
    · next n r =>
      split at hr
      · cases hr
      · next hn =>
        cases hr
        have hn0 : ¬ n < 0 := fun q => hn (Or.inl q)
        have h64 : ¬ 65536 < n.toNatClampNeg := fun q => hn (Or.inr (Or.inr (Or.inr (Or.inl q))))
        have hl : h.1.length < 1000000 := by
          have q : ¬ 999999 < h.1.length := fun q => hn (Or.inr (Or.inr (Or.inr (Or.inr q))))
          omega
        have h3 : a = 104 ∨ a = 105 ∨ a = 106 := by
          have q1 : ¬ a < 104 := fun q => hn (Or.inr (Or.inl q))
          have q2 : ¬ 106 < a := fun q => hn (Or.inr (Or.inr (Or.inl q)))
          omega
        have hr1 : cells + 1 ≤ R.cells := by
          have := hroom.1
          simp [ij_new] at this
          omega
        have hr2 : slots + n.toNatClampNeg ≤ R.slots := by
          have := hroom.2
          rw [ij_sl_new] at this
          omega
        rcases h3 with rfl | rfl | rfl
        · have hok : Cond.classLink own _ (X.1 8) ∈ gw := hok
          rw [hcn.1] at hok
          refine va_newq hx hb hown (hts _ hok) ao1 hK hP hD hS hA hn0 rfl (by omega) hr1 hr2 hd (fun q cA H1 hK1 hP1 hD1 hS1 => ij_W_size (fun hs => ?_))
          obtain ⟨_, _, _, _, _, h1⟩ := (hK1.2 7 (cA, .object "ScaleForge$Tray") rfl).2
          obtain ⟨_, _, _, _, _, h2⟩ := (hK.2 4 (aC 4, .object "ScaleForge$Tray") rfl).2
          cases Option.some.inj (h1.symm.trans h2)
          cases ij_addr hsz hP1 hD1 rfl hs
          have e : ij_cell B tt aC (ij_new h 104 n.toNatClampNeg).2 h.1.length (104, n.toNatClampNeg) = .inl (aC 4, n.toNatClampNeg, .inr (.inr (.inr (.inr (fun _ => none))))) := by
            show Sum.inl (aC 4, _, Sum.inr (Sum.inr (Sum.inr (Sum.inr (fun i => ((ij_new h 104 n.toNatClampNeg).2.2.2 h.1.length i).map (ij_ad B)))))) = _
            rw [ij_newrow_r]
            rfl
          rw [← e, ← ij_ws_new] at hP1
          have := k H1 locs (cells + 1) (slots + n.toNatClampNeg) (by simp [ij_new]; omega) (by rw [ij_sl_new]; omega) hP1 hS1
          rwa [List.map_cons, ij_cv_cell B hl] at this
        · have hok : Cond.classLink own _ (X.1 4) ∈ gw := hok
          rw [hcn.2.1] at hok
          refine va_newq hx hb hown (hts _ hok) ao2 hK hP hD hS hA hn0 rfl (by omega) hr1 hr2 hd (fun q cA H1 hK1 hP1 hD1 hS1 => ij_W_size (fun hs => ?_))
          obtain ⟨_, _, _, _, _, h1⟩ := (hK1.2 7 (cA, .object "ScaleForge$Scale") rfl).2
          obtain ⟨_, _, _, _, _, h2⟩ := (hK.2 5 (aC 5, .object "ScaleForge$Scale") rfl).2
          cases Option.some.inj (h1.symm.trans h2)
          cases ij_addr hsz hP1 hD1 rfl hs
          have e : ij_cell B tt aC (ij_new h 105 n.toNatClampNeg).2 h.1.length (105, n.toNatClampNeg) = .inl (aC 5, n.toNatClampNeg, .inr (.inr (.inr (.inr (fun _ => none))))) := by
            show Sum.inl (aC 5, _, Sum.inr (Sum.inr (Sum.inr (Sum.inr (fun i => ((ij_new h 105 n.toNatClampNeg).2.2.2 h.1.length i).map (ij_ad B)))))) = _
            rw [ij_newrow_r]
            rfl
          rw [← e, ← ij_ws_new] at hP1
          have := k H1 locs (cells + 1) (slots + n.toNatClampNeg) (by simp [ij_new]; omega) (by rw [ij_sl_new]; omega) hP1 hS1
          rwa [List.map_cons, ij_cv_cell B hl] at this
        · have hok : Cond.classLink own _ (X.1 6) ∈ gw := hok
          rw [hcn.2.2] at hok
          refine va_newq hx hb hown (hts _ hok) ao3 hK hP hD hS hA hn0 rfl (by omega) hr1 hr2 hd (fun q cA H1 hK1 hP1 hD1 hS1 => ij_W_size (fun hs => ?_))
          obtain ⟨_, _, _, _, _, h1⟩ := (hK1.2 7 (cA, .object "ScaleForge$Studies") rfl).2
          obtain ⟨_, _, _, _, _, h2⟩ := (hK.2 6 (aC 6, .object "ScaleForge$Studies") rfl).2
          cases Option.some.inj (h1.symm.trans h2)
          cases ij_addr hsz hP1 hD1 rfl hs
          have e : ij_cell B tt aC (ij_new h 106 n.toNatClampNeg).2 h.1.length (106, n.toNatClampNeg) = .inl (aC 6, n.toNatClampNeg, .inr (.inr (.inr (.inr (fun _ => none))))) := by
            show Sum.inl (aC 6, _, Sum.inr (Sum.inr (Sum.inr (Sum.inr (fun i => ((ij_new h 106 n.toNatClampNeg).2.2.2 h.1.length i).map (ij_ad B)))))) = _
            rw [ij_newrow_r]
            rfl
          rw [← e, ← ij_ws_new] at hP1
          have := k H1 locs (cells + 1) (slots + n.toNatClampNeg) (by simp [ij_new]; omega) (by rw [ij_sl_new]; omega) hP1 hS1
          rwa [List.map_cons, ij_cv_cell B hl] at this
    · cases hr
  · -- new
    split at hr
    · next hc =>
      cases hr
      obtain ⟨g1, g2, g3, g4, g5⟩ := hok
      subst g2
      have hr1 : cells + 1 ≤ R.cells := by
        have := hroom.1
        simp [ij_new] at this
        omega
      have hr2 : slots + X.2.2 a ≤ R.slots := by
        have := hroom.2
        rw [ij_sl_new] at this
        omega
      refine va_new (ci := a) (fs := (List.range (X.2.2 a)).map (fun k => ij_fc B (tt a k) (ij_new h a (X.2.2 a)).2 h.1.length k)) hx hb hts (hcw a g1) (ty0 a) (hty a g1) hown (hts _ g3) (hts _ g4) (hts _ g5) hK hP hD hS hA (hcl a g1) (fun j hj => ?_) hr1 hr2 hd (fun q H1 hP1 hD1 hS1 => ij_W_size (fun hs => ?_))
      · have e1 := htk a g1 j hj
        simp only [vp_V, List.getD_eq_getElem?_getD, List.getElem?_map, List.getElem?_range hj, Option.map_some, Option.getD_some]
        unfold ij_fc
        rw [ij_newrow_i, ij_newrow_l, ij_newrow_r, ← e1]
        have e2 := ht4 a g1 j hj
        rw [← e1] at e2
        generalize ty0 a j = t at e2 ⊢
        cases t <;> first | rfl | (exfalso; simp [ij_tk] at e2)
      · cases ij_addr hsz hP1 hD1 rfl hs
        have e : ij_cell B tt aC (ij_new h a (X.2.2 a)).2 h.1.length (a, X.2.2 a) = .inr (a, (List.range (X.2.2 a)).map (fun k => ij_fc B (tt a k) (ij_new h a (X.2.2 a)).2 h.1.length k)) := if_pos (by show a < 100; omega)
        rw [← e, ← ij_ws_new] at hP1
        have := k H1 locs (cells + 1) (slots + X.2.2 a) (by simp [ij_new]; omega) (by rw [ij_sl_new]; omega) hP1 hS1
        rwa [List.map_cons, ij_cv_cell B hc.2] at this
    · cases hr
  · -- arraycopy
    split at hr
    · next n dp d sp s0 r =>
      split at hr
      · next hc =>
        obtain ⟨c1, c2, c3, c4, c5⟩ := hc
        obtain ⟨g1, g2, g3, g4, g5, g6⟩ := hok rfl
        have hloc : ((r.map (ij_cv B)).map fun v => v.category).sum + (nativeFrameWords "java/lang/System" "arraycopy" 5 + 11) ≤ R.locals := by
          rw [ij_cv_sum B hB, show nativeFrameWords "java/lang/System" "arraycopy" 5 = 7 from by decide +kernel]
          omega
        split at hr
        · next nd hdh =>
          split at hr
          · cases hr
          · next hd5 =>
            split at hr
            · next hs0 =>
              split at hr
              · next ns hsh =>
                split at hr
                · cases hr
                · next hs4 =>
                  cases hr
                  simp only [List.map_cons, ij_cv_cell B c1, ij_cv_cell B hs0]
                  refine va_copyi hx hb hml.symm hown (hts _ g1) (hts _ g2) (hts _ g3) (hts _ g4) hK hP hD hS s0 d 0 0 (c0 := aC 0) (c1 := aC 0) (n0 := ns) (n1 := nd) (f := h.2.1 s0) (g := h.2.1 d) (ty := .int) (ij_ws_at hsh) (ij_ws_at hdh) rfl rfl rfl c2 c3 c4 (by omega) (by omega) (fun _ _ => rfl) g5 hloc hd (fun H1 locs1 hP1 hD1 hS1 => ?_)
                  rw [ij_ws_set (m' := (ij_row h.2.1 d (va_cpy (h.2.1 s0) (h.2.1 d) sp.toNatClampNeg dp.toNatClampNeg n.toNatClampNeg), h.2.2)) hdh (by show Sum.inl (aC 0, nd, Sum.inl (ij_row h.2.1 d _ d)) = _; rw [ij_row_eq]) (fun i hi => ij_row_ne hi) (fun _ _ => rfl) (fun _ _ => rfl)] at hP1
                  exact k H1 locs1 cells slots rfl rfl hP1 hS1
              · cases hr
            · next hs0 =>
              split at hr
              · next ns f hxt =>
                split at hr
                · cases hr
                · next hs4 =>
                  cases hr
                  obtain ⟨⟨q1, q2⟩, ty, q3, q4, -⟩ := e10 _ _ _ _ hxt
                  cases q4 rfl
                  simp only [List.map_cons, ij_cv_cell B c1, ij_cv_out B q1 q2]
                  refine ij_copyt hx hb hml.symm hown (hts _ g1) (hts _ g2) (hts _ g3) (hts _ g4) hK hP hD hS q3 d 0 (c1 := aC 0) (n1 := nd) (g := h.2.1 d) (ij_ws_at hdh) rfl c2 c3 c4 (by omega) (by omega) g5 hloc hd (fun H1 locs1 hP1 hS1 => ?_)
                  rw [ij_ws_set (m' := (ij_row h.2.1 d (va_cpy f (h.2.1 d) sp.toNatClampNeg dp.toNatClampNeg n.toNatClampNeg), h.2.2)) hdh (by show Sum.inl (aC 0, nd, Sum.inl (ij_row h.2.1 d _ d)) = _; rw [ij_row_eq]) (fun i hi => ij_row_ne hi) (fun _ _ => rfl) (fun _ _ => rfl)] at hP1
                  exact k H1 locs1 cells slots rfl rfl hP1 hS1
              · cases hr
        · next nd hdh =>
          split at hr
          · cases hr
          · next hd5 =>
            split at hr
            · next hs0 =>
              split at hr
              · next ns hsh =>
                split at hr
                · cases hr
                · next hs4 =>
                  cases hr
                  simp only [List.map_cons, ij_cv_cell B c1, ij_cv_cell B hs0]
                  refine va_copyl hx hb hml.symm hown (hts _ g1) (hts _ g2) (hts _ g3) (hts _ g4) hK hP hD hS s0 d 1 1 (c0 := aC 1) (c1 := aC 1) (n0 := ns) (n1 := nd) (f := h.2.2.1 s0) (g := h.2.2.1 d) (ty := .long) (ij_ws_at hsh) (ij_ws_at hdh) rfl rfl rfl c2 c3 c4 (by omega) (by omega) (fun _ _ => rfl) g5 hloc hd (fun H1 locs1 hP1 hD1 hS1 => ?_)
                  rw [ij_ws_set (m' := (h.2.1, ij_row h.2.2.1 d (va_cpy (h.2.2.1 s0) (h.2.2.1 d) sp.toNatClampNeg dp.toNatClampNeg n.toNatClampNeg), h.2.2.2)) hdh (by show Sum.inl (aC 1, nd, Sum.inr (Sum.inl (ij_row h.2.2.1 d _ d))) = _; rw [ij_row_eq]) (fun _ _ => rfl) (fun i hi => ij_row_ne hi) (fun _ _ => rfl)] at hP1
                  exact k H1 locs1 cells slots rfl rfl hP1 hS1
              · cases hr
            · cases hr
        · cases hr
      · cases hr
    · cases hr
  · cases hr
end IJ
