/-! Runs of the small machine are runs of the machine. -/
abbrev ij_Z : Type := (Nat → MethodName) × (Nat → ByteArray) × (Nat → Option FieldType) × (Nat → Nat) × (Nat → Nat) × Nat
def ij_rok (rt : Option FieldType) (k : Nat) : Prop := match k with
  | 0 => rt = none
  | 1 => rt = some .int
  | 2 => rt = some .long
  | 3 => rt = some .boolean
  | 4 => rt = some .byte
  | 5 => rt = some .char
  | _ => ∃ t, rt = some t ∧ ((∃ n, t = .object n) ∨ ∃ u, t = .array u)
def ij_room (Z : ij_Z) (y mc ms : Nat) : Room := { frames := Z.2.2.2.1 y, cells := mc, slots := ms, locals := Z.2.2.2.2.1 y }
/-- what a call's row must hold of the tables -/
def ij_okB (G : ij_G) (Z : ij_Z) (gw : List Cond) (y a b : Nat) : Prop :=
  a < Z.2.2.2.2.2 ∧ Cond.initialized (Z.1 a).cls ∈ gw ∧ Cond.code (Z.1 a) (Z.2.1 a) (G.2.1 a) (Z.2.2.1 a) ∈ gw ∧ ((Z.1 a).cls ≠ "java/lang/invoke/MethodHandle" ∧ (Z.1 a).cls ≠ "java/lang/invoke/VarHandle" ∧ (parseMethodDescriptor (Z.1 a).desc).map (fun d => d.parameters.length) = some b) ∧ (Z.2.2.2.1 a + 1 ≤ Z.2.2.2.1 y ∧ 8 + (G.2.1 a + 11) + Z.2.2.2.2.1 a ≤ Z.2.2.2.2.1 y)
def ij_okC (G : ij_G) (Z : ij_Z) (X : ij_Cx) (gw : List Cond) (n2 : ij_N2) (y : Nat) (i : Instr) (a b c : Nat) : Prop := match i with
  | .invokevirtual idx => 10 ≤ c → (ij_okB G Z gw y a b ∧ Cond.methodLink (Z.1 y).cls idx (Z.1 a) ∈ gw ∧ Cond.instanceMethod (Z.1 a) ∈ gw ∧ Cond.selects (Z.1 a).cls (Z.1 a) (Z.1 a) ∈ gw ∧ (Z.1 a).cls = (if c = 30 then "java/lang/String" else X.1 (c - 10)))
  | .invokestatic idx => (c = 1 → (ij_okB G Z gw y a b ∧ Cond.methodLink (Z.1 y).cls idx (Z.1 a) ∈ gw ∧ Cond.static (Z.1 a) ∈ gw)) ∧ (c = 4 → (ij_okB G Z gw y a b ∧ Cond.static (Z.1 a) ∈ gw ∧ ∃ hst, ((Z.1 y).cls, idx, Z.1 a, hst) ∈ n2))
  | .invokespecial idx => (c = 2 → (ij_okB G Z gw y a b ∧ Cond.methodLink (Z.1 y).cls idx (Z.1 a) ∈ gw ∧ Cond.instanceMethod (Z.1 a) ∈ gw ∧ (Z.1 a).name = "<init>" ∧ Z.2.2.1 a = none)) ∧ (c = 3 → (ij_okB G Z gw y a b ∧ Cond.instanceMethod (Z.1 a) ∈ gw ∧ (Z.1 a).name = "<init>" ∧ Z.2.2.1 a = none ∧ ∃ hst, ((Z.1 y).cls, idx, Z.1 a, hst) ∈ n2))
  | _ => True
def ij_okE (G : ij_G) (Z : ij_Z) (X : ij_Cx) (gw : List Cond) (n1 : ij_N1) (n2 : ij_N2) (sr : ij_S1) (y : Nat) (q : Nat × ij_E) : Prop :=
  decode (Z.2.1 y) q.1 = .ok (q.2.1, q.2.2.1) ∧ (q.2.2.1 = ij_len q.2.1 ∨ ∃ d lo hi os, q.2.1 = .tableswitch d lo hi os) ∧ ij_jok q.1 q.2.1 = true
  ∧ ij_okR X gw n1 sr (Z.1 y).cls (ij_room Z y 0 0) q.2.1 q.2.2.2.1 q.2.2.2.2.1 ∧ ij_okW X gw (Z.1 y).cls ((Z.1 y).name = "<init>") (ij_room Z y 0 0) q.2.1 q.2.2.2.1 q.2.2.2.2.1 ∧ ij_okC G Z X gw n2 y q.2.1 q.2.2.2.1 q.2.2.2.2.1 q.2.2.2.2.2
def ij_Ok (G : ij_G) (Z : ij_Z) (X : ij_Cx) (ty0 : Nat → Nat → FieldType) (gw : List Cond) (n1 : ij_N1) (n2 : ij_N2) (sr : ij_S1) (cl : List vw_C) : Prop :=
  (∀ ci, ci < 12 → cl[ci]? = some (X.1 ci, X.2.1 ci, X.2.2 ci)) ∧ (∀ ci, ci < 12 → ∀ w ∈ u_ws (X.1 ci) (X.2.1 ci) (X.2.2 ci), w ∈ gw)
  ∧ (∀ ci, ci < 12 → ∀ k, k < X.2.2 ci → parseFieldDescriptor (X.2.1 ci k).2.2.1 = some (ty0 ci k)) ∧ (∀ ci, ci < 12 → ∀ k, k < X.2.2 ci → ij_tk (ty0 ci k) = G.2.2.2 ci k) ∧ (∀ ci, ci < 12 → ∀ k, k < X.2.2 ci → G.2.2.2 ci k < 4)
  ∧ (∀ ci, ci < 12 → ∀ a, a < X.2.2 ci → ∀ b, b < X.2.2 ci → a ≠ b → (X.2.1 ci a).2.1 ≠ (X.2.1 ci b).2.1) ∧ (X.1 8 = "ScaleForge$Tray" ∧ X.1 4 = "ScaleForge$Scale" ∧ X.1 6 = "ScaleForge$Studies")
  ∧ (∀ w ∈ gw, (w.onTables && w.keeps) = true ∨ ∃ ty, w = .arrayClass ty)
  ∧ ∀ y, y < Z.2.2.2.2.2 → (plainFor (Z.1 y) = true ∧ ij_rok (Z.2.2.1 y) (G.2.2.1 y) ∧ ∀ q ∈ G.1 y, ij_okE G Z X gw n1 n2 sr y q)
def ij_wsA (G : ij_G) (Z : ij_Z) (gw : List Cond) (y : Nat) : List Cond := Cond.code (Z.1 y) (Z.2.1 y) (G.2.1 y) (Z.2.2.1 y) :: gw
def ij_Wd (B : ij_B) (D : va_G) (cl : List vw_C) (aC : Nat → ClassId) (n1 : ij_N1) (n2 : ij_N2) (sr : ij_S1) (xt : ij_X) (tt : Nat → Nat → Nat) (h : ij_H) (U : State) : Prop :=
  U.heap.size = B.1 + h.1.length ∧ va_P D cl (ij_ws B tt aC h) U.heap ∧ ij_Ev B D cl aC n1 n2 sr xt U
def ij_Q (B : ij_B) (D : va_G) (cl : List vw_C) (aC : Nat → ClassId) (tt : Nat → Nat → Nat) (r : Option Value) (h' : ij_H) : Array Value → State → Outcome → State → Prop := fun _ st o t =>
  o = .returned (r.map (ij_cv B)) ∧ va_P D cl (ij_ws B tt aC h') t.heap ∧ va_F (ij_A B) st t
def ij_Walk (l : Launch) (G : ij_G) (Z : ij_Z) (gw : List Cond) (n1 : ij_N1) (n2 : ij_N2) (sr : ij_S1) (cl : List vw_C) (B : ij_B) (D : va_G) (aC : Nat → ClassId) (xt : ij_X) (n : Nat) : Prop :=
  ∀ (y pc : Nat) (L : ij_L) (st : List Value) (h : ij_H) (r : Option Value) (h' : ij_H), y < Z.2.2.2.2.2 → ij_run G xt n y pc L st h = some (r, h') → (h.1.length ≤ h'.1.length ∧ ij_sl h ≤ ij_sl h') ∧
  ∀ (p : Program) (e : Env) (R : Room) (s : State) (m : MethodId) (args : Array Value) (below : List Frame) (meth : Method) (c : Code) (H : Heap) (locs : List Loc) (cells slots mc ms : Nat) (Q : State → Prop) (ls : Array Slot),
    p.tables.exec = Jvm.exec → c.code = Z.2.1 y → c.maxLocals = G.2.1 y → s.vm.findClass (Z.1 y).cls = some m.cls → (∀ w ∈ gw, w.before args s = true) → meth.name = (Z.1 y).name → Z.2.2.2.1 y ≤ R.frames → Z.2.2.2.2.1 y ≤ R.locals → ij_Ev B D cl aC n1 n2 sr xt s → B.1 ≤ s.heap.size →
    va_P D cl (ij_ws B G.2.2.2 aC h) H → va_S (ij_A B) s.heap H locs → ij_LH B ls (G.2.1 y) L → s.heap.size + cells = B.1 + h.1.length → mc + h.1.length = cells + h'.1.length → ms + ij_sl h = slots + ij_sl h' → mc ≤ R.cells → ms ≤ R.slots →
    (∀ (i : Instr) (pc : Nat) (ls : Array Slot) (st : List Value) (H : Heap) (locs : List Loc), decode (Z.2.1 y) pc = .ok (i, 1) → ij_rI (G.2.2.1 y) i st = some r → va_P D cl (ij_ws B G.2.2.2 aC h') H → va_S (ij_A B) s.heap H locs → W p l e R s m args below meth c H locs mc ms Q (F0 m pc ls (st.map (ij_cv B)))) →
    W p l e R s m args below meth c H locs cells slots Q (F0 m pc ls (st.map (ij_cv B)))
theorem ij_okR_mono {X : ij_Cx} {gw : List Cond} {n1 : ij_N1} {sr : ij_S1} {own : String} {R0 R : Room} {i : Instr} {a b : Nat} (h : ij_okR X gw n1 sr own R0 i a b) (h1 : R0.frames ≤ R.frames) (h2 : R0.locals ≤ R.locals) : ij_okR X gw n1 sr own R i a b := by
  unfold ij_okR at h ⊢
  cases i <;> first | exact h | (intro ha; obtain ⟨g1, g2, g3, g4, g5⟩ := h ha; exact ⟨g1, g2, g3, Nat.le_trans g4 h1, Nat.le_trans g5 h2⟩)
theorem ij_okW_mono {X : ij_Cx} {gw : List Cond} {own : String} {ini : Prop} {R0 R : Room} {i : Instr} {a b : Nat} (h : ij_okW X gw own ini R0 i a b) (h1 : R0.frames ≤ R.frames) (h2 : R0.locals ≤ R.locals) : ij_okW X gw own ini R i a b := by
  unfold ij_okW at h ⊢
  cases i <;> first | exact h | (intro ha; obtain ⟨g1, g2, g3, g4, g5, g6⟩ := h ha; exact ⟨g1, g2, g3, g4, Nat.le_trans g5 h1, Nat.le_trans g6 h2⟩)
theorem ij_lookup_mem {k : Nat} {v : ij_E} : ∀ {l : List (Nat × ij_E)}, l.lookup k = some v → (k, v) ∈ l
  | [], h => by cases h
  | (a, b) :: t, h => by
    rw [List.lookup_cons] at h
    split at h
    · next e =>
      cases h
      rw [show k = a from by simpa using e]
      exact List.mem_cons_self
    · exact List.mem_cons_of_mem _ (ij_lookup_mem h)
theorem ij_put_len {t : Nat} {mm m' : ij_M} {j k : Nat} {v : Value} (_ : ij_put t mm j k v = some m') : True := trivial
set_option maxHeartbeats 2000000 in
theorem ij_hW_mono {tt : Nat → Nat → Nat} {xt : ij_X} {i : Instr} {a b : Nat} {st st' : List Value} {h h' : ij_H} (hr : ij_hW tt xt i a b st h = some (st', h')) : h.1.length ≤ h'.1.length ∧ ij_sl h ≤ ij_sl h' := by
  have hnew : ∀ kd n, h.1.length ≤ (ij_new h kd n).1.length ∧ ij_sl h ≤ ij_sl (ij_new h kd n) := by
    intro kd n
    rw [ij_sl_new]
    simp [ij_new]
  have hsame : ∀ m', h.1.length ≤ ((h.1, m') : ij_H).1.length ∧ ij_sl h ≤ ij_sl (h.1, m') := fun m' => ⟨Nat.le_refl _, Nat.le_refl _⟩
  unfold ij_hW at hr
  repeat' split at hr
  all_goals first
    | (cases hr; done)
    | (cases hr; exact hsame _)
    | (cases hr; exact hnew _ _)
    | (obtain ⟨m', -, e0⟩ := Option.map_eq_some_iff.mp hr; cases e0; exact hsame _)
/-- as Met.ofW, for a method that no native stands for -/
theorem ij_ofW {l : Launch} {y : MethodName} {ws ws' : List Cond} {rm : Room} {Pc : Array Value → State → Prop} {Qc : Array Value → State → Outcome → State → Prop} {mc ms : Nat} {free : Addr → Prop} {cc : ByteArray} {maxL : Nat} {ret : Option FieldType} (hy : plainFor y = true) (hw : ws = Cond.code y cc maxL ret :: ws')
    (body : ∀ p e s m args below meth c s₁, BodyLoose p l y (headSpec ws rm) cc maxL ret e s m args below meth c s₁ → c.maxLocals = maxL → Pc args s → W p l e (headSpec ws rm).room s m args below meth c s.heap [] 0 0 (MQ below Qc args s mc ms free) (entryFrame m args maxL)) : Met l y ws rm Pc Qc mc ms free := by
  refine MetFree.of_bodySF (code := cc) (maxLocals := maxL) (ret := ret) hy (fun args s m h hn => ?_) (fun p e s m args below meth c s₁ Bd hml hP _ => ?_)
  · obtain ⟨meth, c, h1, h2, h3, h4, h5, h6, -, -⟩ := Cond.code_spec hn (atoms_spec (ws := ws) h _ (by rw [hw]; exact List.mem_cons_self))
    exact ⟨meth, c, h1, h2, h3, h4, h5, h6⟩
  · obtain ⟨t, a1, o, b1, b2, b3⟩ := body p e s m args below meth c s₁ Bd hml hP s₁ (by rw [Bd.state]; rfl) (Stand.of_body Bd)
    exact ⟨t, o, a1, b1, b2, ⟨b3.1, b3.2⟩⟩
