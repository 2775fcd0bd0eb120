/-! the worlds of the system: the cells of a Line, of the reference, and what the tables say -/
abbrev St : Type := Nat → Nat → Int32
abbrev Fn : Type := Nat → Int32
abbrev LW (cA : ClassId) (h : Nat) (as : Nat → Nat) (st : St) : va_W :=
  [(h, .inr (0, [.ref (as 0), .ref (as 1), .ref (as 2), .ref (as 3), .ref (as 4), .ref (as 5), .ref (as 6), .ref (as 7), .int (st 8 0), .int (st 8 1), .int (st 8 2)])),
   (as 0, .inl (cA, 5, .inl (st 0))), (as 1, .inl (cA, 8, .inl (st 1))), (as 2, .inl (cA, 9, .inl (st 2))), (as 3, .inl (cA, 64, .inl (st 3))), (as 4, .inl (cA, 64, .inl (st 4))),
   (as 5, .inl (cA, 64, .inl (st 5))), (as 6, .inl (cA, 256, .inl (st 6))), (as 7, .inl (cA, 8, .inl (st 7)))]
abbrev MW (cA cZ : ClassId) (h : Nat) (as : Nat → Nat) (g im kp : Fn) : va_W :=
  [(h, .inr (2, [.ref (as 0), .ref (as 1), .ref (as 2)])), (as 0, .inl (cA, 555, .inl g)), (as 1, .inl (cA, 1665, .inl im)), (as 2, .inl (cZ, 2, .inl kp))]
/-- what the tables say: the classes, the array classes, the private members that a nest mate calls -/
def EK (D : va_G) (cA cZ cR : ClassId) (U : State) : Prop :=
  va_K D vwCl [(cA, .int), (cZ, .boolean), (cR, .object RX0)] U ∧ va_Nw (.methodLinkNest RX0 97 yX1_limited "EchoTaps") U ∧ va_Nw (.methodLinkNest RX0 132 yX1_nextSeed "EchoTaps") U ∧ va_Nw (.methodLinkNest RX0 135 yX1_centred "EchoTaps") U
theorem EK.warm {D : va_G} {cA cZ cR : ClassId} {s U : State} (hW : s.WarmedH U.vm) (h : EK D cA cZ cR s) : EK D cA cZ cR U :=
  ⟨va_K.moved hW.alike h.1, va_Nw.warmM hW h.2.1, va_Nw.warmM hW h.2.2.1, va_Nw.warmM hW h.2.2.2⟩
theorem EK.calling {D : va_G} {cA cZ cR : ClassId} {U : State} {g : JFrame} {mk : MethodId} {a : Array Value} (h : EK D cA cZ cR U) : EK D cA cZ cR (U.calling g mk a) :=
  ⟨va_K.moved (u := U) (U := U.calling g mk a) (Vm.Alike.refl U.vm) h.1, va_Nw.same rfl rfl h.2.1, va_Nw.same rfl rfl h.2.2.1, va_Nw.same rfl rfl h.2.2.2⟩
/-- a world is apart by its addresses alone -/
theorem va_D_adr {A : Nat → Prop} {w w' : va_W} (h : w'.map Prod.fst = w.map Prod.fst) (hD : va_D A w) : va_D A w' := by
  have key : ∀ (k : Nat) (q : Nat × va_E), w'[k]? = some q → ∃ q0, w[k]? = some q0 ∧ q0.1 = q.1 := by
    intro k q hk
    have h1 : (w'.map Prod.fst)[k]? = some q.1 := by rw [List.getElem?_map, hk]; rfl
    rw [h, List.getElem?_map] at h1
    cases hw : w[k]? with
    | none => rw [hw] at h1; cases h1
    | some q0 => rw [hw] at h1; exact ⟨q0, rfl, Option.some.inj h1⟩
  refine ⟨fun i j x y hi hj hxy => ?_, fun k q hk => ?_⟩
  · obtain ⟨x0, h1, h2⟩ := key i x hi
    obtain ⟨y0, h3, h4⟩ := key j y hj
    exact hD.1 i j x0 y0 h1 h3 (h2.trans (hxy.trans h4.symm))
  · obtain ⟨q0, h1, h2⟩ := key k q hk
    rw [← h2]
    exact hD.2 k q0 h1
/-- the middle of a world -/
theorem va_mid {α : Type} {X Y Z : List α} {k : Nat} {q : α} (h : Y[k]? = some q) : (X ++ (Y ++ Z))[X.length + k]? = some q := by
  have hl := (List.getElem?_eq_some_iff.mp h).1
  rw [List.getElem?_append_right (by omega), show X.length + k - X.length = k by omega, List.getElem?_append_left hl]
  exact h
theorem va_P_mid {D : va_G} {cl : List vw_C} {X Y Z : va_W} {H : Heap} (h : va_P D cl (X ++ (Y ++ Z)) H) : va_P D cl Y H := fun _ q hk => h _ q (va_mid hk)
theorem va_D_mid {A : Nat → Prop} {X Y Z : va_W} (h : va_D A (X ++ (Y ++ Z))) : va_D A Y :=
  ⟨fun i j p q hi hj e => by have := h.1 _ _ p q (va_mid hi) (va_mid hj) e; omega, fun _ q hk => h.2 _ q (va_mid hk)⟩
/-- behind a call on the middle of a world, which keeps its addresses -/
theorem va_jn {A0 : Nat → Prop} {D : va_G} {cl : List vw_C} {X Y Y' Z : va_W} {H H1 : Heap} (hP : va_P D cl (X ++ (Y ++ Z)) H) (hD : va_D A0 (X ++ (Y ++ Z))) (ha : Y'.map Prod.fst = Y.map Prod.fst)
    (hk : ∀ q : Nat, q < H.size → ¬ va_A Y H.size q → H1[q]? = H[q]?) (hP1 : va_P D cl Y' H1) : va_P D cl (X ++ (Y' ++ Z)) H1 ∧ va_D A0 (X ++ (Y' ++ Z)) := by
  have hln : Y'.length = Y.length := by
    have := congrArg List.length ha
    simpa using this
  have apart : ∀ (k : Nat) (q : Nat × va_E), (X ++ (Y ++ Z))[k]? = some q → (k < X.length ∨ X.length + Y.length ≤ k) → H1[q.1]? = H[q.1]? := by
    intro k q hq hc
    refine hk q.1 (hP k q hq).lt ?_
    rintro (⟨j, e, hj⟩ | hz)
    · have hjl := (List.getElem?_eq_some_iff.mp hj).1
      have := hD.1 k (X.length + j) q (q.1, e) hq (va_mid hj) rfl
      omega
    · have := (hP k q hq).lt
      omega
  refine ⟨fun k q hq => ?_, va_D_adr (by simp [ha]) hD⟩
  by_cases h1 : k < X.length
  · rw [List.getElem?_append_left h1] at hq
    have hq' : (X ++ (Y ++ Z))[k]? = some q := by rw [List.getElem?_append_left h1]; exact hq
    exact (hP k q hq').kept (apart k q hq' (Or.inl h1))
  · by_cases h2 : k < X.length + Y.length
    · rw [List.getElem?_append_right (by omega), List.getElem?_append_left (by omega)] at hq
      exact hP1 _ q hq
    · have e1 : (X ++ (Y' ++ Z))[k]? = (X ++ (Y ++ Z))[k]? := by
        rw [List.getElem?_append_right (by omega), List.getElem?_append_right (by omega), List.getElem?_append_right (by omega), List.getElem?_append_right (by omega), hln]
      rw [e1] at hq
      exact (hP k q hq).kept (apart k q hq (Or.inr (by omega)))
theorem va_fr {A0 : Nat → Prop} {X Y Z : va_W} {H0 H : Heap} {locs : List Loc} (hD : va_D A0 (X ++ (Y ++ Z))) (hS : va_S A0 H0 H locs) (hA : ∀ q, H0.size ≤ q → A0 q) : ∀ q, va_A Y H.size q → A0 q := by
  rintro q (⟨k, e, h⟩ | h)
  · exact hD.2 _ _ (va_mid h)
  · exact hA q (Nat.le_trans hS.1 h)
/-! contracts: a method of an object that reads and writes its block of cells alone, and makes nothing -/
abbrev PB (D : va_G) (cA cZ cR : ClassId) (Y : va_W) (sz : Nat) : State → Prop := fun U => U.heap.size = sz ∧ va_P D vwCl Y U.heap ∧ EK D cA cZ cR U ∧ va_D (fun _ => True) Y
abbrev QI (D : va_G) (Y' : va_W) (r : Int32) (A : Nat → Prop) : Array Value → State → Outcome → State → Prop := va_Qi (fun (r' : Int32) (_ : Unit) => r' = r) (fun _ t => va_P D vwCl Y' t.heap) A
abbrev QV (D : va_G) (Y' : va_W) (A : Nat → Prop) : Array Value → State → Outcome → State → Prop := va_Qv (fun (_ : Unit) => True) (fun _ t => va_P D vwCl Y' t.heap) A
def BMi (l : Launch) (D : va_G) (cA cZ cR : ClassId) (y : MethodName) (ws : List Cond) (rm : Room) (av : List Value) (Y Y' : va_W) (r : Int32) : Prop :=
  ∀ sz : Nat, Met l y ws rm (va_Pc av (PB D cA cZ cR Y sz)) (QI D Y' r (va_A Y sz)) 0 0 (va_A Y sz)
def BMv (l : Launch) (D : va_G) (cA cZ cR : ClassId) (y : MethodName) (ws : List Cond) (rm : Room) (av : List Value) (Y Y' : va_W) : Prop :=
  ∀ sz : Nat, Met l y ws rm (va_Pc av (PB D cA cZ cR Y sz)) (QV D Y' (va_A Y sz)) 0 0 (va_A Y sz)
/-- a static method of numbers alone -/
def SMi (l : Launch) (y : MethodName) (ws : List Cond) (rm : Room) (av : List Value) (r : Int32) : Prop :=
  Met l y ws rm (va_Pc av (fun _ => True)) (vp_Si (fun r' => r' = r)) 0 0 (fun _ => False)
theorem PB.blind {D : va_G} {cA cZ cR : ClassId} {Y : va_W} {sz : Nat} {av : List Value} : FrameBlind (va_Pc av (PB D cA cZ cR Y sz)) := by
  rintro a U g mk ⟨h0, h1, h2, h3, h4⟩
  exact ⟨h0, h1, h2, h3.calling, h4⟩
set_option maxHeartbeats 1000000 in
/-- opening a contract -/
theorem bm_open {l : Launch} {D : va_G} {cA cZ cR : ClassId} {y : MethodName} {ws ws' : List Cond} {rm : Room} {av : List Value} {Y Y' : va_W} {r : Int32} {cc : ByteArray} {maxL : Nat}
    (hy : plainName y.cls = true) (hw : ws = Cond.code y cc maxL (some .int) :: ws') (hc : rm.cells = 0) (hs : rm.slots = 0) (hn : (lg_sl av).length ≤ maxL)
    (body : ∀ (p : Program) (e : Env) (s : State) (m : MethodId) (args : Array Value) (below : List Frame) (meth : Method) (c : Code) (A : Nat → Prop) (Q : State → Prop), p.tables.exec = Jvm.exec → c.code = cc → c.maxLocals = maxL → (∀ w ∈ ws, w.before args s = true) → s.vm.findClass y.cls = some m.cls →
      EK D cA cZ cR s → va_P D vwCl Y s.heap → va_D A Y → (∀ q, s.heap.size ≤ q → A q) → va_S A s.heap s.heap [] →
      (∀ (H : Heap) (locs : List Loc) (pc : Nat) (ls : Array Slot) (v : Int32), va_P D vwCl Y' H → v = r → va_S A s.heap H locs → decode cc pc = .ok (.ireturn, 1) → W p l e rm s m args below meth c H locs 0 0 Q (F0 m pc ls [.int v])) →
      ∀ ls : Array Slot, lv_has ls maxL (lv_args 0 av) → W p l e rm s m args below meth c s.heap [] 0 0 Q (F0 m 0 ls [])) : BMi l D cA cZ cR y ws rm av Y Y' r := by
  intro sz
  refine Met.ofW (cc := cc) (maxL := maxL) (ret := some .int) hy hw ?_
  intro p e s m args below meth c s₁ B hml hv
  obtain ⟨rfl, hsz, hP, hE, hD0⟩ := hv
  subst hsz
  have hx := B.exec
  have hb := B.bytes
  have hr := B.returns
  have hts := atoms_spec (ws := ws) B.pre
  have hown : s.vm.findClass y.cls = some m.cls := findClass_of_methodNamed B.named
  have hlocks := B.notSynchronized
  have hD := hD0.self (sz := s.heap.size)
  have hl := lv_entry av (n := maxL) hn
  rw [lg_entry_eq]
  refine body p e s m av.toArray below meth c (va_A Y s.heap.size) _ hx hb hml hts hown hE hP hD (fun q h => Or.inr h) va_S.rf ?_ _ hl
  intro H locs pc ls v hP' hv hS hdg
  exact W.iret (v := v) hx hb hr (fun t ht hW => ⟨⟨v, (), rfl, hv, by show va_P D vwCl Y' t.heap; rw [ht]; exact hP'⟩, hS.F ht⟩) hS.2.2 hdg
set_option maxHeartbeats 1000000 in
/-- the same, of a method that answers a boolean -/
theorem bm_openZ {l : Launch} {D : va_G} {cA cZ cR : ClassId} {y : MethodName} {ws ws' : List Cond} {rm : Room} {av : List Value} {Y Y' : va_W} {r : Int32} {cc : ByteArray} {maxL : Nat}
    (hy : plainName y.cls = true) (hw : ws = Cond.code y cc maxL (some .boolean) :: ws') (hc : rm.cells = 0) (hs : rm.slots = 0) (hn : (lg_sl av).length ≤ maxL) (hz : narrow .boolean (.int r) = .int r)
    (body : ∀ (p : Program) (e : Env) (s : State) (m : MethodId) (args : Array Value) (below : List Frame) (meth : Method) (c : Code) (A : Nat → Prop) (Q : State → Prop), p.tables.exec = Jvm.exec → c.code = cc → c.maxLocals = maxL → (∀ w ∈ ws, w.before args s = true) → s.vm.findClass y.cls = some m.cls →
      EK D cA cZ cR s → va_P D vwCl Y s.heap → va_D A Y → (∀ q, s.heap.size ≤ q → A q) → va_S A s.heap s.heap [] →
      (∀ (H : Heap) (locs : List Loc) (pc : Nat) (ls : Array Slot) (v : Int32), va_P D vwCl Y' H → v = r → va_S A s.heap H locs → decode cc pc = .ok (.ireturn, 1) → W p l e rm s m args below meth c H locs 0 0 Q (F0 m pc ls [.int v])) →
      ∀ ls : Array Slot, lv_has ls maxL (lv_args 0 av) → W p l e rm s m args below meth c s.heap [] 0 0 Q (F0 m 0 ls [])) : BMi l D cA cZ cR y ws rm av Y Y' r := by
  intro sz
  refine Met.ofW (cc := cc) (maxL := maxL) (ret := some .boolean) hy hw ?_
  intro p e s m args below meth c s₁ B hml hv
  obtain ⟨rfl, hsz, hP, hE, hD0⟩ := hv
  subst hsz
  have hx := B.exec
  have hb := B.bytes
  have hr := B.returns
  have hts := atoms_spec (ws := ws) B.pre
  have hown : s.vm.findClass y.cls = some m.cls := findClass_of_methodNamed B.named
  have hlocks := B.notSynchronized
  have hD := hD0.self (sz := s.heap.size)
  have hl := lv_entry av (n := maxL) hn
  rw [lg_entry_eq]
  refine body p e s m av.toArray below meth c (va_A Y s.heap.size) _ hx hb hml hts hown hE hP hD (fun q h => Or.inr h) va_S.rf ?_ _ hl
  intro H locs pc ls v hP' hv hS hdg
  subst hv
  exact W.zret (v := v) hx hb hr hz (fun t ht hW => ⟨⟨v, (), rfl, rfl, by show va_P D vwCl Y' t.heap; rw [ht]; exact hP'⟩, hS.F ht⟩) hS.2.2 hdg
set_option maxHeartbeats 1000000 in
/-- the same, of a method that answers nothing -/
theorem bm_openV {l : Launch} {D : va_G} {cA cZ cR : ClassId} {y : MethodName} {ws ws' : List Cond} {rm : Room} {av : List Value} {Y Y' : va_W} {cc : ByteArray} {maxL : Nat}
    (hy : plainName y.cls = true) (hw : ws = Cond.code y cc maxL none :: ws') (hc : rm.cells = 0) (hs : rm.slots = 0) (hn : (lg_sl av).length ≤ maxL)
    (body : ∀ (p : Program) (e : Env) (s : State) (m : MethodId) (args : Array Value) (below : List Frame) (meth : Method) (c : Code) (A : Nat → Prop) (Q : State → Prop), p.tables.exec = Jvm.exec → c.code = cc → c.maxLocals = maxL → (∀ w ∈ ws, w.before args s = true) → s.vm.findClass y.cls = some m.cls →
      EK D cA cZ cR s → va_P D vwCl Y s.heap → va_D A Y → (∀ q, s.heap.size ≤ q → A q) → va_S A s.heap s.heap [] →
      (∀ (H : Heap) (locs : List Loc) (pc : Nat) (ls : Array Slot) , va_P D vwCl Y' H → va_S A s.heap H locs → decode cc pc = .ok (.return_, 1) → W p l e rm s m args below meth c H locs 0 0 Q (F0 m pc ls [])) →
      ∀ ls : Array Slot, lv_has ls maxL (lv_args 0 av) → W p l e rm s m args below meth c s.heap [] 0 0 Q (F0 m 0 ls [])) : BMv l D cA cZ cR y ws rm av Y Y' := by
  intro sz
  refine Met.ofW (cc := cc) (maxL := maxL) (ret := none) hy hw ?_
  intro p e s m args below meth c s₁ B hml hv
  obtain ⟨rfl, hsz, hP, hE, hD0⟩ := hv
  subst hsz
  have hx := B.exec
  have hb := B.bytes
  have hr := B.returns
  have hts := atoms_spec (ws := ws) B.pre
  have hown : s.vm.findClass y.cls = some m.cls := findClass_of_methodNamed B.named
  have hlocks := B.notSynchronized
  have hD := hD0.self (sz := s.heap.size)
  have hl := lv_entry av (n := maxL) hn
  rw [lg_entry_eq]
  refine body p e s m av.toArray below meth c (va_A Y s.heap.size) _ hx hb hml hts hown hE hP hD (fun q h => Or.inr h) va_S.rf ?_ _ hl
  intro H locs pc ls hP' hS hdg
  exact W.vret hx hb hr (fun t ht hW => ⟨⟨(), rfl, trivial, by show va_P D vwCl Y' t.heap; rw [ht]; exact hP'⟩, hS.F ht⟩) hS.2.2 hdg
set_option maxHeartbeats 1000000 in
/-- opening a contract of a static method of numbers -/
theorem sm_open {l : Launch} {y : MethodName} {ws ws' : List Cond} {rm : Room} {av : List Value} {r : Int32} {cc : ByteArray} {maxL : Nat}
    (hy : plainName y.cls = true) (hw : ws = Cond.code y cc maxL (some .int) :: ws') (hn : (lg_sl av).length ≤ maxL)
    (body : ∀ (p : Program) (e : Env) (s : State) (m : MethodId) (args : Array Value) (below : List Frame) (meth : Method) (c : Code) (Q : State → Prop) (H : Heap) (locs : List Loc), p.tables.exec = Jvm.exec → c.code = cc → c.maxLocals = maxL → (∀ w ∈ ws, w.before args s = true) → s.vm.findClass y.cls = some m.cls →
      (∀ (pc : Nat) (ls : Array Slot) (v : Int32), v = r → decode cc pc = .ok (.ireturn, 1) → W p l e rm s m args below meth c H locs 0 0 Q (F0 m pc ls [.int v])) →
      ∀ ls : Array Slot, lv_has ls maxL (lv_args 0 av) → W p l e rm s m args below meth c H locs 0 0 Q (F0 m 0 ls [])) : SMi l y ws rm av r := by
  refine Met.ofW (cc := cc) (maxL := maxL) (ret := some .int) hy hw ?_
  intro p e s m args below meth c s₁ B hml hv
  obtain ⟨rfl, -⟩ := hv
  have hx := B.exec
  have hb := B.bytes
  have hr := B.returns
  have hts := atoms_spec (ws := ws) B.pre
  have hown : s.vm.findClass y.cls = some m.cls := findClass_of_methodNamed B.named
  have hlocks := B.notSynchronized
  have hl := lv_entry av (n := maxL) hn
  rw [lg_entry_eq]
  refine body p e s m av.toArray below meth c _ s.heap [] hx hb hml hts hown ?_ _ hl
  intro pc ls v hv hdg
  exact W.iret (v := v) hx hb hr (fun t ht hW => ⟨v, rfl, hv, ht⟩) (fun _ h => by cases h) hdg
set_option maxHeartbeats 1000000 in
/-- opening a contract of a static method of numbers -/
theorem sm_openZ {l : Launch} {y : MethodName} {ws ws' : List Cond} {rm : Room} {av : List Value} {r : Int32} {cc : ByteArray} {maxL : Nat}
    (hy : plainName y.cls = true) (hw : ws = Cond.code y cc maxL (some .boolean) :: ws') (hn : (lg_sl av).length ≤ maxL) (hz : narrow .boolean (.int r) = .int r)
    (body : ∀ (p : Program) (e : Env) (s : State) (m : MethodId) (args : Array Value) (below : List Frame) (meth : Method) (c : Code) (Q : State → Prop) (H : Heap) (locs : List Loc), p.tables.exec = Jvm.exec → c.code = cc → c.maxLocals = maxL → (∀ w ∈ ws, w.before args s = true) → s.vm.findClass y.cls = some m.cls →
      (∀ (pc : Nat) (ls : Array Slot) (v : Int32), v = r → decode cc pc = .ok (.ireturn, 1) → W p l e rm s m args below meth c H locs 0 0 Q (F0 m pc ls [.int v])) →
      ∀ ls : Array Slot, lv_has ls maxL (lv_args 0 av) → W p l e rm s m args below meth c H locs 0 0 Q (F0 m 0 ls [])) : SMi l y ws rm av r := by
  refine Met.ofW (cc := cc) (maxL := maxL) (ret := some .boolean) hy hw ?_
  intro p e s m args below meth c s₁ B hml hv
  obtain ⟨rfl, -⟩ := hv
  have hx := B.exec
  have hb := B.bytes
  have hr := B.returns
  have hts := atoms_spec (ws := ws) B.pre
  have hown : s.vm.findClass y.cls = some m.cls := findClass_of_methodNamed B.named
  have hlocks := B.notSynchronized
  have hl := lv_entry av (n := maxL) hn
  rw [lg_entry_eq]
  refine body p e s m av.toArray below meth c _ s.heap [] hx hb hml hts hown ?_ _ hl
  intro pc ls v hv hdg
  subst hv
  exact W.zret (v := v) hx hb hr hz (fun t ht hW => ⟨v, rfl, rfl, ht⟩) (fun _ h => by cases h) hdg
/-! calls -/
section CALLS
variable {p : Program} {l : Launch} {e : Env} {R : Room} {s : State} {m : MethodId} {args : Array Value} {below : List Frame} {meth : Method} {c : Code} {H : Heap} {locs : List Loc} {cells slots : Nat} {Q : State → Prop}
variable {cc : ByteArray} {pc nL : Nat} {ls : Array Slot} {st0 : List Value} {D : va_G} {cA cZ cR : ClassId} {A : Nat → Prop} {H0 : Heap} {y : MethodName} {ws Ts : List Cond} {rm : Room} {own C : String} {index maxL n : Nat} {bytes : ByteArray} {ret : Option FieldType}
set_option maxHeartbeats 1000000 in
theorem bm_i {b : Nat} (X Y Z : va_W) {Y' : va_W} {r : Int32} (As rest : List Value) (S : CallFix p m c cc nL s args Ts own) (hM : BMi l D cA cZ cR y ws rm (.ref b :: As) Y Y' r) (cw : CallW R s args own C index y bytes maxL ret ws rm 0 0 n)
    (hE : EK D cA cZ cR s) (hP : va_P D vwCl (X ++ (Y ++ Z)) H) (hD : va_D A (X ++ (Y ++ Z))) (hS : va_S A H0 H locs) (hA : ∀ q, H0.size ≤ q → A q) (ha : Y'.map Prod.fst = Y.map Prod.fst) (q0 ci : Nat) {fs : List Value} {T : u_T} {N : Nat} (hy : Y[q0]? = some (b, .inr (ci, fs))) (hcl : vwCl[ci]? = some (C, T, N))
    (hn : As.length = n) (hsize : ls.size = nL) (hst : st0 = As.reverse ++ .ref b :: rest) (hW : (rest.map fun v => v.category).sum ≤ 8) (hdg : decode cc pc = .ok (.invokevirtual index, 3)) (hf : cells ≤ R.cells ∧ slots ≤ R.slots)
    (kk : ∀ (H1 : Heap) (locs1 : List Loc), va_P D vwCl (X ++ (Y' ++ Z)) H1 → va_D A (X ++ (Y' ++ Z)) → va_S A H0 H1 locs1 → W p l e R s m args below meth c H1 locs1 cells slots Q (F0 m (pc + 3) ls (.int r :: rest))) : W p l e R s m args below meth c H locs cells slots Q (F0 m pc ls st0) := by
  have hPc : va_P D vwCl Y H := va_P_mid hP
  have hDc : va_D A Y := va_D_mid hD
  have hFc := va_fr hD hS hA
  refine va_calli (va_runV (As := As) (rest := rest) S (hM H.size) cw ⟨PB.blind, va_recv hE.1 hPc (q0 := q0) hcl hy, fun U hU hW => ⟨rfl, by rw [hU], by rw [hU]; exact hPc, hE.warm hW, hDc.weaken (fun _ _ _ _ => trivial)⟩⟩ rfl hn hsize hst (lv_room hW) hdg hf) hS (fun q _ h => hFc q h) hFc (fun r1 u t H1 locs1 ht hvm hw hB hz1 hk1 hS1 => ?_)
  have hB : va_P D vwCl Y' t.heap := hB
  rw [ht] at hB
  obtain ⟨hP1, hD1⟩ := va_jn hP hD ha hk1 hB
  subst hw
  exact kk H1 locs1 hP1 hD1 hS1
set_option maxHeartbeats 1000000 in
theorem bm_v {b : Nat} (X Y Z : va_W) {Y' : va_W} (As rest : List Value) (S : CallFix p m c cc nL s args Ts own) (hM : BMv l D cA cZ cR y ws rm (.ref b :: As) Y Y') (cw : CallW R s args own C index y bytes maxL ret ws rm 0 0 n)
    (hE : EK D cA cZ cR s) (hP : va_P D vwCl (X ++ (Y ++ Z)) H) (hD : va_D A (X ++ (Y ++ Z))) (hS : va_S A H0 H locs) (hA : ∀ q, H0.size ≤ q → A q) (ha : Y'.map Prod.fst = Y.map Prod.fst) (q0 ci : Nat) {fs : List Value} {T : u_T} {N : Nat} (hy : Y[q0]? = some (b, .inr (ci, fs))) (hcl : vwCl[ci]? = some (C, T, N))
    (hn : As.length = n) (hsize : ls.size = nL) (hst : st0 = As.reverse ++ .ref b :: rest) (hW : (rest.map fun v => v.category).sum ≤ 8) (hdg : decode cc pc = .ok (.invokevirtual index, 3)) (hf : cells ≤ R.cells ∧ slots ≤ R.slots)
    (kk : ∀ (H1 : Heap) (locs1 : List Loc), va_P D vwCl (X ++ (Y' ++ Z)) H1 → va_D A (X ++ (Y' ++ Z)) → va_S A H0 H1 locs1 → W p l e R s m args below meth c H1 locs1 cells slots Q (F0 m (pc + 3) ls rest)) : W p l e R s m args below meth c H locs cells slots Q (F0 m pc ls st0) := by
  have hPc : va_P D vwCl Y H := va_P_mid hP
  have hDc : va_D A Y := va_D_mid hD
  have hFc := va_fr hD hS hA
  refine va_callv (va_runV (As := As) (rest := rest) S (hM H.size) cw ⟨PB.blind, va_recv hE.1 hPc (q0 := q0) hcl hy, fun U hU hW => ⟨rfl, by rw [hU], by rw [hU]; exact hPc, hE.warm hW, hDc.weaken (fun _ _ _ _ => trivial)⟩⟩ rfl hn hsize hst (lv_room hW) hdg hf) hS (fun q _ h => hFc q h) hFc (fun u t H1 locs1 ht hvm hw hB hz1 hk1 hS1 => ?_)
  have hB : va_P D vwCl Y' t.heap := hB
  rw [ht] at hB
  obtain ⟨hP1, hD1⟩ := va_jn hP hD ha hk1 hB
  exact kk H1 locs1 hP1 hD1 hS1
theorem sm_pre {H : Heap} {av : List Value} {As : List Value} (h : As = av) : PreS s H (va_Pc av (fun _ => True)) As := by
  subst h
  exact ⟨fun a U g mk q => q, fun U hU hW => ⟨rfl, trivial⟩⟩
theorem sm_i {r : Int32} (As rest : List Value) (S : CallFix p m c cc nL s args Ts own) (hM : SMi l y ws rm As r) (cw : CallB R s args own index y bytes maxL ret ws rm 0 0 n ∧ (Cond.static y).before args s = true)
    (hn : As.length = n) (hsize : ls.size = nL) (hst : st0 = As.reverse ++ rest) (hW : (rest.map fun v => v.category).sum ≤ 8) (hdg : decode cc pc = .ok (.invokestatic index, 3)) (hf : cells ≤ R.cells ∧ slots ≤ R.slots)
    (kk : W p l e R s m args below meth c H locs cells slots Q (F0 m (pc + 3) ls (.int r :: rest))) : W p l e R s m args below meth c H locs cells slots Q (F0 m pc ls st0) :=
  vp_callSi (va_Run.run (va_runS (As := As) (rest := rest) S hM cw (sm_pre rfl) rfl hn hsize hst (lv_room hW) hdg hf)) (fun r1 hr => by subst hr; exact kk)
theorem sm_n {r : Int32} {host : String} (As rest : List Value) (S : CallFix p m c cc nL s args Ts own) (hM : SMi l y ws rm As r) (cw : va_CN R s args own index y host bytes maxL ret ws rm 0 0 n ∧ (Cond.static y).before args s = true ∧ True)
    (hn : As.length = n) (hsize : ls.size = nL) (hst : st0 = As.reverse ++ rest) (hW : (rest.map fun v => v.category).sum ≤ 8) (hdg : decode cc pc = .ok (.invokestatic index, 3)) (hf : cells ≤ R.cells ∧ slots ≤ R.slots)
    (kk : W p l e R s m args below meth c H locs cells slots Q (F0 m (pc + 3) ls (.int r :: rest))) : W p l e R s m args below meth c H locs cells slots Q (F0 m pc ls st0) :=
  vp_callSi (va_Run.run (va_runSN (As := As) (rest := rest) S hM cw (sm_pre rfl) rfl hn hsize hst (lv_room hW) hdg hf)) (fun r1 hr => by subst hr; exact kk)
end CALLS
