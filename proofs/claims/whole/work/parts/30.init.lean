/-! constructors -/
def rf0 : Fn := fun j => if j = 0 then 512 else if j = 1 then 5 else 0
def st00 : St := fun k => match k with
  | 0 => rf0
  | _ => fun _ => 0
/-- the row that each Line's RULES begin with -/
def RA (tm : Nat) (cA : ClassId) (A : Nat → Prop) (U : State) (H : Heap) : Prop := va_Z "EchoTaps" "RULES_AT_FIRST" "[I" (.ref tm) A U H ∧ ∃ cell : Cell, H[tm]? = some cell ∧ (∀ k, cell.vm ≠ .statics k) ∧ cell.vm ≠ .unknown ∧ cell.cls = cA ∧ cell.slots = (vp_cell cA (5, .inl rf0)).slots ∧ ¬ A tm
theorem RA.moved {tm : Nat} {cA : ClassId} {A : Nat → Prop} {u U : State} {H : Heap} (hvm : u.vm.Alike U.vm) (h : RA tm cA A u H) : RA tm cA A U H := ⟨h.1.moved hvm, h.2⟩
theorem RA.kept {tm : Nat} {cA : ClassId} {A : Nat → Prop} {U : State} {H H1 : Heap} (h : RA tm cA A U H) (hq : ∀ a : Nat, a < H.size → ¬ A a → H1[a]? = H[a]?) : RA tm cA A U H1 := by
  obtain ⟨h1, cell, h2, h3, h4, h5, h6, h7⟩ := h
  exact ⟨h1.kept hq, cell, by rw [hq tm (Array.getElem?_eq_some_iff.mp h2).1 h7]; exact h2, h3, h4, h5, h6, h7⟩
theorem RA.narrow {tm : Nat} {cA : ClassId} {A B : Nat → Prop} {U : State} {H : Heap} (h : RA tm cA A U H) (hAB : ∀ q, B q → A q) : RA tm cA B U H := by
  obtain ⟨h1, cell, h2, h3, h4, h5, h6, h7⟩ := h
  exact ⟨h1.narrow hAB, cell, h2, h3, h4, h5, h6, fun z => h7 (hAB tm z)⟩
/-- what the tables say to a constructor -/
def CK (D : va_G) (cA cZ cR : ClassId) (U : State) : Prop := EK D cA cZ cR U ∧ va_Nw (.castable "[I" "java/lang/Cloneable") U ∧ va_Nw (.fieldLinkNest RX0 9 "EchoTaps" "RULES_AT_FIRST" "[I" "EchoTaps") U ∧ va_AO RX0 U
theorem CK.warm {D : va_G} {cA cZ cR : ClassId} {s U : State} (hW : s.WarmedH U.vm) (h : CK D cA cZ cR s) : CK D cA cZ cR U := ⟨h.1.warm hW, va_Nw.warmC hW h.2.1, va_Nw.warmF hW h.2.2.1, h.2.2.2.moved hW.alike⟩
theorem CK.calling {D : va_G} {cA cZ cR : ClassId} {U : State} {g : JFrame} {mk : MethodId} {a : Array Value} (h : CK D cA cZ cR U) : CK D cA cZ cR (U.calling g mk a) := ⟨h.1.calling, va_Nw.same rfl rfl h.2.1, va_Nw.same rfl rfl h.2.2.1, va_AO.moved (u := U) (U := U.calling g mk a) (Vm.Alike.refl U.vm) h.2.2.2⟩
theorem ck_int {D : va_G} {cl : List vw_C} {t1 t2 : List (ClassId × FieldType)} {s : State} {c1 c2 : ClassId} (h1 : va_K D cl t1 s) (h2 : va_K D cl t2 s) (i j : Nat) (e1 : t1[i]? = some (c1, .int)) (e2 : t2[j]? = some (c2, .int)) : c2 = c1 := by
  have q1 : s.vm.findClass _ = some c1 := (h1.2 i _ e1).2
  have q2 : s.vm.findClass _ = some c2 := (h2.2 j _ e2).2
  exact Option.some.inj (q2.symm.trans q1)
theorem ck_bool {D : va_G} {cl : List vw_C} {t1 t2 : List (ClassId × FieldType)} {s : State} {c1 c2 : ClassId} (h1 : va_K D cl t1 s) (h2 : va_K D cl t2 s) (i j : Nat) (e1 : t1[i]? = some (c1, .boolean)) (e2 : t2[j]? = some (c2, .boolean)) : c2 = c1 := by
  have q1 : s.vm.findClass _ = some c1 := (h1.2 i _ e1).2
  have q2 : s.vm.findClass _ = some c2 := (h2.2 j _ e2).2
  exact Option.some.inj (q2.symm.trans q1)
theorem ck_obj {D : va_G} {cl : List vw_C} {t1 t2 : List (ClassId × FieldType)} {s : State} {c1 c2 : ClassId} {C : String} (h1 : va_K D cl t1 s) (h2 : va_K D cl t2 s) (i j : Nat) (e1 : t1[i]? = some (c1, .object C)) (e2 : t2[j]? = some (c2, .object C)) : c2 = c1 := by
  obtain ⟨_, _, _, _, _, q1⟩ := (h1.2 i _ e1).2
  obtain ⟨_, _, _, _, _, q2⟩ := (h2.2 j _ e2).2
  exact Option.some.inj (q2.symm.trans q1)
theorem ck_nm {D : va_G} {cl : List vw_C} {t1 : List (ClassId × FieldType)} {s : State} {c1 : ClassId} (h1 : va_K D cl t1 s) (i : Nat) (e1 : t1[i]? = some (c1, .int)) : s.vm.findClass "[I" = some c1 := (h1.2 i _ e1).2
section CLN
variable {p : Program} {l : Launch} {e : Env} {R : Room} {s : State} {m : MethodId} {args : Array Value} {below : List Frame} {meth : Method} {c : Code} {H : Heap} {locs : List Loc} {cells slots : Nat} {Q : State → Prop}
variable {cc : ByteArray} {pc : Nat} {ls : Array Slot} {rest : List Value} {D : va_G} {cl : List vw_C} {A : Nat → Prop} {a : Nat} {tys : List (ClassId × FieldType)} {ws : va_W} {H0 : Heap}
/-- the copy of an array that isn't in the world -/
theorem va_cloneS (hexec : p.tables.exec = Jvm.exec) (hb : c.code = cc) (hml : c.maxLocals = ls.size) {own ad : String} {index : Nat} (hown : s.vm.findClass own = some m.cls)
    (hlink : (Cond.methodLink own index ⟨ad, "clone", "()Ljava/lang/Object;"⟩).before args s = true) (hsame : (Cond.sameMethod ad "java/lang/Object" "clone" "()Ljava/lang/Object;").before args s = true)
    (hnat : (Cond.native ⟨"java/lang/Object", "clone", "()Ljava/lang/Object;"⟩).before args s = true) (hinst : (Cond.instanceMethod ⟨"java/lang/Object", "clone", "()Ljava/lang/Object;"⟩).before args s = true)
    (hsel : (Cond.selects ad ⟨ad, "clone", "()Ljava/lang/Object;"⟩ ⟨"java/lang/Object", "clone", "()Ljava/lang/Object;"⟩).before args s = true) (hcl : va_Nw (.castable ad "java/lang/Cloneable") s)
    (hK : va_K D cl tys s) (hP : va_P D cl ws H) (hD : va_D A ws) (hS : va_S A H0 H locs) (hA : ∀ q, H0.size ≤ q → A q) (t0 : Nat) {cA : ClassId} {x : vp_A} {ty : FieldType} (ht : tys[t0]? = some (cA, ty))
    {cell : Cell} (hc : H[a]? = some cell) (hc1 : ∀ k, cell.vm ≠ .statics k) (hc2 : cell.vm ≠ .unknown) (hc3 : cell.cls = cA) (hc4 : cell.slots = (vp_cell cA x).slots)
    (hnm : s.vm.findClass ad = some cA) (hfit : ∀ (i : Nat) (v : Value), (vp_cell cA x).slots[i]? = some v → fits ty v = true)
    (hframes : 1 ≤ R.frames) (hlocals : (rest.map fun v => v.category).sum + 14 ≤ R.locals) (hcells : cells + 1 ≤ R.cells) (hslots : slots + x.1 ≤ R.slots) (hdg : decode cc pc = .ok (.invokevirtual index, 3))
    (kk : ∀ (q : Nat) (H1 : Heap), va_P D cl (ws ++ [(q, .inl (cA, x))]) H1 → va_D A (ws ++ [(q, .inl (cA, x))]) → va_S A H0 H1 locs →
      W p l e R s m args below meth c H1 locs (cells + 1) (slots + x.1) Q (F0 m (pc + 3) ls (.ref q :: rest))) : W p l e R s m args below meth c H locs cells slots Q (F0 m pc ls (.ref a :: rest)) := by
  have hsz : cell.slots.size = x.1 := by
    rw [hc4]
    obtain ⟨n, f | f | f | f | f⟩ := x <;> exact arrV_size _ _ _
  have hcellE : ({ cls := cell.cls, slots := cell.slots } : Cell) = vp_cell cA x := by
    rw [hc3, hc4]
    obtain ⟨n, f | f | f | f | f⟩ := x <;> rfl
  obtain ⟨c0, t0', f1, f2, f3⟩ := Cond.castable_spec (va_Nw.use (A := args) rfl hcl)
  cases hnm.symm.trans f1
  intro T hT X
  have hcellT : T.heap[a]? = some cell := by rw [hT]; exact hc
  obtain ⟨-, kA, hkA, comp, hkind⟩ := State.isArrayOf_alike X.warmed.alike ((hK.2 t0 _ ht).1 0 (fun _ => .null))
  obtain ⟨-, kS, hkS, compS, hkindS⟩ := (hK.2 t0 _ ht).1 0 (fun _ => .null)
  obtain ⟨vm', X', st⟩ := X.cloneArray hexec hown hlink hsame hnat hinst hsel (a := a) (cell := cell) hcellT hc1 hc2 (by rw [hc3]; exact hnm) f2 (by rw [hc3]; exact f3)
    (fun i v hv => by
      rw [hc3]
      have hk' : T.vm.classes[cA]? = some kA := hkA
      simpa [State.fitsSlot, State.slotType?, hk', hkind] using hfit i v (by rw [← hc4]; exact hv))
    (g := F0 m pc ls (.ref a :: rest)) rfl (by rw [hml]) rfl (by rw [hb]; exact hdg) hframes (by show 2 * 0 + _ + 14 ≤ _; omega) hcells (by rw [hsz]; exact hslots) (hloader := by rw [hc3]; exact Vm.clonesLoader_of_array hkS hkindS)
  rw [hcellE, hsz] at X'
  generalize hH1 : H.push (vp_cell cA x) = H1
  have z1 : H1.size = H.size + 1 := by rw [← hH1, Array.size_push]
  have e1 : H1[H.size]? = some (vp_cell cA x) := by rw [← hH1, Array.getElem?_push_size]
  have o1 : ∀ q : Nat, q < H.size → H1[q]? = H[q]? := fun q hq => by rw [← hH1, Array.getElem?_push, if_neg (Nat.ne_of_lt hq)]
  have hk : ∀ (k : Nat) (y : Nat × va_E), ws[k]? = some y → H1[y.1]? = H[y.1]? := fun k y hy => o1 y.1 ((hP k y hy).lt)
  obtain ⟨t, b1, b2⟩ := kk H.size H1 ((hP.kept hk).app (fun k y hy => by
      have hz : k < 1 := (List.getElem?_eq_some_iff.mp hy).1
      rw [show k = 0 by omega] at hy
      cases hy
      exact e1)) (hD.push hP rfl (hA _ hS.1)) ⟨Nat.le_trans hS.1 (by omega), fun y h1 h2 => (o1 y (Nat.lt_of_lt_of_le h1 hS.1)).trans (hS.2.1 y h1 h2), hS.2.2⟩
    ((T.setVm vm').pushCell (vp_cell cA x)) (by rw [← hH1, ← hT]; rfl) X'
  refine ⟨t, st t ?_, b2⟩
  rw [hcellE, hT]
  exact b1
end CLN
abbrev L0 : List Value := [.null, .null, .null, .null, .null, .null, .null, .null, .int 0, .int 0, .int 0]
abbrev PI (D : va_G) (cA cZ cR : ClassId) (tm : Nat) (Y : va_W) (sz : Nat) : State → Prop := fun U => U.heap.size = sz ∧ va_P D vwCl Y U.heap ∧ CK D cA cZ cR U ∧ va_D (fun _ => True) Y ∧ RA tm cA (va_A Y sz) U U.heap
theorem PI.blind {D : va_G} {cA cZ cR : ClassId} {tm : Nat} {Y : va_W} {sz : Nat} {av : List Value} : FrameBlind (va_Pc av (PI D cA cZ cR tm Y sz)) := by
  rintro a U g mk ⟨h0, h1, h2, h3, h4, h5⟩
  exact ⟨h0, h1, h2, h3.calling, h4, RA.moved (u := U) (U := U.calling g mk a) (Vm.Alike.refl U.vm) h5⟩
abbrev rm_X0_init : Room := { frames := 1, cells := 8, slots := 478, locals := 24 }
theorem ck_fit {cA : ClassId} {n : Nat} {f : Fn} (h : ∀ j, fits .int (.int (f j)) = true) : ∀ (i : Nat) (v : Value), (vp_cell cA (n, .inl f)).slots[i]? = some v → fits .int v = true := by
  intro i v hv
  have hl : i < n := by
    have := (Array.getElem?_eq_some_iff.mp hv).1
    rw [vp_cell_i, arrV_size] at this
    exact this
  rw [vp_cell_i, arrV_read _ _ hl] at hv
  cases hv
  exact h i
theorem iw_X0_init_X0 : ∀ w ∈ wsX00, w ∈ wsX0_init := by decide +kernel
set_option maxRecDepth 100000 in
set_option maxHeartbeats 4000000 in
/-- Line(): eight new rows -/
theorem c_X0_init (l : Launch) (D : va_G) (cA cZ cR : ClassId) (tm h sz : Nat) : Met l yX0_init wsX0_init rm_X0_init (va_Pc [.ref h] (PI D cA cZ cR tm [(h, .inr (0, L0))] sz)) (va_Qv (fun _ : Nat → Nat => True) (fun as t => va_P D vwCl (LW cA h as st00) t.heap ∧ va_D (va_A [(h, .inr (0, L0))] sz) (LW cA h as st00)) (va_A [(h, .inr (0, L0))] sz)) 8 478 (va_A [(h, .inr (0, L0))] sz) := by
  refine Met.ofW (cc := cX0_init) (maxL := 1) (ret := none) (by decide) rfl ?_
  intro p e s m args below meth c s₁ B hml hv
  obtain ⟨rfl, hsz, hP, hC, hD0, hR⟩ := hv
  have hx := B.exec
  have hb := B.bytes
  have hr := B.returns
  have hts := atoms_spec (ws := wsX0_init) B.pre
  have hown : s.vm.findClass RX0 = some m.cls := findClass_of_methodNamed B.named
  have hlocks := B.notSynchronized
  have hin : meth.name = "<init>" := (name_of_methodNamed B.named B.method).1
  subst hsz
  have hD := hD0.self (sz := s.heap.size)
  generalize hAe : va_A [(h, .inr (0, L0))] s.heap.size = A at hD hR ⊢
  have hA : ∀ q : Nat, s.heap.size ≤ q → A q := fun q h => by rw [← hAe]; exact Or.inr h
  have hS : va_S A s.heap s.heap [] := va_S.rf
  have hE := hC.1
  have hl := lv_entry ([.ref h]) (n := 1) (Nat.le_of_ble_eq_true rfl)
  rw [lg_entry_eq]
  generalize (lg_sl ([.ref h]) ++ List.replicate (1 - (lg_sl ([.ref h])).length) Slot.unset).toArray = ls at hl ⊢
  have hl : lv_has ls 1 [(0, .ref h)] := hl
  obtain ⟨hZ, cell, k1, k2, k3, k4, k5, k6⟩ := hR
  have hP : va_P D vwCl [(h, .inr (0, [.null, .null, .null, .null, .null, .null, .null, .null, .int 0, .int 0, .int 0]))] s.heap := hP
  have hD : va_D A [(h, .inr (0, [.null, .null, .null, .null, .null, .null, .null, .null, .int 0, .int 0, .int 0]))] := hD
  refine lv_aload_n hx hb dX0_init_0 rfl (lv_at hl 0 rfl) ?_
  refine W.objInit hx hb hown (hts (.methodLink RX0 3 objectInit) (by decide +kernel)) (hts (.instanceMethod objectInit) (by decide +kernel)) (hts _ (List.mem_cons_of_mem _ (List.mem_append_left _ (List.mem_of_getElem? (i := 2) rfl)))) rfl (by rw [hml]; exact hl.1) rfl dX0_init_1 (Nat.le_of_ble_eq_true rfl) (Nat.le_of_ble_eq_true rfl) ?_
  refine W.eq (g2 := F0 m 4 ls []) rfl ?_
  refine lv_aload_n hx hb dX0_init_4 rfl (lv_at hl 0 rfl) ?_
  refine va_getsN hx hb hZ hS hown (va_Nw.use rfl hC.2.2.1) (fun _ h9 => h9) dX0_init_5 ?_
  refine va_cloneS (x := (5, .inl rf0)) (ty := .int) (ad := "[I") hx hb (hml.trans hl.1.symm) hown (hts (.methodLink RX0 13 ⟨"[I", "clone", "()Ljava/lang/Object;"⟩) (by decide +kernel)) (hts (.sameMethod "[I" "java/lang/Object" "clone" "()Ljava/lang/Object;") (by decide +kernel)) (hts (.native ⟨"java/lang/Object", "clone", "()Ljava/lang/Object;"⟩) (by decide +kernel)) (hts (.instanceMethod ⟨"java/lang/Object", "clone", "()Ljava/lang/Object;"⟩) (by decide +kernel)) (hts (.selects "[I" ⟨"[I", "clone", "()Ljava/lang/Object;"⟩ ⟨"java/lang/Object", "clone", "()Ljava/lang/Object;"⟩) (by decide +kernel)) hC.2.1 hE.1 hP hD hS hA 0 rfl k1 k2 k3 k4 k5 (ck_nm hE.1 0 rfl) (ck_fit (fun _ => rfl)) (Nat.le_of_ble_eq_true rfl) (Nat.le_of_ble_eq_true rfl) (Nat.le_of_ble_eq_true rfl) (Nat.le_of_ble_eq_true rfl) dX0_init_8 (fun q0 H hP hD hS => ?_)
  have hP : va_P D vwCl [(h, .inr (0, [.null, .null, .null, .null, .null, .null, .null, .null, .int 0, .int 0, .int 0])), (q0, .inl (cA, 5, .inl rf0))] H := hP
  have hD : va_D A [(h, .inr (0, [.null, .null, .null, .null, .null, .null, .null, .null, .int 0, .int 0, .int 0])), (q0, .inl (cA, 5, .inl rf0))] := hD
  refine va_castA hx hb hown (hts (.classLink RX0 14 "[I") (by decide +kernel)) hP 1 rfl (ck_nm hE.1 0 rfl) dX0_init_11 ?_
  refine va_putF (D := D) (ci := 0) (v := .ref q0) (ty := .array .int) (C := RX0) (T := TX0) (N := 11) hx hb hts iw_X0_init_X0 tyX0 tyX0_ok nmX0 hown hE.1 hP hD hS 0 rfl rfl 0 (by decide) (hts (.fieldLink RX0 18 "EchoTaps$Line" "rules" "[I") (by decide +kernel)) (fun _ h9 => h9) rfl hin rfl (by decide +kernel) rfl rfl (Nat.le_of_ble_eq_true rfl) dX0_init_14 (fun H locs hP hD hS => ?_)
  have hP : va_P D vwCl [(h, .inr (0, [.ref q0, .null, .null, .null, .null, .null, .null, .null, .int 0, .int 0, .int 0])), (q0, .inl (cA, 5, .inl rf0))] H := hP
  have hD : va_D A [(h, .inr (0, [.ref q0, .null, .null, .null, .null, .null, .null, .null, .int 0, .int 0, .int 0])), (q0, .inl (cA, 5, .inl rf0))] := hD
  refine lv_aload_n hx hb dX0_init_17 rfl (lv_at hl 0 rfl) ?_
  refine lv_bipush (v := 8) hx hb dX0_init_18 (by decide) ?_
  refine va_newa (atype := .int) (ty := .int) (a0 := (8, .inl (fun _ => 0))) hx hb (hts (.arrayClass .int) (by decide +kernel)) rfl hE.1 hP hD hS hA (fun _ => rfl) (by decide) (N' := 8) rfl (Nat.le_of_ble_eq_true rfl) (Nat.le_of_ble_eq_true rfl) (Nat.le_of_ble_eq_true rfl) dX0_init_20 (fun q1 cB H hK2 hP hD hS => ?_)
  obtain rfl : cA = cB := (ck_int hE.1 hK2 0 3 rfl rfl).symm
  have hP : va_P D vwCl [(h, .inr (0, [.ref q0, .null, .null, .null, .null, .null, .null, .null, .int 0, .int 0, .int 0])), (q0, .inl (cA, 5, .inl rf0)), (q1, .inl (cA, 8, .inl (fun _ => 0)))] H := hP
  have hD : va_D A [(h, .inr (0, [.ref q0, .null, .null, .null, .null, .null, .null, .null, .int 0, .int 0, .int 0])), (q0, .inl (cA, 5, .inl rf0)), (q1, .inl (cA, 8, .inl (fun _ => 0)))] := hD
  refine va_putF (D := D) (ci := 0) (v := .ref q1) (ty := .array .int) (C := RX0) (T := TX0) (N := 11) hx hb hts iw_X0_init_X0 tyX0 tyX0_ok nmX0 hown hE.1 hP hD hS 0 rfl rfl 1 (by decide) (hts (.fieldLink RX0 23 "EchoTaps$Line" "taps" "[I") (by decide +kernel)) (fun _ h9 => h9) rfl hin rfl (by decide +kernel) rfl rfl (Nat.le_of_ble_eq_true rfl) dX0_init_22 (fun H locs hP hD hS => ?_)
  have hP : va_P D vwCl [(h, .inr (0, [.ref q0, .ref q1, .null, .null, .null, .null, .null, .null, .int 0, .int 0, .int 0])), (q0, .inl (cA, 5, .inl rf0)), (q1, .inl (cA, 8, .inl (fun _ => 0)))] H := hP
  have hD : va_D A [(h, .inr (0, [.ref q0, .ref q1, .null, .null, .null, .null, .null, .null, .int 0, .int 0, .int 0])), (q0, .inl (cA, 5, .inl rf0)), (q1, .inl (cA, 8, .inl (fun _ => 0)))] := hD
  refine lv_aload_n hx hb dX0_init_25 rfl (lv_at hl 0 rfl) ?_
  refine lv_bipush (v := 9) hx hb dX0_init_26 (by decide) ?_
  refine va_newa (atype := .int) (ty := .int) (a0 := (9, .inl (fun _ => 0))) hx hb (hts (.arrayClass .int) (by decide +kernel)) rfl hE.1 hP hD hS hA (fun _ => rfl) (by decide) (N' := 9) rfl (Nat.le_of_ble_eq_true rfl) (Nat.le_of_ble_eq_true rfl) (Nat.le_of_ble_eq_true rfl) dX0_init_28 (fun q2 cB H hK2 hP hD hS => ?_)
  obtain rfl : cA = cB := (ck_int hE.1 hK2 0 3 rfl rfl).symm
  have hP : va_P D vwCl [(h, .inr (0, [.ref q0, .ref q1, .null, .null, .null, .null, .null, .null, .int 0, .int 0, .int 0])), (q0, .inl (cA, 5, .inl rf0)), (q1, .inl (cA, 8, .inl (fun _ => 0))), (q2, .inl (cA, 9, .inl (fun _ => 0)))] H := hP
  have hD : va_D A [(h, .inr (0, [.ref q0, .ref q1, .null, .null, .null, .null, .null, .null, .int 0, .int 0, .int 0])), (q0, .inl (cA, 5, .inl rf0)), (q1, .inl (cA, 8, .inl (fun _ => 0))), (q2, .inl (cA, 9, .inl (fun _ => 0)))] := hD
  refine va_putF (D := D) (ci := 0) (v := .ref q2) (ty := .array .int) (C := RX0) (T := TX0) (N := 11) hx hb hts iw_X0_init_X0 tyX0 tyX0_ok nmX0 hown hE.1 hP hD hS 0 rfl rfl 2 (by decide) (hts (.fieldLink RX0 26 "EchoTaps$Line" "way" "[I") (by decide +kernel)) (fun _ h9 => h9) rfl hin rfl (by decide +kernel) rfl rfl (Nat.le_of_ble_eq_true rfl) dX0_init_30 (fun H locs hP hD hS => ?_)
  have hP : va_P D vwCl [(h, .inr (0, [.ref q0, .ref q1, .ref q2, .null, .null, .null, .null, .null, .int 0, .int 0, .int 0])), (q0, .inl (cA, 5, .inl rf0)), (q1, .inl (cA, 8, .inl (fun _ => 0))), (q2, .inl (cA, 9, .inl (fun _ => 0)))] H := hP
  have hD : va_D A [(h, .inr (0, [.ref q0, .ref q1, .ref q2, .null, .null, .null, .null, .null, .int 0, .int 0, .int 0])), (q0, .inl (cA, 5, .inl rf0)), (q1, .inl (cA, 8, .inl (fun _ => 0))), (q2, .inl (cA, 9, .inl (fun _ => 0)))] := hD
  refine lv_aload_n hx hb dX0_init_33 rfl (lv_at hl 0 rfl) ?_
  refine lv_bipush (v := 64) hx hb dX0_init_34 (by decide) ?_
  refine va_newa (atype := .int) (ty := .int) (a0 := (64, .inl (fun _ => 0))) hx hb (hts (.arrayClass .int) (by decide +kernel)) rfl hE.1 hP hD hS hA (fun _ => rfl) (by decide) (N' := 64) rfl (Nat.le_of_ble_eq_true rfl) (Nat.le_of_ble_eq_true rfl) (Nat.le_of_ble_eq_true rfl) dX0_init_36 (fun q3 cB H hK2 hP hD hS => ?_)
  obtain rfl : cA = cB := (ck_int hE.1 hK2 0 3 rfl rfl).symm
  have hP : va_P D vwCl [(h, .inr (0, [.ref q0, .ref q1, .ref q2, .null, .null, .null, .null, .null, .int 0, .int 0, .int 0])), (q0, .inl (cA, 5, .inl rf0)), (q1, .inl (cA, 8, .inl (fun _ => 0))), (q2, .inl (cA, 9, .inl (fun _ => 0))), (q3, .inl (cA, 64, .inl (fun _ => 0)))] H := hP
  have hD : va_D A [(h, .inr (0, [.ref q0, .ref q1, .ref q2, .null, .null, .null, .null, .null, .int 0, .int 0, .int 0])), (q0, .inl (cA, 5, .inl rf0)), (q1, .inl (cA, 8, .inl (fun _ => 0))), (q2, .inl (cA, 9, .inl (fun _ => 0))), (q3, .inl (cA, 64, .inl (fun _ => 0)))] := hD
  refine va_putF (D := D) (ci := 0) (v := .ref q3) (ty := .array .int) (C := RX0) (T := TX0) (N := 11) hx hb hts iw_X0_init_X0 tyX0 tyX0_ok nmX0 hown hE.1 hP hD hS 0 rfl rfl 3 (by decide) (hts (.fieldLink RX0 29 "EchoTaps$Line" "fars" "[I") (by decide +kernel)) (fun _ h9 => h9) rfl hin rfl (by decide +kernel) rfl rfl (Nat.le_of_ble_eq_true rfl) dX0_init_38 (fun H locs hP hD hS => ?_)
  have hP : va_P D vwCl [(h, .inr (0, [.ref q0, .ref q1, .ref q2, .ref q3, .null, .null, .null, .null, .int 0, .int 0, .int 0])), (q0, .inl (cA, 5, .inl rf0)), (q1, .inl (cA, 8, .inl (fun _ => 0))), (q2, .inl (cA, 9, .inl (fun _ => 0))), (q3, .inl (cA, 64, .inl (fun _ => 0)))] H := hP
  have hD : va_D A [(h, .inr (0, [.ref q0, .ref q1, .ref q2, .ref q3, .null, .null, .null, .null, .int 0, .int 0, .int 0])), (q0, .inl (cA, 5, .inl rf0)), (q1, .inl (cA, 8, .inl (fun _ => 0))), (q2, .inl (cA, 9, .inl (fun _ => 0))), (q3, .inl (cA, 64, .inl (fun _ => 0)))] := hD
  refine lv_aload_n hx hb dX0_init_41 rfl (lv_at hl 0 rfl) ?_
  refine lv_bipush (v := 64) hx hb dX0_init_42 (by decide) ?_
  refine va_newa (atype := .int) (ty := .int) (a0 := (64, .inl (fun _ => 0))) hx hb (hts (.arrayClass .int) (by decide +kernel)) rfl hE.1 hP hD hS hA (fun _ => rfl) (by decide) (N' := 64) rfl (Nat.le_of_ble_eq_true rfl) (Nat.le_of_ble_eq_true rfl) (Nat.le_of_ble_eq_true rfl) dX0_init_44 (fun q4 cB H hK2 hP hD hS => ?_)
  obtain rfl : cA = cB := (ck_int hE.1 hK2 0 3 rfl rfl).symm
  have hP : va_P D vwCl [(h, .inr (0, [.ref q0, .ref q1, .ref q2, .ref q3, .null, .null, .null, .null, .int 0, .int 0, .int 0])), (q0, .inl (cA, 5, .inl rf0)), (q1, .inl (cA, 8, .inl (fun _ => 0))), (q2, .inl (cA, 9, .inl (fun _ => 0))), (q3, .inl (cA, 64, .inl (fun _ => 0))), (q4, .inl (cA, 64, .inl (fun _ => 0)))] H := hP
  have hD : va_D A [(h, .inr (0, [.ref q0, .ref q1, .ref q2, .ref q3, .null, .null, .null, .null, .int 0, .int 0, .int 0])), (q0, .inl (cA, 5, .inl rf0)), (q1, .inl (cA, 8, .inl (fun _ => 0))), (q2, .inl (cA, 9, .inl (fun _ => 0))), (q3, .inl (cA, 64, .inl (fun _ => 0))), (q4, .inl (cA, 64, .inl (fun _ => 0)))] := hD
  refine va_putF (D := D) (ci := 0) (v := .ref q4) (ty := .array .int) (C := RX0) (T := TX0) (N := 11) hx hb hts iw_X0_init_X0 tyX0 tyX0_ok nmX0 hown hE.1 hP hD hS 0 rfl rfl 4 (by decide) (hts (.fieldLink RX0 32 "EchoTaps$Line" "nears" "[I") (by decide +kernel)) (fun _ h9 => h9) rfl hin rfl (by decide +kernel) rfl rfl (Nat.le_of_ble_eq_true rfl) dX0_init_46 (fun H locs hP hD hS => ?_)
  have hP : va_P D vwCl [(h, .inr (0, [.ref q0, .ref q1, .ref q2, .ref q3, .ref q4, .null, .null, .null, .int 0, .int 0, .int 0])), (q0, .inl (cA, 5, .inl rf0)), (q1, .inl (cA, 8, .inl (fun _ => 0))), (q2, .inl (cA, 9, .inl (fun _ => 0))), (q3, .inl (cA, 64, .inl (fun _ => 0))), (q4, .inl (cA, 64, .inl (fun _ => 0)))] H := hP
  have hD : va_D A [(h, .inr (0, [.ref q0, .ref q1, .ref q2, .ref q3, .ref q4, .null, .null, .null, .int 0, .int 0, .int 0])), (q0, .inl (cA, 5, .inl rf0)), (q1, .inl (cA, 8, .inl (fun _ => 0))), (q2, .inl (cA, 9, .inl (fun _ => 0))), (q3, .inl (cA, 64, .inl (fun _ => 0))), (q4, .inl (cA, 64, .inl (fun _ => 0)))] := hD
  refine lv_aload_n hx hb dX0_init_49 rfl (lv_at hl 0 rfl) ?_
  refine lv_bipush (v := 64) hx hb dX0_init_50 (by decide) ?_
  refine va_newa (atype := .int) (ty := .int) (a0 := (64, .inl (fun _ => 0))) hx hb (hts (.arrayClass .int) (by decide +kernel)) rfl hE.1 hP hD hS hA (fun _ => rfl) (by decide) (N' := 64) rfl (Nat.le_of_ble_eq_true rfl) (Nat.le_of_ble_eq_true rfl) (Nat.le_of_ble_eq_true rfl) dX0_init_52 (fun q5 cB H hK2 hP hD hS => ?_)
  obtain rfl : cA = cB := (ck_int hE.1 hK2 0 3 rfl rfl).symm
  have hP : va_P D vwCl [(h, .inr (0, [.ref q0, .ref q1, .ref q2, .ref q3, .ref q4, .null, .null, .null, .int 0, .int 0, .int 0])), (q0, .inl (cA, 5, .inl rf0)), (q1, .inl (cA, 8, .inl (fun _ => 0))), (q2, .inl (cA, 9, .inl (fun _ => 0))), (q3, .inl (cA, 64, .inl (fun _ => 0))), (q4, .inl (cA, 64, .inl (fun _ => 0))), (q5, .inl (cA, 64, .inl (fun _ => 0)))] H := hP
  have hD : va_D A [(h, .inr (0, [.ref q0, .ref q1, .ref q2, .ref q3, .ref q4, .null, .null, .null, .int 0, .int 0, .int 0])), (q0, .inl (cA, 5, .inl rf0)), (q1, .inl (cA, 8, .inl (fun _ => 0))), (q2, .inl (cA, 9, .inl (fun _ => 0))), (q3, .inl (cA, 64, .inl (fun _ => 0))), (q4, .inl (cA, 64, .inl (fun _ => 0))), (q5, .inl (cA, 64, .inl (fun _ => 0)))] := hD
  refine va_putF (D := D) (ci := 0) (v := .ref q5) (ty := .array .int) (C := RX0) (T := TX0) (N := 11) hx hb hts iw_X0_init_X0 tyX0 tyX0_ok nmX0 hown hE.1 hP hD hS 0 rfl rfl 5 (by decide) (hts (.fieldLink RX0 35 "EchoTaps$Line" "outs" "[I") (by decide +kernel)) (fun _ h9 => h9) rfl hin rfl (by decide +kernel) rfl rfl (Nat.le_of_ble_eq_true rfl) dX0_init_54 (fun H locs hP hD hS => ?_)
  have hP : va_P D vwCl [(h, .inr (0, [.ref q0, .ref q1, .ref q2, .ref q3, .ref q4, .ref q5, .null, .null, .int 0, .int 0, .int 0])), (q0, .inl (cA, 5, .inl rf0)), (q1, .inl (cA, 8, .inl (fun _ => 0))), (q2, .inl (cA, 9, .inl (fun _ => 0))), (q3, .inl (cA, 64, .inl (fun _ => 0))), (q4, .inl (cA, 64, .inl (fun _ => 0))), (q5, .inl (cA, 64, .inl (fun _ => 0)))] H := hP
  have hD : va_D A [(h, .inr (0, [.ref q0, .ref q1, .ref q2, .ref q3, .ref q4, .ref q5, .null, .null, .int 0, .int 0, .int 0])), (q0, .inl (cA, 5, .inl rf0)), (q1, .inl (cA, 8, .inl (fun _ => 0))), (q2, .inl (cA, 9, .inl (fun _ => 0))), (q3, .inl (cA, 64, .inl (fun _ => 0))), (q4, .inl (cA, 64, .inl (fun _ => 0))), (q5, .inl (cA, 64, .inl (fun _ => 0)))] := hD
  refine lv_aload_n hx hb dX0_init_57 rfl (lv_at hl 0 rfl) ?_
  refine lv_sipush (v := 256) hx hb dX0_init_58 (by decide) ?_
  refine va_newa (atype := .int) (ty := .int) (a0 := (256, .inl (fun _ => 0))) hx hb (hts (.arrayClass .int) (by decide +kernel)) rfl hE.1 hP hD hS hA (fun _ => rfl) (by decide) (N' := 256) rfl (Nat.le_of_ble_eq_true rfl) (Nat.le_of_ble_eq_true rfl) (Nat.le_of_ble_eq_true rfl) dX0_init_61 (fun q6 cB H hK2 hP hD hS => ?_)
  obtain rfl : cA = cB := (ck_int hE.1 hK2 0 3 rfl rfl).symm
  have hP : va_P D vwCl [(h, .inr (0, [.ref q0, .ref q1, .ref q2, .ref q3, .ref q4, .ref q5, .null, .null, .int 0, .int 0, .int 0])), (q0, .inl (cA, 5, .inl rf0)), (q1, .inl (cA, 8, .inl (fun _ => 0))), (q2, .inl (cA, 9, .inl (fun _ => 0))), (q3, .inl (cA, 64, .inl (fun _ => 0))), (q4, .inl (cA, 64, .inl (fun _ => 0))), (q5, .inl (cA, 64, .inl (fun _ => 0))), (q6, .inl (cA, 256, .inl (fun _ => 0)))] H := hP
  have hD : va_D A [(h, .inr (0, [.ref q0, .ref q1, .ref q2, .ref q3, .ref q4, .ref q5, .null, .null, .int 0, .int 0, .int 0])), (q0, .inl (cA, 5, .inl rf0)), (q1, .inl (cA, 8, .inl (fun _ => 0))), (q2, .inl (cA, 9, .inl (fun _ => 0))), (q3, .inl (cA, 64, .inl (fun _ => 0))), (q4, .inl (cA, 64, .inl (fun _ => 0))), (q5, .inl (cA, 64, .inl (fun _ => 0))), (q6, .inl (cA, 256, .inl (fun _ => 0)))] := hD
  refine va_putF (D := D) (ci := 0) (v := .ref q6) (ty := .array .int) (C := RX0) (T := TX0) (N := 11) hx hb hts iw_X0_init_X0 tyX0 tyX0_ok nmX0 hown hE.1 hP hD hS 0 rfl rfl 6 (by decide) (hts (.fieldLink RX0 38 "EchoTaps$Line" "marks" "[I") (by decide +kernel)) (fun _ h9 => h9) rfl hin rfl (by decide +kernel) rfl rfl (Nat.le_of_ble_eq_true rfl) dX0_init_63 (fun H locs hP hD hS => ?_)
  have hP : va_P D vwCl [(h, .inr (0, [.ref q0, .ref q1, .ref q2, .ref q3, .ref q4, .ref q5, .ref q6, .null, .int 0, .int 0, .int 0])), (q0, .inl (cA, 5, .inl rf0)), (q1, .inl (cA, 8, .inl (fun _ => 0))), (q2, .inl (cA, 9, .inl (fun _ => 0))), (q3, .inl (cA, 64, .inl (fun _ => 0))), (q4, .inl (cA, 64, .inl (fun _ => 0))), (q5, .inl (cA, 64, .inl (fun _ => 0))), (q6, .inl (cA, 256, .inl (fun _ => 0)))] H := hP
  have hD : va_D A [(h, .inr (0, [.ref q0, .ref q1, .ref q2, .ref q3, .ref q4, .ref q5, .ref q6, .null, .int 0, .int 0, .int 0])), (q0, .inl (cA, 5, .inl rf0)), (q1, .inl (cA, 8, .inl (fun _ => 0))), (q2, .inl (cA, 9, .inl (fun _ => 0))), (q3, .inl (cA, 64, .inl (fun _ => 0))), (q4, .inl (cA, 64, .inl (fun _ => 0))), (q5, .inl (cA, 64, .inl (fun _ => 0))), (q6, .inl (cA, 256, .inl (fun _ => 0)))] := hD
  refine lv_aload_n hx hb dX0_init_66 rfl (lv_at hl 0 rfl) ?_
  refine lv_bipush (v := 8) hx hb dX0_init_67 (by decide) ?_
  refine va_newa (atype := .int) (ty := .int) (a0 := (8, .inl (fun _ => 0))) hx hb (hts (.arrayClass .int) (by decide +kernel)) rfl hE.1 hP hD hS hA (fun _ => rfl) (by decide) (N' := 8) rfl (Nat.le_of_ble_eq_true rfl) (Nat.le_of_ble_eq_true rfl) (Nat.le_of_ble_eq_true rfl) dX0_init_69 (fun q7 cB H hK2 hP hD hS => ?_)
  obtain rfl : cA = cB := (ck_int hE.1 hK2 0 3 rfl rfl).symm
  have hP : va_P D vwCl [(h, .inr (0, [.ref q0, .ref q1, .ref q2, .ref q3, .ref q4, .ref q5, .ref q6, .null, .int 0, .int 0, .int 0])), (q0, .inl (cA, 5, .inl rf0)), (q1, .inl (cA, 8, .inl (fun _ => 0))), (q2, .inl (cA, 9, .inl (fun _ => 0))), (q3, .inl (cA, 64, .inl (fun _ => 0))), (q4, .inl (cA, 64, .inl (fun _ => 0))), (q5, .inl (cA, 64, .inl (fun _ => 0))), (q6, .inl (cA, 256, .inl (fun _ => 0))), (q7, .inl (cA, 8, .inl (fun _ => 0)))] H := hP
  have hD : va_D A [(h, .inr (0, [.ref q0, .ref q1, .ref q2, .ref q3, .ref q4, .ref q5, .ref q6, .null, .int 0, .int 0, .int 0])), (q0, .inl (cA, 5, .inl rf0)), (q1, .inl (cA, 8, .inl (fun _ => 0))), (q2, .inl (cA, 9, .inl (fun _ => 0))), (q3, .inl (cA, 64, .inl (fun _ => 0))), (q4, .inl (cA, 64, .inl (fun _ => 0))), (q5, .inl (cA, 64, .inl (fun _ => 0))), (q6, .inl (cA, 256, .inl (fun _ => 0))), (q7, .inl (cA, 8, .inl (fun _ => 0)))] := hD
  refine va_putF (D := D) (ci := 0) (v := .ref q7) (ty := .array .int) (C := RX0) (T := TX0) (N := 11) hx hb hts iw_X0_init_X0 tyX0 tyX0_ok nmX0 hown hE.1 hP hD hS 0 rfl rfl 7 (by decide) (hts (.fieldLink RX0 41 "EchoTaps$Line" "told" "[I") (by decide +kernel)) (fun _ h9 => h9) rfl hin rfl (by decide +kernel) rfl rfl (Nat.le_of_ble_eq_true rfl) dX0_init_71 (fun H locs hP hD hS => ?_)
  have hP : va_P D vwCl [(h, .inr (0, [.ref q0, .ref q1, .ref q2, .ref q3, .ref q4, .ref q5, .ref q6, .ref q7, .int 0, .int 0, .int 0])), (q0, .inl (cA, 5, .inl rf0)), (q1, .inl (cA, 8, .inl (fun _ => 0))), (q2, .inl (cA, 9, .inl (fun _ => 0))), (q3, .inl (cA, 64, .inl (fun _ => 0))), (q4, .inl (cA, 64, .inl (fun _ => 0))), (q5, .inl (cA, 64, .inl (fun _ => 0))), (q6, .inl (cA, 256, .inl (fun _ => 0))), (q7, .inl (cA, 8, .inl (fun _ => 0)))] H := hP
  have hD : va_D A [(h, .inr (0, [.ref q0, .ref q1, .ref q2, .ref q3, .ref q4, .ref q5, .ref q6, .ref q7, .int 0, .int 0, .int 0])), (q0, .inl (cA, 5, .inl rf0)), (q1, .inl (cA, 8, .inl (fun _ => 0))), (q2, .inl (cA, 9, .inl (fun _ => 0))), (q3, .inl (cA, 64, .inl (fun _ => 0))), (q4, .inl (cA, 64, .inl (fun _ => 0))), (q5, .inl (cA, 64, .inl (fun _ => 0))), (q6, .inl (cA, 256, .inl (fun _ => 0))), (q7, .inl (cA, 8, .inl (fun _ => 0)))] := hD
  obtain ⟨as, eas⟩ : ∃ z : Nat → Nat, z = (fun k => match k with | 0 => q0 | 1 => q1 | 2 => q2 | 3 => q3 | 4 => q4 | 5 => q5 | 6 => q6 | _ => q7) := ⟨_, rfl⟩
  have hP9 : va_P D vwCl (LW cA h as st00) H := by rw [eas]; exact hP
  have hD9 : va_D A (LW cA h as st00) := by rw [eas]; exact hD
  refine W.widen (k := 8) (n := 478) (Nat.le_of_ble_eq_true rfl) (Nat.le_of_ble_eq_true rfl) ?_
  exact W.vret hx hb hr (fun t ht hW => ⟨⟨as, rfl, trivial, by show va_P D vwCl (LW cA h as st00) t.heap; rw [ht]; exact hP9, hD9⟩, hS.F ht⟩) hS.2.2 dX0_init_74
