/-- the RULES' bounds, a row that nobody writes -/
def RQ (tq : Nat) (A : Nat → Prop) (U : State) (H : Heap) : Prop := va_Z "EchoTaps" "RULES_MOST" "[I" (.ref tq) A U H ∧ va_T .int tq 5 (fun j => .int (pf_most (nI j))) A U H
theorem RQ.moved {tq : Nat} {A : Nat → Prop} {u U : State} {H : Heap} (hvm : u.vm.Alike U.vm) (h : RQ tq A u H) : RQ tq A U H := ⟨h.1.moved hvm, h.2.moved hvm⟩
theorem RQ.kept {tq : Nat} {A : Nat → Prop} {U : State} {H H1 : Heap} (h : RQ tq A U H) (hq : ∀ a : Nat, a < H.size → ¬ A a → H1[a]? = H[a]?) : RQ tq A U H1 := ⟨h.1.kept hq, h.2.kept hq⟩
theorem RQ.narrow {tq : Nat} {A B : Nat → Prop} {U : State} {H : Heap} (h : RQ tq A U H) (hAB : ∀ q, B q → A q) : RQ tq B U H := ⟨h.1.narrow hAB, h.2.narrow hAB⟩
abbrev PQ (D : va_G) (cA cZ cR : ClassId) (tq : Nat) (Y : va_W) (sz : Nat) : State → Prop := fun U => PB D cA cZ cR Y sz U ∧ RQ tq (va_A Y sz) U U.heap
theorem PQ.blind {D : va_G} {cA cZ cR : ClassId} {tq : Nat} {Y : va_W} {sz : Nat} {av : List Value} : FrameBlind (va_Pc av (PQ D cA cZ cR tq Y sz)) := by
  rintro a U g mk ⟨h0, ⟨h1, h2, h3, h4⟩, h5⟩
  exact ⟨h0, ⟨h1, h2, h3.calling, h4⟩, RQ.moved (u := U) (U := U.calling g mk a) (Vm.Alike.refl U.vm) h5⟩
def BMq (l : Launch) (D : va_G) (cA cZ cR : ClassId) (tq : Nat) (y : MethodName) (ws : List Cond) (rm : Room) (av : List Value) (Y Y' : va_W) (r : Int32) : Prop :=
  ∀ sz : Nat, Met l y ws rm (va_Pc av (PQ D cA cZ cR tq Y sz)) (QI D Y' r (va_A Y sz)) 0 0 (va_A Y sz)
set_option maxHeartbeats 1000000 in
theorem bm_openQ {l : Launch} {D : va_G} {cA cZ cR : ClassId} {tq : Nat} {y : MethodName} {ws ws' : List Cond} {rm : Room} {av : List Value} {Y Y' : va_W} {r : Int32} {cc : ByteArray} {maxL : Nat}
    (hy : plainName y.cls = true) (hw : ws = Cond.code y cc maxL (some .int) :: ws') (hn : (lg_sl av).length ≤ maxL)
    (body : ∀ (p : Program) (e : Env) (s : State) (m : MethodId) (args : Array Value) (below : List Frame) (meth : Method) (c : Code) (A : Nat → Prop) (Q : State → Prop), p.tables.exec = Jvm.exec → c.code = cc → c.maxLocals = maxL → (∀ w ∈ ws, w.before args s = true) → s.vm.findClass y.cls = some m.cls →
      EK D cA cZ cR s → va_P D vwCl Y s.heap → va_D A Y → (∀ q, s.heap.size ≤ q → A q) → va_S A s.heap s.heap [] → RQ tq A s s.heap →
      (∀ (H : Heap) (locs : List Loc) (pc : Nat) (ls : Array Slot) (v : Int32), va_P D vwCl Y' H → v = r → va_S A s.heap H locs → decode cc pc = .ok (.ireturn, 1) → W p l e rm s m args below meth c H locs 0 0 Q (F0 m pc ls [.int v])) →
      ∀ ls : Array Slot, lv_has ls maxL (lv_args 0 av) → W p l e rm s m args below meth c s.heap [] 0 0 Q (F0 m 0 ls [])) : BMq l D cA cZ cR tq y ws rm av Y Y' r := by
  intro sz
  refine Met.ofW (cc := cc) (maxL := maxL) (ret := some .int) hy hw ?_
  intro p e s m args below meth c s₁ B hml hv
  obtain ⟨rfl, ⟨hsz, hP, hE, hD0⟩, hQ⟩ := hv
  subst hsz
  have hx := B.exec
  have hb := B.bytes
  have hr := B.returns
  have hts := atoms_spec (ws := ws) B.pre
  have hown : s.vm.findClass y.cls = some m.cls := findClass_of_methodNamed B.named
  have hlocks := B.notSynchronized
  have hD := hD0.self (sz := s.heap.size)
  have hl := lv_entry av (n := maxL) hn
  rw [lg_entry_eq]
  refine body p e s m av.toArray below meth c (va_A Y s.heap.size) _ hx hb hml hts hown hE hP hD (fun q h => Or.inr h) va_S.rf hQ ?_ _ hl
  intro H locs pc ls v hP' hv hS hdg
  exact W.iret (v := v) hx hb hr (fun t ht hW => ⟨⟨v, (), rfl, hv, by show va_P D vwCl Y' t.heap; rw [ht]; exact hP'⟩, hS.F ht⟩) hS.2.2 hdg
section CALLQ
variable {p : Program} {l : Launch} {e : Env} {R : Room} {s : State} {m : MethodId} {args : Array Value} {below : List Frame} {meth : Method} {c : Code} {H : Heap} {locs : List Loc} {cells slots : Nat} {Q : State → Prop}
variable {cc : ByteArray} {pc nL : Nat} {ls : Array Slot} {st0 : List Value} {D : va_G} {cA cZ cR : ClassId} {A : Nat → Prop} {y : MethodName} {ws Ts : List Cond} {rm : Room} {own C : String} {index maxL n : Nat} {bytes : ByteArray} {ret : Option FieldType}
set_option maxHeartbeats 1000000 in
theorem bm_q {b tq : Nat} (X Y Z : va_W) {Y' : va_W} {r : Int32} (As rest : List Value) (S : CallFix p m c cc nL s args Ts own) (hM : BMq l D cA cZ cR tq y ws rm (.ref b :: As) Y Y' r) (cw : CallW R s args own C index y bytes maxL ret ws rm 0 0 n)
    (hE : EK D cA cZ cR s) (hP : va_P D vwCl (X ++ (Y ++ Z)) H) (hD : va_D A (X ++ (Y ++ Z))) (hS : va_S A s.heap H locs) (hA : ∀ q, s.heap.size ≤ q → A q) (hQ : RQ tq A s s.heap) (ha : Y'.map Prod.fst = Y.map Prod.fst) (q0 ci : Nat) {fs : List Value} {T : u_T} {N : Nat} (hy : Y[q0]? = some (b, .inr (ci, fs))) (hcl : vwCl[ci]? = some (C, T, N))
    (hn : As.length = n) (hsize : ls.size = nL) (hst : st0 = As.reverse ++ .ref b :: rest) (hW : (rest.map fun v => v.category).sum ≤ 8) (hdg : decode cc pc = .ok (.invokevirtual index, 3)) (hf : cells ≤ R.cells ∧ slots ≤ R.slots)
    (kk : ∀ (H1 : Heap) (locs1 : List Loc), va_P D vwCl (X ++ (Y' ++ Z)) H1 → va_D A (X ++ (Y' ++ Z)) → va_S A s.heap H1 locs1 → W p l e R s m args below meth c H1 locs1 cells slots Q (F0 m (pc + 3) ls (.int r :: rest))) : W p l e R s m args below meth c H locs cells slots Q (F0 m pc ls st0) := by
  have hPc : va_P D vwCl Y H := va_P_mid hP
  have hDc : va_D A Y := va_D_mid hD
  have hFc := va_fr hD hS hA
  have hQc := (hQ.kept hS.2.1).narrow hFc
  refine va_calli (va_runV (As := As) (rest := rest) S (hM H.size) cw ⟨PQ.blind, va_recv hE.1 hPc (q0 := q0) hcl hy, fun U hU hW => ⟨rfl, ⟨by rw [hU], by rw [hU]; exact hPc, hE.warm hW, hDc.weaken (fun _ _ _ _ => trivial)⟩, by rw [hU]; exact hQc.moved hW.alike⟩⟩ rfl hn hsize hst (lv_room hW) hdg hf) hS (fun q _ h => hFc q h) hFc (fun r1 u t H1 locs1 ht hvm hw hB hz1 hk1 hS1 => ?_)
  have hB : va_P D vwCl Y' t.heap := hB
  rw [ht] at hB
  obtain ⟨hP1, hD1⟩ := va_jn hP hD ha hk1 hB
  subst hw
  exact kk H1 locs1 hP1 hD1 hS1
end CALLQ
abbrev rm_X1_rule : Room := { frames := 1, cells := 0, slots := 0, locals := 22 }
theorem iw_X1_rule_X0 : ∀ w ∈ wsX00, w ∈ wsX1_rule := by decide +kernel
theorem iw_X1_rule_X1 : ∀ w ∈ wsX10, w ∈ wsX1_rule := by decide +kernel
set_option maxRecDepth 100000 in
set_option maxHeartbeats 4000000 in
theorem c_X1_rule (l : Launch) (D : va_G) (cA cZ cR : ClassId) (tq ob h t i : Nat) (kp : Int32) (as : Nat → Nat) (st : St) (k v : Int32) : BMq l D cA cZ cR tq yX1_rule wsX1_rule rm_X1_rule [.ref ob, .int k, .int v] ([EO ob h t i kp] ++ (LW cA h as st)) ([EO ob h t i kp] ++ (LW cA h as (xs_rule st k v))) (xf_rule st k v) := by
  refine bm_openQ (maxL := 4) (by decide) rfl (Nat.le_of_ble_eq_true rfl) ?_
  intro p e s m args below meth c A Q hx hb hml hts hown hE hP hD hA hS hQ hret ls hl
  have hown : s.vm.findClass RX1 = some m.cls := hown
  have hl : lv_has ls 4 [(0, .ref ob), (1, .int k), (2, .int v)] := hl
  obtain ⟨H, locs, eH, eL⟩ : ∃ (H : Heap) (locs : List Loc), H = s.heap ∧ locs = [] := ⟨_, _, rfl, rfl⟩
  rw [← eH, ← eL]
  rw [← eH] at hP
  have hS : va_S A s.heap H locs := by rw [eH, eL]; exact hS
  clear eH eL
  refine lv_iload_n hx hb dX1_rule_0 rfl (lv_at hl 1 rfl) ?_
  refine lv_iconst (v := 0) hx hb dX1_rule_1 (by decide) ?_
  refine lv_iconst (v := 4) hx hb dX1_rule_2 (by decide) ?_
  refine sm_i [.int k, .int 0, .int 4] [] ⟨hx, hb, hml, hown, hts⟩ (c_X1_within l k 0 4) (va_cwS 3 hts gX1_rule_X1_within rfl rfl rfl (by decide +kernel) ⟨Nat.le_of_ble_eq_true rfl, Nat.le_of_ble_eq_true rfl⟩) rfl hl.1 rfl (Nat.le_of_ble_eq_true rfl) dX1_rule_3 ⟨Nat.zero_le _, Nat.zero_le _⟩ ?_
  refine lv_if_eq (tgt := 22) hx hb dX1_rule_6 (by decide) (fun c_1 => ?_) (fun c_1 => ?_)
  · have c_1 : (pf_in k 0 4) = 0 := c_1
    have e1 : xs_rule st k v = st := if_pos (Or.inl c_1)
    refine lv_bipush (v := (-2)) hx hb dX1_rule_22 (by decide) ?_
    exact hret _ _ _ _ _ (by rw [e1]; exact hP) ((if_pos (Or.inl c_1)).symm) hS dX1_rule_24
  · have c_1 : ¬ (pf_in k 0 4) = 0 := c_1
    have hin : vp_in k 5 := in_vp (b := 4) (by decide) c_1
    have hkk : nI k.toNatClampNeg = k := by obtain ⟨j, hj, e⟩ := vp_in_of hin (by decide); rw [e, nI_clamp (by omega)]
    refine lv_iload_n hx hb dX1_rule_9 rfl (lv_at hl 2 rfl) ?_
    refine lv_iconst (v := 0) hx hb dX1_rule_10 (by decide) ?_
    refine va_gets hx hb hQ.1 hS hown (hts (.fieldLink RX1 27 "EchoTaps" "RULES_MOST" "[I") (by decide +kernel)) (fun _ h9 => h9) dX1_rule_11 ?_
    refine lv_iload_n hx hb dX1_rule_14 rfl (lv_at hl 1 rfl) ?_
    refine va_ti hx hb hQ.2 hS hin (v := .int (pf_most k)) (by rw [hkk]) dX1_rule_15 ?_
    refine sm_i [.int v, .int 0, .int (pf_most k)] [] ⟨hx, hb, hml, hown, hts⟩ (c_X1_within l v 0 (pf_most k)) (va_cwS 3 hts gX1_rule_X1_within rfl rfl rfl (by decide +kernel) ⟨Nat.le_of_ble_eq_true rfl, Nat.le_of_ble_eq_true rfl⟩) rfl hl.1 rfl (Nat.le_of_ble_eq_true rfl) dX1_rule_16 ⟨Nat.zero_le _, Nat.zero_le _⟩ ?_
    refine lv_if_ne (tgt := 25) hx hb dX1_rule_19 (by decide) (fun c_2 => ?_) (fun c_2 => ?_)
    · have c_2 : ¬ (pf_in v 0 (pf_most k)) = 0 := c_2
      have e1 : xs_rule st k v = va_up st 0 (upd (st 0) k.toNatClampNeg v) := if_neg (fun q => q.elim c_1 c_2)
      refine lv_aload_n hx hb dX1_rule_25 rfl (lv_at hl 0 rfl) ?_
      refine va_get (D := D) (ci := 1) (v := .ref h) (C := RX1) (T := TX1) (N := 4) hx hb hts iw_X1_rule_X1 hown hE.1 hP 0 rfl rfl 0 (by decide) (hts (.fieldLink RX1 12 "EchoTaps" "line" "LEchoTaps$Line;") (by decide +kernel)) (fun _ h9 => h9) rfl dX1_rule_26 ?_
      refine va_get (D := D) (ci := 0) (v := .ref (as 0)) (C := RX0) (T := TX0) (N := 11) hx hb hts iw_X1_rule_X0 hown hE.1 hP 1 rfl rfl 0 (by decide) (hts (.fieldLink RX1 31 "EchoTaps$Line" "rules" "[I") (by decide +kernel)) (fun _ h9 => h9) rfl dX1_rule_29 ?_
      refine lv_iload_n hx hb dX1_rule_32 rfl (lv_at hl 1 rfl) ?_
      refine va_iald hx hb hE.1 hP 2 0 rfl rfl hin dX1_rule_33 ?_
      refine lv_istore_n (lv' := [(3, .int ((st 0) k.toNatClampNeg)), (0, .ref ob), (1, .int k), (2, .int v)]) hx hb dX1_rule_34 rfl hl (by decide) rfl (fun ls hl => ?_)
      refine lv_aload_n hx hb dX1_rule_35 rfl (lv_at hl 1 rfl) ?_
      refine va_get (D := D) (ci := 1) (v := .ref h) (C := RX1) (T := TX1) (N := 4) hx hb hts iw_X1_rule_X1 hown hE.1 hP 0 rfl rfl 0 (by decide) (hts (.fieldLink RX1 12 "EchoTaps" "line" "LEchoTaps$Line;") (by decide +kernel)) (fun _ h9 => h9) rfl dX1_rule_36 ?_
      refine va_get (D := D) (ci := 0) (v := .ref (as 0)) (C := RX0) (T := TX0) (N := 11) hx hb hts iw_X1_rule_X0 hown hE.1 hP 1 rfl rfl 0 (by decide) (hts (.fieldLink RX1 31 "EchoTaps$Line" "rules" "[I") (by decide +kernel)) (fun _ h9 => h9) rfl dX1_rule_39 ?_
      refine lv_iload_n hx hb dX1_rule_42 rfl (lv_at hl 2 rfl) ?_
      refine lv_iload_n hx hb dX1_rule_43 rfl (lv_at hl 3 rfl) ?_
      refine va_iast hx hb hE.1 hP hD hS 2 0 rfl rfl hin dX1_rule_44 (fun H locs hP hD hS => ?_)
      have hP : va_P D vwCl ([EO ob h t i kp] ++ (LW cA h as (va_up st 0 (upd (st 0) k.toNatClampNeg v)))) H := hP
      have hD : va_D A ([EO ob h t i kp] ++ (LW cA h as (va_up st 0 (upd (st 0) k.toNatClampNeg v)))) := hD
      refine lv_iload_n hx hb dX1_rule_45 rfl (lv_at hl 0 rfl) ?_
      exact hret _ _ _ _ _ (by rw [e1]; exact hP) ((if_neg (fun q => q.elim c_1 c_2)).symm) hS dX1_rule_46
    · have c_2 : (pf_in v 0 (pf_most k)) = 0 := c_2
      have e1 : xs_rule st k v = st := if_pos (Or.inr c_2)
      refine lv_bipush (v := (-2)) hx hb dX1_rule_22 (by decide) ?_
      exact hret _ _ _ _ _ (by rw [e1]; exact hP) ((if_pos (Or.inr c_2)).symm) hS dX1_rule_24
