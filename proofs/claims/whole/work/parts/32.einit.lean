abbrev EW (cA cR : ClassId) (ob h : Nat) (as : Nat → Nat) (st : St) (t : Nat) (as2 : Nat → Nat) (st2 : St) (i h0 : Nat) (a0 : Nat → Nat) (s0 : St) (h1 : Nat) (a1 : Nat → Nat) (s1 : St) (kp : Int32) : va_W :=
  [EO ob h t i kp] ++ ((LW cA h as st) ++ ((LW cA t as2 st2) ++ ([AO cR i h0 h1] ++ ((LW cA h0 a0 s0) ++ (LW cA h1 a1 s1)))))
abbrev X0v : List Value := [.null, .null, .null, .int 0]
abbrev rm_X1_init : Room := { frames := 2, cells := 37, slots := 1958, locals := 44 }
theorem iw_X1_init_X0 : ∀ w ∈ wsX00, w ∈ wsX1_init := by decide +kernel
theorem iw_X1_init_X1 : ∀ w ∈ wsX10, w ∈ wsX1_init := by decide +kernel
set_option maxRecDepth 100000 in
set_option maxHeartbeats 4000000 in
theorem c_X1_init (l : Launch) (D : va_G) (cA cZ cR : ClassId) (tm ob sz : Nat) : Met l yX1_init wsX1_init rm_X1_init (va_Pc [.ref ob] (PI D cA cZ cR tm [(ob, .inr (1, X0v))] sz)) (va_Qv (fun _ : Unit => True) (fun _ u => ∃ (h : Nat) (as : Nat → Nat) (t : Nat) (as2 : Nat → Nat) (i h0 : Nat) (a0 : Nat → Nat) (h1 : Nat) (a1 : Nat → Nat), va_P D vwCl (EW cA cR ob h as st00 t as2 st00 i h0 a0 st00 h1 a1 st00 0) u.heap ∧ va_D (va_A [(ob, .inr (1, X0v))] sz) (EW cA cR ob h as st00 t as2 st00 i h0 a0 st00 h1 a1 st00 0)) (va_A [(ob, .inr (1, X0v))] sz)) 37 1958 (va_A [(ob, .inr (1, X0v))] sz) := by
  refine Met.ofW (cc := cX1_init) (maxL := 1) (ret := none) (by decide) rfl ?_
  intro p e s m args below meth c s₁ B hml hv
  have hx := B.exec
  have hb := B.bytes
  have hr := B.returns
  have hts := atoms_spec (ws := wsX1_init) B.pre
  have hown : s.vm.findClass RX1 = some m.cls := findClass_of_methodNamed B.named
  have hlocks := B.notSynchronized
  have hin : meth.name = "<init>" := (name_of_methodNamed B.named B.method).1
  obtain ⟨rfl, hsz, hP, hC, hD0, hR⟩ := hv
  subst hsz
  have hD := hD0.self (sz := s.heap.size)
  generalize hAe : va_A [(ob, .inr (1, X0v))] s.heap.size = A at hD hR ⊢
  have hA : ∀ q : Nat, s.heap.size ≤ q → A q := fun q h => by rw [← hAe]; exact Or.inr h
  have hS : va_S A s.heap s.heap [] := va_S.rf
  have hE := hC.1
  have hl := lv_entry ([.ref ob]) (n := 1) (Nat.le_of_ble_eq_true rfl)
  rw [lg_entry_eq]
  generalize (lg_sl ([.ref ob]) ++ List.replicate (1 - (lg_sl ([.ref ob])).length) Slot.unset).toArray = ls at hl ⊢
  have hl : lv_has ls 1 [(0, .ref ob)] := hl
  have hP : va_P D vwCl [(ob, .inr (1, [.null, .null, .null, .int 0]))] s.heap := hP
  have hD : va_D A [(ob, .inr (1, [.null, .null, .null, .int 0]))] := hD
  refine lv_aload_n hx hb dX1_init_0 rfl (lv_at hl 0 rfl) ?_
  refine W.objInit hx hb hown (hts (.methodLink RX1 3 objectInit) (by decide +kernel)) (hts (.instanceMethod objectInit) (by decide +kernel)) (hts _ (by decide +kernel)) rfl (by rw [hml]; exact hl.1) rfl dX1_init_1 (Nat.le_of_ble_eq_true rfl) (Nat.le_of_ble_eq_true rfl) ?_
  refine W.eq (g2 := F0 m 4 ls []) rfl ?_
  refine lv_aload_n hx hb dX1_init_4 rfl (lv_at hl 0 rfl) ?_
  refine va_new (ci := 0) (fs := L0) (C := RX0) (T := TX0) (N := 11) hx hb hts iw_X1_init_X0 tyX0 tyX0_ok hown (hts (.classLink RX1 9 RX0) (by decide +kernel)) (hts (.instantiable RX0 11) (by decide +kernel)) (hts (.initialized RX0) (by decide +kernel)) hE.1 hP hD hS hA rfl (fun j hj => by rcases (show j = 0 ∨ j = 1 ∨ j = 2 ∨ j = 3 ∨ j = 4 ∨ j = 5 ∨ j = 6 ∨ j = 7 ∨ j = 8 ∨ j = 9 ∨ j = 10 by omega) with rfl | rfl | rfl | rfl | rfl | rfl | rfl | rfl | rfl | rfl | rfl <;> rfl) (Nat.le_of_ble_eq_true rfl) (Nat.le_of_ble_eq_true rfl) dX1_init_5 (fun q1 H hP hD hS => ?_)
  have hP : va_P D vwCl ([(ob, .inr (1, [.null, .null, .null, .int 0]))] ++ [(q1, .inr (0, L0))]) H := hP
  have hD : va_D A ([(ob, .inr (1, [.null, .null, .null, .int 0]))] ++ [(q1, .inr (0, L0))]) := hD
  refine W.widen (k := 1) (n := 11) (Nat.le_of_ble_eq_true rfl) (Nat.le_of_ble_eq_true rfl) ?_
  refine lv_dup hx hb dX1_init_8 rfl ?_
  have hPc : va_P D vwCl [(q1, .inr (0, L0))] H := hP.sub [1] rfl
  have hDc : va_D A [(q1, .inr (0, L0))] := hD.sub [1] (by decide) rfl
  have hFc := va_free (wc := [(q1, .inr (0, L0))]) hD hS hA [1] rfl
  have hRc := (hR.kept hS.2.1).narrow hFc
  refine va_callv (va_runI (As := []) (rest := [.ref q1, .ref ob]) ⟨hx, hb, hml, hown, hts⟩ (c_X0_init l D cA cZ cR tm q1 H.size) (cwI 0 hts gX1_init_X0_init rfl rfl rfl (hts (.initialized RX0) (by decide +kernel)) (hts (.methodLink RX1 11 yX0_init) (by decide +kernel)) (hts (.instanceMethod yX0_init) (by decide +kernel)) rfl (by decide +kernel) ⟨(Nat.le_of_ble_eq_true rfl), (Nat.le_of_ble_eq_true rfl)⟩) ⟨PI.blind, fun U hU hW => ⟨rfl, by rw [hU], by rw [hU]; exact hPc, hC.warm hW, hDc.weaken (fun _ _ _ _ => trivial), by rw [hU]; exact hRc.moved hW.alike⟩⟩ rfl rfl hl.1 rfl (lv_room (Nat.le_of_ble_eq_true rfl)) dX1_init_9 ⟨(Nat.le_of_ble_eq_true rfl), (Nat.le_of_ble_eq_true rfl)⟩) hS (fun q _ h => hFc q h) hFc (fun b1 t H1 locs ht hvm hw hB hz1 hk1 hS => ?_)
  obtain ⟨hP1, hD1⟩ := hB
  rw [ht] at hP1
  obtain ⟨hP, hD⟩ := va_join (wr := [(ob, .inr (1, [.null, .null, .null, .int 0]))]) (w1 := LW cA q1 b1 st00) hP hD [1] [0] rfl rfl (by decide) (by decide) hk1 hFc hP1 hD1
  generalize H1 = H at hP hS ⊢
  have hP : va_P D vwCl ([(ob, .inr (1, [.null, .null, .null, .int 0]))] ++ (LW cA q1 b1 st00)) H := hP
  have hD : va_D A ([(ob, .inr (1, [.null, .null, .null, .int 0]))] ++ (LW cA q1 b1 st00)) := hD
  refine W.widen (k := 9) (n := 489) (Nat.le_of_ble_eq_true rfl) (Nat.le_of_ble_eq_true rfl) ?_
  refine va_putF (D := D) (ci := 1) (v := .ref q1) (ty := .object "EchoTaps$Line") (C := RX1) (T := TX1) (N := 4) hx hb hts iw_X1_init_X1 tyX1 tyX1_ok nmX1 hown hE.1 hP hD hS 0 rfl rfl 0 (by decide) (hts (.fieldLink RX1 12 "EchoTaps" "line" "LEchoTaps$Line;") (by decide +kernel)) (fun _ h9 => h9) rfl hin rfl (by decide +kernel) rfl rfl (Nat.le_of_ble_eq_true rfl) dX1_init_12 (fun H locs hP hD hS => ?_)
  have hP : va_P D vwCl ([(ob, .inr (1, [.ref q1, .null, .null, .int 0]))] ++ (LW cA q1 b1 st00)) H := hP
  have hD : va_D A ([(ob, .inr (1, [.ref q1, .null, .null, .int 0]))] ++ (LW cA q1 b1 st00)) := hD
  refine lv_aload_n hx hb dX1_init_15 rfl (lv_at hl 0 rfl) ?_
  refine va_new (ci := 0) (fs := L0) (C := RX0) (T := TX0) (N := 11) hx hb hts iw_X1_init_X0 tyX0 tyX0_ok hown (hts (.classLink RX1 9 RX0) (by decide +kernel)) (hts (.instantiable RX0 11) (by decide +kernel)) (hts (.initialized RX0) (by decide +kernel)) hE.1 hP hD hS hA rfl (fun j hj => by rcases (show j = 0 ∨ j = 1 ∨ j = 2 ∨ j = 3 ∨ j = 4 ∨ j = 5 ∨ j = 6 ∨ j = 7 ∨ j = 8 ∨ j = 9 ∨ j = 10 by omega) with rfl | rfl | rfl | rfl | rfl | rfl | rfl | rfl | rfl | rfl | rfl <;> rfl) (Nat.le_of_ble_eq_true rfl) (Nat.le_of_ble_eq_true rfl) dX1_init_16 (fun q2 H hP hD hS => ?_)
  have hP : va_P D vwCl ([(ob, .inr (1, [.ref q1, .null, .null, .int 0]))] ++ ((LW cA q1 b1 st00) ++ [(q2, .inr (0, L0))])) H := hP
  have hD : va_D A ([(ob, .inr (1, [.ref q1, .null, .null, .int 0]))] ++ ((LW cA q1 b1 st00) ++ [(q2, .inr (0, L0))])) := hD
  refine W.widen (k := 10) (n := 500) (Nat.le_of_ble_eq_true rfl) (Nat.le_of_ble_eq_true rfl) ?_
  refine lv_dup hx hb dX1_init_19 rfl ?_
  have hPc : va_P D vwCl [(q2, .inr (0, L0))] H := hP.sub [10] rfl
  have hDc : va_D A [(q2, .inr (0, L0))] := hD.sub [10] (by decide) rfl
  have hFc := va_free (wc := [(q2, .inr (0, L0))]) hD hS hA [10] rfl
  have hRc := (hR.kept hS.2.1).narrow hFc
  refine va_callv (va_runI (As := []) (rest := [.ref q2, .ref ob]) ⟨hx, hb, hml, hown, hts⟩ (c_X0_init l D cA cZ cR tm q2 H.size) (cwI 0 hts gX1_init_X0_init rfl rfl rfl (hts (.initialized RX0) (by decide +kernel)) (hts (.methodLink RX1 11 yX0_init) (by decide +kernel)) (hts (.instanceMethod yX0_init) (by decide +kernel)) rfl (by decide +kernel) ⟨(Nat.le_of_ble_eq_true rfl), (Nat.le_of_ble_eq_true rfl)⟩) ⟨PI.blind, fun U hU hW => ⟨rfl, by rw [hU], by rw [hU]; exact hPc, hC.warm hW, hDc.weaken (fun _ _ _ _ => trivial), by rw [hU]; exact hRc.moved hW.alike⟩⟩ rfl rfl hl.1 rfl (lv_room (Nat.le_of_ble_eq_true rfl)) dX1_init_20 ⟨(Nat.le_of_ble_eq_true rfl), (Nat.le_of_ble_eq_true rfl)⟩) hS (fun q _ h => hFc q h) hFc (fun b2 t H1 locs ht hvm hw hB hz1 hk1 hS => ?_)
  obtain ⟨hP1, hD1⟩ := hB
  rw [ht] at hP1
  obtain ⟨hP, hD⟩ := va_join (wr := ([(ob, .inr (1, [.ref q1, .null, .null, .int 0]))] ++ (LW cA q1 b1 st00))) (w1 := LW cA q2 b2 st00) hP hD [10] [0, 1, 2, 3, 4, 5, 6, 7, 8, 9] rfl rfl (by decide) (by decide) hk1 hFc hP1 hD1
  generalize H1 = H at hP hS ⊢
  have hP : va_P D vwCl ([(ob, .inr (1, [.ref q1, .null, .null, .int 0]))] ++ ((LW cA q1 b1 st00) ++ (LW cA q2 b2 st00))) H := hP
  have hD : va_D A ([(ob, .inr (1, [.ref q1, .null, .null, .int 0]))] ++ ((LW cA q1 b1 st00) ++ (LW cA q2 b2 st00))) := hD
  refine W.widen (k := 18) (n := 978) (Nat.le_of_ble_eq_true rfl) (Nat.le_of_ble_eq_true rfl) ?_
  refine va_putF (D := D) (ci := 1) (v := .ref q2) (ty := .object "EchoTaps$Line") (C := RX1) (T := TX1) (N := 4) hx hb hts iw_X1_init_X1 tyX1 tyX1_ok nmX1 hown hE.1 hP hD hS 0 rfl rfl 1 (by decide) (hts (.fieldLink RX1 16 "EchoTaps" "trial" "LEchoTaps$Line;") (by decide +kernel)) (fun _ h9 => h9) rfl hin rfl (by decide +kernel) rfl rfl (Nat.le_of_ble_eq_true rfl) dX1_init_23 (fun H locs hP hD hS => ?_)
  have hP : va_P D vwCl ([(ob, .inr (1, [.ref q1, .ref q2, .null, .int 0]))] ++ ((LW cA q1 b1 st00) ++ (LW cA q2 b2 st00))) H := hP
  have hD : va_D A ([(ob, .inr (1, [.ref q1, .ref q2, .null, .int 0]))] ++ ((LW cA q1 b1 st00) ++ (LW cA q2 b2 st00))) := hD
  refine lv_aload_n hx hb dX1_init_26 rfl (lv_at hl 0 rfl) ?_
  refine lv_iconst (v := 2) hx hb dX1_init_27 (by decide) ?_
  refine va_newq (N' := 2) hx hb hown (hts (.classLink RX1 9 RX0) (by decide +kernel)) hC.2.2.2 hE.1 hP hD hS hA (by decide) rfl (Nat.le_of_ble_eq_true rfl) (Nat.le_of_ble_eq_true rfl) (Nat.le_of_ble_eq_true rfl) dX1_init_28 (fun qi cB H hK2 hP hD hS => ?_)
  obtain rfl : cR = cB := (ck_obj hE.1 hK2 2 3 rfl rfl).symm
  have hP : va_P D vwCl ([(ob, .inr (1, [.ref q1, .ref q2, .null, .int 0]))] ++ ((LW cA q1 b1 st00) ++ ((LW cA q2 b2 st00) ++ [(qi, .inl (cR, 2, .inr (.inr (.inr (.inr (fun _ => none))))))]))) H := hP
  have hD : va_D A ([(ob, .inr (1, [.ref q1, .ref q2, .null, .int 0]))] ++ ((LW cA q1 b1 st00) ++ ((LW cA q2 b2 st00) ++ [(qi, .inl (cR, 2, .inr (.inr (.inr (.inr (fun _ => none))))))]))) := hD
  refine W.widen (k := 19) (n := 980) (Nat.le_of_ble_eq_true rfl) (Nat.le_of_ble_eq_true rfl) ?_
  refine lv_dup hx hb dX1_init_31 rfl ?_
  refine lv_iconst (v := 0) hx hb dX1_init_32 (by decide) ?_
  refine va_new (ci := 0) (fs := L0) (C := RX0) (T := TX0) (N := 11) hx hb hts iw_X1_init_X0 tyX0 tyX0_ok hown (hts (.classLink RX1 9 RX0) (by decide +kernel)) (hts (.instantiable RX0 11) (by decide +kernel)) (hts (.initialized RX0) (by decide +kernel)) hE.1 hP hD hS hA rfl (fun j hj => by rcases (show j = 0 ∨ j = 1 ∨ j = 2 ∨ j = 3 ∨ j = 4 ∨ j = 5 ∨ j = 6 ∨ j = 7 ∨ j = 8 ∨ j = 9 ∨ j = 10 by omega) with rfl | rfl | rfl | rfl | rfl | rfl | rfl | rfl | rfl | rfl | rfl <;> rfl) (Nat.le_of_ble_eq_true rfl) (Nat.le_of_ble_eq_true rfl) dX1_init_33 (fun q3 H hP hD hS => ?_)
  have hP : va_P D vwCl ([(ob, .inr (1, [.ref q1, .ref q2, .null, .int 0]))] ++ ((LW cA q1 b1 st00) ++ ((LW cA q2 b2 st00) ++ ([(qi, .inl (cR, 2, .inr (.inr (.inr (.inr (fun _ => none))))))] ++ [(q3, .inr (0, L0))])))) H := hP
  have hD : va_D A ([(ob, .inr (1, [.ref q1, .ref q2, .null, .int 0]))] ++ ((LW cA q1 b1 st00) ++ ((LW cA q2 b2 st00) ++ ([(qi, .inl (cR, 2, .inr (.inr (.inr (.inr (fun _ => none))))))] ++ [(q3, .inr (0, L0))])))) := hD
  refine W.widen (k := 20) (n := 991) (Nat.le_of_ble_eq_true rfl) (Nat.le_of_ble_eq_true rfl) ?_
  refine lv_dup hx hb dX1_init_36 rfl ?_
  have hPc : va_P D vwCl [(q3, .inr (0, L0))] H := hP.sub [20] rfl
  have hDc : va_D A [(q3, .inr (0, L0))] := hD.sub [20] (by decide) rfl
  have hFc := va_free (wc := [(q3, .inr (0, L0))]) hD hS hA [20] rfl
  have hRc := (hR.kept hS.2.1).narrow hFc
  refine va_callv (va_runI (As := []) (rest := [.ref q3, .int 0, .ref qi, .ref qi, .ref ob]) ⟨hx, hb, hml, hown, hts⟩ (c_X0_init l D cA cZ cR tm q3 H.size) (cwI 0 hts gX1_init_X0_init rfl rfl rfl (hts (.initialized RX0) (by decide +kernel)) (hts (.methodLink RX1 11 yX0_init) (by decide +kernel)) (hts (.instanceMethod yX0_init) (by decide +kernel)) rfl (by decide +kernel) ⟨(Nat.le_of_ble_eq_true rfl), (Nat.le_of_ble_eq_true rfl)⟩) ⟨PI.blind, fun U hU hW => ⟨rfl, by rw [hU], by rw [hU]; exact hPc, hC.warm hW, hDc.weaken (fun _ _ _ _ => trivial), by rw [hU]; exact hRc.moved hW.alike⟩⟩ rfl rfl hl.1 rfl (lv_room (Nat.le_of_ble_eq_true rfl)) dX1_init_37 ⟨(Nat.le_of_ble_eq_true rfl), (Nat.le_of_ble_eq_true rfl)⟩) hS (fun q _ h => hFc q h) hFc (fun b3 t H1 locs ht hvm hw hB hz1 hk1 hS => ?_)
  obtain ⟨hP1, hD1⟩ := hB
  rw [ht] at hP1
  obtain ⟨hP, hD⟩ := va_join (wr := ([(ob, .inr (1, [.ref q1, .ref q2, .null, .int 0]))] ++ ((LW cA q1 b1 st00) ++ ((LW cA q2 b2 st00) ++ [(qi, .inl (cR, 2, .inr (.inr (.inr (.inr (fun _ => none))))))])))) (w1 := LW cA q3 b3 st00) hP hD [20] [0, 1, 2, 3, 4, 5, 6, 7, 8, 9, 10, 11, 12, 13, 14, 15, 16, 17, 18, 19] rfl rfl (by decide) (by decide) hk1 hFc hP1 hD1
  generalize H1 = H at hP hS ⊢
  have hP : va_P D vwCl ([(ob, .inr (1, [.ref q1, .ref q2, .null, .int 0]))] ++ ((LW cA q1 b1 st00) ++ ((LW cA q2 b2 st00) ++ ([(qi, .inl (cR, 2, .inr (.inr (.inr (.inr (fun _ => none))))))] ++ (LW cA q3 b3 st00))))) H := hP
  have hD : va_D A ([(ob, .inr (1, [.ref q1, .ref q2, .null, .int 0]))] ++ ((LW cA q1 b1 st00) ++ ((LW cA q2 b2 st00) ++ ([(qi, .inl (cR, 2, .inr (.inr (.inr (.inr (fun _ => none))))))] ++ (LW cA q3 b3 st00))))) := hD
  refine W.widen (k := 28) (n := 1469) (Nat.le_of_ble_eq_true rfl) (Nat.le_of_ble_eq_true rfl) ?_
  refine va_astq hx hb hE.1 hP hD hS 19 2 20 0 rfl rfl rfl rfl (vp_in_nI (n := 0) (N := 2) (by decide) (by decide)) dX1_init_40 (fun H locs hP hD hS => ?_)
  have hP : va_P D vwCl ([(ob, .inr (1, [.ref q1, .ref q2, .null, .int 0]))] ++ ((LW cA q1 b1 st00) ++ ((LW cA q2 b2 st00) ++ ([(qi, .inl (cR, 2, .inr (.inr (.inr (.inr (va_up (fun _ => none) 0 (some q3)))))))] ++ (LW cA q3 b3 st00))))) H := hP
  have hD : va_D A ([(ob, .inr (1, [.ref q1, .ref q2, .null, .int 0]))] ++ ((LW cA q1 b1 st00) ++ ((LW cA q2 b2 st00) ++ ([(qi, .inl (cR, 2, .inr (.inr (.inr (.inr (va_up (fun _ => none) 0 (some q3)))))))] ++ (LW cA q3 b3 st00))))) := hD
  refine lv_dup hx hb dX1_init_41 rfl ?_
  refine lv_iconst (v := 1) hx hb dX1_init_42 (by decide) ?_
  refine va_new (ci := 0) (fs := L0) (C := RX0) (T := TX0) (N := 11) hx hb hts iw_X1_init_X0 tyX0 tyX0_ok hown (hts (.classLink RX1 9 RX0) (by decide +kernel)) (hts (.instantiable RX0 11) (by decide +kernel)) (hts (.initialized RX0) (by decide +kernel)) hE.1 hP hD hS hA rfl (fun j hj => by rcases (show j = 0 ∨ j = 1 ∨ j = 2 ∨ j = 3 ∨ j = 4 ∨ j = 5 ∨ j = 6 ∨ j = 7 ∨ j = 8 ∨ j = 9 ∨ j = 10 by omega) with rfl | rfl | rfl | rfl | rfl | rfl | rfl | rfl | rfl | rfl | rfl <;> rfl) (Nat.le_of_ble_eq_true rfl) (Nat.le_of_ble_eq_true rfl) dX1_init_43 (fun q4 H hP hD hS => ?_)
  have hP : va_P D vwCl ([(ob, .inr (1, [.ref q1, .ref q2, .null, .int 0]))] ++ ((LW cA q1 b1 st00) ++ ((LW cA q2 b2 st00) ++ ([(qi, .inl (cR, 2, .inr (.inr (.inr (.inr (va_up (fun _ => none) 0 (some q3)))))))] ++ ((LW cA q3 b3 st00) ++ [(q4, .inr (0, L0))]))))) H := hP
  have hD : va_D A ([(ob, .inr (1, [.ref q1, .ref q2, .null, .int 0]))] ++ ((LW cA q1 b1 st00) ++ ((LW cA q2 b2 st00) ++ ([(qi, .inl (cR, 2, .inr (.inr (.inr (.inr (va_up (fun _ => none) 0 (some q3)))))))] ++ ((LW cA q3 b3 st00) ++ [(q4, .inr (0, L0))]))))) := hD
  refine W.widen (k := 29) (n := 1480) (Nat.le_of_ble_eq_true rfl) (Nat.le_of_ble_eq_true rfl) ?_
  refine lv_dup hx hb dX1_init_46 rfl ?_
  have hPc : va_P D vwCl [(q4, .inr (0, L0))] H := hP.sub [29] rfl
  have hDc : va_D A [(q4, .inr (0, L0))] := hD.sub [29] (by decide) rfl
  have hFc := va_free (wc := [(q4, .inr (0, L0))]) hD hS hA [29] rfl
  have hRc := (hR.kept hS.2.1).narrow hFc
  refine va_callv (va_runI (As := []) (rest := [.ref q4, .int 1, .ref qi, .ref qi, .ref ob]) ⟨hx, hb, hml, hown, hts⟩ (c_X0_init l D cA cZ cR tm q4 H.size) (cwI 0 hts gX1_init_X0_init rfl rfl rfl (hts (.initialized RX0) (by decide +kernel)) (hts (.methodLink RX1 11 yX0_init) (by decide +kernel)) (hts (.instanceMethod yX0_init) (by decide +kernel)) rfl (by decide +kernel) ⟨(Nat.le_of_ble_eq_true rfl), (Nat.le_of_ble_eq_true rfl)⟩) ⟨PI.blind, fun U hU hW => ⟨rfl, by rw [hU], by rw [hU]; exact hPc, hC.warm hW, hDc.weaken (fun _ _ _ _ => trivial), by rw [hU]; exact hRc.moved hW.alike⟩⟩ rfl rfl hl.1 rfl (lv_room (Nat.le_of_ble_eq_true rfl)) dX1_init_47 ⟨(Nat.le_of_ble_eq_true rfl), (Nat.le_of_ble_eq_true rfl)⟩) hS (fun q _ h => hFc q h) hFc (fun b4 t H1 locs ht hvm hw hB hz1 hk1 hS => ?_)
  obtain ⟨hP1, hD1⟩ := hB
  rw [ht] at hP1
  obtain ⟨hP, hD⟩ := va_join (wr := ([(ob, .inr (1, [.ref q1, .ref q2, .null, .int 0]))] ++ ((LW cA q1 b1 st00) ++ ((LW cA q2 b2 st00) ++ ([(qi, .inl (cR, 2, .inr (.inr (.inr (.inr (va_up (fun _ => none) 0 (some q3)))))))] ++ (LW cA q3 b3 st00)))))) (w1 := LW cA q4 b4 st00) hP hD [29] [0, 1, 2, 3, 4, 5, 6, 7, 8, 9, 10, 11, 12, 13, 14, 15, 16, 17, 18, 19, 20, 21, 22, 23, 24, 25, 26, 27, 28] rfl rfl (by decide) (by decide) hk1 hFc hP1 hD1
  generalize H1 = H at hP hS ⊢
  have hP : va_P D vwCl ([(ob, .inr (1, [.ref q1, .ref q2, .null, .int 0]))] ++ ((LW cA q1 b1 st00) ++ ((LW cA q2 b2 st00) ++ ([(qi, .inl (cR, 2, .inr (.inr (.inr (.inr (va_up (fun _ => none) 0 (some q3)))))))] ++ ((LW cA q3 b3 st00) ++ (LW cA q4 b4 st00)))))) H := hP
  have hD : va_D A ([(ob, .inr (1, [.ref q1, .ref q2, .null, .int 0]))] ++ ((LW cA q1 b1 st00) ++ ((LW cA q2 b2 st00) ++ ([(qi, .inl (cR, 2, .inr (.inr (.inr (.inr (va_up (fun _ => none) 0 (some q3)))))))] ++ ((LW cA q3 b3 st00) ++ (LW cA q4 b4 st00)))))) := hD
  refine W.widen (k := 37) (n := 1958) (Nat.le_of_ble_eq_true rfl) (Nat.le_of_ble_eq_true rfl) ?_
  refine va_astq hx hb hE.1 hP hD hS 19 2 29 0 rfl rfl rfl rfl (vp_in_nI (n := 1) (N := 2) (by decide) (by decide)) dX1_init_50 (fun H locs hP hD hS => ?_)
  have hP : va_P D vwCl ([(ob, .inr (1, [.ref q1, .ref q2, .null, .int 0]))] ++ ((LW cA q1 b1 st00) ++ ((LW cA q2 b2 st00) ++ ([(qi, .inl (cR, 2, .inr (.inr (.inr (.inr (va_up (va_up (fun _ => none) 0 (some q3)) 1 (some q4)))))))] ++ ((LW cA q3 b3 st00) ++ (LW cA q4 b4 st00)))))) H := hP
  have hD : va_D A ([(ob, .inr (1, [.ref q1, .ref q2, .null, .int 0]))] ++ ((LW cA q1 b1 st00) ++ ((LW cA q2 b2 st00) ++ ([(qi, .inl (cR, 2, .inr (.inr (.inr (.inr (va_up (va_up (fun _ => none) 0 (some q3)) 1 (some q4)))))))] ++ ((LW cA q3 b3 st00) ++ (LW cA q4 b4 st00)))))) := hD
  refine va_putF (D := D) (ci := 1) (v := .ref qi) (ty := .array (.object "EchoTaps$Line")) (C := RX1) (T := TX1) (N := 4) hx hb hts iw_X1_init_X1 tyX1 tyX1_ok nmX1 hown hE.1 hP hD hS 0 rfl rfl 2 (by decide) (hts (.fieldLink RX1 19 "EchoTaps" "images" "[LEchoTaps$Line;") (by decide +kernel)) (fun _ h9 => h9) rfl hin rfl (by decide +kernel) rfl rfl (Nat.le_of_ble_eq_true rfl) dX1_init_51 (fun H locs hP hD hS => ?_)
  have hP : va_P D vwCl ([(ob, .inr (1, [.ref q1, .ref q2, .ref qi, .int 0]))] ++ ((LW cA q1 b1 st00) ++ ((LW cA q2 b2 st00) ++ ([(qi, .inl (cR, 2, .inr (.inr (.inr (.inr (va_up (va_up (fun _ => none) 0 (some q3)) 1 (some q4)))))))] ++ ((LW cA q3 b3 st00) ++ (LW cA q4 b4 st00)))))) H := hP
  have hD : va_D A ([(ob, .inr (1, [.ref q1, .ref q2, .ref qi, .int 0]))] ++ ((LW cA q1 b1 st00) ++ ((LW cA q2 b2 st00) ++ ([(qi, .inl (cR, 2, .inr (.inr (.inr (.inr (va_up (va_up (fun _ => none) 0 (some q3)) 1 (some q4)))))))] ++ ((LW cA q3 b3 st00) ++ (LW cA q4 b4 st00)))))) := hD
  have hP9 : va_P D vwCl (EW cA cR ob q1 b1 st00 q2 b2 st00 qi q3 b3 st00 q4 b4 st00 0) H := hP
  have hD9 : va_D A (EW cA cR ob q1 b1 st00 q2 b2 st00 qi q3 b3 st00 q4 b4 st00 0) := hD
  refine W.widen (k := 37) (n := 1958) (Nat.le_of_ble_eq_true rfl) (Nat.le_of_ble_eq_true rfl) ?_
  exact W.vret hx hb hr (fun t ht hW => ⟨⟨(), rfl, trivial, q1, b1, q2, b2, qi, q3, b3, q4, b4, by rw [ht]; exact hP9, hD9⟩, hS.F ht⟩) hS.2.2 dX1_init_54
