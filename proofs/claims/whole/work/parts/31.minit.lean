def g00 : Fn := upd (upd (fun _ => 0) 0 512) 1 5
abbrev M0 : List Value := [.null, .null, .null]
abbrev rm_X2_init : Room := { frames := 1, cells := 3, slots := 2222, locals := 24 }
theorem iw_X2_init_X2 : ∀ w ∈ wsX20, w ∈ wsX2_init := by decide +kernel
set_option maxRecDepth 100000 in
set_option maxHeartbeats 4000000 in
theorem c_X2_init (l : Launch) (D : va_G) (cA cZ cR : ClassId) (h sz : Nat) : Met l yX2_init wsX2_init rm_X2_init (va_Pc [.ref h] (PB D cA cZ cR [(h, .inr (2, M0))] sz)) (va_Qv (fun _ : Nat → Nat => True) (fun as t => va_P D vwCl (MW cA cZ h as g00 (fun _ => 0) (fun _ => 0)) t.heap ∧ va_D (va_A [(h, .inr (2, M0))] sz) (MW cA cZ h as g00 (fun _ => 0) (fun _ => 0))) (va_A [(h, .inr (2, M0))] sz)) 3 2222 (va_A [(h, .inr (2, M0))] sz) := by
  refine Met.ofW (cc := cX2_init) (maxL := 1) (ret := none) (by decide) rfl ?_
  intro p e s m args below meth c s₁ B hml hv
  have hx := B.exec
  have hb := B.bytes
  have hr := B.returns
  have hts := atoms_spec (ws := wsX2_init) B.pre
  have hown : s.vm.findClass RX2 = some m.cls := findClass_of_methodNamed B.named
  have hlocks := B.notSynchronized
  have hin : meth.name = "<init>" := (name_of_methodNamed B.named B.method).1
  obtain ⟨rfl, hsz, hP, hE, hD0⟩ := hv
  subst hsz
  have hD := hD0.self (sz := s.heap.size)
  generalize hAe : va_A [(h, .inr (2, M0))] s.heap.size = A at hD ⊢
  have hA : ∀ q : Nat, s.heap.size ≤ q → A q := fun q h => by rw [← hAe]; exact Or.inr h
  have hS : va_S A s.heap s.heap [] := va_S.rf
  have hl := lv_entry ([.ref h]) (n := 1) (Nat.le_of_ble_eq_true rfl)
  rw [lg_entry_eq]
  generalize (lg_sl ([.ref h]) ++ List.replicate (1 - (lg_sl ([.ref h])).length) Slot.unset).toArray = ls at hl ⊢
  have hl : lv_has ls 1 [(0, .ref h)] := hl
  have hP : va_P D vwCl [(h, .inr (2, [.null, .null, .null]))] s.heap := hP
  have hD : va_D A [(h, .inr (2, [.null, .null, .null]))] := hD
  refine lv_aload_n hx hb dX2_init_0 rfl (lv_at hl 0 rfl) ?_
  refine W.objInit hx hb hown (hts (.methodLink RX2 1 objectInit) (by decide +kernel)) (hts (.instanceMethod objectInit) (by decide +kernel)) (hts _ (List.mem_cons_of_mem _ (List.mem_append_left _ (List.mem_of_getElem? (i := 2) rfl)))) rfl (by rw [hml]; exact hl.1) rfl dX2_init_1 (Nat.le_of_ble_eq_true rfl) (Nat.le_of_ble_eq_true rfl) ?_
  refine W.eq (g2 := F0 m 4 ls []) rfl ?_
  refine lv_aload_n hx hb dX2_init_4 rfl (lv_at hl 0 rfl) ?_
  refine lv_sipush (v := 555) hx hb dX2_init_5 (by decide) ?_
  refine va_newa (atype := .int) (ty := .int) (a0 := (555, .inl (fun _ => 0))) hx hb (hts (.arrayClass .int) (by decide +kernel)) rfl hE.1 hP hD hS hA (fun _ => rfl) (by decide) (N' := 555) rfl (Nat.le_of_ble_eq_true rfl) (Nat.le_of_ble_eq_true rfl) (Nat.le_of_ble_eq_true rfl) dX2_init_8 (fun q0 cB H hK2 hP hD hS => ?_)
  obtain rfl : cA = cB := (ck_int hE.1 hK2 0 3 rfl rfl).symm
  have hP : va_P D vwCl [(h, .inr (2, [.null, .null, .null])), (q0, .inl (cA, 555, .inl (fun _ => 0)))] H := hP
  have hD : va_D A [(h, .inr (2, [.null, .null, .null])), (q0, .inl (cA, 555, .inl (fun _ => 0)))] := hD
  refine va_putF (D := D) (ci := 2) (v := .ref q0) (ty := .array .int) (C := RX2) (T := TX2) (N := 3) hx hb hts iw_X2_init_X2 tyX2 tyX2_ok nmX2 hown hE.1 hP hD hS 0 rfl rfl 0 (by decide) (hts (.fieldLink RX2 7 "EchoTapsModel" "state" "[I") (by decide +kernel)) (fun _ h9 => h9) rfl hin rfl (by decide +kernel) rfl rfl (Nat.le_of_ble_eq_true rfl) dX2_init_10 (fun H locs hP hD hS => ?_)
  have hP : va_P D vwCl [(h, .inr (2, [.ref q0, .null, .null])), (q0, .inl (cA, 555, .inl (fun _ => 0)))] H := hP
  have hD : va_D A [(h, .inr (2, [.ref q0, .null, .null])), (q0, .inl (cA, 555, .inl (fun _ => 0)))] := hD
  refine lv_aload_n hx hb dX2_init_13 rfl (lv_at hl 0 rfl) ?_
  refine lv_sipush (v := 1665) hx hb dX2_init_14 (by decide) ?_
  refine va_newa (atype := .int) (ty := .int) (a0 := (1665, .inl (fun _ => 0))) hx hb (hts (.arrayClass .int) (by decide +kernel)) rfl hE.1 hP hD hS hA (fun _ => rfl) (by decide) (N' := 1665) rfl (Nat.le_of_ble_eq_true rfl) (Nat.le_of_ble_eq_true rfl) (Nat.le_of_ble_eq_true rfl) dX2_init_17 (fun q1 cB H hK2 hP hD hS => ?_)
  obtain rfl : cA = cB := (ck_int hE.1 hK2 0 3 rfl rfl).symm
  have hP : va_P D vwCl [(h, .inr (2, [.ref q0, .null, .null])), (q0, .inl (cA, 555, .inl (fun _ => 0))), (q1, .inl (cA, 1665, .inl (fun _ => 0)))] H := hP
  have hD : va_D A [(h, .inr (2, [.ref q0, .null, .null])), (q0, .inl (cA, 555, .inl (fun _ => 0))), (q1, .inl (cA, 1665, .inl (fun _ => 0)))] := hD
  refine va_putF (D := D) (ci := 2) (v := .ref q1) (ty := .array .int) (C := RX2) (T := TX2) (N := 3) hx hb hts iw_X2_init_X2 tyX2 tyX2_ok nmX2 hown hE.1 hP hD hS 0 rfl rfl 1 (by decide) (hts (.fieldLink RX2 13 "EchoTapsModel" "images" "[I") (by decide +kernel)) (fun _ h9 => h9) rfl hin rfl (by decide +kernel) rfl rfl (Nat.le_of_ble_eq_true rfl) dX2_init_19 (fun H locs hP hD hS => ?_)
  have hP : va_P D vwCl [(h, .inr (2, [.ref q0, .ref q1, .null])), (q0, .inl (cA, 555, .inl (fun _ => 0))), (q1, .inl (cA, 1665, .inl (fun _ => 0)))] H := hP
  have hD : va_D A [(h, .inr (2, [.ref q0, .ref q1, .null])), (q0, .inl (cA, 555, .inl (fun _ => 0))), (q1, .inl (cA, 1665, .inl (fun _ => 0)))] := hD
  refine lv_aload_n hx hb dX2_init_22 rfl (lv_at hl 0 rfl) ?_
  refine lv_iconst (v := 2) hx hb dX2_init_23 (by decide) ?_
  refine va_newa (atype := .boolean) (ty := .boolean) (a0 := (2, .inl (fun _ => 0))) hx hb (hts (.arrayClass .boolean) (by decide +kernel)) rfl hE.1 hP hD hS hA (fun _ => rfl) (by decide) (N' := 2) rfl (Nat.le_of_ble_eq_true rfl) (Nat.le_of_ble_eq_true rfl) (Nat.le_of_ble_eq_true rfl) dX2_init_24 (fun q2 cB H hK2 hP hD hS => ?_)
  obtain rfl : cZ = cB := (ck_bool hE.1 hK2 1 3 rfl rfl).symm
  have hP : va_P D vwCl [(h, .inr (2, [.ref q0, .ref q1, .null])), (q0, .inl (cA, 555, .inl (fun _ => 0))), (q1, .inl (cA, 1665, .inl (fun _ => 0))), (q2, .inl (cZ, 2, .inl (fun _ => 0)))] H := hP
  have hD : va_D A [(h, .inr (2, [.ref q0, .ref q1, .null])), (q0, .inl (cA, 555, .inl (fun _ => 0))), (q1, .inl (cA, 1665, .inl (fun _ => 0))), (q2, .inl (cZ, 2, .inl (fun _ => 0)))] := hD
  refine va_putF (D := D) (ci := 2) (v := .ref q2) (ty := .array .boolean) (C := RX2) (T := TX2) (N := 3) hx hb hts iw_X2_init_X2 tyX2 tyX2_ok nmX2 hown hE.1 hP hD hS 0 rfl rfl 2 (by decide) (hts (.fieldLink RX2 16 "EchoTapsModel" "isKept" "[Z") (by decide +kernel)) (fun _ h9 => h9) rfl hin rfl (by decide +kernel) rfl rfl (Nat.le_of_ble_eq_true rfl) dX2_init_26 (fun H locs hP hD hS => ?_)
  have hP : va_P D vwCl [(h, .inr (2, [.ref q0, .ref q1, .ref q2])), (q0, .inl (cA, 555, .inl (fun _ => 0))), (q1, .inl (cA, 1665, .inl (fun _ => 0))), (q2, .inl (cZ, 2, .inl (fun _ => 0)))] H := hP
  have hD : va_D A [(h, .inr (2, [.ref q0, .ref q1, .ref q2])), (q0, .inl (cA, 555, .inl (fun _ => 0))), (q1, .inl (cA, 1665, .inl (fun _ => 0))), (q2, .inl (cZ, 2, .inl (fun _ => 0)))] := hD
  refine lv_aload_n hx hb dX2_init_29 rfl (lv_at hl 0 rfl) ?_
  refine va_get (D := D) (ci := 2) (v := .ref q0) (C := RX2) (T := TX2) (N := 3) hx hb hts iw_X2_init_X2 hown hE.1 hP 0 rfl rfl 0 (by decide) (hts (.fieldLink RX2 7 "EchoTapsModel" "state" "[I") (by decide +kernel)) (fun _ h9 => h9) rfl dX2_init_30 ?_
  refine lv_iconst (v := 0) hx hb dX2_init_33 (by decide) ?_
  refine lv_sipush (v := 512) hx hb dX2_init_34 (by decide) ?_
  refine va_iast hx hb hE.1 hP hD hS 1 0 rfl rfl (vp_in_nI (n := 0) (N := 555) (by decide) (by decide)) dX2_init_37 (fun H locs hP hD hS => ?_)
  have hP : va_P D vwCl [(h, .inr (2, [.ref q0, .ref q1, .ref q2])), (q0, .inl (cA, 555, .inl (upd (fun _ => 0) 0 512))), (q1, .inl (cA, 1665, .inl (fun _ => 0))), (q2, .inl (cZ, 2, .inl (fun _ => 0)))] H := hP
  have hD : va_D A [(h, .inr (2, [.ref q0, .ref q1, .ref q2])), (q0, .inl (cA, 555, .inl (upd (fun _ => 0) 0 512))), (q1, .inl (cA, 1665, .inl (fun _ => 0))), (q2, .inl (cZ, 2, .inl (fun _ => 0)))] := hD
  refine lv_aload_n hx hb dX2_init_38 rfl (lv_at hl 0 rfl) ?_
  refine va_get (D := D) (ci := 2) (v := .ref q0) (C := RX2) (T := TX2) (N := 3) hx hb hts iw_X2_init_X2 hown hE.1 hP 0 rfl rfl 0 (by decide) (hts (.fieldLink RX2 7 "EchoTapsModel" "state" "[I") (by decide +kernel)) (fun _ h9 => h9) rfl dX2_init_39 ?_
  refine lv_iconst (v := 1) hx hb dX2_init_42 (by decide) ?_
  refine lv_iconst (v := 5) hx hb dX2_init_43 (by decide) ?_
  refine va_iast hx hb hE.1 hP hD hS 1 0 rfl rfl (vp_in_nI (n := 1) (N := 555) (by decide) (by decide)) dX2_init_44 (fun H locs hP hD hS => ?_)
  have hP : va_P D vwCl [(h, .inr (2, [.ref q0, .ref q1, .ref q2])), (q0, .inl (cA, 555, .inl (upd (upd (fun _ => 0) 0 512) 1 5))), (q1, .inl (cA, 1665, .inl (fun _ => 0))), (q2, .inl (cZ, 2, .inl (fun _ => 0)))] H := hP
  have hD : va_D A [(h, .inr (2, [.ref q0, .ref q1, .ref q2])), (q0, .inl (cA, 555, .inl (upd (upd (fun _ => 0) 0 512) 1 5))), (q1, .inl (cA, 1665, .inl (fun _ => 0))), (q2, .inl (cZ, 2, .inl (fun _ => 0)))] := hD
  obtain ⟨as, eas⟩ : ∃ z : Nat → Nat, z = (fun k => match k with | 0 => q0 | 1 => q1 | _ => q2) := ⟨_, rfl⟩
  have hP9 : va_P D vwCl (MW cA cZ h as g00 (fun _ => 0) (fun _ => 0)) H := by rw [eas]; exact hP
  have hD9 : va_D A (MW cA cZ h as g00 (fun _ => 0) (fun _ => 0)) := by rw [eas]; exact hD
  refine W.widen (k := 3) (n := 2222) (Nat.le_of_ble_eq_true rfl) (Nat.le_of_ble_eq_true rfl) ?_
  exact W.vret hx hb hr (fun t ht hW => ⟨⟨as, rfl, trivial, by show va_P D vwCl (MW cA cZ h as g00 (fun _ => 0) (fun _ => 0)) t.heap; rw [ht]; exact hP9, hD9⟩, hS.F ht⟩) hS.2.2 dX2_init_45
