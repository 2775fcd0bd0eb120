theorem arrV_cg {cI : ClassId} {N : Nat} {f f' : Nat → Value} (h : ∀ j, j < N → f j = f' j) : arrV cI N f = arrV cI N f' := by
  unfold arrV
  rw [show (fun j : Fin N => f j.val) = (fun j : Fin N => f' j.val) from funext fun j => h j.val j.isLt]
theorem va_at_cg {D : va_G} {cl : List vw_C} {a : Nat} {cA : ClassId} {n : Nat} {f f' : Fn} {H : Heap} (h : ∀ j, j < n → f j = f' j) (hp : va_at D cl (a, .inl (cA, n, .inl f)) H) : va_at D cl (a, .inl (cA, n, .inl f')) H := by
  show H[a]? = some (vp_cell cA (n, .inl f'))
  rw [vp_cell_i, ← arrV_cg (f := fun j => .int (f j)) (fun j hj => by rw [h j hj])]
  exact hp
def Ls (k : Nat) : Nat := match k with
  | 0 => 5
  | 1 => 8
  | 2 => 9
  | 3 => 64
  | 4 => 64
  | 5 => 64
  | 6 => 256
  | 7 => 8
  | _ => 3
/-- two states that a Line can't tell -/
def LE (st st' : St) : Prop := ∀ k, k < 9 → ∀ j, j < Ls k → st k j = st' k j
theorem LW_cg {D : va_G} {cA : ClassId} {h : Nat} {as : Nat → Nat} {st st' : St} {H : Heap} (e : LE st st') (hP : va_P D vwCl (LW cA h as st) H) : va_P D vwCl (LW cA h as st') H := by
  have f0 : ∀ j, j < 3 → st 8 j = st' 8 j := e 8 (by decide)
  intro k q hk
  match k, hk with
  | 0, hk =>
    cases hk
    have h0 := hP 0 _ rfl
    rw [f0 0 (by decide), f0 1 (by decide), f0 2 (by decide)] at h0
    exact h0
  | 1, hk => cases hk; exact va_at_cg (e 0 (by decide)) (hP 1 _ rfl)
  | 2, hk => cases hk; exact va_at_cg (e 1 (by decide)) (hP 2 _ rfl)
  | 3, hk => cases hk; exact va_at_cg (e 2 (by decide)) (hP 3 _ rfl)
  | 4, hk => cases hk; exact va_at_cg (e 3 (by decide)) (hP 4 _ rfl)
  | 5, hk => cases hk; exact va_at_cg (e 4 (by decide)) (hP 5 _ rfl)
  | 6, hk => cases hk; exact va_at_cg (e 5 (by decide)) (hP 6 _ rfl)
  | 7, hk => cases hk; exact va_at_cg (e 6 (by decide)) (hP 7 _ rfl)
  | 8, hk => cases hk; exact va_at_cg (e 7 (by decide)) (hP 8 _ rfl)
  | k + 9, hk => simp at hk
theorem va_P_snd {D : va_G} {cl : List vw_C} {X Y Y' : va_W} {H : Heap} (h : va_P D cl (X ++ Y) H) (f : va_P D cl Y H → va_P D cl Y' H) : va_P D cl (X ++ Y') H := by
  refine va_P.app (fun k q hk => h k q ?_) (f (fun k q hk => h (X.length + k) q ?_))
  · rw [List.getElem?_append_left (List.getElem?_eq_some_iff.mp hk).1]; exact hk
  · rw [List.getElem?_append_right (by omega), show X.length + k - X.length = k by omega]; exact hk
def lf_cp (d s : St) (k n : Nat) : St := va_up d k (va_cpy (s k) (d k) 0 0 n)
def lf_cf (d s : St) (k : Nat) : St := va_up d 8 (upd (d 8) k (s 8 k))
theorem lf_cp_LE (d s : St) : LE (lf_cf (lf_cf (lf_cf (lf_cp (lf_cp (lf_cp (lf_cp (lf_cp (lf_cp (lf_cp (lf_cp d s 0 5) s 1 8) s 2 9) s 3 64) s 4 64) s 5 64) s 6 256) s 7 8) s 0) s 1) s 2) s := by
  intro k hk j hj
  match k, hk, hj with
  | 0, _, hj => exact sb_cpy0 hj
  | 1, _, hj => exact sb_cpy0 hj
  | 2, _, hj => exact sb_cpy0 hj
  | 3, _, hj => exact sb_cpy0 hj
  | 4, _, hj => exact sb_cpy0 hj
  | 5, _, hj => exact sb_cpy0 hj
  | 6, _, hj => exact sb_cpy0 hj
  | 7, _, hj => exact sb_cpy0 hj
  | 8, _, hj =>
    match j, hj with
    | 0, _ => rfl
    | 1, _ => rfl
    | 2, _ => rfl
  | k + 9, hk, _ => omega
abbrev rm_X0_copyFrom : Room := { frames := 1, cells := 0, slots := 0, locals := 64 }
theorem iw_X0_copyFrom_X0 : ∀ w ∈ wsX00, w ∈ wsX0_copyFrom := by decide +kernel
set_option maxRecDepth 100000 in
set_option maxHeartbeats 4000000 in
theorem c_X0_copyFrom (l : Launch) (D : va_G) (cA cZ cR : ClassId) (h1 : Nat) (as1 : Nat → Nat) (st1 : St) (h2 : Nat) (as2 : Nat → Nat) (st2 : St) : BMv l D cA cZ cR yX0_copyFrom wsX0_copyFrom rm_X0_copyFrom [.ref h1, .ref h2] ((LW cA h2 as2 st2) ++ (LW cA h1 as1 st1)) ((LW cA h2 as2 st2) ++ (LW cA h1 as1 st2)) := by
  refine bm_openV (maxL := 2) (by decide) rfl rfl rfl (Nat.le_of_ble_eq_true rfl) ?_
  intro p e s m args below meth c A Q hx hb hml hts hown hE hP hD hA hS hret ls hl
  have hown : s.vm.findClass RX0 = some m.cls := hown
  have hl : lv_has ls 2 [(0, .ref h1), (1, .ref h2)] := hl
  obtain ⟨H, locs, eH, eL⟩ : ∃ (H : Heap) (locs : List Loc), H = s.heap ∧ locs = [] := ⟨_, _, rfl, rfl⟩
  rw [← eH, ← eL]
  rw [← eH] at hP
  have hS : va_S A s.heap H locs := by rw [eH, eL]; exact hS
  clear eH eL
  refine lv_aload_n hx hb dX0_copyFrom_0 rfl (lv_at hl 1 rfl) ?_
  refine va_get (D := D) (ci := 0) (v := .ref (as2 0)) (C := RX0) (T := TX0) (N := 11) hx hb hts iw_X0_copyFrom_X0 hown hE.1 hP 0 rfl rfl 0 (by decide) (hts (.fieldLink RX0 18 "EchoTaps$Line" "rules" "[I") (by decide +kernel)) (fun _ h9 => h9) rfl dX0_copyFrom_1 ?_
  refine lv_iconst (v := 0) hx hb dX0_copyFrom_4 (by decide) ?_
  refine lv_aload_n hx hb dX0_copyFrom_5 rfl (lv_at hl 0 rfl) ?_
  refine va_get (D := D) (ci := 0) (v := .ref (as1 0)) (C := RX0) (T := TX0) (N := 11) hx hb hts iw_X0_copyFrom_X0 hown hE.1 hP 9 rfl rfl 0 (by decide) (hts (.fieldLink RX0 18 "EchoTaps$Line" "rules" "[I") (by decide +kernel)) (fun _ h9 => h9) rfl dX0_copyFrom_6 ?_
  refine lv_iconst (v := 0) hx hb dX0_copyFrom_9 (by decide) ?_
  refine lv_aload_n hx hb dX0_copyFrom_10 rfl (lv_at hl 0 rfl) ?_
  refine va_get (D := D) (ci := 0) (v := .ref (as1 0)) (C := RX0) (T := TX0) (N := 11) hx hb hts iw_X0_copyFrom_X0 hown hE.1 hP 9 rfl rfl 0 (by decide) (hts (.fieldLink RX0 18 "EchoTaps$Line" "rules" "[I") (by decide +kernel)) (fun _ h9 => h9) rfl dX0_copyFrom_11 ?_
  refine va_alen hx hb hE.1 hP 10 0 rfl rfl (v := 5) rfl dX0_copyFrom_14 ?_
  refine va_copyi hx hb (hml.trans hl.1.symm) hown (hts (.methodLink RX0 44 arraycopyName) (by decide +kernel)) (hts (.native arraycopyName) (by decide +kernel)) (hts (.static arraycopyName) (by decide +kernel)) (hts (.initialized "java/lang/System") (by decide +kernel)) hE.1 hP hD hS 1 10 0 0 rfl rfl rfl rfl rfl (by decide) (by decide) (by decide) (by decide) (by decide) (fun _ _ => rfl) (Nat.le_of_ble_eq_true rfl) (Nat.le_of_ble_eq_true rfl) dX0_copyFrom_15 (fun H locs hP hD hS => ?_)
  have hP : va_P D vwCl ((LW cA h2 as2 st2) ++ (LW cA h1 as1 (lf_cp st1 st2 0 5))) H := hP
  have hD : va_D A ((LW cA h2 as2 st2) ++ (LW cA h1 as1 (lf_cp st1 st2 0 5))) := hD
  obtain ⟨d0, ed0⟩ : ∃ z : St, z = lf_cp st1 st2 0 5 := ⟨_, rfl⟩
  rw [← ed0] at hP hD
  refine lv_aload_n hx hb dX0_copyFrom_18 rfl (lv_at hl 1 rfl) ?_
  refine va_get (D := D) (ci := 0) (v := .ref (as2 1)) (C := RX0) (T := TX0) (N := 11) hx hb hts iw_X0_copyFrom_X0 hown hE.1 hP 0 rfl rfl 1 (by decide) (hts (.fieldLink RX0 23 "EchoTaps$Line" "taps" "[I") (by decide +kernel)) (fun _ h9 => h9) rfl dX0_copyFrom_19 ?_
  refine lv_iconst (v := 0) hx hb dX0_copyFrom_22 (by decide) ?_
  refine lv_aload_n hx hb dX0_copyFrom_23 rfl (lv_at hl 0 rfl) ?_
  refine va_get (D := D) (ci := 0) (v := .ref (as1 1)) (C := RX0) (T := TX0) (N := 11) hx hb hts iw_X0_copyFrom_X0 hown hE.1 hP 9 rfl rfl 1 (by decide) (hts (.fieldLink RX0 23 "EchoTaps$Line" "taps" "[I") (by decide +kernel)) (fun _ h9 => h9) rfl dX0_copyFrom_24 ?_
  refine lv_iconst (v := 0) hx hb dX0_copyFrom_27 (by decide) ?_
  refine lv_aload_n hx hb dX0_copyFrom_28 rfl (lv_at hl 0 rfl) ?_
  refine va_get (D := D) (ci := 0) (v := .ref (as1 1)) (C := RX0) (T := TX0) (N := 11) hx hb hts iw_X0_copyFrom_X0 hown hE.1 hP 9 rfl rfl 1 (by decide) (hts (.fieldLink RX0 23 "EchoTaps$Line" "taps" "[I") (by decide +kernel)) (fun _ h9 => h9) rfl dX0_copyFrom_29 ?_
  refine va_alen hx hb hE.1 hP 11 0 rfl rfl (v := 8) rfl dX0_copyFrom_32 ?_
  refine va_copyi hx hb (hml.trans hl.1.symm) hown (hts (.methodLink RX0 44 arraycopyName) (by decide +kernel)) (hts (.native arraycopyName) (by decide +kernel)) (hts (.static arraycopyName) (by decide +kernel)) (hts (.initialized "java/lang/System") (by decide +kernel)) hE.1 hP hD hS 2 11 0 0 rfl rfl rfl rfl rfl (by decide) (by decide) (by decide) (by decide) (by decide) (fun _ _ => rfl) (Nat.le_of_ble_eq_true rfl) (Nat.le_of_ble_eq_true rfl) dX0_copyFrom_33 (fun H locs hP hD hS => ?_)
  have hP : va_P D vwCl ((LW cA h2 as2 st2) ++ (LW cA h1 as1 (lf_cp d0 st2 1 8))) H := hP
  have hD : va_D A ((LW cA h2 as2 st2) ++ (LW cA h1 as1 (lf_cp d0 st2 1 8))) := hD
  obtain ⟨d1, ed1⟩ : ∃ z : St, z = lf_cp d0 st2 1 8 := ⟨_, rfl⟩
  rw [← ed1] at hP hD
  refine lv_aload_n hx hb dX0_copyFrom_36 rfl (lv_at hl 1 rfl) ?_
  refine va_get (D := D) (ci := 0) (v := .ref (as2 2)) (C := RX0) (T := TX0) (N := 11) hx hb hts iw_X0_copyFrom_X0 hown hE.1 hP 0 rfl rfl 2 (by decide) (hts (.fieldLink RX0 26 "EchoTaps$Line" "way" "[I") (by decide +kernel)) (fun _ h9 => h9) rfl dX0_copyFrom_37 ?_
  refine lv_iconst (v := 0) hx hb dX0_copyFrom_40 (by decide) ?_
  refine lv_aload_n hx hb dX0_copyFrom_41 rfl (lv_at hl 0 rfl) ?_
  refine va_get (D := D) (ci := 0) (v := .ref (as1 2)) (C := RX0) (T := TX0) (N := 11) hx hb hts iw_X0_copyFrom_X0 hown hE.1 hP 9 rfl rfl 2 (by decide) (hts (.fieldLink RX0 26 "EchoTaps$Line" "way" "[I") (by decide +kernel)) (fun _ h9 => h9) rfl dX0_copyFrom_42 ?_
  refine lv_iconst (v := 0) hx hb dX0_copyFrom_45 (by decide) ?_
  refine lv_aload_n hx hb dX0_copyFrom_46 rfl (lv_at hl 0 rfl) ?_
  refine va_get (D := D) (ci := 0) (v := .ref (as1 2)) (C := RX0) (T := TX0) (N := 11) hx hb hts iw_X0_copyFrom_X0 hown hE.1 hP 9 rfl rfl 2 (by decide) (hts (.fieldLink RX0 26 "EchoTaps$Line" "way" "[I") (by decide +kernel)) (fun _ h9 => h9) rfl dX0_copyFrom_47 ?_
  refine va_alen hx hb hE.1 hP 12 0 rfl rfl (v := 9) rfl dX0_copyFrom_50 ?_
  refine va_copyi hx hb (hml.trans hl.1.symm) hown (hts (.methodLink RX0 44 arraycopyName) (by decide +kernel)) (hts (.native arraycopyName) (by decide +kernel)) (hts (.static arraycopyName) (by decide +kernel)) (hts (.initialized "java/lang/System") (by decide +kernel)) hE.1 hP hD hS 3 12 0 0 rfl rfl rfl rfl rfl (by decide) (by decide) (by decide) (by decide) (by decide) (fun _ _ => rfl) (Nat.le_of_ble_eq_true rfl) (Nat.le_of_ble_eq_true rfl) dX0_copyFrom_51 (fun H locs hP hD hS => ?_)
  have hP : va_P D vwCl ((LW cA h2 as2 st2) ++ (LW cA h1 as1 (lf_cp d1 st2 2 9))) H := hP
  have hD : va_D A ((LW cA h2 as2 st2) ++ (LW cA h1 as1 (lf_cp d1 st2 2 9))) := hD
  obtain ⟨d2, ed2⟩ : ∃ z : St, z = lf_cp d1 st2 2 9 := ⟨_, rfl⟩
  rw [← ed2] at hP hD
  refine lv_aload_n hx hb dX0_copyFrom_54 rfl (lv_at hl 1 rfl) ?_
  refine va_get (D := D) (ci := 0) (v := .ref (as2 3)) (C := RX0) (T := TX0) (N := 11) hx hb hts iw_X0_copyFrom_X0 hown hE.1 hP 0 rfl rfl 3 (by decide) (hts (.fieldLink RX0 29 "EchoTaps$Line" "fars" "[I") (by decide +kernel)) (fun _ h9 => h9) rfl dX0_copyFrom_55 ?_
  refine lv_iconst (v := 0) hx hb dX0_copyFrom_58 (by decide) ?_
  refine lv_aload_n hx hb dX0_copyFrom_59 rfl (lv_at hl 0 rfl) ?_
  refine va_get (D := D) (ci := 0) (v := .ref (as1 3)) (C := RX0) (T := TX0) (N := 11) hx hb hts iw_X0_copyFrom_X0 hown hE.1 hP 9 rfl rfl 3 (by decide) (hts (.fieldLink RX0 29 "EchoTaps$Line" "fars" "[I") (by decide +kernel)) (fun _ h9 => h9) rfl dX0_copyFrom_60 ?_
  refine lv_iconst (v := 0) hx hb dX0_copyFrom_63 (by decide) ?_
  refine lv_aload_n hx hb dX0_copyFrom_64 rfl (lv_at hl 0 rfl) ?_
  refine va_get (D := D) (ci := 0) (v := .ref (as1 3)) (C := RX0) (T := TX0) (N := 11) hx hb hts iw_X0_copyFrom_X0 hown hE.1 hP 9 rfl rfl 3 (by decide) (hts (.fieldLink RX0 29 "EchoTaps$Line" "fars" "[I") (by decide +kernel)) (fun _ h9 => h9) rfl dX0_copyFrom_65 ?_
  refine va_alen hx hb hE.1 hP 13 0 rfl rfl (v := 64) rfl dX0_copyFrom_68 ?_
  refine va_copyi hx hb (hml.trans hl.1.symm) hown (hts (.methodLink RX0 44 arraycopyName) (by decide +kernel)) (hts (.native arraycopyName) (by decide +kernel)) (hts (.static arraycopyName) (by decide +kernel)) (hts (.initialized "java/lang/System") (by decide +kernel)) hE.1 hP hD hS 4 13 0 0 rfl rfl rfl rfl rfl (by decide) (by decide) (by decide) (by decide) (by decide) (fun _ _ => rfl) (Nat.le_of_ble_eq_true rfl) (Nat.le_of_ble_eq_true rfl) dX0_copyFrom_69 (fun H locs hP hD hS => ?_)
  have hP : va_P D vwCl ((LW cA h2 as2 st2) ++ (LW cA h1 as1 (lf_cp d2 st2 3 64))) H := hP
  have hD : va_D A ((LW cA h2 as2 st2) ++ (LW cA h1 as1 (lf_cp d2 st2 3 64))) := hD
  obtain ⟨d3, ed3⟩ : ∃ z : St, z = lf_cp d2 st2 3 64 := ⟨_, rfl⟩
  rw [← ed3] at hP hD
  refine lv_aload_n hx hb dX0_copyFrom_72 rfl (lv_at hl 1 rfl) ?_
  refine va_get (D := D) (ci := 0) (v := .ref (as2 4)) (C := RX0) (T := TX0) (N := 11) hx hb hts iw_X0_copyFrom_X0 hown hE.1 hP 0 rfl rfl 4 (by decide) (hts (.fieldLink RX0 32 "EchoTaps$Line" "nears" "[I") (by decide +kernel)) (fun _ h9 => h9) rfl dX0_copyFrom_73 ?_
  refine lv_iconst (v := 0) hx hb dX0_copyFrom_76 (by decide) ?_
  refine lv_aload_n hx hb dX0_copyFrom_77 rfl (lv_at hl 0 rfl) ?_
  refine va_get (D := D) (ci := 0) (v := .ref (as1 4)) (C := RX0) (T := TX0) (N := 11) hx hb hts iw_X0_copyFrom_X0 hown hE.1 hP 9 rfl rfl 4 (by decide) (hts (.fieldLink RX0 32 "EchoTaps$Line" "nears" "[I") (by decide +kernel)) (fun _ h9 => h9) rfl dX0_copyFrom_78 ?_
  refine lv_iconst (v := 0) hx hb dX0_copyFrom_81 (by decide) ?_
  refine lv_aload_n hx hb dX0_copyFrom_82 rfl (lv_at hl 0 rfl) ?_
  refine va_get (D := D) (ci := 0) (v := .ref (as1 4)) (C := RX0) (T := TX0) (N := 11) hx hb hts iw_X0_copyFrom_X0 hown hE.1 hP 9 rfl rfl 4 (by decide) (hts (.fieldLink RX0 32 "EchoTaps$Line" "nears" "[I") (by decide +kernel)) (fun _ h9 => h9) rfl dX0_copyFrom_83 ?_
  refine va_alen hx hb hE.1 hP 14 0 rfl rfl (v := 64) rfl dX0_copyFrom_86 ?_
  refine va_copyi hx hb (hml.trans hl.1.symm) hown (hts (.methodLink RX0 44 arraycopyName) (by decide +kernel)) (hts (.native arraycopyName) (by decide +kernel)) (hts (.static arraycopyName) (by decide +kernel)) (hts (.initialized "java/lang/System") (by decide +kernel)) hE.1 hP hD hS 5 14 0 0 rfl rfl rfl rfl rfl (by decide) (by decide) (by decide) (by decide) (by decide) (fun _ _ => rfl) (Nat.le_of_ble_eq_true rfl) (Nat.le_of_ble_eq_true rfl) dX0_copyFrom_87 (fun H locs hP hD hS => ?_)
  have hP : va_P D vwCl ((LW cA h2 as2 st2) ++ (LW cA h1 as1 (lf_cp d3 st2 4 64))) H := hP
  have hD : va_D A ((LW cA h2 as2 st2) ++ (LW cA h1 as1 (lf_cp d3 st2 4 64))) := hD
  obtain ⟨d4, ed4⟩ : ∃ z : St, z = lf_cp d3 st2 4 64 := ⟨_, rfl⟩
  rw [← ed4] at hP hD
  refine lv_aload_n hx hb dX0_copyFrom_90 rfl (lv_at hl 1 rfl) ?_
  refine va_get (D := D) (ci := 0) (v := .ref (as2 5)) (C := RX0) (T := TX0) (N := 11) hx hb hts iw_X0_copyFrom_X0 hown hE.1 hP 0 rfl rfl 5 (by decide) (hts (.fieldLink RX0 35 "EchoTaps$Line" "outs" "[I") (by decide +kernel)) (fun _ h9 => h9) rfl dX0_copyFrom_91 ?_
  refine lv_iconst (v := 0) hx hb dX0_copyFrom_94 (by decide) ?_
  refine lv_aload_n hx hb dX0_copyFrom_95 rfl (lv_at hl 0 rfl) ?_
  refine va_get (D := D) (ci := 0) (v := .ref (as1 5)) (C := RX0) (T := TX0) (N := 11) hx hb hts iw_X0_copyFrom_X0 hown hE.1 hP 9 rfl rfl 5 (by decide) (hts (.fieldLink RX0 35 "EchoTaps$Line" "outs" "[I") (by decide +kernel)) (fun _ h9 => h9) rfl dX0_copyFrom_96 ?_
  refine lv_iconst (v := 0) hx hb dX0_copyFrom_99 (by decide) ?_
  refine lv_aload_n hx hb dX0_copyFrom_100 rfl (lv_at hl 0 rfl) ?_
  refine va_get (D := D) (ci := 0) (v := .ref (as1 5)) (C := RX0) (T := TX0) (N := 11) hx hb hts iw_X0_copyFrom_X0 hown hE.1 hP 9 rfl rfl 5 (by decide) (hts (.fieldLink RX0 35 "EchoTaps$Line" "outs" "[I") (by decide +kernel)) (fun _ h9 => h9) rfl dX0_copyFrom_101 ?_
  refine va_alen hx hb hE.1 hP 15 0 rfl rfl (v := 64) rfl dX0_copyFrom_104 ?_
  refine va_copyi hx hb (hml.trans hl.1.symm) hown (hts (.methodLink RX0 44 arraycopyName) (by decide +kernel)) (hts (.native arraycopyName) (by decide +kernel)) (hts (.static arraycopyName) (by decide +kernel)) (hts (.initialized "java/lang/System") (by decide +kernel)) hE.1 hP hD hS 6 15 0 0 rfl rfl rfl rfl rfl (by decide) (by decide) (by decide) (by decide) (by decide) (fun _ _ => rfl) (Nat.le_of_ble_eq_true rfl) (Nat.le_of_ble_eq_true rfl) dX0_copyFrom_105 (fun H locs hP hD hS => ?_)
  have hP : va_P D vwCl ((LW cA h2 as2 st2) ++ (LW cA h1 as1 (lf_cp d4 st2 5 64))) H := hP
  have hD : va_D A ((LW cA h2 as2 st2) ++ (LW cA h1 as1 (lf_cp d4 st2 5 64))) := hD
  obtain ⟨d5, ed5⟩ : ∃ z : St, z = lf_cp d4 st2 5 64 := ⟨_, rfl⟩
  rw [← ed5] at hP hD
  refine lv_aload_n hx hb dX0_copyFrom_108 rfl (lv_at hl 1 rfl) ?_
  refine va_get (D := D) (ci := 0) (v := .ref (as2 6)) (C := RX0) (T := TX0) (N := 11) hx hb hts iw_X0_copyFrom_X0 hown hE.1 hP 0 rfl rfl 6 (by decide) (hts (.fieldLink RX0 38 "EchoTaps$Line" "marks" "[I") (by decide +kernel)) (fun _ h9 => h9) rfl dX0_copyFrom_109 ?_
  refine lv_iconst (v := 0) hx hb dX0_copyFrom_112 (by decide) ?_
  refine lv_aload_n hx hb dX0_copyFrom_113 rfl (lv_at hl 0 rfl) ?_
  refine va_get (D := D) (ci := 0) (v := .ref (as1 6)) (C := RX0) (T := TX0) (N := 11) hx hb hts iw_X0_copyFrom_X0 hown hE.1 hP 9 rfl rfl 6 (by decide) (hts (.fieldLink RX0 38 "EchoTaps$Line" "marks" "[I") (by decide +kernel)) (fun _ h9 => h9) rfl dX0_copyFrom_114 ?_
  refine lv_iconst (v := 0) hx hb dX0_copyFrom_117 (by decide) ?_
  refine lv_aload_n hx hb dX0_copyFrom_118 rfl (lv_at hl 0 rfl) ?_
  refine va_get (D := D) (ci := 0) (v := .ref (as1 6)) (C := RX0) (T := TX0) (N := 11) hx hb hts iw_X0_copyFrom_X0 hown hE.1 hP 9 rfl rfl 6 (by decide) (hts (.fieldLink RX0 38 "EchoTaps$Line" "marks" "[I") (by decide +kernel)) (fun _ h9 => h9) rfl dX0_copyFrom_119 ?_
  refine va_alen hx hb hE.1 hP 16 0 rfl rfl (v := 256) rfl dX0_copyFrom_122 ?_
  refine va_copyi hx hb (hml.trans hl.1.symm) hown (hts (.methodLink RX0 44 arraycopyName) (by decide +kernel)) (hts (.native arraycopyName) (by decide +kernel)) (hts (.static arraycopyName) (by decide +kernel)) (hts (.initialized "java/lang/System") (by decide +kernel)) hE.1 hP hD hS 7 16 0 0 rfl rfl rfl rfl rfl (by decide) (by decide) (by decide) (by decide) (by decide) (fun _ _ => rfl) (Nat.le_of_ble_eq_true rfl) (Nat.le_of_ble_eq_true rfl) dX0_copyFrom_123 (fun H locs hP hD hS => ?_)
  have hP : va_P D vwCl ((LW cA h2 as2 st2) ++ (LW cA h1 as1 (lf_cp d5 st2 6 256))) H := hP
  have hD : va_D A ((LW cA h2 as2 st2) ++ (LW cA h1 as1 (lf_cp d5 st2 6 256))) := hD
  obtain ⟨d6, ed6⟩ : ∃ z : St, z = lf_cp d5 st2 6 256 := ⟨_, rfl⟩
  rw [← ed6] at hP hD
  refine lv_aload_n hx hb dX0_copyFrom_126 rfl (lv_at hl 1 rfl) ?_
  refine va_get (D := D) (ci := 0) (v := .ref (as2 7)) (C := RX0) (T := TX0) (N := 11) hx hb hts iw_X0_copyFrom_X0 hown hE.1 hP 0 rfl rfl 7 (by decide) (hts (.fieldLink RX0 41 "EchoTaps$Line" "told" "[I") (by decide +kernel)) (fun _ h9 => h9) rfl dX0_copyFrom_127 ?_
  refine lv_iconst (v := 0) hx hb dX0_copyFrom_130 (by decide) ?_
  refine lv_aload_n hx hb dX0_copyFrom_131 rfl (lv_at hl 0 rfl) ?_
  refine va_get (D := D) (ci := 0) (v := .ref (as1 7)) (C := RX0) (T := TX0) (N := 11) hx hb hts iw_X0_copyFrom_X0 hown hE.1 hP 9 rfl rfl 7 (by decide) (hts (.fieldLink RX0 41 "EchoTaps$Line" "told" "[I") (by decide +kernel)) (fun _ h9 => h9) rfl dX0_copyFrom_132 ?_
  refine lv_iconst (v := 0) hx hb dX0_copyFrom_135 (by decide) ?_
  refine lv_aload_n hx hb dX0_copyFrom_136 rfl (lv_at hl 0 rfl) ?_
  refine va_get (D := D) (ci := 0) (v := .ref (as1 7)) (C := RX0) (T := TX0) (N := 11) hx hb hts iw_X0_copyFrom_X0 hown hE.1 hP 9 rfl rfl 7 (by decide) (hts (.fieldLink RX0 41 "EchoTaps$Line" "told" "[I") (by decide +kernel)) (fun _ h9 => h9) rfl dX0_copyFrom_137 ?_
  refine va_alen hx hb hE.1 hP 17 0 rfl rfl (v := 8) rfl dX0_copyFrom_140 ?_
  refine va_copyi hx hb (hml.trans hl.1.symm) hown (hts (.methodLink RX0 44 arraycopyName) (by decide +kernel)) (hts (.native arraycopyName) (by decide +kernel)) (hts (.static arraycopyName) (by decide +kernel)) (hts (.initialized "java/lang/System") (by decide +kernel)) hE.1 hP hD hS 8 17 0 0 rfl rfl rfl rfl rfl (by decide) (by decide) (by decide) (by decide) (by decide) (fun _ _ => rfl) (Nat.le_of_ble_eq_true rfl) (Nat.le_of_ble_eq_true rfl) dX0_copyFrom_141 (fun H locs hP hD hS => ?_)
  have hP : va_P D vwCl ((LW cA h2 as2 st2) ++ (LW cA h1 as1 (lf_cp d6 st2 7 8))) H := hP
  have hD : va_D A ((LW cA h2 as2 st2) ++ (LW cA h1 as1 (lf_cp d6 st2 7 8))) := hD
  obtain ⟨d7, ed7⟩ : ∃ z : St, z = lf_cp d6 st2 7 8 := ⟨_, rfl⟩
  rw [← ed7] at hP hD
  refine lv_aload_n hx hb dX0_copyFrom_144 rfl (lv_at hl 0 rfl) ?_
  refine lv_aload_n hx hb dX0_copyFrom_145 rfl (lv_at hl 1 rfl) ?_
  refine va_get (D := D) (ci := 0) (v := .int (st2 8 0)) (C := RX0) (T := TX0) (N := 11) hx hb hts iw_X0_copyFrom_X0 hown hE.1 hP 0 rfl rfl 8 (by decide) (hts (.fieldLink RX0 50 "EchoTaps$Line" "ticks" "I") (by decide +kernel)) (fun _ h9 => h9) rfl dX0_copyFrom_146 ?_
  refine va_put (D := D) (ci := 0) (v := .int (st2 8 0)) (ty := .int) (C := RX0) (T := TX0) (N := 11) hx hb hts iw_X0_copyFrom_X0 tyX0 tyX0_ok nmX0 hown hE.1 hP hD hS 9 rfl rfl 8 (by decide) (hts (.fieldLink RX0 50 "EchoTaps$Line" "ticks" "I") (by decide +kernel)) (fun _ h9 => h9) rfl (by decide +kernel) rfl rfl (Nat.le_of_ble_eq_true rfl) dX0_copyFrom_149 (fun H locs hP hD hS => ?_)
  have hP : va_P D vwCl ((LW cA h2 as2 st2) ++ (LW cA h1 as1 (va_up d7 8 (upd (d7 8) 0 (st2 8 0))))) H := hP
  have hD : va_D A ((LW cA h2 as2 st2) ++ (LW cA h1 as1 (va_up d7 8 (upd (d7 8) 0 (st2 8 0))))) := hD
  have hP : va_P D vwCl ((LW cA h2 as2 st2) ++ (LW cA h1 as1 (lf_cf d7 st2 0))) H := hP
  have hD : va_D A ((LW cA h2 as2 st2) ++ (LW cA h1 as1 (lf_cf d7 st2 0))) := hD
  obtain ⟨f0, ef0⟩ : ∃ z : St, z = lf_cf d7 st2 0 := ⟨_, rfl⟩
  rw [← ef0] at hP hD
  refine lv_aload_n hx hb dX0_copyFrom_152 rfl (lv_at hl 0 rfl) ?_
  refine lv_aload_n hx hb dX0_copyFrom_153 rfl (lv_at hl 1 rfl) ?_
  refine va_get (D := D) (ci := 0) (v := .int (st2 8 1)) (C := RX0) (T := TX0) (N := 11) hx hb hts iw_X0_copyFrom_X0 hown hE.1 hP 0 rfl rfl 9 (by decide) (hts (.fieldLink RX0 54 "EchoTaps$Line" "hold" "I") (by decide +kernel)) (fun _ h9 => h9) rfl dX0_copyFrom_154 ?_
  refine va_put (D := D) (ci := 0) (v := .int (st2 8 1)) (ty := .int) (C := RX0) (T := TX0) (N := 11) hx hb hts iw_X0_copyFrom_X0 tyX0 tyX0_ok nmX0 hown hE.1 hP hD hS 9 rfl rfl 9 (by decide) (hts (.fieldLink RX0 54 "EchoTaps$Line" "hold" "I") (by decide +kernel)) (fun _ h9 => h9) rfl (by decide +kernel) rfl rfl (Nat.le_of_ble_eq_true rfl) dX0_copyFrom_157 (fun H locs hP hD hS => ?_)
  have hP : va_P D vwCl ((LW cA h2 as2 st2) ++ (LW cA h1 as1 (va_up f0 8 (upd (f0 8) 1 (st2 8 1))))) H := hP
  have hD : va_D A ((LW cA h2 as2 st2) ++ (LW cA h1 as1 (va_up f0 8 (upd (f0 8) 1 (st2 8 1))))) := hD
  have hP : va_P D vwCl ((LW cA h2 as2 st2) ++ (LW cA h1 as1 (lf_cf f0 st2 1))) H := hP
  have hD : va_D A ((LW cA h2 as2 st2) ++ (LW cA h1 as1 (lf_cf f0 st2 1))) := hD
  obtain ⟨f1, ef1⟩ : ∃ z : St, z = lf_cf f0 st2 1 := ⟨_, rfl⟩
  rw [← ef1] at hP hD
  refine lv_aload_n hx hb dX0_copyFrom_160 rfl (lv_at hl 0 rfl) ?_
  refine lv_aload_n hx hb dX0_copyFrom_161 rfl (lv_at hl 1 rfl) ?_
  refine va_get (D := D) (ci := 0) (v := .int (st2 8 2)) (C := RX0) (T := TX0) (N := 11) hx hb hts iw_X0_copyFrom_X0 hown hE.1 hP 0 rfl rfl 10 (by decide) (hts (.fieldLink RX0 57 "EchoTaps$Line" "seed" "I") (by decide +kernel)) (fun _ h9 => h9) rfl dX0_copyFrom_162 ?_
  refine va_put (D := D) (ci := 0) (v := .int (st2 8 2)) (ty := .int) (C := RX0) (T := TX0) (N := 11) hx hb hts iw_X0_copyFrom_X0 tyX0 tyX0_ok nmX0 hown hE.1 hP hD hS 9 rfl rfl 10 (by decide) (hts (.fieldLink RX0 57 "EchoTaps$Line" "seed" "I") (by decide +kernel)) (fun _ h9 => h9) rfl (by decide +kernel) rfl rfl (Nat.le_of_ble_eq_true rfl) dX0_copyFrom_165 (fun H locs hP hD hS => ?_)
  have hP : va_P D vwCl ((LW cA h2 as2 st2) ++ (LW cA h1 as1 (va_up f1 8 (upd (f1 8) 2 (st2 8 2))))) H := hP
  have hD : va_D A ((LW cA h2 as2 st2) ++ (LW cA h1 as1 (va_up f1 8 (upd (f1 8) 2 (st2 8 2))))) := hD
  have hP : va_P D vwCl ((LW cA h2 as2 st2) ++ (LW cA h1 as1 (lf_cf f1 st2 2))) H := hP
  have hD : va_D A ((LW cA h2 as2 st2) ++ (LW cA h1 as1 (lf_cf f1 st2 2))) := hD
  obtain ⟨f2, ef2⟩ : ∃ z : St, z = lf_cf f1 st2 2 := ⟨_, rfl⟩
  rw [← ef2] at hP hD
  have e1 : LE f2 st2 := by subst ef2 ef1 ef0 ed7 ed6 ed5 ed4 ed3 ed2 ed1 ed0; exact lf_cp_LE st1 st2
  exact hret _ _ _ _ (va_P_snd hP (LW_cg e1)) hS dX0_copyFrom_168
