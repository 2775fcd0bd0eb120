theorem in_vp {k : Int32} {b : Nat} (hb : b < 2 ^ 30) (h : ¬ pf_in k 0 (nI b) = 0) : vp_in k (b + 1) := by
  have h1 := Decidable.not_not.mp (fun q => h ((pf_inE k 0 (nI b)).mpr q))
  have h2 := Int32.le_iff_toInt_le.mp h1.1
  have h3 := Int32.le_iff_toInt_le.mp h1.2
  rw [nI_toInt (by omega)] at h3
  rw [vp_in_iff]
  have h4 : (0 : Int32).toInt = 0 := rfl
  omega
theorem in_nI {k : Int32} {b : Nat} (hb : b < 2 ^ 30) (h : ¬ pf_in k 0 (nI b) = 0) : ∃ j : Nat, j ≤ b ∧ k = nI j := by
  obtain ⟨j, hj, e⟩ := vp_in_of (in_vp hb h) (by omega)
  exact ⟨j, by omega, e⟩
def xo2 (a b : Int32) : Prop := a = 0 ∨ b = 0
noncomputable def xf_tick (st : St) (far near : Int32) : Int32 := if pf_in far (-1000) 1000 = 0 ∨ pf_in near (-2000) 2000 = 0 then -1000000002 else lf_out (lf_tf st far) near
noncomputable def xs_tick (st : St) (far near : Int32) : St := if pf_in far (-1000) 1000 = 0 ∨ pf_in near (-2000) 2000 = 0 then st else lf_near (lf_tf st far) near
def xf_tap (st : St) (k : Int32) : Int32 := if pf_in k 0 7 = 0 then -1000000002 else st 1 k.toNatClampNeg
def xf_last (st : St) (k : Int32) : Int32 := if pf_in k 0 7 = 0 then -1000000002 else if st 8 0 = 0 then -1000000003 else st 7 k.toNatClampNeg
def xf_ago (st : St) (i k : Int32) : Int32 := if pf_in i 0 31 = 0 ∨ pf_in k 0 2 = 0 then -1000000002 else if i < st 8 0 then (if k = 0 then fa st i else if k = 1 then na st i else oa st i) else -1000000006
def xo_part (k v : Int32) : Int32 := if k = 8 then pf_in v 0 15 else pf_in v (-1024) 1023
def xf_part (st : St) (k v : Int32) : Int32 := if pf_in k 0 8 = 0 ∨ xo_part k v = 0 then -1000000002 else st 2 k.toNatClampNeg
def xs_part (st : St) (k v : Int32) : St := if pf_in k 0 8 = 0 ∨ xo_part k v = 0 then st else va_up st 2 (upd (st 2) k.toNatClampNeg v)
noncomputable def xf_speak (st : St) (far v : Int32) : Int32 := if pf_in far (-1000) 1000 = 0 ∨ pf_in v (-2000) 2000 = 0 then -1000000002 else lf_hr st far v
noncomputable def xs_speak (st : St) (far v : Int32) : St := if pf_in far (-1000) 1000 = 0 ∨ pf_in v (-2000) 2000 = 0 then st else lf_hs st far v
noncomputable def xr_st (loud : Int32) : Nat → Int32 → St → St
  | 0, _, st => st
  | n + 1, z, st => xr_st loud n (pf_nx z) (lf_hs st (pf_ce (pf_nx z) loud) 0)
noncomputable def xr_sum (loud : Int32) : Nat → Int32 → St → Int32 → Int32
  | 0, _, _, a => a
  | n + 1, z, st, a => xr_sum loud n (pf_nx z) (lf_hs st (pf_ce (pf_nx z) loud) 0) (a + pf_ab (lf_hs st (pf_ce (pf_nx z) loud) 0 7 1))
noncomputable def xf_run (st : St) (z n loud : Int32) : Int32 := if pf_sr z loud = 0 ∨ pf_in n 1 60 = 0 then -2 else xr_sum loud n.toNatClampNeg z st 0
noncomputable def xs_run (st : St) (z n loud : Int32) : St := if pf_sr z loud = 0 ∨ pf_in n 1 60 = 0 then st else xr_st loud n.toNatClampNeg z st
def xf_like (st : St) (d : Int32) : Int32 := if pf_in d 0 15 = 0 then -1000000002 else lf_like st d
def sk_m (st : St) : Nat → Int32
  | 0 => 0
  | k + 1 => if pf_ab (lf_like st (nI k)) ≤ sk_m st k then sk_m st k else pf_ab (lf_like st (nI k))
def sk_b (st : St) : Nat → Int32
  | 0 => 0
  | k + 1 => if pf_ab (lf_like st (nI k)) ≤ sk_m st k then sk_b st k else nI k
def xf_seek (st : St) : Int32 := if sk_m st 16 = 0 then -3 else sk_b st 16
def xs_seek (st : St) : St := if sk_m st 16 = 0 then st else lf_anew st (sk_b st 16)
def xf_gain (st : St) (k : Int32) : Int32 := if pf_in k 0 1 = 0 then -2 else if lf_osq st = 0 ∨ pf_gd 64 (lf_nsq st) (lf_osq st) = 0 then -3 else (if k = 0 then lf_nsq st else lf_osq st) / pf_gd 64 (lf_nsq st) (lf_osq st)
def xf_began (st : St) (i k : Int32) : Int32 := if pf_in k 0 1 = 0 then -2 else lf_bg st i (if k = 0 then 1 else 2) 200 0
def xf_count (st : St) (kp k : Int32) : Int32 := if ¬ pf_in k 10 14 = 0 then st 0 (k - 10).toNatClampNeg else if k = 0 then st 8 0 else if k = 1 then st 8 1 else if k = 2 then st 8 2 else if k = 3 then lf_tsz st else if k = 4 then st 2 8 else if k = 5 then kp else -2
theorem in_cnt {k : Int32} (h : ¬ pf_in k 10 14 = 0) : vp_in (k - 10) 5 := by
  have h1 := Decidable.not_not.mp (fun q => h ((pf_inE k 10 14).mpr q))
  have h2 : ¬ k < 0 := by
    intro q
    have := Int32.lt_iff_toInt_lt.mp q
    have := Int32.le_iff_toInt_le.mp h1.1
    have e1 : (10 : Int32).toInt = 10 := rfl
    have e0 : (0 : Int32).toInt = 0 := rfl
    omega
  obtain ⟨j, hj, rfl⟩ := nI_of2 (M := 14) (n := 14) rfl h2 h1.2
  have h3 : 10 ≤ j := (nI_leI (a := 10) (by decide) (by omega)).mp h1.1
  rw [show nI j - 10 = nI (j - 10) from pk_sub h3]
  exact vp_in_nI (by omega) (by decide)
theorem sw5 {k : Int32} (h0 : ¬ k = 0) (h1 : ¬ k = 1) (h2 : ¬ k = 2) (h3 : ¬ k = 3) (h4 : ¬ k = 4) (h5 : ¬ k = 5) : k.toInt < 0 ∨ 5 < k.toInt := by
  have g0 := lv_neT h0 (a := 0) rfl
  have g1 := lv_neT h1 (a := 1) rfl
  have g2 := lv_neT h2 (a := 2) rfl
  have g3 := lv_neT h3 (a := 3) rfl
  have g4 := lv_neT h4 (a := 4) rfl
  have g5 := lv_neT h5 (a := 5) rfl
  omega
theorem in_nI60 {k : Int32} (h : ¬ pf_in k 1 60 = 0) : ∃ j : Nat, j ≤ 60 ∧ k = nI j := by
  have h1 := Decidable.not_not.mp (fun q => h ((pf_inE k 1 60).mpr q))
  have h2 : ¬ k < 0 := by
    intro q
    have := Int32.lt_iff_toInt_lt.mp q
    have := Int32.le_iff_toInt_le.mp h1.1
    have e1 : (1 : Int32).toInt = 1 := rfl
    have e0 : (0 : Int32).toInt = 0 := rfl
    omega
  exact nI_of2 (M := 60) (n := 60) rfl h2 h1.2
abbrev rm_X1_tick : Room := { frames := 4, cells := 0, slots := 0, locals := 98 }
theorem iw_X1_tick_X1 : ∀ w ∈ wsX10, w ∈ wsX1_tick := by decide +kernel
set_option maxRecDepth 100000 in
set_option maxHeartbeats 4000000 in
theorem c_X1_tick (l : Launch) (D : va_G) (cA cZ cR : ClassId) (ob h t i : Nat) (kp : Int32) (as : Nat → Nat) (st : St) (far near : Int32) : BMi l D cA cZ cR yX1_tick wsX1_tick rm_X1_tick [.ref ob, .int far, .int near] ([EO ob h t i kp] ++ (LW cA h as st)) ([EO ob h t i kp] ++ (LW cA h as (xs_tick st far near))) (xf_tick st far near) := by
  refine bm_open (maxL := 3) (by decide) rfl rfl rfl (Nat.le_of_ble_eq_true rfl) ?_
  intro p e s m args below meth c A Q hx hb hml hts hown hE hP hD hA hS hret ls hl
  have hown : s.vm.findClass RX1 = some m.cls := hown
  have hl : lv_has ls 3 [(0, .ref ob), (1, .int far), (2, .int near)] := hl
  obtain ⟨H, locs, eH, eL⟩ : ∃ (H : Heap) (locs : List Loc), H = s.heap ∧ locs = [] := ⟨_, _, rfl, rfl⟩
  rw [← eH, ← eL]
  rw [← eH] at hP
  have hS : va_S A s.heap H locs := by rw [eH, eL]; exact hS
  clear eH eL
  refine lv_iload_n hx hb dX1_tick_0 rfl (lv_at hl 1 rfl) ?_
  refine lv_sipush (v := (-1000)) hx hb dX1_tick_1 (by decide) ?_
  refine lv_sipush (v := 1000) hx hb dX1_tick_4 (by decide) ?_
  refine sm_i [.int far, .int (-1000), .int 1000] [] ⟨hx, hb, hml, hown, hts⟩ (c_X1_within l far (-1000) 1000) (va_cwS 3 hts gX1_tick_X1_within rfl rfl rfl (by decide +kernel) ⟨Nat.le_of_ble_eq_true rfl, Nat.le_of_ble_eq_true rfl⟩) rfl hl.1 rfl (Nat.le_of_ble_eq_true rfl) dX1_tick_7 ⟨Nat.zero_le _, Nat.zero_le _⟩ ?_
  refine lv_if_eq (tgt := 26) hx hb dX1_tick_10 (by decide) (fun c_1 => ?_) (fun c_1 => ?_)
  · have c_1 : (pf_in far (-1000) 1000) = 0 := c_1
    refine lv_ldc (v := (-1000000002)) hx hb hown (hts (.constant RX1 34 (-1000000002)) (by decide +kernel)) dX1_tick_26 ?_
    have e1 : xs_tick st far near = st := if_pos (Or.inl c_1)
    exact hret _ _ _ _ _ (by rw [e1]; exact hP) ((if_pos (Or.inl c_1)).symm) hS dX1_tick_28
  · have c_1 : ¬ (pf_in far (-1000) 1000) = 0 := c_1
    refine lv_iload_n hx hb dX1_tick_13 rfl (lv_at hl 2 rfl) ?_
    refine lv_sipush (v := (-2000)) hx hb dX1_tick_14 (by decide) ?_
    refine lv_sipush (v := 2000) hx hb dX1_tick_17 (by decide) ?_
    refine sm_i [.int near, .int (-2000), .int 2000] [] ⟨hx, hb, hml, hown, hts⟩ (c_X1_within l near (-2000) 2000) (va_cwS 3 hts gX1_tick_X1_within rfl rfl rfl (by decide +kernel) ⟨Nat.le_of_ble_eq_true rfl, Nat.le_of_ble_eq_true rfl⟩) rfl hl.1 rfl (Nat.le_of_ble_eq_true rfl) dX1_tick_20 ⟨Nat.zero_le _, Nat.zero_le _⟩ ?_
    refine lv_if_ne (tgt := 29) hx hb dX1_tick_23 (by decide) (fun c_2 => ?_) (fun c_2 => ?_)
    · have c_2 : ¬ (pf_in near (-2000) 2000) = 0 := c_2
      have e1 : xs_tick st far near = lf_near (lf_tf st far) near := if_neg (fun q => q.elim c_1 c_2)
      have e2 : xf_tick st far near = lf_out (lf_tf st far) near := if_neg (fun q => q.elim c_1 c_2)
      refine lv_aload_n hx hb dX1_tick_29 rfl (lv_at hl 0 rfl) ?_
      refine va_get (D := D) (ci := 1) (v := .ref h) (C := RX1) (T := TX1) (N := 4) hx hb hts iw_X1_tick_X1 hown hE.1 hP 0 rfl rfl 0 (by decide) (hts (.fieldLink RX1 12 "EchoTaps" "line" "LEchoTaps$Line;") (by decide +kernel)) (fun _ h9 => h9) rfl dX1_tick_30 ?_
      refine lv_iload_n hx hb dX1_tick_33 rfl (lv_at hl 1 rfl) ?_
      refine bm_v [EO ob h t i kp] (LW cA h as st) [] [.int far] [] ⟨hx, hb, hml, hown, hts⟩ (c_X0_takeFar l D cA cZ cR h as st far) (cwV 1 hts gX1_tick_X0_takeFar rfl rfl rfl (by decide +kernel) ⟨Nat.le_of_ble_eq_true rfl, Nat.le_of_ble_eq_true rfl⟩) hE hP hD hS hA LW_adr 0 0 rfl rfl rfl hl.1 rfl (Nat.le_of_ble_eq_true rfl) dX1_tick_34 ⟨Nat.zero_le _, Nat.zero_le _⟩ (fun H locs hP hD hS => ?_)
      have hP : va_P D vwCl ([EO ob h t i kp] ++ (LW cA h as (lf_tf st far))) H := hP
      have hD : va_D A ([EO ob h t i kp] ++ (LW cA h as (lf_tf st far))) := hD
      have hP : va_P D vwCl ([EO ob h t i kp] ++ (LW cA h as (lf_tf st far))) H := hP
      have hD : va_D A ([EO ob h t i kp] ++ (LW cA h as (lf_tf st far))) := hD
      obtain ⟨s0, es0⟩ : ∃ z : St, z = lf_tf st far := ⟨_, rfl⟩
      rw [← es0] at hP hD
      refine lv_aload_n hx hb dX1_tick_37 rfl (lv_at hl 0 rfl) ?_
      refine va_get (D := D) (ci := 1) (v := .ref h) (C := RX1) (T := TX1) (N := 4) hx hb hts iw_X1_tick_X1 hown hE.1 hP 0 rfl rfl 0 (by decide) (hts (.fieldLink RX1 12 "EchoTaps" "line" "LEchoTaps$Line;") (by decide +kernel)) (fun _ h9 => h9) rfl dX1_tick_38 ?_
      refine lv_iload_n hx hb dX1_tick_41 rfl (lv_at hl 2 rfl) ?_
      refine bm_i [EO ob h t i kp] (LW cA h as s0) [] [.int near] [] ⟨hx, hb, hml, hown, hts⟩ (c_X0_takeNear l D cA cZ cR h as s0 near) (cwV 1 hts gX1_tick_X0_takeNear rfl rfl rfl (by decide +kernel) ⟨Nat.le_of_ble_eq_true rfl, Nat.le_of_ble_eq_true rfl⟩) hE hP hD hS hA LW_adr 0 0 rfl rfl rfl hl.1 rfl (Nat.le_of_ble_eq_true rfl) dX1_tick_42 ⟨Nat.zero_le _, Nat.zero_le _⟩ (fun H locs hP hD hS => ?_)
      have hP : va_P D vwCl ([EO ob h t i kp] ++ (LW cA h as (lf_near s0 near))) H := hP
      have hD : va_D A ([EO ob h t i kp] ++ (LW cA h as (lf_near s0 near))) := hD
      exact hret _ _ _ _ _ (by rw [e1, ← es0]; exact hP) (by rw [e2, es0]) hS dX1_tick_45
    · have c_2 : (pf_in near (-2000) 2000) = 0 := c_2
      refine lv_ldc (v := (-1000000002)) hx hb hown (hts (.constant RX1 34 (-1000000002)) (by decide +kernel)) dX1_tick_26 ?_
      have e1 : xs_tick st far near = st := if_pos (Or.inr c_2)
      exact hret _ _ _ _ _ (by rw [e1]; exact hP) ((if_pos (Or.inr c_2)).symm) hS dX1_tick_28

abbrev rm_X1_speak : Room := { frames := 5, cells := 0, slots := 0, locals := 120 }
theorem iw_X1_speak_X1 : ∀ w ∈ wsX10, w ∈ wsX1_speak := by decide +kernel
set_option maxRecDepth 100000 in
set_option maxHeartbeats 4000000 in
theorem c_X1_speak (l : Launch) (D : va_G) (cA cZ cR : ClassId) (ob h t i : Nat) (kp : Int32) (as : Nat → Nat) (st : St) (far v : Int32) : BMi l D cA cZ cR yX1_speak wsX1_speak rm_X1_speak [.ref ob, .int far, .int v] ([EO ob h t i kp] ++ (LW cA h as st)) ([EO ob h t i kp] ++ (LW cA h as (xs_speak st far v))) (xf_speak st far v) := by
  refine bm_open (maxL := 3) (by decide) rfl rfl rfl (Nat.le_of_ble_eq_true rfl) ?_
  intro p e s m args below meth c A Q hx hb hml hts hown hE hP hD hA hS hret ls hl
  have hown : s.vm.findClass RX1 = some m.cls := hown
  have hl : lv_has ls 3 [(0, .ref ob), (1, .int far), (2, .int v)] := hl
  obtain ⟨H, locs, eH, eL⟩ : ∃ (H : Heap) (locs : List Loc), H = s.heap ∧ locs = [] := ⟨_, _, rfl, rfl⟩
  rw [← eH, ← eL]
  rw [← eH] at hP
  have hS : va_S A s.heap H locs := by rw [eH, eL]; exact hS
  clear eH eL
  refine lv_iload_n hx hb dX1_speak_0 rfl (lv_at hl 1 rfl) ?_
  refine lv_sipush (v := (-1000)) hx hb dX1_speak_1 (by decide) ?_
  refine lv_sipush (v := 1000) hx hb dX1_speak_4 (by decide) ?_
  refine sm_i [.int far, .int (-1000), .int 1000] [] ⟨hx, hb, hml, hown, hts⟩ (c_X1_within l far (-1000) 1000) (va_cwS 3 hts gX1_speak_X1_within rfl rfl rfl (by decide +kernel) ⟨Nat.le_of_ble_eq_true rfl, Nat.le_of_ble_eq_true rfl⟩) rfl hl.1 rfl (Nat.le_of_ble_eq_true rfl) dX1_speak_7 ⟨Nat.zero_le _, Nat.zero_le _⟩ ?_
  refine lv_if_eq (tgt := 26) hx hb dX1_speak_10 (by decide) (fun c_1 => ?_) (fun c_1 => ?_)
  · have c_1 : (pf_in far (-1000) 1000) = 0 := c_1
    refine lv_ldc (v := (-1000000002)) hx hb hown (hts (.constant RX1 34 (-1000000002)) (by decide +kernel)) dX1_speak_26 ?_
    have e1 : xs_speak st far v = st := if_pos (Or.inl c_1)
    exact hret _ _ _ _ _ (by rw [e1]; exact hP) ((if_pos (Or.inl c_1)).symm) hS dX1_speak_28
  · have c_1 : ¬ (pf_in far (-1000) 1000) = 0 := c_1
    refine lv_iload_n hx hb dX1_speak_13 rfl (lv_at hl 2 rfl) ?_
    refine lv_sipush (v := (-2000)) hx hb dX1_speak_14 (by decide) ?_
    refine lv_sipush (v := 2000) hx hb dX1_speak_17 (by decide) ?_
    refine sm_i [.int v, .int (-2000), .int 2000] [] ⟨hx, hb, hml, hown, hts⟩ (c_X1_within l v (-2000) 2000) (va_cwS 3 hts gX1_speak_X1_within rfl rfl rfl (by decide +kernel) ⟨Nat.le_of_ble_eq_true rfl, Nat.le_of_ble_eq_true rfl⟩) rfl hl.1 rfl (Nat.le_of_ble_eq_true rfl) dX1_speak_20 ⟨Nat.zero_le _, Nat.zero_le _⟩ ?_
    refine lv_if_ne (tgt := 29) hx hb dX1_speak_23 (by decide) (fun c_2 => ?_) (fun c_2 => ?_)
    · have c_2 : ¬ (pf_in v (-2000) 2000) = 0 := c_2
      have e1 : xs_speak st far v = lf_hs st far v := if_neg (fun q => q.elim c_1 c_2)
      have e2 : xf_speak st far v = lf_hr st far v := if_neg (fun q => q.elim c_1 c_2)
      refine lv_aload_n hx hb dX1_speak_29 rfl (lv_at hl 0 rfl) ?_
      refine va_get (D := D) (ci := 1) (v := .ref h) (C := RX1) (T := TX1) (N := 4) hx hb hts iw_X1_speak_X1 hown hE.1 hP 0 rfl rfl 0 (by decide) (hts (.fieldLink RX1 12 "EchoTaps" "line" "LEchoTaps$Line;") (by decide +kernel)) (fun _ h9 => h9) rfl dX1_speak_30 ?_
      refine lv_iload_n hx hb dX1_speak_33 rfl (lv_at hl 1 rfl) ?_
      refine lv_iload_n hx hb dX1_speak_34 rfl (lv_at hl 2 rfl) ?_
      refine bm_i [EO ob h t i kp] (LW cA h as st) [] [.int far, .int v] [] ⟨hx, hb, hml, hown, hts⟩ (c_X0_hearSpeech l D cA cZ cR h as st far v) (cwV 2 hts gX1_speak_X0_hearSpeech rfl rfl rfl (by decide +kernel) ⟨Nat.le_of_ble_eq_true rfl, Nat.le_of_ble_eq_true rfl⟩) hE hP hD hS hA LW_adr 0 0 rfl rfl rfl hl.1 rfl (Nat.le_of_ble_eq_true rfl) dX1_speak_35 ⟨Nat.zero_le _, Nat.zero_le _⟩ (fun H locs hP hD hS => ?_)
      have hP : va_P D vwCl ([EO ob h t i kp] ++ (LW cA h as (lf_hs st far v))) H := hP
      have hD : va_D A ([EO ob h t i kp] ++ (LW cA h as (lf_hs st far v))) := hD
      exact hret _ _ _ _ _ (by rw [e1]; exact hP) e2.symm hS dX1_speak_38
    · have c_2 : (pf_in v (-2000) 2000) = 0 := c_2
      refine lv_ldc (v := (-1000000002)) hx hb hown (hts (.constant RX1 34 (-1000000002)) (by decide +kernel)) dX1_speak_26 ?_
      have e1 : xs_speak st far v = st := if_pos (Or.inr c_2)
      exact hret _ _ _ _ _ (by rw [e1]; exact hP) ((if_pos (Or.inr c_2)).symm) hS dX1_speak_28

abbrev rm_X1_tap : Room := { frames := 1, cells := 0, slots := 0, locals := 22 }
theorem iw_X1_tap_X0 : ∀ w ∈ wsX00, w ∈ wsX1_tap := by decide +kernel
theorem iw_X1_tap_X1 : ∀ w ∈ wsX10, w ∈ wsX1_tap := by decide +kernel
set_option maxRecDepth 100000 in
set_option maxHeartbeats 4000000 in
theorem c_X1_tap (l : Launch) (D : va_G) (cA cZ cR : ClassId) (ob h t i : Nat) (kp : Int32) (as : Nat → Nat) (st : St) (k : Int32) : BMi l D cA cZ cR yX1_tap wsX1_tap rm_X1_tap [.ref ob, .int k] ([EO ob h t i kp] ++ (LW cA h as st)) ([EO ob h t i kp] ++ (LW cA h as st)) (xf_tap st k) := by
  refine bm_open (maxL := 2) (by decide) rfl rfl rfl (Nat.le_of_ble_eq_true rfl) ?_
  intro p e s m args below meth c A Q hx hb hml hts hown hE hP hD hA hS hret ls hl
  have hown : s.vm.findClass RX1 = some m.cls := hown
  have hl : lv_has ls 2 [(0, .ref ob), (1, .int k)] := hl
  obtain ⟨H, locs, eH, eL⟩ : ∃ (H : Heap) (locs : List Loc), H = s.heap ∧ locs = [] := ⟨_, _, rfl, rfl⟩
  rw [← eH, ← eL]
  rw [← eH] at hP
  have hS : va_S A s.heap H locs := by rw [eH, eL]; exact hS
  clear eH eL
  refine lv_iload_n hx hb dX1_tap_0 rfl (lv_at hl 1 rfl) ?_
  refine lv_iconst (v := 0) hx hb dX1_tap_1 (by decide) ?_
  refine lv_bipush (v := 7) hx hb dX1_tap_2 (by decide) ?_
  refine sm_i [.int k, .int 0, .int 7] [] ⟨hx, hb, hml, hown, hts⟩ (c_X1_within l k 0 7) (va_cwS 3 hts gX1_tap_X1_within rfl rfl rfl (by decide +kernel) ⟨Nat.le_of_ble_eq_true rfl, Nat.le_of_ble_eq_true rfl⟩) rfl hl.1 rfl (Nat.le_of_ble_eq_true rfl) dX1_tap_4 ⟨Nat.zero_le _, Nat.zero_le _⟩ ?_
  refine lv_if_eq (tgt := 22) hx hb dX1_tap_7 (by decide) (fun c_1 => ?_) (fun c_1 => ?_)
  · have c_1 : (pf_in k 0 7) = 0 := c_1
    refine lv_ldc (v := (-1000000002)) hx hb hown (hts (.constant RX1 34 (-1000000002)) (by decide +kernel)) dX1_tap_22 ?_
    exact hret _ _ _ _ _ hP ((if_pos c_1).symm) hS dX1_tap_24
  · have c_1 : ¬ (pf_in k 0 7) = 0 := c_1
    refine lv_aload_n hx hb dX1_tap_10 rfl (lv_at hl 0 rfl) ?_
    refine va_get (D := D) (ci := 1) (v := .ref h) (C := RX1) (T := TX1) (N := 4) hx hb hts iw_X1_tap_X1 hown hE.1 hP 0 rfl rfl 0 (by decide) (hts (.fieldLink RX1 12 "EchoTaps" "line" "LEchoTaps$Line;") (by decide +kernel)) (fun _ h9 => h9) rfl dX1_tap_11 ?_
    refine va_get (D := D) (ci := 0) (v := .ref (as 1)) (C := RX0) (T := TX0) (N := 11) hx hb hts iw_X1_tap_X0 hown hE.1 hP 1 rfl rfl 1 (by decide) (hts (.fieldLink RX1 43 "EchoTaps$Line" "taps" "[I") (by decide +kernel)) (fun _ h9 => h9) rfl dX1_tap_14 ?_
    refine lv_iload_n hx hb dX1_tap_17 rfl (lv_at hl 1 rfl) ?_
    refine va_iald hx hb hE.1 hP 3 0 rfl rfl (in_vp (b := 7) (by decide) c_1) dX1_tap_18 ?_
    refine lv_goto (tgt := 24) hx hb dX1_tap_19 (by decide) ?_
    exact hret _ _ _ _ _ hP ((if_neg c_1).symm) hS dX1_tap_24

abbrev rm_X1_last : Room := { frames := 1, cells := 0, slots := 0, locals := 22 }
theorem iw_X1_last_X0 : ∀ w ∈ wsX00, w ∈ wsX1_last := by decide +kernel
theorem iw_X1_last_X1 : ∀ w ∈ wsX10, w ∈ wsX1_last := by decide +kernel
set_option maxRecDepth 100000 in
set_option maxHeartbeats 4000000 in
theorem c_X1_last (l : Launch) (D : va_G) (cA cZ cR : ClassId) (ob h t i : Nat) (kp : Int32) (as : Nat → Nat) (st : St) (k : Int32) : BMi l D cA cZ cR yX1_last wsX1_last rm_X1_last [.ref ob, .int k] ([EO ob h t i kp] ++ (LW cA h as st)) ([EO ob h t i kp] ++ (LW cA h as st)) (xf_last st k) := by
  refine bm_open (maxL := 2) (by decide) rfl rfl rfl (Nat.le_of_ble_eq_true rfl) ?_
  intro p e s m args below meth c A Q hx hb hml hts hown hE hP hD hA hS hret ls hl
  have hown : s.vm.findClass RX1 = some m.cls := hown
  have hl : lv_has ls 2 [(0, .ref ob), (1, .int k)] := hl
  obtain ⟨H, locs, eH, eL⟩ : ∃ (H : Heap) (locs : List Loc), H = s.heap ∧ locs = [] := ⟨_, _, rfl, rfl⟩
  rw [← eH, ← eL]
  rw [← eH] at hP
  have hS : va_S A s.heap H locs := by rw [eH, eL]; exact hS
  clear eH eL
  refine lv_iload_n hx hb dX1_last_0 rfl (lv_at hl 1 rfl) ?_
  refine lv_iconst (v := 0) hx hb dX1_last_1 (by decide) ?_
  refine lv_bipush (v := 7) hx hb dX1_last_2 (by decide) ?_
  refine sm_i [.int k, .int 0, .int 7] [] ⟨hx, hb, hml, hown, hts⟩ (c_X1_within l k 0 7) (va_cwS 3 hts gX1_last_X1_within rfl rfl rfl (by decide +kernel) ⟨Nat.le_of_ble_eq_true rfl, Nat.le_of_ble_eq_true rfl⟩) rfl hl.1 rfl (Nat.le_of_ble_eq_true rfl) dX1_last_4 ⟨Nat.zero_le _, Nat.zero_le _⟩ ?_
  refine lv_if_ne (tgt := 13) hx hb dX1_last_7 (by decide) (fun c_1 => ?_) (fun c_1 => ?_)
  · have c_1 : ¬ (pf_in k 0 7) = 0 := c_1
    refine lv_aload_n hx hb dX1_last_13 rfl (lv_at hl 0 rfl) ?_
    refine va_get (D := D) (ci := 1) (v := .ref h) (C := RX1) (T := TX1) (N := 4) hx hb hts iw_X1_last_X1 hown hE.1 hP 0 rfl rfl 0 (by decide) (hts (.fieldLink RX1 12 "EchoTaps" "line" "LEchoTaps$Line;") (by decide +kernel)) (fun _ h9 => h9) rfl dX1_last_14 ?_
    refine va_get (D := D) (ci := 0) (v := .int (st 8 0)) (C := RX0) (T := TX0) (N := 11) hx hb hts iw_X1_last_X0 hown hE.1 hP 1 rfl rfl 8 (by decide) (hts (.fieldLink RX1 46 "EchoTaps$Line" "ticks" "I") (by decide +kernel)) (fun _ h9 => h9) rfl dX1_last_17 ?_
    refine lv_if_ne (tgt := 28) hx hb dX1_last_20 (by decide) (fun c_2 => ?_) (fun c_2 => ?_)
    · have c_2 : ¬ (st 8 0) = 0 := c_2
      refine lv_aload_n hx hb dX1_last_28 rfl (lv_at hl 0 rfl) ?_
      refine va_get (D := D) (ci := 1) (v := .ref h) (C := RX1) (T := TX1) (N := 4) hx hb hts iw_X1_last_X1 hown hE.1 hP 0 rfl rfl 0 (by decide) (hts (.fieldLink RX1 12 "EchoTaps" "line" "LEchoTaps$Line;") (by decide +kernel)) (fun _ h9 => h9) rfl dX1_last_29 ?_
      refine va_get (D := D) (ci := 0) (v := .ref (as 7)) (C := RX0) (T := TX0) (N := 11) hx hb hts iw_X1_last_X0 hown hE.1 hP 1 rfl rfl 7 (by decide) (hts (.fieldLink RX1 51 "EchoTaps$Line" "told" "[I") (by decide +kernel)) (fun _ h9 => h9) rfl dX1_last_32 ?_
      refine lv_iload_n hx hb dX1_last_35 rfl (lv_at hl 1 rfl) ?_
      refine va_iald hx hb hE.1 hP 9 0 rfl rfl (in_vp (b := 7) (by decide) c_1) dX1_last_36 ?_
      exact hret _ _ _ _ _ hP (by rw [xf_last, if_neg c_1, if_neg c_2]) hS dX1_last_37
    · have c_2 : (st 8 0) = 0 := c_2
      refine lv_ldc (v := (-1000000003)) hx hb hown (hts (.constant RX1 50 (-1000000003)) (by decide +kernel)) dX1_last_23 ?_
      refine lv_goto (tgt := 37) hx hb dX1_last_25 (by decide) ?_
      exact hret _ _ _ _ _ hP (by rw [xf_last, if_neg c_1, if_pos c_2]) hS dX1_last_37
  · have c_1 : (pf_in k 0 7) = 0 := c_1
    refine lv_ldc (v := (-1000000002)) hx hb hown (hts (.constant RX1 34 (-1000000002)) (by decide +kernel)) dX1_last_10 ?_
    exact hret _ _ _ _ _ hP ((if_pos c_1).symm) hS dX1_last_12

abbrev rm_X1_ago : Room := { frames := 1, cells := 0, slots := 0, locals := 22 }
theorem iw_X1_ago_X0 : ∀ w ∈ wsX00, w ∈ wsX1_ago := by decide +kernel
theorem iw_X1_ago_X1 : ∀ w ∈ wsX10, w ∈ wsX1_ago := by decide +kernel
set_option maxRecDepth 100000 in
set_option maxHeartbeats 4000000 in
theorem c_X1_ago (l : Launch) (D : va_G) (cA cZ cR : ClassId) (ob h t i : Nat) (kp : Int32) (as : Nat → Nat) (st : St) (i0 k : Int32) : BMi l D cA cZ cR yX1_ago wsX1_ago rm_X1_ago [.ref ob, .int i0, .int k] ([EO ob h t i kp] ++ (LW cA h as st)) ([EO ob h t i kp] ++ (LW cA h as st)) (xf_ago st i0 k) := by
  refine bm_open (maxL := 3) (by decide) rfl rfl rfl (Nat.le_of_ble_eq_true rfl) ?_
  intro p e s m args below meth c A Q hx hb hml hts hown hE hP hD hA hS hret ls hl
  have hown : s.vm.findClass RX1 = some m.cls := hown
  have hl : lv_has ls 3 [(0, .ref ob), (1, .int i0), (2, .int k)] := hl
  obtain ⟨H, locs, eH, eL⟩ : ∃ (H : Heap) (locs : List Loc), H = s.heap ∧ locs = [] := ⟨_, _, rfl, rfl⟩
  rw [← eH, ← eL]
  rw [← eH] at hP
  have hS : va_S A s.heap H locs := by rw [eH, eL]; exact hS
  clear eH eL
  refine lv_iload_n hx hb dX1_ago_0 rfl (lv_at hl 1 rfl) ?_
  refine lv_iconst (v := 0) hx hb dX1_ago_1 (by decide) ?_
  refine lv_bipush (v := 31) hx hb dX1_ago_2 (by decide) ?_
  refine sm_i [.int i0, .int 0, .int 31] [] ⟨hx, hb, hml, hown, hts⟩ (c_X1_within l i0 0 31) (va_cwS 3 hts gX1_ago_X1_within rfl rfl rfl (by decide +kernel) ⟨Nat.le_of_ble_eq_true rfl, Nat.le_of_ble_eq_true rfl⟩) rfl hl.1 rfl (Nat.le_of_ble_eq_true rfl) dX1_ago_4 ⟨Nat.zero_le _, Nat.zero_le _⟩ ?_
  refine lv_if_eq (tgt := 19) hx hb dX1_ago_7 (by decide) (fun c_1 => ?_) (fun c_1 => ?_)
  · have c_1 : (pf_in i0 0 31) = 0 := c_1
    refine lv_ldc (v := (-1000000002)) hx hb hown (hts (.constant RX1 34 (-1000000002)) (by decide +kernel)) dX1_ago_19 ?_
    exact hret _ _ _ _ _ hP ((if_pos (Or.inl c_1)).symm) hS dX1_ago_21
  · have c_1 : ¬ (pf_in i0 0 31) = 0 := c_1
    refine lv_iload_n hx hb dX1_ago_10 rfl (lv_at hl 2 rfl) ?_
    refine lv_iconst (v := 0) hx hb dX1_ago_11 (by decide) ?_
    refine lv_iconst (v := 2) hx hb dX1_ago_12 (by decide) ?_
    refine sm_i [.int k, .int 0, .int 2] [] ⟨hx, hb, hml, hown, hts⟩ (c_X1_within l k 0 2) (va_cwS 3 hts gX1_ago_X1_within rfl rfl rfl (by decide +kernel) ⟨Nat.le_of_ble_eq_true rfl, Nat.le_of_ble_eq_true rfl⟩) rfl hl.1 rfl (Nat.le_of_ble_eq_true rfl) dX1_ago_13 ⟨Nat.zero_le _, Nat.zero_le _⟩ ?_
    refine lv_if_ne (tgt := 22) hx hb dX1_ago_16 (by decide) (fun c_2 => ?_) (fun c_2 => ?_)
    · have c_2 : ¬ (pf_in k 0 2) = 0 := c_2
      refine lv_iload_n hx hb dX1_ago_22 rfl (lv_at hl 1 rfl) ?_
      refine lv_aload_n hx hb dX1_ago_23 rfl (lv_at hl 0 rfl) ?_
      refine va_get (D := D) (ci := 1) (v := .ref h) (C := RX1) (T := TX1) (N := 4) hx hb hts iw_X1_ago_X1 hown hE.1 hP 0 rfl rfl 0 (by decide) (hts (.fieldLink RX1 12 "EchoTaps" "line" "LEchoTaps$Line;") (by decide +kernel)) (fun _ h9 => h9) rfl dX1_ago_24 ?_
      refine va_get (D := D) (ci := 0) (v := .int (st 8 0)) (C := RX0) (T := TX0) (N := 11) hx hb hts iw_X1_ago_X0 hown hE.1 hP 1 rfl rfl 8 (by decide) (hts (.fieldLink RX1 46 "EchoTaps$Line" "ticks" "I") (by decide +kernel)) (fun _ h9 => h9) rfl dX1_ago_27 ?_
      refine lv_icmp_lt (tgt := 36) hx hb dX1_ago_30 (by decide) (fun c_3 => ?_) (fun c_3 => ?_)
      · have c_3 : i0 < (st 8 0) := c_3
        refine lv_iload_n hx hb dX1_ago_36 rfl (lv_at hl 2 rfl) ?_
        refine lv_if_ne (tgt := 51) hx hb dX1_ago_37 (by decide) (fun c_4 => ?_) (fun c_4 => ?_)
        · have c_4 : ¬ k = 0 := c_4
          refine lv_iload_n hx hb dX1_ago_51 rfl (lv_at hl 2 rfl) ?_
          refine lv_iconst (v := 1) hx hb dX1_ago_52 (by decide) ?_
          refine lv_icmp_ne (tgt := 67) hx hb dX1_ago_53 (by decide) (fun c_5 => ?_) (fun c_5 => ?_)
          · have c_5 : ¬ k = 1 := c_5
            refine lv_aload_n hx hb dX1_ago_67 rfl (lv_at hl 0 rfl) ?_
            refine va_get (D := D) (ci := 1) (v := .ref h) (C := RX1) (T := TX1) (N := 4) hx hb hts iw_X1_ago_X1 hown hE.1 hP 0 rfl rfl 0 (by decide) (hts (.fieldLink RX1 12 "EchoTaps" "line" "LEchoTaps$Line;") (by decide +kernel)) (fun _ h9 => h9) rfl dX1_ago_68 ?_
            refine lv_iload_n hx hb dX1_ago_71 rfl (lv_at hl 1 rfl) ?_
            refine bm_i [EO ob h t i kp] (LW cA h as st) [] [.int i0] [] ⟨hx, hb, hml, hown, hts⟩ (c_X0_outAgo l D cA cZ cR h as st i0) (cwV 1 hts gX1_ago_X0_outAgo rfl rfl rfl (by decide +kernel) ⟨Nat.le_of_ble_eq_true rfl, Nat.le_of_ble_eq_true rfl⟩) hE hP hD hS hA LW_adr 0 0 rfl rfl rfl hl.1 rfl (Nat.le_of_ble_eq_true rfl) dX1_ago_72 ⟨Nat.zero_le _, Nat.zero_le _⟩ (fun H locs hP hD hS => ?_)
            have hP : va_P D vwCl ([EO ob h t i kp] ++ (LW cA h as st)) H := hP
            have hD : va_D A ([EO ob h t i kp] ++ (LW cA h as st)) := hD
            exact hret _ _ _ _ _ hP (by rw [xf_ago, if_neg (fun q => q.elim c_1 c_2), if_pos c_3, if_neg c_4, if_neg c_5]) hS dX1_ago_75
          · have c_5 : k = 1 := c_5
            refine lv_aload_n hx hb dX1_ago_56 rfl (lv_at hl 0 rfl) ?_
            refine va_get (D := D) (ci := 1) (v := .ref h) (C := RX1) (T := TX1) (N := 4) hx hb hts iw_X1_ago_X1 hown hE.1 hP 0 rfl rfl 0 (by decide) (hts (.fieldLink RX1 12 "EchoTaps" "line" "LEchoTaps$Line;") (by decide +kernel)) (fun _ h9 => h9) rfl dX1_ago_57 ?_
            refine lv_iload_n hx hb dX1_ago_60 rfl (lv_at hl 1 rfl) ?_
            refine bm_i [EO ob h t i kp] (LW cA h as st) [] [.int i0] [] ⟨hx, hb, hml, hown, hts⟩ (c_X0_nearAgo l D cA cZ cR h as st i0) (cwV 1 hts gX1_ago_X0_nearAgo rfl rfl rfl (by decide +kernel) ⟨Nat.le_of_ble_eq_true rfl, Nat.le_of_ble_eq_true rfl⟩) hE hP hD hS hA LW_adr 0 0 rfl rfl rfl hl.1 rfl (Nat.le_of_ble_eq_true rfl) dX1_ago_61 ⟨Nat.zero_le _, Nat.zero_le _⟩ (fun H locs hP hD hS => ?_)
            have hP : va_P D vwCl ([EO ob h t i kp] ++ (LW cA h as st)) H := hP
            have hD : va_D A ([EO ob h t i kp] ++ (LW cA h as st)) := hD
            refine lv_goto (tgt := 75) hx hb dX1_ago_64 (by decide) ?_
            exact hret _ _ _ _ _ hP (by rw [xf_ago, if_neg (fun q => q.elim c_1 c_2), if_pos c_3, if_neg c_4, if_pos c_5]) hS dX1_ago_75
        · have c_4 : k = 0 := c_4
          refine lv_aload_n hx hb dX1_ago_40 rfl (lv_at hl 0 rfl) ?_
          refine va_get (D := D) (ci := 1) (v := .ref h) (C := RX1) (T := TX1) (N := 4) hx hb hts iw_X1_ago_X1 hown hE.1 hP 0 rfl rfl 0 (by decide) (hts (.fieldLink RX1 12 "EchoTaps" "line" "LEchoTaps$Line;") (by decide +kernel)) (fun _ h9 => h9) rfl dX1_ago_41 ?_
          refine lv_iload_n hx hb dX1_ago_44 rfl (lv_at hl 1 rfl) ?_
          refine bm_i [EO ob h t i kp] (LW cA h as st) [] [.int i0] [] ⟨hx, hb, hml, hown, hts⟩ (c_X0_farAgo l D cA cZ cR h as st i0) (cwV 1 hts gX1_ago_X0_farAgo rfl rfl rfl (by decide +kernel) ⟨Nat.le_of_ble_eq_true rfl, Nat.le_of_ble_eq_true rfl⟩) hE hP hD hS hA LW_adr 0 0 rfl rfl rfl hl.1 rfl (Nat.le_of_ble_eq_true rfl) dX1_ago_45 ⟨Nat.zero_le _, Nat.zero_le _⟩ (fun H locs hP hD hS => ?_)
          have hP : va_P D vwCl ([EO ob h t i kp] ++ (LW cA h as st)) H := hP
          have hD : va_D A ([EO ob h t i kp] ++ (LW cA h as st)) := hD
          refine lv_goto (tgt := 75) hx hb dX1_ago_48 (by decide) ?_
          exact hret _ _ _ _ _ hP (by rw [xf_ago, if_neg (fun q => q.elim c_1 c_2), if_pos c_3, if_pos c_4]) hS dX1_ago_75
      · have c_3 : ¬ i0 < (st 8 0) := c_3
        refine lv_ldc (v := (-1000000006)) hx hb hown (hts (.constant RX1 54 (-1000000006)) (by decide +kernel)) dX1_ago_33 ?_
        exact hret _ _ _ _ _ hP (by rw [xf_ago, if_neg (fun q => q.elim c_1 c_2), if_neg c_3]) hS dX1_ago_35
    · have c_2 : (pf_in k 0 2) = 0 := c_2
      refine lv_ldc (v := (-1000000002)) hx hb hown (hts (.constant RX1 34 (-1000000002)) (by decide +kernel)) dX1_ago_19 ?_
      exact hret _ _ _ _ _ hP ((if_pos (Or.inr c_2)).symm) hS dX1_ago_21

abbrev rm_X1_part : Room := { frames := 1, cells := 0, slots := 0, locals := 22 }
theorem iw_X1_part_X0 : ∀ w ∈ wsX00, w ∈ wsX1_part := by decide +kernel
theorem iw_X1_part_X1 : ∀ w ∈ wsX10, w ∈ wsX1_part := by decide +kernel
set_option maxRecDepth 100000 in
set_option maxHeartbeats 4000000 in
theorem c_X1_part (l : Launch) (D : va_G) (cA cZ cR : ClassId) (ob h t i : Nat) (kp : Int32) (as : Nat → Nat) (st : St) (k v : Int32) : BMi l D cA cZ cR yX1_part wsX1_part rm_X1_part [.ref ob, .int k, .int v] ([EO ob h t i kp] ++ (LW cA h as st)) ([EO ob h t i kp] ++ (LW cA h as (xs_part st k v))) (xf_part st k v) := by
  refine bm_open (maxL := 5) (by decide) rfl rfl rfl (Nat.le_of_ble_eq_true rfl) ?_
  intro p e s m args below meth c A Q hx hb hml hts hown hE hP hD hA hS hret ls hl
  have hown : s.vm.findClass RX1 = some m.cls := hown
  have hl : lv_has ls 5 [(0, .ref ob), (1, .int k), (2, .int v)] := hl
  obtain ⟨H, locs, eH, eL⟩ : ∃ (H : Heap) (locs : List Loc), H = s.heap ∧ locs = [] := ⟨_, _, rfl, rfl⟩
  rw [← eH, ← eL]
  rw [← eH] at hP
  have hS : va_S A s.heap H locs := by rw [eH, eL]; exact hS
  clear eH eL
  refine lv_iload_n hx hb dX1_part_0 rfl (lv_at hl 1 rfl) ?_
  refine lv_iconst (v := 0) hx hb dX1_part_1 (by decide) ?_
  refine lv_bipush (v := 8) hx hb dX1_part_2 (by decide) ?_
  refine sm_i [.int k, .int 0, .int 8] [] ⟨hx, hb, hml, hown, hts⟩ (c_X1_within l k 0 8) (va_cwS 3 hts gX1_part_X1_within rfl rfl rfl (by decide +kernel) ⟨Nat.le_of_ble_eq_true rfl, Nat.le_of_ble_eq_true rfl⟩) rfl hl.1 rfl (Nat.le_of_ble_eq_true rfl) dX1_part_4 ⟨Nat.zero_le _, Nat.zero_le _⟩ ?_
  refine lv_if_ne (tgt := 13) hx hb dX1_part_7 (by decide) (fun c_1 => ?_) (fun c_1 => ?_)
  · have c_1 : ¬ (pf_in k 0 8) = 0 := c_1
    refine lv_iload_n hx hb dX1_part_13 rfl (lv_at hl 1 rfl) ?_
    refine lv_bipush (v := 8) hx hb dX1_part_14 (by decide) ?_
    have j39 :  W p l e rm_X1_part s m args below meth c H locs 0 0 Q (F0 m 39 ls [.int (xo_part k v)]) := by
      refine lv_istore_n (lv' := [(3, .int (xo_part k v)), (0, .ref ob), (1, .int k), (2, .int v)]) hx hb dX1_part_39 rfl hl (by decide) rfl (fun ls hl => ?_)
      refine lv_iload_n hx hb dX1_part_40 rfl (lv_at hl 0 rfl) ?_
      refine lv_if_ne (tgt := 47) hx hb dX1_part_41 (by decide) (fun c_2 => ?_) (fun c_2 => ?_)
      · have c_2 : ¬ (xo_part k v) = 0 := c_2
        have e1 : xs_part st k v = va_up st 2 (upd (st 2) k.toNatClampNeg v) := if_neg (fun q => q.elim c_1 c_2)
        have hin : vp_in k 9 := in_vp (b := 8) (by decide) c_1
        refine lv_aload_n hx hb dX1_part_47 rfl (lv_at hl 1 rfl) ?_
        refine va_get (D := D) (ci := 1) (v := .ref h) (C := RX1) (T := TX1) (N := 4) hx hb hts iw_X1_part_X1 hown hE.1 hP 0 rfl rfl 0 (by decide) (hts (.fieldLink RX1 12 "EchoTaps" "line" "LEchoTaps$Line;") (by decide +kernel)) (fun _ h9 => h9) rfl dX1_part_48 ?_
        refine va_get (D := D) (ci := 0) (v := .ref (as 2)) (C := RX0) (T := TX0) (N := 11) hx hb hts iw_X1_part_X0 hown hE.1 hP 1 rfl rfl 2 (by decide) (hts (.fieldLink RX1 64 "EchoTaps$Line" "way" "[I") (by decide +kernel)) (fun _ h9 => h9) rfl dX1_part_51 ?_
        refine lv_iload_n hx hb dX1_part_54 rfl (lv_at hl 2 rfl) ?_
        refine va_iald hx hb hE.1 hP 4 0 rfl rfl hin dX1_part_55 ?_
        refine lv_istore (lv' := [(4, .int ((st 2) k.toNatClampNeg)), (3, .int (xo_part k v)), (0, .ref ob), (1, .int k), (2, .int v)]) hx hb dX1_part_56 hl (by decide) rfl (fun ls hl => ?_)
        refine lv_aload_n hx hb dX1_part_58 rfl (lv_at hl 2 rfl) ?_
        refine va_get (D := D) (ci := 1) (v := .ref h) (C := RX1) (T := TX1) (N := 4) hx hb hts iw_X1_part_X1 hown hE.1 hP 0 rfl rfl 0 (by decide) (hts (.fieldLink RX1 12 "EchoTaps" "line" "LEchoTaps$Line;") (by decide +kernel)) (fun _ h9 => h9) rfl dX1_part_59 ?_
        refine va_get (D := D) (ci := 0) (v := .ref (as 2)) (C := RX0) (T := TX0) (N := 11) hx hb hts iw_X1_part_X0 hown hE.1 hP 1 rfl rfl 2 (by decide) (hts (.fieldLink RX1 64 "EchoTaps$Line" "way" "[I") (by decide +kernel)) (fun _ h9 => h9) rfl dX1_part_62 ?_
        refine lv_iload_n hx hb dX1_part_65 rfl (lv_at hl 3 rfl) ?_
        refine lv_iload_n hx hb dX1_part_66 rfl (lv_at hl 4 rfl) ?_
        refine va_iast hx hb hE.1 hP hD hS 4 0 rfl rfl hin dX1_part_67 (fun H locs hP hD hS => ?_)
        have hP : va_P D vwCl ([EO ob h t i kp] ++ (LW cA h as (va_up st 2 (upd (st 2) k.toNatClampNeg v)))) H := hP
        have hD : va_D A ([EO ob h t i kp] ++ (LW cA h as (va_up st 2 (upd (st 2) k.toNatClampNeg v)))) := hD
        refine lv_iload hx hb dX1_part_68 (lv_at hl 0 rfl) ?_
        exact hret _ _ _ _ _ (by rw [e1]; exact hP) ((if_neg (fun q => q.elim c_1 c_2)).symm) hS dX1_part_70
      · have c_2 : (xo_part k v) = 0 := c_2
        have e1 : xs_part st k v = st := if_pos (Or.inr c_2)
        refine lv_ldc (v := (-1000000002)) hx hb hown (hts (.constant RX1 34 (-1000000002)) (by decide +kernel)) dX1_part_44 ?_
        exact hret _ _ _ _ _ (by rw [e1]; exact hP) ((if_pos (Or.inr c_2)).symm) hS dX1_part_46
    refine lv_icmp_ne (tgt := 29) hx hb dX1_part_16 (by decide) (fun c_3 => ?_) (fun c_3 => ?_)
    · have c_3 : ¬ k = 8 := c_3
      refine lv_iload_n hx hb dX1_part_29 rfl (lv_at hl 2 rfl) ?_
      refine lv_sipush (v := (-1024)) hx hb dX1_part_30 (by decide) ?_
      refine lv_sipush (v := 1023) hx hb dX1_part_33 (by decide) ?_
      refine sm_i [.int v, .int (-1024), .int 1023] [] ⟨hx, hb, hml, hown, hts⟩ (c_X1_within l v (-1024) 1023) (va_cwS 3 hts gX1_part_X1_within rfl rfl rfl (by decide +kernel) ⟨Nat.le_of_ble_eq_true rfl, Nat.le_of_ble_eq_true rfl⟩) rfl hl.1 rfl (Nat.le_of_ble_eq_true rfl) dX1_part_36 ⟨Nat.zero_le _, Nat.zero_le _⟩ ?_
      rw [show xo_part k v = pf_in v (-1024) 1023 from if_neg c_3] at j39
      exact j39
    · have c_3 : k = 8 := c_3
      refine lv_iload_n hx hb dX1_part_19 rfl (lv_at hl 2 rfl) ?_
      refine lv_iconst (v := 0) hx hb dX1_part_20 (by decide) ?_
      refine lv_bipush (v := 15) hx hb dX1_part_21 (by decide) ?_
      refine sm_i [.int v, .int 0, .int 15] [] ⟨hx, hb, hml, hown, hts⟩ (c_X1_within l v 0 15) (va_cwS 3 hts gX1_part_X1_within rfl rfl rfl (by decide +kernel) ⟨Nat.le_of_ble_eq_true rfl, Nat.le_of_ble_eq_true rfl⟩) rfl hl.1 rfl (Nat.le_of_ble_eq_true rfl) dX1_part_23 ⟨Nat.zero_le _, Nat.zero_le _⟩ ?_
      refine lv_goto (tgt := 39) hx hb dX1_part_26 (by decide) ?_
      rw [show xo_part k v = pf_in v 0 15 from if_pos c_3] at j39
      exact j39
  · have c_1 : (pf_in k 0 8) = 0 := c_1
    have e1 : xs_part st k v = st := if_pos (Or.inl c_1)
    refine lv_ldc (v := (-1000000002)) hx hb hown (hts (.constant RX1 34 (-1000000002)) (by decide +kernel)) dX1_part_10 ?_
    exact hret _ _ _ _ _ (by rw [e1]; exact hP) ((if_pos (Or.inl c_1)).symm) hS dX1_part_12

abbrev rm_X1_run : Room := { frames := 5, cells := 0, slots := 0, locals := 120 }
theorem iw_X1_run_X0 : ∀ w ∈ wsX00, w ∈ wsX1_run := by decide +kernel
theorem iw_X1_run_X1 : ∀ w ∈ wsX10, w ∈ wsX1_run := by decide +kernel
set_option maxRecDepth 100000 in
set_option maxHeartbeats 4000000 in
theorem c_X1_run (l : Launch) (D : va_G) (cA cZ cR : ClassId) (ob h t i : Nat) (kp : Int32) (as : Nat → Nat) (st : St) (z n0 loud : Int32) : BMi l D cA cZ cR yX1_run wsX1_run rm_X1_run [.ref ob, .int z, .int n0, .int loud] ([EO ob h t i kp] ++ (LW cA h as st)) ([EO ob h t i kp] ++ (LW cA h as (xs_run st z n0 loud))) (xf_run st z n0 loud) := by
  refine bm_open (maxL := 7) (by decide) rfl rfl rfl (Nat.le_of_ble_eq_true rfl) ?_
  intro p e s m args below meth c A Q hx hb hml hts hown hE hP hD hA hS hret ls hl
  have hown : s.vm.findClass RX1 = some m.cls := hown
  have hl : lv_has ls 7 [(0, .ref ob), (1, .int z), (2, .int n0), (3, .int loud)] := hl
  obtain ⟨H, locs, eH, eL⟩ : ∃ (H : Heap) (locs : List Loc), H = s.heap ∧ locs = [] := ⟨_, _, rfl, rfl⟩
  rw [← eH, ← eL]
  rw [← eH] at hP
  have hS : va_S A s.heap H locs := by rw [eH, eL]; exact hS
  clear eH eL
  refine lv_iload_n hx hb dX1_run_0 rfl (lv_at hl 1 rfl) ?_
  refine lv_iload_n hx hb dX1_run_1 rfl (lv_at hl 3 rfl) ?_
  refine sm_i [.int z, .int loud] [] ⟨hx, hb, hml, hown, hts⟩ (c_X1_startsRun l z loud) (va_cwS 2 hts gX1_run_X1_startsRun rfl rfl rfl (by decide +kernel) ⟨Nat.le_of_ble_eq_true rfl, Nat.le_of_ble_eq_true rfl⟩) rfl hl.1 rfl (Nat.le_of_ble_eq_true rfl) dX1_run_2 ⟨Nat.zero_le _, Nat.zero_le _⟩ ?_
  refine lv_if_eq (tgt := 18) hx hb dX1_run_5 (by decide) (fun c_1 => ?_) (fun c_1 => ?_)
  · have c_1 : (pf_sr z loud) = 0 := c_1
    refine lv_bipush (v := (-2)) hx hb dX1_run_18 (by decide) ?_
    have e1 : xs_run st z n0 loud = st := if_pos (Or.inl c_1)
    exact hret _ _ _ _ _ (by rw [e1]; exact hP) ((if_pos (Or.inl c_1)).symm) hS dX1_run_20
  · have c_1 : ¬ (pf_sr z loud) = 0 := c_1
    refine lv_iload_n hx hb dX1_run_8 rfl (lv_at hl 2 rfl) ?_
    refine lv_iconst (v := 1) hx hb dX1_run_9 (by decide) ?_
    refine lv_bipush (v := 60) hx hb dX1_run_10 (by decide) ?_
    refine sm_i [.int n0, .int 1, .int 60] [] ⟨hx, hb, hml, hown, hts⟩ (c_X1_within l n0 1 60) (va_cwS 3 hts gX1_run_X1_within rfl rfl rfl (by decide +kernel) ⟨Nat.le_of_ble_eq_true rfl, Nat.le_of_ble_eq_true rfl⟩) rfl hl.1 rfl (Nat.le_of_ble_eq_true rfl) dX1_run_12 ⟨Nat.zero_le _, Nat.zero_le _⟩ ?_
    refine lv_if_ne (tgt := 21) hx hb dX1_run_15 (by decide) (fun c_2 => ?_) (fun c_2 => ?_)
    · have c_2 : ¬ (pf_in n0 1 60) = 0 := c_2
      obtain ⟨N, hN, rfl⟩ := in_nI60 c_2
      have e1 : xs_run st z (nI N) loud = xr_st loud (nI N).toNatClampNeg z st := if_neg (fun q => q.elim c_1 c_2)
      have e2 : xf_run st z (nI N) loud = xr_sum loud (nI N).toNatClampNeg z st 0 := if_neg (fun q => q.elim c_1 c_2)
      rw [nI_clamp (by omega)] at e1 e2
      rw [e1, e2] at hret
      refine lv_iload_n hx hb dX1_run_21 rfl (lv_at hl 1 rfl) ?_
      refine lv_istore (lv' := [(4, .int z), (0, .ref ob), (1, .int z), (2, .int (nI N)), (3, .int loud)]) hx hb dX1_run_22 hl (by decide) rfl (fun ls hl => ?_)
      refine lv_iconst (v := 0) hx hb dX1_run_24 (by decide) ?_
      refine lv_istore (lv' := [(5, .int 0), (4, .int z), (0, .ref ob), (1, .int z), (2, .int (nI N)), (3, .int loud)]) hx hb dX1_run_25 hl (by decide) rfl (fun ls hl => ?_)
      refine lv_iconst (v := 0) hx hb dX1_run_27 (by decide) ?_
      refine lv_istore (lv' := [(6, .int 0), (5, .int 0), (4, .int z), (0, .ref ob), (1, .int z), (2, .int (nI N)), (3, .int loud)]) hx hb dX1_run_28 hl (by decide) rfl (fun ls hl => ?_)
      have loop : ∀ (n : Nat) (k : Nat) (y : Int32) (s1 : St) (a : Int32) (hk : k + n = N) (ha : xr_sum loud n y s1 a = xr_sum loud N z st 0) (hs : xr_st loud n y s1 = xr_st loud N z st), ∀ (H : Heap) (locs : List Loc), va_P D vwCl ([EO ob h t i kp] ++ (LW cA h as s1)) H → va_D A ([EO ob h t i kp] ++ (LW cA h as s1)) → va_S A s.heap H locs → ∀ ls : Array Slot, lv_has ls 7 [(6, .int (nI k)), (5, .int a), (4, .int y), (3, .int loud), (2, .int (nI N)), (1, .int z), (0, .ref ob)] → W p l e rm_X1_run s m args below meth c H locs 0 0 Q (F0 m 30 ls []) := by
        intro n
        induction n with
        | zero =>
          intro k y s1 a hk ha hs H locs hP hD hS ls hl
          obtain rfl : k = N := by omega
          refine lv_iload hx hb dX1_run_30 (lv_at hl 0 rfl) ?_
          refine lv_iload_n hx hb dX1_run_32 rfl (lv_at hl 4 rfl) ?_
          refine lv_icmp_ge (tgt := 81) hx hb dX1_run_33 (by decide) (fun c_3 => ?_) (fun c_3 => absurd (Int32.le_refl _) c_3)
          refine lv_iload hx hb dX1_run_81 (lv_at hl 1 rfl) ?_
          exact hret _ _ _ _ _ (by rw [← hs]; exact hP) ha hS dX1_run_83
        | succ n ih =>
          intro k y s1 a hk ha hs H locs hP hD hS ls hl
          refine lv_iload hx hb dX1_run_30 (lv_at hl 0 rfl) ?_
          refine lv_iload_n hx hb dX1_run_32 rfl (lv_at hl 4 rfl) ?_
          refine lv_icmp_ge (tgt := 81) hx hb dX1_run_33 (by decide) (fun c_4 => absurd c_4 (nI_ge (a := k) (b := N) (by omega) (by omega))) (fun c_4 => ?_)
          refine lv_iload hx hb dX1_run_36 (lv_at hl 2 rfl) ?_
          refine sm_i [.int y] [] ⟨hx, hb, hml, hown, hts⟩ (c_X1_nextSeed l y) (va_cwS 1 hts gX1_run_X1_nextSeed rfl rfl rfl (by decide +kernel) ⟨Nat.le_of_ble_eq_true rfl, Nat.le_of_ble_eq_true rfl⟩) rfl hl.1 rfl (Nat.le_of_ble_eq_true rfl) dX1_run_38 ⟨Nat.zero_le _, Nat.zero_le _⟩ ?_
          refine lv_topi (fun y2 ey2 => ?_)
          refine lv_istore (lv' := [(4, .int y2), (6, .int (nI k)), (5, .int a), (3, .int loud), (2, .int (nI N)), (1, .int z), (0, .ref ob)]) hx hb dX1_run_41 hl (by decide) rfl (fun ls hl => ?_)
          refine lv_aload_n hx hb dX1_run_43 rfl (lv_at hl 6 rfl) ?_
          refine va_get (D := D) (ci := 1) (v := .ref h) (C := RX1) (T := TX1) (N := 4) hx hb hts iw_X1_run_X1 hown hE.1 hP 0 rfl rfl 0 (by decide) (hts (.fieldLink RX1 12 "EchoTaps" "line" "LEchoTaps$Line;") (by decide +kernel)) (fun _ h9 => h9) rfl dX1_run_44 ?_
          refine lv_iload hx hb dX1_run_47 (lv_at hl 0 rfl) ?_
          refine lv_iload_n hx hb dX1_run_49 rfl (lv_at hl 3 rfl) ?_
          refine sm_i [.int y2, .int loud] [.ref h] ⟨hx, hb, hml, hown, hts⟩ (c_X1_centred l y2 loud) (va_cwS 2 hts gX1_run_X1_centred rfl rfl rfl (by decide +kernel) ⟨Nat.le_of_ble_eq_true rfl, Nat.le_of_ble_eq_true rfl⟩) rfl hl.1 rfl (Nat.le_of_ble_eq_true rfl) dX1_run_50 ⟨Nat.zero_le _, Nat.zero_le _⟩ ?_
          refine lv_iconst (v := 0) hx hb dX1_run_53 (by decide) ?_
          refine bm_i [EO ob h t i kp] (LW cA h as s1) [] [.int (pf_ce y2 loud), .int 0] [] ⟨hx, hb, hml, hown, hts⟩ (c_X0_hearSpeech l D cA cZ cR h as s1 (pf_ce y2 loud) 0) (cwV 2 hts gX1_run_X0_hearSpeech rfl rfl rfl (by decide +kernel) ⟨Nat.le_of_ble_eq_true rfl, Nat.le_of_ble_eq_true rfl⟩) hE hP hD hS hA LW_adr 0 0 rfl rfl rfl hl.1 rfl (Nat.le_of_ble_eq_true rfl) dX1_run_54 ⟨Nat.zero_le _, Nat.zero_le _⟩ (fun H locs hP hD hS => ?_)
          have hP : va_P D vwCl ([EO ob h t i kp] ++ (LW cA h as (lf_hs s1 (pf_ce y2 loud) 0))) H := hP
          have hD : va_D A ([EO ob h t i kp] ++ (LW cA h as (lf_hs s1 (pf_ce y2 loud) 0))) := hD
          have hP : va_P D vwCl ([EO ob h t i kp] ++ (LW cA h as (lf_hs s1 (pf_ce y2 loud) 0))) H := hP
          have hD : va_D A ([EO ob h t i kp] ++ (LW cA h as (lf_hs s1 (pf_ce y2 loud) 0))) := hD
          obtain ⟨s2, es2⟩ : ∃ z : St, z = lf_hs s1 (pf_ce y2 loud) 0 := ⟨_, rfl⟩
          rw [← es2] at hP hD
          refine lv_pop hx hb dX1_run_57 rfl ?_
          refine lv_iload hx hb dX1_run_58 (lv_at hl 2 rfl) ?_
          refine lv_aload_n hx hb dX1_run_60 rfl (lv_at hl 6 rfl) ?_
          refine va_get (D := D) (ci := 1) (v := .ref h) (C := RX1) (T := TX1) (N := 4) hx hb hts iw_X1_run_X1 hown hE.1 hP 0 rfl rfl 0 (by decide) (hts (.fieldLink RX1 12 "EchoTaps" "line" "LEchoTaps$Line;") (by decide +kernel)) (fun _ h9 => h9) rfl dX1_run_61 ?_
          refine va_get (D := D) (ci := 0) (v := .ref (as 7)) (C := RX0) (T := TX0) (N := 11) hx hb hts iw_X1_run_X0 hown hE.1 hP 1 rfl rfl 7 (by decide) (hts (.fieldLink RX1 51 "EchoTaps$Line" "told" "[I") (by decide +kernel)) (fun _ h9 => h9) rfl dX1_run_64 ?_
          refine lv_iconst (v := 1) hx hb dX1_run_67 (by decide) ?_
          refine va_iald hx hb hE.1 hP 9 0 rfl rfl (vp_in_nI (n := 1) (N := 8) (by decide) (by decide)) dX1_run_68 ?_
          refine va_mabs hx hb (hml.trans hl.1.symm) hown (hts (.methodLink RX1 81 Lib.Math.abs.name) (by decide +kernel)) (hts (.static Lib.Math.abs.name) (by decide +kernel)) (hts (.initialized "java/lang/Math") (by decide +kernel)) (hts (.code Lib.Math.abs.name Lib.Math.abs.code 1 (some .int)) (by decide +kernel)) (Nat.le_of_ble_eq_true rfl) (Nat.le_of_ble_eq_true rfl) (Nat.zero_le _) (Nat.zero_le _) dX1_run_69 ?_
          refine lv_iadd hx hb dX1_run_72 ?_
          refine lv_istore (lv' := [(5, .int (a + (pf_ab ((s2 7) 1)))), (4, .int y2), (6, .int (nI k)), (3, .int loud), (2, .int (nI N)), (1, .int z), (0, .ref ob)]) hx hb dX1_run_73 hl (by decide) rfl (fun ls hl => ?_)
          refine lv_iinc (v := nI (k + 1)) (lv' := [(6, .int (nI (k + 1))), (5, .int (a + (pf_ab ((s2 7) 1)))), (4, .int y2), (3, .int loud), (2, .int (nI N)), (1, .int z), (0, .ref ob)]) hx hb dX1_run_75 hl (k := 2) rfl (nI_1 k) (by decide) rfl (fun ls hl => ?_)
          refine lv_goto (tgt := 30) hx hb dX1_run_78 (by decide) ?_
          rw [xr_sum, ← ey2, ← es2] at ha
          rw [xr_st, ← ey2, ← es2] at hs
          exact ih (k + 1) y2 s2 _ (by omega) ha hs H locs hP hD hS ls (lv_sub hl [0, 1, 2, 3, 4, 5, 6] rfl)
      exact loop N 0 z st 0 (by omega) rfl rfl H locs hP hD hS ls (lv_sub hl [0, 1, 2, 6, 5, 4, 3] rfl)
    · have c_2 : (pf_in n0 1 60) = 0 := c_2
      refine lv_bipush (v := (-2)) hx hb dX1_run_18 (by decide) ?_
      have e1 : xs_run st z n0 loud = st := if_pos (Or.inr c_2)
      exact hret _ _ _ _ _ (by rw [e1]; exact hP) ((if_pos (Or.inr c_2)).symm) hS dX1_run_20

abbrev rm_X1_likeness : Room := { frames := 2, cells := 0, slots := 0, locals := 44 }
theorem iw_X1_likeness_X1 : ∀ w ∈ wsX10, w ∈ wsX1_likeness := by decide +kernel
set_option maxRecDepth 100000 in
set_option maxHeartbeats 4000000 in
theorem c_X1_likeness (l : Launch) (D : va_G) (cA cZ cR : ClassId) (ob h t i : Nat) (kp : Int32) (as : Nat → Nat) (st : St) (d : Int32) : BMi l D cA cZ cR yX1_likeness wsX1_likeness rm_X1_likeness [.ref ob, .int d] ([EO ob h t i kp] ++ (LW cA h as st)) ([EO ob h t i kp] ++ (LW cA h as st)) (xf_like st d) := by
  refine bm_open (maxL := 2) (by decide) rfl rfl rfl (Nat.le_of_ble_eq_true rfl) ?_
  intro p e s m args below meth c A Q hx hb hml hts hown hE hP hD hA hS hret ls hl
  have hown : s.vm.findClass RX1 = some m.cls := hown
  have hl : lv_has ls 2 [(0, .ref ob), (1, .int d)] := hl
  obtain ⟨H, locs, eH, eL⟩ : ∃ (H : Heap) (locs : List Loc), H = s.heap ∧ locs = [] := ⟨_, _, rfl, rfl⟩
  rw [← eH, ← eL]
  rw [← eH] at hP
  have hS : va_S A s.heap H locs := by rw [eH, eL]; exact hS
  clear eH eL
  refine lv_iload_n hx hb dX1_likeness_0 rfl (lv_at hl 1 rfl) ?_
  refine lv_iconst (v := 0) hx hb dX1_likeness_1 (by decide) ?_
  refine lv_bipush (v := 15) hx hb dX1_likeness_2 (by decide) ?_
  refine sm_i [.int d, .int 0, .int 15] [] ⟨hx, hb, hml, hown, hts⟩ (c_X1_within l d 0 15) (va_cwS 3 hts gX1_likeness_X1_within rfl rfl rfl (by decide +kernel) ⟨Nat.le_of_ble_eq_true rfl, Nat.le_of_ble_eq_true rfl⟩) rfl hl.1 rfl (Nat.le_of_ble_eq_true rfl) dX1_likeness_4 ⟨Nat.zero_le _, Nat.zero_le _⟩ ?_
  refine lv_if_eq (tgt := 21) hx hb dX1_likeness_7 (by decide) (fun c_1 => ?_) (fun c_1 => ?_)
  · have c_1 : (pf_in d 0 15) = 0 := c_1
    refine lv_ldc (v := (-1000000002)) hx hb hown (hts (.constant RX1 34 (-1000000002)) (by decide +kernel)) dX1_likeness_21 ?_
    exact hret _ _ _ _ _ hP ((if_pos c_1).symm) hS dX1_likeness_23
  · have c_1 : ¬ (pf_in d 0 15) = 0 := c_1
    refine lv_aload_n hx hb dX1_likeness_10 rfl (lv_at hl 0 rfl) ?_
    refine va_get (D := D) (ci := 1) (v := .ref h) (C := RX1) (T := TX1) (N := 4) hx hb hts iw_X1_likeness_X1 hown hE.1 hP 0 rfl rfl 0 (by decide) (hts (.fieldLink RX1 12 "EchoTaps" "line" "LEchoTaps$Line;") (by decide +kernel)) (fun _ h9 => h9) rfl dX1_likeness_11 ?_
    refine lv_iload_n hx hb dX1_likeness_14 rfl (lv_at hl 1 rfl) ?_
    refine bm_i [EO ob h t i kp] (LW cA h as st) [] [.int d] [] ⟨hx, hb, hml, hown, hts⟩ (c_X0_likenessOf l D cA cZ cR h as st d) (cwV 1 hts gX1_likeness_X0_likenessOf rfl rfl rfl (by decide +kernel) ⟨Nat.le_of_ble_eq_true rfl, Nat.le_of_ble_eq_true rfl⟩) hE hP hD hS hA LW_adr 0 0 rfl rfl rfl hl.1 rfl (Nat.le_of_ble_eq_true rfl) dX1_likeness_15 ⟨Nat.zero_le _, Nat.zero_le _⟩ (fun H locs hP hD hS => ?_)
    have hP : va_P D vwCl ([EO ob h t i kp] ++ (LW cA h as st)) H := hP
    have hD : va_D A ([EO ob h t i kp] ++ (LW cA h as st)) := hD
    refine lv_goto (tgt := 23) hx hb dX1_likeness_18 (by decide) ?_
    exact hret _ _ _ _ _ hP ((if_neg c_1).symm) hS dX1_likeness_23

abbrev rm_X1_seek : Room := { frames := 2, cells := 0, slots := 0, locals := 44 }
theorem iw_X1_seek_X1 : ∀ w ∈ wsX10, w ∈ wsX1_seek := by decide +kernel
set_option maxRecDepth 100000 in
set_option maxHeartbeats 4000000 in
theorem c_X1_seek (l : Launch) (D : va_G) (cA cZ cR : ClassId) (ob h t i : Nat) (kp : Int32) (as : Nat → Nat) (st : St) : BMi l D cA cZ cR yX1_seek wsX1_seek rm_X1_seek [.ref ob] ([EO ob h t i kp] ++ (LW cA h as st)) ([EO ob h t i kp] ++ (LW cA h as (xs_seek st))) (xf_seek st) := by
  refine bm_open (maxL := 5) (by decide) rfl rfl rfl (Nat.le_of_ble_eq_true rfl) ?_
  intro p e s m args below meth c A Q hx hb hml hts hown hE hP hD hA hS hret ls hl
  have hown : s.vm.findClass RX1 = some m.cls := hown
  have hl : lv_has ls 5 [(0, .ref ob)] := hl
  obtain ⟨H, locs, eH, eL⟩ : ∃ (H : Heap) (locs : List Loc), H = s.heap ∧ locs = [] := ⟨_, _, rfl, rfl⟩
  rw [← eH, ← eL]
  rw [← eH] at hP
  have hS : va_S A s.heap H locs := by rw [eH, eL]; exact hS
  clear eH eL
  refine lv_iconst (v := 0) hx hb dX1_seek_0 (by decide) ?_
  refine lv_istore_n (lv' := [(1, .int 0), (0, .ref ob)]) hx hb dX1_seek_1 rfl hl (by decide) rfl (fun ls hl => ?_)
  refine lv_iconst (v := 0) hx hb dX1_seek_2 (by decide) ?_
  refine lv_istore_n (lv' := [(2, .int 0), (1, .int 0), (0, .ref ob)]) hx hb dX1_seek_3 rfl hl (by decide) rfl (fun ls hl => ?_)
  refine lv_iconst (v := 0) hx hb dX1_seek_4 (by decide) ?_
  refine lv_istore_n (lv' := [(3, .int 0), (2, .int 0), (1, .int 0), (0, .ref ob)]) hx hb dX1_seek_5 rfl hl (by decide) rfl (fun ls hl => ?_)
  have loop : ∀ (n : Nat) (k : Nat) (hk : k + n = 16), ∀ (H : Heap) (locs : List Loc), va_P D vwCl ([EO ob h t i kp] ++ (LW cA h as st)) H → va_D A ([EO ob h t i kp] ++ (LW cA h as st)) → va_S A s.heap H locs → ∀ ls : Array Slot, lv_has ls 5 [(3, .int (nI k)), (2, .int (sk_m st k)), (1, .int (sk_b st k)), (0, .ref ob)] → W p l e rm_X1_seek s m args below meth c H locs 0 0 Q (F0 m 6 ls []) := by
    intro n
    induction n with
    | zero =>
      intro k hk H locs hP hD hS ls hl
      obtain rfl : k = 16 := by omega
      refine lv_iload_n hx hb dX1_seek_6 rfl (lv_at hl 0 rfl) ?_
      refine lv_bipush (v := 15) hx hb dX1_seek_7 (by decide) ?_
      refine lv_icmp_gt (tgt := 42) hx hb dX1_seek_9 (by decide) (fun c_1 => ?_) (fun c_1 => absurd (by decide) c_1)
      refine lv_iload_n hx hb dX1_seek_42 rfl (lv_at hl 1 rfl) ?_
      refine lv_if_ne (tgt := 49) hx hb dX1_seek_43 (by decide) (fun c_2 => ?_) (fun c_2 => ?_)
      · have c_2 : ¬ (sk_m st 16) = 0 := c_2
        have e1 : xs_seek st = lf_anew st (sk_b st 16) := if_neg c_2
        refine lv_aload_n hx hb dX1_seek_49 rfl (lv_at hl 3 rfl) ?_
        refine va_get (D := D) (ci := 1) (v := .ref h) (C := RX1) (T := TX1) (N := 4) hx hb hts iw_X1_seek_X1 hown hE.1 hP 0 rfl rfl 0 (by decide) (hts (.fieldLink RX1 12 "EchoTaps" "line" "LEchoTaps$Line;") (by decide +kernel)) (fun _ h9 => h9) rfl dX1_seek_50 ?_
        refine lv_iload_n hx hb dX1_seek_53 rfl (lv_at hl 2 rfl) ?_
        refine bm_v [EO ob h t i kp] (LW cA h as st) [] [.int (sk_b st 16)] [] ⟨hx, hb, hml, hown, hts⟩ (c_X0_startAnew l D cA cZ cR h as st (sk_b st 16)) (cwV 1 hts gX1_seek_X0_startAnew rfl rfl rfl (by decide +kernel) ⟨Nat.le_of_ble_eq_true rfl, Nat.le_of_ble_eq_true rfl⟩) hE hP hD hS hA LW_adr 0 0 rfl rfl rfl hl.1 rfl (Nat.le_of_ble_eq_true rfl) dX1_seek_54 ⟨Nat.zero_le _, Nat.zero_le _⟩ (fun H locs hP hD hS => ?_)
        have hP : va_P D vwCl ([EO ob h t i kp] ++ (LW cA h as (lf_anew st (sk_b st 16)))) H := hP
        have hD : va_D A ([EO ob h t i kp] ++ (LW cA h as (lf_anew st (sk_b st 16)))) := hD
        refine lv_iload_n hx hb dX1_seek_57 rfl (lv_at hl 2 rfl) ?_
        exact hret _ _ _ _ _ (by rw [e1]; exact hP) ((if_neg c_2).symm) hS dX1_seek_58
      · have c_2 : (sk_m st 16) = 0 := c_2
        have e1 : xs_seek st = st := if_pos c_2
        refine lv_bipush (v := (-3)) hx hb dX1_seek_46 (by decide) ?_
        exact hret _ _ _ _ _ (by rw [e1]; exact hP) ((if_pos c_2).symm) hS dX1_seek_48
    | succ n ih =>
      intro k hk H locs hP hD hS ls hl
      refine lv_iload_n hx hb dX1_seek_6 rfl (lv_at hl 0 rfl) ?_
      refine lv_bipush (v := 15) hx hb dX1_seek_7 (by decide) ?_
      refine lv_icmp_gt (tgt := 42) hx hb dX1_seek_9 (by decide) (fun c_3 => absurd c_3 (nI_nlt (a := 15) (b := k) (by omega) (by decide))) (fun c_3 => ?_)
      refine lv_aload_n hx hb dX1_seek_12 rfl (lv_at hl 3 rfl) ?_
      refine va_get (D := D) (ci := 1) (v := .ref h) (C := RX1) (T := TX1) (N := 4) hx hb hts iw_X1_seek_X1 hown hE.1 hP 0 rfl rfl 0 (by decide) (hts (.fieldLink RX1 12 "EchoTaps" "line" "LEchoTaps$Line;") (by decide +kernel)) (fun _ h9 => h9) rfl dX1_seek_13 ?_
      refine lv_iload_n hx hb dX1_seek_16 rfl (lv_at hl 0 rfl) ?_
      refine bm_i [EO ob h t i kp] (LW cA h as st) [] [.int (nI k)] [] ⟨hx, hb, hml, hown, hts⟩ (c_X0_likenessOf l D cA cZ cR h as st (nI k)) (cwV 1 hts gX1_seek_X0_likenessOf rfl rfl rfl (by decide +kernel) ⟨Nat.le_of_ble_eq_true rfl, Nat.le_of_ble_eq_true rfl⟩) hE hP hD hS hA LW_adr 0 0 rfl rfl rfl hl.1 rfl (Nat.le_of_ble_eq_true rfl) dX1_seek_17 ⟨Nat.zero_le _, Nat.zero_le _⟩ (fun H locs hP hD hS => ?_)
      have hP : va_P D vwCl ([EO ob h t i kp] ++ (LW cA h as st)) H := hP
      have hD : va_D A ([EO ob h t i kp] ++ (LW cA h as st)) := hD
      refine va_mabs hx hb (hml.trans hl.1.symm) hown (hts (.methodLink RX1 81 Lib.Math.abs.name) (by decide +kernel)) (hts (.static Lib.Math.abs.name) (by decide +kernel)) (hts (.initialized "java/lang/Math") (by decide +kernel)) (hts (.code Lib.Math.abs.name Lib.Math.abs.code 1 (some .int)) (by decide +kernel)) (Nat.le_of_ble_eq_true rfl) (Nat.le_of_ble_eq_true rfl) (Nat.zero_le _) (Nat.zero_le _) dX1_seek_20 ?_
      refine lv_istore (lv' := [(4, .int (pf_ab (lf_like st (nI k)))), (3, .int (nI k)), (2, .int (sk_m st k)), (1, .int (sk_b st k)), (0, .ref ob)]) hx hb dX1_seek_23 hl (by decide) rfl (fun ls hl => ?_)
      refine lv_iload hx hb dX1_seek_25 (lv_at hl 0 rfl) ?_
      refine lv_iload_n hx hb dX1_seek_27 rfl (lv_at hl 2 rfl) ?_
      refine lv_icmp_le (tgt := 36) hx hb dX1_seek_28 (by decide) (fun c_4 => ?_) (fun c_4 => ?_)
      · have c_4 : (pf_ab (lf_like st (nI k))) ≤ (sk_m st k) := c_4
        refine lv_iinc (v := nI (k + 1)) (lv' := [(3, .int (nI (k + 1))), (4, .int (pf_ab (lf_like st (nI k)))), (2, .int (sk_m st k)), (1, .int (sk_b st k)), (0, .ref ob)]) hx hb dX1_seek_36 hl (k := 1) rfl (nI_1 k) (by decide) rfl (fun ls hl => ?_)
        refine lv_goto (tgt := 6) hx hb dX1_seek_39 (by decide) ?_
        have em : sk_m st (k + 1) = sk_m st k := if_pos c_4
        have eb : sk_b st (k + 1) = sk_b st k := if_pos c_4
        rw [← em, ← eb] at hl
        exact ih (k + 1) (by omega) H locs hP hD hS ls (lv_sub hl [0, 2, 3, 4] rfl)
      · have c_4 : ¬ (pf_ab (lf_like st (nI k))) ≤ (sk_m st k) := c_4
        have em : sk_m st (k + 1) = pf_ab (lf_like st (nI k)) := if_neg c_4
        have eb : sk_b st (k + 1) = nI k := if_neg c_4
        refine lv_iload hx hb dX1_seek_31 (lv_at hl 0 rfl) ?_
        refine lv_istore_n (lv' := [(2, .int (pf_ab (lf_like st (nI k)))), (4, .int (pf_ab (lf_like st (nI k)))), (3, .int (nI k)), (1, .int (sk_b st k)), (0, .ref ob)]) hx hb dX1_seek_33 rfl hl (by decide) rfl (fun ls hl => ?_)
        refine lv_iload_n hx hb dX1_seek_34 rfl (lv_at hl 2 rfl) ?_
        refine lv_istore_n (lv' := [(1, .int (nI k)), (2, .int (pf_ab (lf_like st (nI k)))), (4, .int (pf_ab (lf_like st (nI k)))), (3, .int (nI k)), (0, .ref ob)]) hx hb dX1_seek_35 rfl hl (by decide) rfl (fun ls hl => ?_)
        refine lv_iinc (v := nI (k + 1)) (lv' := [(3, .int (nI (k + 1))), (1, .int (nI k)), (2, .int (pf_ab (lf_like st (nI k)))), (4, .int (pf_ab (lf_like st (nI k)))), (0, .ref ob)]) hx hb dX1_seek_36 hl (k := 3) rfl (nI_1 k) (by decide) rfl (fun ls hl => ?_)
        refine lv_goto (tgt := 6) hx hb dX1_seek_39 (by decide) ?_
        exact ih (k + 1) (by omega) H locs hP hD hS ls (by rw [em, eb]; exact lv_sub hl [0, 2, 1, 4] rfl)
  exact loop 16 0 rfl H locs hP hD hS ls (lv_sub hl [0, 1, 2, 3] rfl)

abbrev rm_X1_gain : Room := { frames := 2, cells := 0, slots := 0, locals := 43 }
theorem iw_X1_gain_X1 : ∀ w ∈ wsX10, w ∈ wsX1_gain := by decide +kernel
set_option maxRecDepth 100000 in
set_option maxHeartbeats 4000000 in
theorem c_X1_gain (l : Launch) (D : va_G) (cA cZ cR : ClassId) (ob h t i : Nat) (kp : Int32) (as : Nat → Nat) (st : St) (k : Int32) : BMi l D cA cZ cR yX1_gain wsX1_gain rm_X1_gain [.ref ob, .int k] ([EO ob h t i kp] ++ (LW cA h as st)) ([EO ob h t i kp] ++ (LW cA h as st)) (xf_gain st k) := by
  refine bm_open (maxL := 5) (by decide) rfl rfl rfl (Nat.le_of_ble_eq_true rfl) ?_
  intro p e s m args below meth c A Q hx hb hml hts hown hE hP hD hA hS hret ls hl
  have hown : s.vm.findClass RX1 = some m.cls := hown
  have hl : lv_has ls 5 [(0, .ref ob), (1, .int k)] := hl
  obtain ⟨H, locs, eH, eL⟩ : ∃ (H : Heap) (locs : List Loc), H = s.heap ∧ locs = [] := ⟨_, _, rfl, rfl⟩
  rw [← eH, ← eL]
  rw [← eH] at hP
  have hS : va_S A s.heap H locs := by rw [eH, eL]; exact hS
  clear eH eL
  refine lv_iload_n hx hb dX1_gain_0 rfl (lv_at hl 1 rfl) ?_
  refine lv_iconst (v := 0) hx hb dX1_gain_1 (by decide) ?_
  refine lv_iconst (v := 1) hx hb dX1_gain_2 (by decide) ?_
  refine sm_i [.int k, .int 0, .int 1] [] ⟨hx, hb, hml, hown, hts⟩ (c_X1_within l k 0 1) (va_cwS 3 hts gX1_gain_X1_within rfl rfl rfl (by decide +kernel) ⟨Nat.le_of_ble_eq_true rfl, Nat.le_of_ble_eq_true rfl⟩) rfl hl.1 rfl (Nat.le_of_ble_eq_true rfl) dX1_gain_3 ⟨Nat.zero_le _, Nat.zero_le _⟩ ?_
  refine lv_if_ne (tgt := 12) hx hb dX1_gain_6 (by decide) (fun c_1 => ?_) (fun c_1 => ?_)
  · have c_1 : ¬ (pf_in k 0 1) = 0 := c_1
    refine lv_aload_n hx hb dX1_gain_12 rfl (lv_at hl 0 rfl) ?_
    refine va_get (D := D) (ci := 1) (v := .ref h) (C := RX1) (T := TX1) (N := 4) hx hb hts iw_X1_gain_X1 hown hE.1 hP 0 rfl rfl 0 (by decide) (hts (.fieldLink RX1 12 "EchoTaps" "line" "LEchoTaps$Line;") (by decide +kernel)) (fun _ h9 => h9) rfl dX1_gain_13 ?_
    refine bm_i [EO ob h t i kp] (LW cA h as st) [] [] [] ⟨hx, hb, hml, hown, hts⟩ (c_X0_nearSquares l D cA cZ cR h as st) (cwV 0 hts gX1_gain_X0_nearSquares rfl rfl rfl (by decide +kernel) ⟨Nat.le_of_ble_eq_true rfl, Nat.le_of_ble_eq_true rfl⟩) hE hP hD hS hA LW_adr 0 0 rfl rfl rfl hl.1 rfl (Nat.le_of_ble_eq_true rfl) dX1_gain_16 ⟨Nat.zero_le _, Nat.zero_le _⟩ (fun H locs hP hD hS => ?_)
    have hP : va_P D vwCl ([EO ob h t i kp] ++ (LW cA h as st)) H := hP
    have hD : va_D A ([EO ob h t i kp] ++ (LW cA h as st)) := hD
    refine lv_istore_n (lv' := [(2, .int (lf_nsq st)), (0, .ref ob), (1, .int k)]) hx hb dX1_gain_19 rfl hl (by decide) rfl (fun ls hl => ?_)
    refine lv_aload_n hx hb dX1_gain_20 rfl (lv_at hl 1 rfl) ?_
    refine va_get (D := D) (ci := 1) (v := .ref h) (C := RX1) (T := TX1) (N := 4) hx hb hts iw_X1_gain_X1 hown hE.1 hP 0 rfl rfl 0 (by decide) (hts (.fieldLink RX1 12 "EchoTaps" "line" "LEchoTaps$Line;") (by decide +kernel)) (fun _ h9 => h9) rfl dX1_gain_21 ?_
    refine bm_i [EO ob h t i kp] (LW cA h as st) [] [] [] ⟨hx, hb, hml, hown, hts⟩ (c_X0_outSquares l D cA cZ cR h as st) (cwV 0 hts gX1_gain_X0_outSquares rfl rfl rfl (by decide +kernel) ⟨Nat.le_of_ble_eq_true rfl, Nat.le_of_ble_eq_true rfl⟩) hE hP hD hS hA LW_adr 0 0 rfl rfl rfl hl.1 rfl (Nat.le_of_ble_eq_true rfl) dX1_gain_24 ⟨Nat.zero_le _, Nat.zero_le _⟩ (fun H locs hP hD hS => ?_)
    have hP : va_P D vwCl ([EO ob h t i kp] ++ (LW cA h as st)) H := hP
    have hD : va_D A ([EO ob h t i kp] ++ (LW cA h as st)) := hD
    refine lv_istore_n (lv' := [(3, .int (lf_osq st)), (2, .int (lf_nsq st)), (0, .ref ob), (1, .int k)]) hx hb dX1_gain_27 rfl hl (by decide) rfl (fun ls hl => ?_)
    refine lv_iload_n hx hb dX1_gain_28 rfl (lv_at hl 1 rfl) ?_
    refine lv_iload_n hx hb dX1_gain_29 rfl (lv_at hl 0 rfl) ?_
    refine sm_i [.int (lf_nsq st), .int (lf_osq st)] [] ⟨hx, hb, hml, hown, hts⟩ (c_X1_greatestDivisor l (lf_nsq st) (lf_osq st)) (va_cwS 2 hts gX1_gain_X1_greatestDivisor rfl rfl rfl (by decide +kernel) ⟨Nat.le_of_ble_eq_true rfl, Nat.le_of_ble_eq_true rfl⟩) rfl hl.1 rfl (Nat.le_of_ble_eq_true rfl) dX1_gain_30 ⟨Nat.zero_le _, Nat.zero_le _⟩ ?_
    refine lv_istore (lv' := [(4, .int (pf_gd 64 (lf_nsq st) (lf_osq st))), (3, .int (lf_osq st)), (2, .int (lf_nsq st)), (0, .ref ob), (1, .int k)]) hx hb dX1_gain_33 hl (by decide) rfl (fun ls hl => ?_)
    refine lv_iload_n hx hb dX1_gain_35 rfl (lv_at hl 1 rfl) ?_
    refine lv_if_eq (tgt := 44) hx hb dX1_gain_36 (by decide) (fun c_2 => ?_) (fun c_2 => ?_)
    · have c_2 : (lf_osq st) = 0 := c_2
      refine lv_bipush (v := (-3)) hx hb dX1_gain_44 (by decide) ?_
      exact hret _ _ _ _ _ hP (by rw [xf_gain, if_neg c_1, if_pos (Or.inl c_2)]) hS dX1_gain_46
    · have c_2 : ¬ (lf_osq st) = 0 := c_2
      refine lv_iload hx hb dX1_gain_39 (lv_at hl 0 rfl) ?_
      refine lv_if_ne (tgt := 47) hx hb dX1_gain_41 (by decide) (fun c_3 => ?_) (fun c_3 => ?_)
      · have c_3 : ¬ (pf_gd 64 (lf_nsq st) (lf_osq st)) = 0 := c_3
        refine lv_iload_n hx hb dX1_gain_47 rfl (lv_at hl 4 rfl) ?_
        have j56 :  W p l e rm_X1_gain s m args below meth c H locs 0 0 Q (F0 m 56 ls [.int (if k = 0 then lf_nsq st else lf_osq st)]) := by
          refine lv_iload hx hb dX1_gain_56 (lv_at hl 0 rfl) ?_
          refine lv_idiv hx hb dX1_gain_58 c_3 ?_
          exact hret _ _ _ _ _ hP (by rw [xf_gain, if_neg c_1, if_neg (show ¬ (lf_osq st = 0 ∨ pf_gd 64 (lf_nsq st) (lf_osq st) = 0) from fun q => q.elim c_2 c_3)]) hS dX1_gain_59
        refine lv_if_ne (tgt := 55) hx hb dX1_gain_48 (by decide) (fun c_4 => ?_) (fun c_4 => ?_)
        · have c_4 : ¬ k = 0 := c_4
          refine lv_iload_n hx hb dX1_gain_55 rfl (lv_at hl 1 rfl) ?_
          rw [if_neg c_4] at j56
          exact j56
        · have c_4 : k = 0 := c_4
          refine lv_iload_n hx hb dX1_gain_51 rfl (lv_at hl 2 rfl) ?_
          refine lv_goto (tgt := 56) hx hb dX1_gain_52 (by decide) ?_
          rw [if_pos c_4] at j56
          exact j56
      · have c_3 : (pf_gd 64 (lf_nsq st) (lf_osq st)) = 0 := c_3
        refine lv_bipush (v := (-3)) hx hb dX1_gain_44 (by decide) ?_
        exact hret _ _ _ _ _ hP (by rw [xf_gain, if_neg c_1, if_pos (Or.inr c_3)]) hS dX1_gain_46
  · have c_1 : (pf_in k 0 1) = 0 := c_1
    refine lv_bipush (v := (-2)) hx hb dX1_gain_9 (by decide) ?_
    exact hret _ _ _ _ _ hP ((if_pos c_1).symm) hS dX1_gain_11

abbrev rm_X1_began : Room := { frames := 2, cells := 0, slots := 0, locals := 46 }
theorem iw_X1_began_X1 : ∀ w ∈ wsX10, w ∈ wsX1_began := by decide +kernel
set_option maxRecDepth 100000 in
set_option maxHeartbeats 4000000 in
theorem c_X1_began (l : Launch) (D : va_G) (cA cZ cR : ClassId) (ob h t i : Nat) (kp : Int32) (as : Nat → Nat) (st : St) (i0 k : Int32) : BMi l D cA cZ cR yX1_began wsX1_began rm_X1_began [.ref ob, .int i0, .int k] ([EO ob h t i kp] ++ (LW cA h as st)) ([EO ob h t i kp] ++ (LW cA h as st)) (xf_began st i0 k) := by
  refine bm_open (maxL := 3) (by decide) rfl rfl rfl (Nat.le_of_ble_eq_true rfl) ?_
  intro p e s m args below meth c A Q hx hb hml hts hown hE hP hD hA hS hret ls hl
  have hown : s.vm.findClass RX1 = some m.cls := hown
  have hl : lv_has ls 3 [(0, .ref ob), (1, .int i0), (2, .int k)] := hl
  obtain ⟨H, locs, eH, eL⟩ : ∃ (H : Heap) (locs : List Loc), H = s.heap ∧ locs = [] := ⟨_, _, rfl, rfl⟩
  rw [← eH, ← eL]
  rw [← eH] at hP
  have hS : va_S A s.heap H locs := by rw [eH, eL]; exact hS
  clear eH eL
  refine lv_iload_n hx hb dX1_began_0 rfl (lv_at hl 2 rfl) ?_
  refine lv_iconst (v := 0) hx hb dX1_began_1 (by decide) ?_
  refine lv_iconst (v := 1) hx hb dX1_began_2 (by decide) ?_
  refine sm_i [.int k, .int 0, .int 1] [] ⟨hx, hb, hml, hown, hts⟩ (c_X1_within l k 0 1) (va_cwS 3 hts gX1_began_X1_within rfl rfl rfl (by decide +kernel) ⟨Nat.le_of_ble_eq_true rfl, Nat.le_of_ble_eq_true rfl⟩) rfl hl.1 rfl (Nat.le_of_ble_eq_true rfl) dX1_began_3 ⟨Nat.zero_le _, Nat.zero_le _⟩ ?_
  refine lv_if_ne (tgt := 12) hx hb dX1_began_6 (by decide) (fun c_1 => ?_) (fun c_1 => ?_)
  · have c_1 : ¬ (pf_in k 0 1) = 0 := c_1
    refine lv_aload_n hx hb dX1_began_12 rfl (lv_at hl 0 rfl) ?_
    refine va_get (D := D) (ci := 1) (v := .ref h) (C := RX1) (T := TX1) (N := 4) hx hb hts iw_X1_began_X1 hown hE.1 hP 0 rfl rfl 0 (by decide) (hts (.fieldLink RX1 12 "EchoTaps" "line" "LEchoTaps$Line;") (by decide +kernel)) (fun _ h9 => h9) rfl dX1_began_13 ?_
    refine lv_iload_n hx hb dX1_began_16 rfl (lv_at hl 1 rfl) ?_
    refine lv_iload_n hx hb dX1_began_17 rfl (lv_at hl 2 rfl) ?_
    have j26 :  W p l e rm_X1_began s m args below meth c H locs 0 0 Q (F0 m 26 ls [.int (if k = 0 then 1 else 2), .int i0, .ref h]) := by
      refine bm_i [EO ob h t i kp] (LW cA h as st) [] [.int i0, .int (if k = 0 then 1 else 2)] [] ⟨hx, hb, hml, hown, hts⟩ (c_X0_beginning l D cA cZ cR h as st i0 (if k = 0 then 1 else 2)) (cwV 2 hts gX1_began_X0_beginning rfl rfl rfl (by decide +kernel) ⟨Nat.le_of_ble_eq_true rfl, Nat.le_of_ble_eq_true rfl⟩) hE hP hD hS hA LW_adr 0 0 rfl rfl rfl hl.1 rfl (Nat.le_of_ble_eq_true rfl) dX1_began_26 ⟨Nat.zero_le _, Nat.zero_le _⟩ (fun H locs hP hD hS => ?_)
      have hP : va_P D vwCl ([EO ob h t i kp] ++ (LW cA h as st)) H := hP
      have hD : va_D A ([EO ob h t i kp] ++ (LW cA h as st)) := hD
      exact hret _ _ _ _ _ hP (by rw [xf_began, if_neg c_1]) hS dX1_began_29
    refine lv_if_ne (tgt := 25) hx hb dX1_began_18 (by decide) (fun c_2 => ?_) (fun c_2 => ?_)
    · have c_2 : ¬ k = 0 := c_2
      refine lv_iconst (v := 2) hx hb dX1_began_25 (by decide) ?_
      rw [if_neg c_2] at j26
      exact j26
    · have c_2 : k = 0 := c_2
      refine lv_iconst (v := 1) hx hb dX1_began_21 (by decide) ?_
      refine lv_goto (tgt := 26) hx hb dX1_began_22 (by decide) ?_
      rw [if_pos c_2] at j26
      exact j26
  · have c_1 : (pf_in k 0 1) = 0 := c_1
    refine lv_bipush (v := (-2)) hx hb dX1_began_9 (by decide) ?_
    exact hret _ _ _ _ _ hP ((if_pos c_1).symm) hS dX1_began_11

abbrev rm_X1_count : Room := { frames := 2, cells := 0, slots := 0, locals := 36 }
theorem iw_X1_count_X0 : ∀ w ∈ wsX00, w ∈ wsX1_count := by decide +kernel
theorem iw_X1_count_X1 : ∀ w ∈ wsX10, w ∈ wsX1_count := by decide +kernel
set_option maxRecDepth 100000 in
set_option maxHeartbeats 4000000 in
theorem c_X1_count (l : Launch) (D : va_G) (cA cZ cR : ClassId) (ob h t i : Nat) (kp : Int32) (as : Nat → Nat) (st : St) (k : Int32) : BMi l D cA cZ cR yX1_count wsX1_count rm_X1_count [.ref ob, .int k] ([EO ob h t i kp] ++ (LW cA h as st)) ([EO ob h t i kp] ++ (LW cA h as st)) (xf_count st kp k) := by
  refine bm_open (maxL := 2) (by decide) rfl rfl rfl (Nat.le_of_ble_eq_true rfl) ?_
  intro p e s m args below meth c A Q hx hb hml hts hown hE hP hD hA hS hret ls hl
  have hown : s.vm.findClass RX1 = some m.cls := hown
  have hl : lv_has ls 2 [(0, .ref ob), (1, .int k)] := hl
  obtain ⟨H, locs, eH, eL⟩ : ∃ (H : Heap) (locs : List Loc), H = s.heap ∧ locs = [] := ⟨_, _, rfl, rfl⟩
  rw [← eH, ← eL]
  rw [← eH] at hP
  have hS : va_S A s.heap H locs := by rw [eH, eL]; exact hS
  clear eH eL
  refine lv_iload_n hx hb dX1_count_0 rfl (lv_at hl 1 rfl) ?_
  refine lv_bipush (v := 10) hx hb dX1_count_1 (by decide) ?_
  refine lv_bipush (v := 14) hx hb dX1_count_3 (by decide) ?_
  refine sm_i [.int k, .int 10, .int 14] [] ⟨hx, hb, hml, hown, hts⟩ (c_X1_within l k 10 14) (va_cwS 3 hts gX1_count_X1_within rfl rfl rfl (by decide +kernel) ⟨Nat.le_of_ble_eq_true rfl, Nat.le_of_ble_eq_true rfl⟩) rfl hl.1 rfl (Nat.le_of_ble_eq_true rfl) dX1_count_5 ⟨Nat.zero_le _, Nat.zero_le _⟩ ?_
  refine lv_if_eq (tgt := 24) hx hb dX1_count_8 (by decide) (fun c_1 => ?_) (fun c_1 => ?_)
  · have c_1 : (pf_in k 10 14) = 0 := c_1
    refine lv_iload_n hx hb dX1_count_24 rfl (lv_at hl 1 rfl) ?_
    by_cases h0 : k = 0
    · refine lv_tableIn (tgt := 64) hx hb dX1_count_25 (by rw [h0]; decide) (by rw [h0]; decide) (by rw [h0]; rfl) (by decide) ?_
      refine lv_aload_n hx hb dX1_count_64 rfl (lv_at hl 0 rfl) ?_
      refine va_get (D := D) (ci := 1) (v := .ref h) (C := RX1) (T := TX1) (N := 4) hx hb hts iw_X1_count_X1 hown hE.1 hP 0 rfl rfl 0 (by decide) (hts (.fieldLink RX1 12 "EchoTaps" "line" "LEchoTaps$Line;") (by decide +kernel)) (fun _ h9 => h9) rfl dX1_count_65 ?_
      refine va_get (D := D) (ci := 0) (v := .int (st 8 0)) (C := RX0) (T := TX0) (N := 11) hx hb hts iw_X1_count_X0 hown hE.1 hP 1 rfl rfl 8 (by decide) (hts (.fieldLink RX1 46 "EchoTaps$Line" "ticks" "I") (by decide +kernel)) (fun _ h9 => h9) rfl dX1_count_68 ?_
      exact hret _ _ _ _ _ hP (by rw [xf_count, if_neg (not_not_intro c_1), if_pos h0] <;> rfl) hS dX1_count_71
    by_cases h1 : k = 1
    · refine lv_tableIn (tgt := 72) hx hb dX1_count_25 (by rw [h1]; decide) (by rw [h1]; decide) (by rw [h1]; rfl) (by decide) ?_
      refine lv_aload_n hx hb dX1_count_72 rfl (lv_at hl 0 rfl) ?_
      refine va_get (D := D) (ci := 1) (v := .ref h) (C := RX1) (T := TX1) (N := 4) hx hb hts iw_X1_count_X1 hown hE.1 hP 0 rfl rfl 0 (by decide) (hts (.fieldLink RX1 12 "EchoTaps" "line" "LEchoTaps$Line;") (by decide +kernel)) (fun _ h9 => h9) rfl dX1_count_73 ?_
      refine va_get (D := D) (ci := 0) (v := .int (st 8 1)) (C := RX0) (T := TX0) (N := 11) hx hb hts iw_X1_count_X0 hown hE.1 hP 1 rfl rfl 9 (by decide) (hts (.fieldLink RX1 112 "EchoTaps$Line" "hold" "I") (by decide +kernel)) (fun _ h9 => h9) rfl dX1_count_76 ?_
      exact hret _ _ _ _ _ hP (by rw [xf_count, if_neg (not_not_intro c_1), if_neg h0, if_pos h1] <;> rfl) hS dX1_count_79
    by_cases h2 : k = 2
    · refine lv_tableIn (tgt := 80) hx hb dX1_count_25 (by rw [h2]; decide) (by rw [h2]; decide) (by rw [h2]; rfl) (by decide) ?_
      refine lv_aload_n hx hb dX1_count_80 rfl (lv_at hl 0 rfl) ?_
      refine va_get (D := D) (ci := 1) (v := .ref h) (C := RX1) (T := TX1) (N := 4) hx hb hts iw_X1_count_X1 hown hE.1 hP 0 rfl rfl 0 (by decide) (hts (.fieldLink RX1 12 "EchoTaps" "line" "LEchoTaps$Line;") (by decide +kernel)) (fun _ h9 => h9) rfl dX1_count_81 ?_
      refine va_get (D := D) (ci := 0) (v := .int (st 8 2)) (C := RX0) (T := TX0) (N := 11) hx hb hts iw_X1_count_X0 hown hE.1 hP 1 rfl rfl 10 (by decide) (hts (.fieldLink RX1 115 "EchoTaps$Line" "seed" "I") (by decide +kernel)) (fun _ h9 => h9) rfl dX1_count_84 ?_
      exact hret _ _ _ _ _ hP (by rw [xf_count, if_neg (not_not_intro c_1), if_neg h0, if_neg h1, if_pos h2] <;> rfl) hS dX1_count_87
    by_cases h3 : k = 3
    · refine lv_tableIn (tgt := 88) hx hb dX1_count_25 (by rw [h3]; decide) (by rw [h3]; decide) (by rw [h3]; rfl) (by decide) ?_
      refine lv_aload_n hx hb dX1_count_88 rfl (lv_at hl 0 rfl) ?_
      refine va_get (D := D) (ci := 1) (v := .ref h) (C := RX1) (T := TX1) (N := 4) hx hb hts iw_X1_count_X1 hown hE.1 hP 0 rfl rfl 0 (by decide) (hts (.fieldLink RX1 12 "EchoTaps" "line" "LEchoTaps$Line;") (by decide +kernel)) (fun _ h9 => h9) rfl dX1_count_89 ?_
      refine bm_i [EO ob h t i kp] (LW cA h as st) [] [] [] ⟨hx, hb, hml, hown, hts⟩ (c_X0_tapSizes l D cA cZ cR h as st) (cwV 0 hts gX1_count_X0_tapSizes rfl rfl rfl (by decide +kernel) ⟨Nat.le_of_ble_eq_true rfl, Nat.le_of_ble_eq_true rfl⟩) hE hP hD hS hA LW_adr 0 0 rfl rfl rfl hl.1 rfl (Nat.le_of_ble_eq_true rfl) dX1_count_92 ⟨Nat.zero_le _, Nat.zero_le _⟩ (fun H locs hP hD hS => ?_)
      have hP : va_P D vwCl ([EO ob h t i kp] ++ (LW cA h as st)) H := hP
      have hD : va_D A ([EO ob h t i kp] ++ (LW cA h as st)) := hD
      exact hret _ _ _ _ _ hP (by rw [xf_count, if_neg (not_not_intro c_1), if_neg h0, if_neg h1, if_neg h2, if_pos h3] <;> rfl) hS dX1_count_95
    by_cases h4 : k = 4
    · refine lv_tableIn (tgt := 96) hx hb dX1_count_25 (by rw [h4]; decide) (by rw [h4]; decide) (by rw [h4]; rfl) (by decide) ?_
      refine lv_aload_n hx hb dX1_count_96 rfl (lv_at hl 0 rfl) ?_
      refine va_get (D := D) (ci := 1) (v := .ref h) (C := RX1) (T := TX1) (N := 4) hx hb hts iw_X1_count_X1 hown hE.1 hP 0 rfl rfl 0 (by decide) (hts (.fieldLink RX1 12 "EchoTaps" "line" "LEchoTaps$Line;") (by decide +kernel)) (fun _ h9 => h9) rfl dX1_count_97 ?_
      refine va_get (D := D) (ci := 0) (v := .ref (as 2)) (C := RX0) (T := TX0) (N := 11) hx hb hts iw_X1_count_X0 hown hE.1 hP 1 rfl rfl 2 (by decide) (hts (.fieldLink RX1 64 "EchoTaps$Line" "way" "[I") (by decide +kernel)) (fun _ h9 => h9) rfl dX1_count_100 ?_
      refine lv_bipush (v := 8) hx hb dX1_count_103 (by decide) ?_
      refine va_iald hx hb hE.1 hP 4 0 rfl rfl (vp_in_nI (n := 8) (N := 9) (by decide) (by decide)) dX1_count_105 ?_
      exact hret _ _ _ _ _ hP (by rw [xf_count, if_neg (not_not_intro c_1), if_neg h0, if_neg h1, if_neg h2, if_neg h3, if_pos h4] <;> rfl) hS dX1_count_106
    by_cases h5 : k = 5
    · refine lv_tableIn (tgt := 107) hx hb dX1_count_25 (by rw [h5]; decide) (by rw [h5]; decide) (by rw [h5]; rfl) (by decide) ?_
      refine lv_aload_n hx hb dX1_count_107 rfl (lv_at hl 0 rfl) ?_
      refine va_get (D := D) (ci := 1) (v := .int kp) (C := RX1) (T := TX1) (N := 4) hx hb hts iw_X1_count_X1 hown hE.1 hP 0 rfl rfl 3 (by decide) (hts (.fieldLink RX1 109 "EchoTaps" "kept" "I") (by decide +kernel)) (fun _ h9 => h9) rfl dX1_count_108 ?_
      exact hret _ _ _ _ _ hP (by rw [xf_count, if_neg (not_not_intro c_1), if_neg h0, if_neg h1, if_neg h2, if_neg h3, if_neg h4, if_pos h5] <;> rfl) hS dX1_count_111
    refine lv_tableOut (tgt := 112) hx hb dX1_count_25 (sw5 h0 h1 h2 h3 h4 h5) (by decide) ?_
    refine lv_bipush (v := (-2)) hx hb dX1_count_112 (by decide) ?_
    exact hret _ _ _ _ _ hP (by rw [xf_count, if_neg (not_not_intro c_1), if_neg h0, if_neg h1, if_neg h2, if_neg h3, if_neg h4, if_neg h5]) hS dX1_count_114
  · have c_1 : ¬ (pf_in k 10 14) = 0 := c_1
    refine lv_aload_n hx hb dX1_count_11 rfl (lv_at hl 0 rfl) ?_
    refine va_get (D := D) (ci := 1) (v := .ref h) (C := RX1) (T := TX1) (N := 4) hx hb hts iw_X1_count_X1 hown hE.1 hP 0 rfl rfl 0 (by decide) (hts (.fieldLink RX1 12 "EchoTaps" "line" "LEchoTaps$Line;") (by decide +kernel)) (fun _ h9 => h9) rfl dX1_count_12 ?_
    refine va_get (D := D) (ci := 0) (v := .ref (as 0)) (C := RX0) (T := TX0) (N := 11) hx hb hts iw_X1_count_X0 hown hE.1 hP 1 rfl rfl 0 (by decide) (hts (.fieldLink RX1 31 "EchoTaps$Line" "rules" "[I") (by decide +kernel)) (fun _ h9 => h9) rfl dX1_count_15 ?_
    refine lv_iload_n hx hb dX1_count_18 rfl (lv_at hl 1 rfl) ?_
    refine lv_bipush (v := 10) hx hb dX1_count_19 (by decide) ?_
    refine lv_isub hx hb dX1_count_21 ?_
    refine va_iald hx hb hE.1 hP 2 0 rfl rfl (in_cnt c_1) dX1_count_22 ?_
    exact hret _ _ _ _ _ hP ((if_pos c_1).symm) hS dX1_count_23
