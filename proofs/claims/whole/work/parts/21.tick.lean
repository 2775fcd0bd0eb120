theorem DL.of {g g' : Fn} (e : g' 4 = g 4) (h : DL g) : DL g' := by unfold DL; rw [e]; exact h
theorem LG.of {g g' : Fn} (e : g' 21 = g 21) (h : LG g) : LG g' := by unfold LG; rw [e]; exact h
theorem mf_sh_out {g : Fn} {R M j : Nat} {v : Int32} (h : j < R ∨ R + M ≤ j) (hM : 1 ≤ M) : mf_sh g R M v j = g j := by
  unfold mf_sh
  rw [pk_un (by omega), mf_sk, if_neg (by omega)]
theorem mf_hold_out {g : Fn} {j : Nat} (h : j ≠ 22) : mf_hold g j = g j := by
  unfold mf_hold
  split
  · split
    · rfl
    · exact pk_un h
  · exact pk_un h
theorem mf_os_out {g : Fn} {j : Nat} (h : j ≠ 23) : mf_os g j = g j := by
  unfold mf_os mf_nos
  split
  · split
    · rfl
    · exact pk_un h
  · rfl
theorem mf_learn_out {g : Fn} {j : Nat} (h : j < 5 ∨ 13 ≤ j) : mf_learn g j = g j := mf_ln_out g 8 (by decide) j h
def mf_lr (g : Fn) : Int32 := if ¬ g 22 = 0 then 0 else if ¬ g 31 = 0 then 0 else if g 29 ≤ 0 then 0 else 1
def mf_bt (x : Int32) : Int32 := if x ≤ 0 then 0 else 1
def mf_tk (near loud : Int32) : Int32 := if 2 * pf_sz near ≤ loud then 0 else 1
def mf_lq (g : Fn) (lr : Int32) : Fn := if lr = 0 then g else mf_learn g
def mf_tick (g : Fn) (far near : Int32) : Fn :=
  let g1 := mf_sh g 33 40 far
  let g2 := mf_sh g1 73 40 near
  let g3 := upd g2 24 (g2 24 + 1)
  let g4 := upd g3 25 (mf_est g3)
  let g5 := upd g4 26 (near - g4 25)
  let g6 := upd g5 28 (mf_loud g5)
  let g7 := upd g6 29 (mf_pow g6)
  let g8 := upd g7 30 (mf_tk near (g7 28))
  let g9 := mf_hold g8
  let ga := upd g9 31 (nI (mf_tone g9))
  let gb := upd ga 32 (lf_b1 (mf_lr ga))
  let gc := mf_lq gb (mf_lr ga)
  let gd := upd (mf_os gc) 27 (mf_or gc)
  let ge := mf_sh gd 113 40 (gd 27)
  let gf := mf_sh ge 153 201 (ge 30)
  mf_sh gf 354 201 (mf_bt (gf 31))
theorem mf_tick_spec (g : Fn) (far near : Int32) : ∃ g1 g2 g3 g4 g5 g6 g7 g8 g9 ga gb gc gd ge gf : Fn, g1 = mf_sh g 33 40 far ∧ g2 = mf_sh g1 73 40 near ∧ g3 = upd g2 24 (g2 24 + 1) ∧ g4 = upd g3 25 (mf_est g3) ∧ g5 = upd g4 26 (near - g4 25) ∧ g6 = upd g5 28 (mf_loud g5) ∧ g7 = upd g6 29 (mf_pow g6) ∧ g8 = upd g7 30 (mf_tk near (g7 28)) ∧ g9 = mf_hold g8 ∧ ga = upd g9 31 (nI (mf_tone g9)) ∧ gb = upd ga 32 (lf_b1 (mf_lr ga)) ∧ gc = mf_lq gb (mf_lr ga) ∧ gd = upd (mf_os gc) 27 (mf_or gc) ∧ ge = mf_sh gd 113 40 (gd 27) ∧ gf = mf_sh ge 153 201 (ge 30) ∧ mf_tick g far near = mf_sh gf 354 201 (mf_bt (gf 31)) :=
  ⟨_, _, _, _, _, _, _, _, _, _, _, _, _, _, _, rfl, rfl, rfl, rfl, rfl, rfl, rfl, rfl, rfl, rfl, rfl, rfl, rfl, rfl, rfl, rfl⟩
theorem mf_lq_out {g : Fn} {lr : Int32} {j : Nat} (h : j < 5 ∨ 13 ≤ j) : mf_lq g lr j = g j := by
  unfold mf_lq
  split
  · rfl
  · exact mf_learn_out h
/-- what a TICK leaves -/
theorem mf_tick_out (g : Fn) (far near : Int32) {j : Nat} (h : j < 5 ∨ (13 ≤ j ∧ j < 22)) : mf_tick g far near j = g j := by
  obtain ⟨g1, g2, g3, g4, g5, g6, g7, g8, g9, ga, gb, gc, gd, ge, gf, e1, e2, e3, e4, e5, e6, e7, e8, e9, ea, eb, ec, ed, ee, ef, et⟩ := mf_tick_spec g far near
  rw [et, mf_sh_out (by omega) (by decide), ef, mf_sh_out (by omega) (by decide), ee, mf_sh_out (by omega) (by decide), ed, pk_un (by omega), mf_os_out (by omega), ec, mf_lq_out (by omega), eb, pk_un (by omega), ea, pk_un (by omega), e9, mf_hold_out (by omega), e8, pk_un (by omega), e7, pk_un (by omega), e6, pk_un (by omega), e5, pk_un (by omega), e4, pk_un (by omega), e3, pk_un (by omega), e2, mf_sh_out (by omega) (by decide), e1, mf_sh_out (by omega) (by decide)]
def mf_spk (g : Fn) (far v : Int32) : Fn := mf_tick g far (pf_cl (mf_echo g far + v) (-2000) 2000)
theorem mf_lr_p {g : Fn} (h : ¬ mf_lr g = 0) : 0 < g 29 := by
  unfold mf_lr at h
  split at h
  · exact absurd rfl h
  · split at h
    · exact absurd rfl h
    · split at h
      · exact absurd rfl h
      · rename_i q; exact Int32.not_le.mp q
abbrev rm_X2_tickOf : Room := { frames := 3, cells := 0, slots := 0, locals := 60 }
theorem iw_X2_tickOf_X2 : ∀ w ∈ wsX20, w ∈ wsX2_tickOf := by decide +kernel
set_option maxRecDepth 100000 in
set_option maxHeartbeats 4000000 in
theorem c_X2_tickOf (l : Launch) (D : va_G) (cA cZ cR : ClassId) (h : Nat) (as : Nat → Nat) (g im kp : Fn) (far near : Int32) (hd : DL g) : BMi l D cA cZ cR yX2_tickOf wsX2_tickOf rm_X2_tickOf [.ref h, .int far, .int near] (MW cA cZ h as g im kp) (MW cA cZ h as (mf_tick g far near) im kp) (mf_tick g far near 27) := by
  refine bm_open (maxL := 4) (by decide) rfl rfl rfl (Nat.le_of_ble_eq_true rfl) ?_
  intro p e s m args below meth c A Q hx hb hml hts hown hE hP hD hA hS hret ls hl
  have hown : s.vm.findClass RX2 = some m.cls := hown
  have hl : lv_has ls 4 [(0, .ref h), (1, .int far), (2, .int near)] := hl
  obtain ⟨H, locs, eH, eL⟩ : ∃ (H : Heap) (locs : List Loc), H = s.heap ∧ locs = [] := ⟨_, _, rfl, rfl⟩
  rw [← eH, ← eL]
  rw [← eH] at hP
  have hS : va_S A s.heap H locs := by rw [eH, eL]; exact hS
  clear eH eL
  refine lv_aload_n hx hb dX2_tickOf_0 rfl (lv_at hl 0 rfl) ?_
  refine lv_bipush (v := 33) hx hb dX2_tickOf_1 (by decide) ?_
  refine lv_bipush (v := 40) hx hb dX2_tickOf_3 (by decide) ?_
  refine lv_iload_n hx hb dX2_tickOf_5 rfl (lv_at hl 1 rfl) ?_
  refine bm_v [] (MW cA cZ h as g im kp) [] [.int 33, .int 40, .int far] [] ⟨hx, hb, hml, hown, hts⟩ (c_X2_shift l D cA cZ cR h as g im kp 33 40 far (by decide) (by decide)) (cwV 3 hts gX2_tickOf_X2_shift rfl rfl rfl (by decide +kernel) ⟨Nat.le_of_ble_eq_true rfl, Nat.le_of_ble_eq_true rfl⟩) hE hP hD hS hA MW_adr 0 2 rfl rfl rfl hl.1 rfl (Nat.le_of_ble_eq_true rfl) dX2_tickOf_6 ⟨Nat.zero_le _, Nat.zero_le _⟩ (fun H locs hP hD hS => ?_)
  have hP : va_P D vwCl (MW cA cZ h as (mf_sh g 33 40 far) im kp) H := hP
  have hD : va_D A (MW cA cZ h as (mf_sh g 33 40 far) im kp) := hD
  have hP : va_P D vwCl (MW cA cZ h as (mf_sh g 33 40 far) im kp) H := hP
  have hD : va_D A (MW cA cZ h as (mf_sh g 33 40 far) im kp) := hD
  obtain ⟨g1, eg1⟩ : ∃ z : Fn, z = mf_sh g 33 40 far := ⟨_, rfl⟩
  rw [← eg1] at hP hD
  have hd : DL g1 := DL.of (by rw [eg1]; exact mf_sh_out (Or.inl (by decide)) (by decide)) hd
  refine lv_aload_n hx hb dX2_tickOf_9 rfl (lv_at hl 0 rfl) ?_
  refine lv_bipush (v := 73) hx hb dX2_tickOf_10 (by decide) ?_
  refine lv_bipush (v := 40) hx hb dX2_tickOf_12 (by decide) ?_
  refine lv_iload_n hx hb dX2_tickOf_14 rfl (lv_at hl 2 rfl) ?_
  refine bm_v [] (MW cA cZ h as g1 im kp) [] [.int 73, .int 40, .int near] [] ⟨hx, hb, hml, hown, hts⟩ (c_X2_shift l D cA cZ cR h as g1 im kp 73 40 near (by decide) (by decide)) (cwV 3 hts gX2_tickOf_X2_shift rfl rfl rfl (by decide +kernel) ⟨Nat.le_of_ble_eq_true rfl, Nat.le_of_ble_eq_true rfl⟩) hE hP hD hS hA MW_adr 0 2 rfl rfl rfl hl.1 rfl (Nat.le_of_ble_eq_true rfl) dX2_tickOf_15 ⟨Nat.zero_le _, Nat.zero_le _⟩ (fun H locs hP hD hS => ?_)
  have hP : va_P D vwCl (MW cA cZ h as (mf_sh g1 73 40 near) im kp) H := hP
  have hD : va_D A (MW cA cZ h as (mf_sh g1 73 40 near) im kp) := hD
  have hP : va_P D vwCl (MW cA cZ h as (mf_sh g1 73 40 near) im kp) H := hP
  have hD : va_D A (MW cA cZ h as (mf_sh g1 73 40 near) im kp) := hD
  obtain ⟨g2, eg2⟩ : ∃ z : Fn, z = mf_sh g1 73 40 near := ⟨_, rfl⟩
  rw [← eg2] at hP hD
  have hd : DL g2 := DL.of (by rw [eg2]; exact mf_sh_out (Or.inl (by decide)) (by decide)) hd
  refine lv_aload_n hx hb dX2_tickOf_18 rfl (lv_at hl 0 rfl) ?_
  refine va_get (D := D) (ci := 2) (v := .ref (as 0)) (C := RX2) (T := TX2) (N := 3) hx hb hts iw_X2_tickOf_X2 hown hE.1 hP 0 rfl rfl 0 (by decide) (hts (.fieldLink RX2 7 "EchoTapsModel" "state" "[I") (by decide +kernel)) (fun _ h9 => h9) rfl dX2_tickOf_19 ?_
  refine lv_bipush (v := 24) hx hb dX2_tickOf_22 (by decide) ?_
  refine lv_dup2_11 hx hb dX2_tickOf_24 rfl rfl ?_
  refine va_iald hx hb hE.1 hP 1 0 rfl rfl (vp_in_nI (n := 24) (N := 555) (by decide) (by decide)) dX2_tickOf_25 ?_
  refine lv_iconst (v := 1) hx hb dX2_tickOf_26 (by decide) ?_
  refine lv_iadd hx hb dX2_tickOf_27 ?_
  refine va_iast hx hb hE.1 hP hD hS 1 0 rfl rfl (vp_in_nI (n := 24) (N := 555) (by decide) (by decide)) dX2_tickOf_28 (fun H locs hP hD hS => ?_)
  have hP : va_P D vwCl (MW cA cZ h as (upd g2 24 ((g2 24) + 1)) im kp) H := hP
  have hD : va_D A (MW cA cZ h as (upd g2 24 ((g2 24) + 1)) im kp) := hD
  have hP : va_P D vwCl (MW cA cZ h as (upd g2 24 (g2 24 + 1)) im kp) H := hP
  have hD : va_D A (MW cA cZ h as (upd g2 24 (g2 24 + 1)) im kp) := hD
  obtain ⟨g3, eg3⟩ : ∃ z : Fn, z = upd g2 24 (g2 24 + 1) := ⟨_, rfl⟩
  rw [← eg3] at hP hD
  have hd : DL g3 := DL.of (by rw [eg3]; exact pk_un (by decide)) hd
  refine lv_aload_n hx hb dX2_tickOf_29 rfl (lv_at hl 0 rfl) ?_
  refine va_get (D := D) (ci := 2) (v := .ref (as 0)) (C := RX2) (T := TX2) (N := 3) hx hb hts iw_X2_tickOf_X2 hown hE.1 hP 0 rfl rfl 0 (by decide) (hts (.fieldLink RX2 7 "EchoTapsModel" "state" "[I") (by decide +kernel)) (fun _ h9 => h9) rfl dX2_tickOf_30 ?_
  refine lv_bipush (v := 25) hx hb dX2_tickOf_33 (by decide) ?_
  refine lv_aload_n hx hb dX2_tickOf_35 rfl (lv_at hl 0 rfl) ?_
  refine bm_i [] (MW cA cZ h as g3 im kp) [] [] [.int 25, .ref (as 0)] ⟨hx, hb, hml, hown, hts⟩ (c_X2_estimate l D cA cZ cR h as g3 im kp hd) (cwV 0 hts gX2_tickOf_X2_estimate rfl rfl rfl (by decide +kernel) ⟨Nat.le_of_ble_eq_true rfl, Nat.le_of_ble_eq_true rfl⟩) hE hP hD hS hA MW_adr 0 2 rfl rfl rfl hl.1 rfl (Nat.le_of_ble_eq_true rfl) dX2_tickOf_36 ⟨Nat.zero_le _, Nat.zero_le _⟩ (fun H locs hP hD hS => ?_)
  have hP : va_P D vwCl (MW cA cZ h as g3 im kp) H := hP
  have hD : va_D A (MW cA cZ h as g3 im kp) := hD
  refine va_iast hx hb hE.1 hP hD hS 1 0 rfl rfl (vp_in_nI (n := 25) (N := 555) (by decide) (by decide)) dX2_tickOf_39 (fun H locs hP hD hS => ?_)
  have hP : va_P D vwCl (MW cA cZ h as (upd g3 25 (mf_est g3)) im kp) H := hP
  have hD : va_D A (MW cA cZ h as (upd g3 25 (mf_est g3)) im kp) := hD
  have hP : va_P D vwCl (MW cA cZ h as (upd g3 25 (mf_est g3)) im kp) H := hP
  have hD : va_D A (MW cA cZ h as (upd g3 25 (mf_est g3)) im kp) := hD
  obtain ⟨g4, eg4⟩ : ∃ z : Fn, z = upd g3 25 (mf_est g3) := ⟨_, rfl⟩
  rw [← eg4] at hP hD
  have hd : DL g4 := DL.of (by rw [eg4]; exact pk_un (by decide)) hd
  refine lv_aload_n hx hb dX2_tickOf_40 rfl (lv_at hl 0 rfl) ?_
  refine va_get (D := D) (ci := 2) (v := .ref (as 0)) (C := RX2) (T := TX2) (N := 3) hx hb hts iw_X2_tickOf_X2 hown hE.1 hP 0 rfl rfl 0 (by decide) (hts (.fieldLink RX2 7 "EchoTapsModel" "state" "[I") (by decide +kernel)) (fun _ h9 => h9) rfl dX2_tickOf_41 ?_
  refine lv_bipush (v := 26) hx hb dX2_tickOf_44 (by decide) ?_
  refine lv_iload_n hx hb dX2_tickOf_46 rfl (lv_at hl 2 rfl) ?_
  refine lv_aload_n hx hb dX2_tickOf_47 rfl (lv_at hl 0 rfl) ?_
  refine va_get (D := D) (ci := 2) (v := .ref (as 0)) (C := RX2) (T := TX2) (N := 3) hx hb hts iw_X2_tickOf_X2 hown hE.1 hP 0 rfl rfl 0 (by decide) (hts (.fieldLink RX2 7 "EchoTapsModel" "state" "[I") (by decide +kernel)) (fun _ h9 => h9) rfl dX2_tickOf_48 ?_
  refine lv_bipush (v := 25) hx hb dX2_tickOf_51 (by decide) ?_
  refine va_iald hx hb hE.1 hP 1 0 rfl rfl (vp_in_nI (n := 25) (N := 555) (by decide) (by decide)) dX2_tickOf_53 ?_
  refine lv_isub hx hb dX2_tickOf_54 ?_
  refine va_iast hx hb hE.1 hP hD hS 1 0 rfl rfl (vp_in_nI (n := 26) (N := 555) (by decide) (by decide)) dX2_tickOf_55 (fun H locs hP hD hS => ?_)
  have hP : va_P D vwCl (MW cA cZ h as (upd g4 26 (near - (g4 25))) im kp) H := hP
  have hD : va_D A (MW cA cZ h as (upd g4 26 (near - (g4 25))) im kp) := hD
  have hP : va_P D vwCl (MW cA cZ h as (upd g4 26 (near - g4 25)) im kp) H := hP
  have hD : va_D A (MW cA cZ h as (upd g4 26 (near - g4 25)) im kp) := hD
  obtain ⟨g5, eg5⟩ : ∃ z : Fn, z = upd g4 26 (near - g4 25) := ⟨_, rfl⟩
  rw [← eg5] at hP hD
  have hd : DL g5 := DL.of (by rw [eg5]; exact pk_un (by decide)) hd
  refine lv_aload_n hx hb dX2_tickOf_56 rfl (lv_at hl 0 rfl) ?_
  refine va_get (D := D) (ci := 2) (v := .ref (as 0)) (C := RX2) (T := TX2) (N := 3) hx hb hts iw_X2_tickOf_X2 hown hE.1 hP 0 rfl rfl 0 (by decide) (hts (.fieldLink RX2 7 "EchoTapsModel" "state" "[I") (by decide +kernel)) (fun _ h9 => h9) rfl dX2_tickOf_57 ?_
  refine lv_bipush (v := 28) hx hb dX2_tickOf_60 (by decide) ?_
  refine lv_aload_n hx hb dX2_tickOf_62 rfl (lv_at hl 0 rfl) ?_
  refine bm_i [] (MW cA cZ h as g5 im kp) [] [] [.int 28, .ref (as 0)] ⟨hx, hb, hml, hown, hts⟩ (c_X2_loud l D cA cZ cR h as g5 im kp) (cwV 0 hts gX2_tickOf_X2_loud rfl rfl rfl (by decide +kernel) ⟨Nat.le_of_ble_eq_true rfl, Nat.le_of_ble_eq_true rfl⟩) hE hP hD hS hA MW_adr 0 2 rfl rfl rfl hl.1 rfl (Nat.le_of_ble_eq_true rfl) dX2_tickOf_63 ⟨Nat.zero_le _, Nat.zero_le _⟩ (fun H locs hP hD hS => ?_)
  have hP : va_P D vwCl (MW cA cZ h as g5 im kp) H := hP
  have hD : va_D A (MW cA cZ h as g5 im kp) := hD
  refine va_iast hx hb hE.1 hP hD hS 1 0 rfl rfl (vp_in_nI (n := 28) (N := 555) (by decide) (by decide)) dX2_tickOf_66 (fun H locs hP hD hS => ?_)
  have hP : va_P D vwCl (MW cA cZ h as (upd g5 28 (mf_loud g5)) im kp) H := hP
  have hD : va_D A (MW cA cZ h as (upd g5 28 (mf_loud g5)) im kp) := hD
  have hP : va_P D vwCl (MW cA cZ h as (upd g5 28 (mf_loud g5)) im kp) H := hP
  have hD : va_D A (MW cA cZ h as (upd g5 28 (mf_loud g5)) im kp) := hD
  obtain ⟨g6, eg6⟩ : ∃ z : Fn, z = upd g5 28 (mf_loud g5) := ⟨_, rfl⟩
  rw [← eg6] at hP hD
  have hd : DL g6 := DL.of (by rw [eg6]; exact pk_un (by decide)) hd
  refine lv_aload_n hx hb dX2_tickOf_67 rfl (lv_at hl 0 rfl) ?_
  refine va_get (D := D) (ci := 2) (v := .ref (as 0)) (C := RX2) (T := TX2) (N := 3) hx hb hts iw_X2_tickOf_X2 hown hE.1 hP 0 rfl rfl 0 (by decide) (hts (.fieldLink RX2 7 "EchoTapsModel" "state" "[I") (by decide +kernel)) (fun _ h9 => h9) rfl dX2_tickOf_68 ?_
  refine lv_bipush (v := 29) hx hb dX2_tickOf_71 (by decide) ?_
  refine lv_aload_n hx hb dX2_tickOf_73 rfl (lv_at hl 0 rfl) ?_
  refine bm_i [] (MW cA cZ h as g6 im kp) [] [] [.int 29, .ref (as 0)] ⟨hx, hb, hml, hown, hts⟩ (c_X2_power l D cA cZ cR h as g6 im kp hd) (cwV 0 hts gX2_tickOf_X2_power rfl rfl rfl (by decide +kernel) ⟨Nat.le_of_ble_eq_true rfl, Nat.le_of_ble_eq_true rfl⟩) hE hP hD hS hA MW_adr 0 2 rfl rfl rfl hl.1 rfl (Nat.le_of_ble_eq_true rfl) dX2_tickOf_74 ⟨Nat.zero_le _, Nat.zero_le _⟩ (fun H locs hP hD hS => ?_)
  have hP : va_P D vwCl (MW cA cZ h as g6 im kp) H := hP
  have hD : va_D A (MW cA cZ h as g6 im kp) := hD
  refine va_iast hx hb hE.1 hP hD hS 1 0 rfl rfl (vp_in_nI (n := 29) (N := 555) (by decide) (by decide)) dX2_tickOf_77 (fun H locs hP hD hS => ?_)
  have hP : va_P D vwCl (MW cA cZ h as (upd g6 29 (mf_pow g6)) im kp) H := hP
  have hD : va_D A (MW cA cZ h as (upd g6 29 (mf_pow g6)) im kp) := hD
  have hP : va_P D vwCl (MW cA cZ h as (upd g6 29 (mf_pow g6)) im kp) H := hP
  have hD : va_D A (MW cA cZ h as (upd g6 29 (mf_pow g6)) im kp) := hD
  obtain ⟨g7, eg7⟩ : ∃ z : Fn, z = upd g6 29 (mf_pow g6) := ⟨_, rfl⟩
  rw [← eg7] at hP hD
  have hd : DL g7 := DL.of (by rw [eg7]; exact pk_un (by decide)) hd
  refine lv_aload_n hx hb dX2_tickOf_78 rfl (lv_at hl 0 rfl) ?_
  refine va_get (D := D) (ci := 2) (v := .ref (as 0)) (C := RX2) (T := TX2) (N := 3) hx hb hts iw_X2_tickOf_X2 hown hE.1 hP 0 rfl rfl 0 (by decide) (hts (.fieldLink RX2 7 "EchoTapsModel" "state" "[I") (by decide +kernel)) (fun _ h9 => h9) rfl dX2_tickOf_79 ?_
  refine lv_bipush (v := 30) hx hb dX2_tickOf_82 (by decide) ?_
  refine lv_iconst (v := 2) hx hb dX2_tickOf_84 (by decide) ?_
  refine lv_iload_n hx hb dX2_tickOf_85 rfl (lv_at hl 2 rfl) ?_
  refine sm_i [.int near] [.int 2, .int 30, .ref (as 0)] ⟨hx, hb, hml, hown, hts⟩ (c_X2_size l near) (va_cwS 1 hts gX2_tickOf_X2_size rfl rfl rfl (by decide +kernel) ⟨Nat.le_of_ble_eq_true rfl, Nat.le_of_ble_eq_true rfl⟩) rfl hl.1 rfl (Nat.le_of_ble_eq_true rfl) dX2_tickOf_86 ⟨Nat.zero_le _, Nat.zero_le _⟩ ?_
  refine lv_imul hx hb dX2_tickOf_89 ?_
  refine lv_aload_n hx hb dX2_tickOf_90 rfl (lv_at hl 0 rfl) ?_
  refine va_get (D := D) (ci := 2) (v := .ref (as 0)) (C := RX2) (T := TX2) (N := 3) hx hb hts iw_X2_tickOf_X2 hown hE.1 hP 0 rfl rfl 0 (by decide) (hts (.fieldLink RX2 7 "EchoTapsModel" "state" "[I") (by decide +kernel)) (fun _ h9 => h9) rfl dX2_tickOf_91 ?_
  refine lv_bipush (v := 28) hx hb dX2_tickOf_94 (by decide) ?_
  refine va_iald hx hb hE.1 hP 1 0 rfl rfl (vp_in_nI (n := 28) (N := 555) (by decide) (by decide)) dX2_tickOf_96 ?_
  have j105 : ∀ (tk : Int32) (etk : tk = mf_tk near (g7 28)), W p l e rm_X2_tickOf s m args below meth c H locs 0 0 Q (F0 m 105 ls [.int tk, .int 30, .ref (as 0)]) := by
    intro tk etk
    refine va_iast hx hb hE.1 hP hD hS 1 0 rfl rfl (vp_in_nI (n := 30) (N := 555) (by decide) (by decide)) dX2_tickOf_105 (fun H locs hP hD hS => ?_)
    have hP : va_P D vwCl (MW cA cZ h as (upd g7 30 tk) im kp) H := hP
    have hD : va_D A (MW cA cZ h as (upd g7 30 tk) im kp) := hD
    have hP : va_P D vwCl (MW cA cZ h as (upd g7 30 tk) im kp) H := hP
    have hD : va_D A (MW cA cZ h as (upd g7 30 tk) im kp) := hD
    obtain ⟨g8, eg8⟩ : ∃ z : Fn, z = upd g7 30 tk := ⟨_, rfl⟩
    rw [← eg8] at hP hD
    have hd : DL g8 := DL.of (by rw [eg8]; exact pk_un (by decide)) hd
    refine lv_aload_n hx hb dX2_tickOf_106 rfl (lv_at hl 0 rfl) ?_
    refine bm_v [] (MW cA cZ h as g8 im kp) [] [] [] ⟨hx, hb, hml, hown, hts⟩ (c_X2_hold l D cA cZ cR h as g8 im kp) (cwV 0 hts gX2_tickOf_X2_hold rfl rfl rfl (by decide +kernel) ⟨Nat.le_of_ble_eq_true rfl, Nat.le_of_ble_eq_true rfl⟩) hE hP hD hS hA MW_adr 0 2 rfl rfl rfl hl.1 rfl (Nat.le_of_ble_eq_true rfl) dX2_tickOf_107 ⟨Nat.zero_le _, Nat.zero_le _⟩ (fun H locs hP hD hS => ?_)
    have hP : va_P D vwCl (MW cA cZ h as (mf_hold g8) im kp) H := hP
    have hD : va_D A (MW cA cZ h as (mf_hold g8) im kp) := hD
    have hP : va_P D vwCl (MW cA cZ h as (mf_hold g8) im kp) H := hP
    have hD : va_D A (MW cA cZ h as (mf_hold g8) im kp) := hD
    obtain ⟨g9, eg9⟩ : ∃ z : Fn, z = mf_hold g8 := ⟨_, rfl⟩
    rw [← eg9] at hP hD
    have hd : DL g9 := DL.of (by rw [eg9]; exact mf_hold_out (by decide)) hd
    refine lv_aload_n hx hb dX2_tickOf_110 rfl (lv_at hl 0 rfl) ?_
    refine va_get (D := D) (ci := 2) (v := .ref (as 0)) (C := RX2) (T := TX2) (N := 3) hx hb hts iw_X2_tickOf_X2 hown hE.1 hP 0 rfl rfl 0 (by decide) (hts (.fieldLink RX2 7 "EchoTapsModel" "state" "[I") (by decide +kernel)) (fun _ h9 => h9) rfl dX2_tickOf_111 ?_
    refine lv_bipush (v := 31) hx hb dX2_tickOf_114 (by decide) ?_
    refine lv_aload_n hx hb dX2_tickOf_116 rfl (lv_at hl 0 rfl) ?_
    refine bm_i [] (MW cA cZ h as g9 im kp) [] [] [.int 31, .ref (as 0)] ⟨hx, hb, hml, hown, hts⟩ (c_X2_tone l D cA cZ cR h as g9 im kp) (cwV 0 hts gX2_tickOf_X2_tone rfl rfl rfl (by decide +kernel) ⟨Nat.le_of_ble_eq_true rfl, Nat.le_of_ble_eq_true rfl⟩) hE hP hD hS hA MW_adr 0 2 rfl rfl rfl hl.1 rfl (Nat.le_of_ble_eq_true rfl) dX2_tickOf_117 ⟨Nat.zero_le _, Nat.zero_le _⟩ (fun H locs hP hD hS => ?_)
    have hP : va_P D vwCl (MW cA cZ h as g9 im kp) H := hP
    have hD : va_D A (MW cA cZ h as g9 im kp) := hD
    refine va_iast hx hb hE.1 hP hD hS 1 0 rfl rfl (vp_in_nI (n := 31) (N := 555) (by decide) (by decide)) dX2_tickOf_120 (fun H locs hP hD hS => ?_)
    have hP : va_P D vwCl (MW cA cZ h as (upd g9 31 (nI (mf_tone g9))) im kp) H := hP
    have hD : va_D A (MW cA cZ h as (upd g9 31 (nI (mf_tone g9))) im kp) := hD
    have hP : va_P D vwCl (MW cA cZ h as (upd g9 31 (nI (mf_tone g9))) im kp) H := hP
    have hD : va_D A (MW cA cZ h as (upd g9 31 (nI (mf_tone g9))) im kp) := hD
    obtain ⟨ga, ega⟩ : ∃ z : Fn, z = upd g9 31 (nI (mf_tone g9)) := ⟨_, rfl⟩
    rw [← ega] at hP hD
    have hd : DL ga := DL.of (by rw [ega]; exact pk_un (by decide)) hd
    refine lv_aload_n hx hb dX2_tickOf_121 rfl (lv_at hl 0 rfl) ?_
    refine va_get (D := D) (ci := 2) (v := .ref (as 0)) (C := RX2) (T := TX2) (N := 3) hx hb hts iw_X2_tickOf_X2 hown hE.1 hP 0 rfl rfl 0 (by decide) (hts (.fieldLink RX2 7 "EchoTapsModel" "state" "[I") (by decide +kernel)) (fun _ h9 => h9) rfl dX2_tickOf_122 ?_
    refine lv_bipush (v := 22) hx hb dX2_tickOf_125 (by decide) ?_
    refine va_iald hx hb hE.1 hP 1 0 rfl rfl (vp_in_nI (n := 22) (N := 555) (by decide) (by decide)) dX2_tickOf_127 ?_
    have j156 : ∀ (lr : Int32) (elr : lr = mf_lr ga), W p l e rm_X2_tickOf s m args below meth c H locs 0 0 Q (F0 m 156 ls [.int lr]) := by
      intro lr elr
      refine lv_istore_n (lv' := [(3, .int lr), (0, .ref h), (1, .int far), (2, .int near)]) hx hb dX2_tickOf_156 rfl hl (by decide) rfl (fun ls hl => ?_)
      refine lv_aload_n hx hb dX2_tickOf_157 rfl (lv_at hl 1 rfl) ?_
      refine va_get (D := D) (ci := 2) (v := .ref (as 0)) (C := RX2) (T := TX2) (N := 3) hx hb hts iw_X2_tickOf_X2 hown hE.1 hP 0 rfl rfl 0 (by decide) (hts (.fieldLink RX2 7 "EchoTapsModel" "state" "[I") (by decide +kernel)) (fun _ h9 => h9) rfl dX2_tickOf_158 ?_
      refine lv_bipush (v := 32) hx hb dX2_tickOf_161 (by decide) ?_
      refine lv_iload_n hx hb dX2_tickOf_163 rfl (lv_at hl 0 rfl) ?_
      have j172 : ∀ (b1 : Int32) (eb1 : b1 = lf_b1 lr), W p l e rm_X2_tickOf s m args below meth c H locs 0 0 Q (F0 m 172 ls [.int b1, .int 32, .ref (as 0)]) := by
        intro b1 eb1
        refine va_iast hx hb hE.1 hP hD hS 1 0 rfl rfl (vp_in_nI (n := 32) (N := 555) (by decide) (by decide)) dX2_tickOf_172 (fun H locs hP hD hS => ?_)
        have hP : va_P D vwCl (MW cA cZ h as (upd ga 32 b1) im kp) H := hP
        have hD : va_D A (MW cA cZ h as (upd ga 32 b1) im kp) := hD
        have hP : va_P D vwCl (MW cA cZ h as (upd ga 32 b1) im kp) H := hP
        have hD : va_D A (MW cA cZ h as (upd ga 32 b1) im kp) := hD
        obtain ⟨gb, egb⟩ : ∃ z : Fn, z = upd ga 32 b1 := ⟨_, rfl⟩
        rw [← egb] at hP hD
        have hd : DL gb := DL.of (by rw [egb]; exact pk_un (by decide)) hd
        refine lv_iload_n hx hb dX2_tickOf_173 rfl (lv_at hl 0 rfl) ?_
        have j181 : ∀ (gc : Fn) (egc : gc = mf_lq gb lr), ∀ (H : Heap) (locs : List Loc), va_P D vwCl (MW cA cZ h as gc im kp) H → va_D A (MW cA cZ h as gc im kp) → va_S A s.heap H locs → W p l e rm_X2_tickOf s m args below meth c H locs 0 0 Q (F0 m 181 ls []) := by
          intro gc egc H locs hP hD hS
          refine lv_aload_n hx hb dX2_tickOf_181 rfl (lv_at hl 1 rfl) ?_
          refine va_get (D := D) (ci := 2) (v := .ref (as 0)) (C := RX2) (T := TX2) (N := 3) hx hb hts iw_X2_tickOf_X2 hown hE.1 hP 0 rfl rfl 0 (by decide) (hts (.fieldLink RX2 7 "EchoTapsModel" "state" "[I") (by decide +kernel)) (fun _ h9 => h9) rfl dX2_tickOf_182 ?_
          refine lv_bipush (v := 27) hx hb dX2_tickOf_185 (by decide) ?_
          refine lv_aload_n hx hb dX2_tickOf_187 rfl (lv_at hl 1 rfl) ?_
          refine bm_i [] (MW cA cZ h as gc im kp) [] [] [.int 27, .ref (as 0)] ⟨hx, hb, hml, hown, hts⟩ (c_X2_outNow l D cA cZ cR h as gc im kp) (cwV 0 hts gX2_tickOf_X2_outNow rfl rfl rfl (by decide +kernel) ⟨Nat.le_of_ble_eq_true rfl, Nat.le_of_ble_eq_true rfl⟩) hE hP hD hS hA MW_adr 0 2 rfl rfl rfl hl.1 rfl (Nat.le_of_ble_eq_true rfl) dX2_tickOf_188 ⟨Nat.zero_le _, Nat.zero_le _⟩ (fun H locs hP hD hS => ?_)
          have hP : va_P D vwCl (MW cA cZ h as (mf_os gc) im kp) H := hP
          have hD : va_D A (MW cA cZ h as (mf_os gc) im kp) := hD
          refine va_iast hx hb hE.1 hP hD hS 1 0 rfl rfl (vp_in_nI (n := 27) (N := 555) (by decide) (by decide)) dX2_tickOf_191 (fun H locs hP hD hS => ?_)
          have hP : va_P D vwCl (MW cA cZ h as (upd (mf_os gc) 27 (mf_or gc)) im kp) H := hP
          have hD : va_D A (MW cA cZ h as (upd (mf_os gc) 27 (mf_or gc)) im kp) := hD
          have hP : va_P D vwCl (MW cA cZ h as (upd (mf_os gc) 27 (mf_or gc)) im kp) H := hP
          have hD : va_D A (MW cA cZ h as (upd (mf_os gc) 27 (mf_or gc)) im kp) := hD
          obtain ⟨gd, egd⟩ : ∃ z : Fn, z = upd (mf_os gc) 27 (mf_or gc) := ⟨_, rfl⟩
          rw [← egd] at hP hD
          refine lv_aload_n hx hb dX2_tickOf_192 rfl (lv_at hl 1 rfl) ?_
          refine lv_bipush (v := 113) hx hb dX2_tickOf_193 (by decide) ?_
          refine lv_bipush (v := 40) hx hb dX2_tickOf_195 (by decide) ?_
          refine lv_aload_n hx hb dX2_tickOf_197 rfl (lv_at hl 1 rfl) ?_
          refine va_get (D := D) (ci := 2) (v := .ref (as 0)) (C := RX2) (T := TX2) (N := 3) hx hb hts iw_X2_tickOf_X2 hown hE.1 hP 0 rfl rfl 0 (by decide) (hts (.fieldLink RX2 7 "EchoTapsModel" "state" "[I") (by decide +kernel)) (fun _ h9 => h9) rfl dX2_tickOf_198 ?_
          refine lv_bipush (v := 27) hx hb dX2_tickOf_201 (by decide) ?_
          refine va_iald hx hb hE.1 hP 1 0 rfl rfl (vp_in_nI (n := 27) (N := 555) (by decide) (by decide)) dX2_tickOf_203 ?_
          refine bm_v [] (MW cA cZ h as gd im kp) [] [.int 113, .int 40, .int (gd 27)] [] ⟨hx, hb, hml, hown, hts⟩ (c_X2_shift l D cA cZ cR h as gd im kp 113 40 (gd 27) (by decide) (by decide)) (cwV 3 hts gX2_tickOf_X2_shift rfl rfl rfl (by decide +kernel) ⟨Nat.le_of_ble_eq_true rfl, Nat.le_of_ble_eq_true rfl⟩) hE hP hD hS hA MW_adr 0 2 rfl rfl rfl hl.1 rfl (Nat.le_of_ble_eq_true rfl) dX2_tickOf_204 ⟨Nat.zero_le _, Nat.zero_le _⟩ (fun H locs hP hD hS => ?_)
          have hP : va_P D vwCl (MW cA cZ h as (mf_sh gd 113 40 (gd 27)) im kp) H := hP
          have hD : va_D A (MW cA cZ h as (mf_sh gd 113 40 (gd 27)) im kp) := hD
          have hP : va_P D vwCl (MW cA cZ h as (mf_sh gd 113 40 (gd 27)) im kp) H := hP
          have hD : va_D A (MW cA cZ h as (mf_sh gd 113 40 (gd 27)) im kp) := hD
          obtain ⟨ge, ege⟩ : ∃ z : Fn, z = mf_sh gd 113 40 (gd 27) := ⟨_, rfl⟩
          rw [← ege] at hP hD
          refine lv_aload_n hx hb dX2_tickOf_207 rfl (lv_at hl 1 rfl) ?_
          refine lv_sipush (v := 153) hx hb dX2_tickOf_208 (by decide) ?_
          refine lv_sipush (v := 201) hx hb dX2_tickOf_211 (by decide) ?_
          refine lv_aload_n hx hb dX2_tickOf_214 rfl (lv_at hl 1 rfl) ?_
          refine va_get (D := D) (ci := 2) (v := .ref (as 0)) (C := RX2) (T := TX2) (N := 3) hx hb hts iw_X2_tickOf_X2 hown hE.1 hP 0 rfl rfl 0 (by decide) (hts (.fieldLink RX2 7 "EchoTapsModel" "state" "[I") (by decide +kernel)) (fun _ h9 => h9) rfl dX2_tickOf_215 ?_
          refine lv_bipush (v := 30) hx hb dX2_tickOf_218 (by decide) ?_
          refine va_iald hx hb hE.1 hP 1 0 rfl rfl (vp_in_nI (n := 30) (N := 555) (by decide) (by decide)) dX2_tickOf_220 ?_
          refine bm_v [] (MW cA cZ h as ge im kp) [] [.int 153, .int 201, .int (ge 30)] [] ⟨hx, hb, hml, hown, hts⟩ (c_X2_shift l D cA cZ cR h as ge im kp 153 201 (ge 30) (by decide) (by decide)) (cwV 3 hts gX2_tickOf_X2_shift rfl rfl rfl (by decide +kernel) ⟨Nat.le_of_ble_eq_true rfl, Nat.le_of_ble_eq_true rfl⟩) hE hP hD hS hA MW_adr 0 2 rfl rfl rfl hl.1 rfl (Nat.le_of_ble_eq_true rfl) dX2_tickOf_221 ⟨Nat.zero_le _, Nat.zero_le _⟩ (fun H locs hP hD hS => ?_)
          have hP : va_P D vwCl (MW cA cZ h as (mf_sh ge 153 201 (ge 30)) im kp) H := hP
          have hD : va_D A (MW cA cZ h as (mf_sh ge 153 201 (ge 30)) im kp) := hD
          have hP : va_P D vwCl (MW cA cZ h as (mf_sh ge 153 201 (ge 30)) im kp) H := hP
          have hD : va_D A (MW cA cZ h as (mf_sh ge 153 201 (ge 30)) im kp) := hD
          obtain ⟨gf, egf⟩ : ∃ z : Fn, z = mf_sh ge 153 201 (ge 30) := ⟨_, rfl⟩
          rw [← egf] at hP hD
          refine lv_aload_n hx hb dX2_tickOf_224 rfl (lv_at hl 1 rfl) ?_
          refine lv_sipush (v := 354) hx hb dX2_tickOf_225 (by decide) ?_
          refine lv_sipush (v := 201) hx hb dX2_tickOf_228 (by decide) ?_
          refine lv_aload_n hx hb dX2_tickOf_231 rfl (lv_at hl 1 rfl) ?_
          refine va_get (D := D) (ci := 2) (v := .ref (as 0)) (C := RX2) (T := TX2) (N := 3) hx hb hts iw_X2_tickOf_X2 hown hE.1 hP 0 rfl rfl 0 (by decide) (hts (.fieldLink RX2 7 "EchoTapsModel" "state" "[I") (by decide +kernel)) (fun _ h9 => h9) rfl dX2_tickOf_232 ?_
          refine lv_bipush (v := 31) hx hb dX2_tickOf_235 (by decide) ?_
          refine va_iald hx hb hE.1 hP 1 0 rfl rfl (vp_in_nI (n := 31) (N := 555) (by decide) (by decide)) dX2_tickOf_237 ?_
          have j246 : ∀ (bt : Int32) (ebt : bt = mf_bt (gf 31)), W p l e rm_X2_tickOf s m args below meth c H locs 0 0 Q (F0 m 246 ls [.int bt, .int 201, .int 354, .ref h]) := by
            intro bt ebt
            refine bm_v [] (MW cA cZ h as gf im kp) [] [.int 354, .int 201, .int bt] [] ⟨hx, hb, hml, hown, hts⟩ (c_X2_shift l D cA cZ cR h as gf im kp 354 201 bt (by decide) (by decide)) (cwV 3 hts gX2_tickOf_X2_shift rfl rfl rfl (by decide +kernel) ⟨Nat.le_of_ble_eq_true rfl, Nat.le_of_ble_eq_true rfl⟩) hE hP hD hS hA MW_adr 0 2 rfl rfl rfl hl.1 rfl (Nat.le_of_ble_eq_true rfl) dX2_tickOf_246 ⟨Nat.zero_le _, Nat.zero_le _⟩ (fun H locs hP hD hS => ?_)
            have hP : va_P D vwCl (MW cA cZ h as (mf_sh gf 354 201 bt) im kp) H := hP
            have hD : va_D A (MW cA cZ h as (mf_sh gf 354 201 bt) im kp) := hD
            have hP : va_P D vwCl (MW cA cZ h as (mf_sh gf 354 201 bt) im kp) H := hP
            have hD : va_D A (MW cA cZ h as (mf_sh gf 354 201 bt) im kp) := hD
            obtain ⟨gz, egz⟩ : ∃ z : Fn, z = mf_sh gf 354 201 bt := ⟨_, rfl⟩
            rw [← egz] at hP hD
            refine lv_aload_n hx hb dX2_tickOf_249 rfl (lv_at hl 1 rfl) ?_
            refine va_get (D := D) (ci := 2) (v := .ref (as 0)) (C := RX2) (T := TX2) (N := 3) hx hb hts iw_X2_tickOf_X2 hown hE.1 hP 0 rfl rfl 0 (by decide) (hts (.fieldLink RX2 7 "EchoTapsModel" "state" "[I") (by decide +kernel)) (fun _ h9 => h9) rfl dX2_tickOf_250 ?_
            refine lv_bipush (v := 27) hx hb dX2_tickOf_253 (by decide) ?_
            refine va_iald hx hb hE.1 hP 1 0 rfl rfl (vp_in_nI (n := 27) (N := 555) (by decide) (by decide)) dX2_tickOf_255 ?_
            have e1 : mf_tick g far near = gz := by subst egz ebt egf ege egd egc egb eb1 elr ega eg9 eg8 etk eg7 eg6 eg5 eg4 eg3 eg2 eg1; rfl
            exact hret _ _ _ _ _ (by rw [e1]; exact hP) (by rw [e1] <;> rfl) hS dX2_tickOf_256
          refine lv_if_le (tgt := 245) hx hb dX2_tickOf_238 (by decide) (fun c_1 => ?_) (fun c_1 => ?_)
          · have c_1 : (gf 31) ≤ 0 := c_1
            refine lv_iconst (v := 0) hx hb dX2_tickOf_245 (by decide) ?_
            exact j246 _ (if_pos c_1).symm
          · have c_1 : ¬ (gf 31) ≤ 0 := c_1
            refine lv_iconst (v := 1) hx hb dX2_tickOf_241 (by decide) ?_
            refine lv_goto (tgt := 246) hx hb dX2_tickOf_242 (by decide) ?_
            exact j246 _ (if_neg c_1).symm
        refine lv_if_eq (tgt := 181) hx hb dX2_tickOf_174 (by decide) (fun c_2 => ?_) (fun c_2 => ?_)
        · have c_2 : lr = 0 := c_2
          exact j181 _ (if_pos c_2).symm H locs hP hD hS
        · have c_2 : ¬ lr = 0 := c_2
          have hp29 : 0 < gb 29 := by rw [egb, pk_un (by decide)]; exact mf_lr_p (by rw [← elr]; exact c_2)
          refine lv_aload_n hx hb dX2_tickOf_177 rfl (lv_at hl 1 rfl) ?_
          refine bm_v [] (MW cA cZ h as gb im kp) [] [] [] ⟨hx, hb, hml, hown, hts⟩ (c_X2_learn l D cA cZ cR h as gb im kp hd hp29) (cwV 0 hts gX2_tickOf_X2_learn rfl rfl rfl (by decide +kernel) ⟨Nat.le_of_ble_eq_true rfl, Nat.le_of_ble_eq_true rfl⟩) hE hP hD hS hA MW_adr 0 2 rfl rfl rfl hl.1 rfl (Nat.le_of_ble_eq_true rfl) dX2_tickOf_178 ⟨Nat.zero_le _, Nat.zero_le _⟩ (fun H locs hP hD hS => ?_)
          have hP : va_P D vwCl (MW cA cZ h as (mf_learn gb) im kp) H := hP
          have hD : va_D A (MW cA cZ h as (mf_learn gb) im kp) := hD
          exact j181 _ (if_neg c_2).symm H locs hP hD hS
      refine lv_if_eq (tgt := 171) hx hb dX2_tickOf_164 (by decide) (fun c_3 => ?_) (fun c_3 => ?_)
      · have c_3 : lr = 0 := c_3
        refine lv_iconst (v := 0) hx hb dX2_tickOf_171 (by decide) ?_
        exact j172 _ (if_pos c_3).symm
      · have c_3 : ¬ lr = 0 := c_3
        refine lv_iconst (v := 1) hx hb dX2_tickOf_167 (by decide) ?_
        refine lv_goto (tgt := 172) hx hb dX2_tickOf_168 (by decide) ?_
        exact j172 _ (if_neg c_3).symm
    refine lv_if_ne (tgt := 155) hx hb dX2_tickOf_128 (by decide) (fun c_4 => ?_) (fun c_4 => ?_)
    · have c_4 : ¬ (ga 22) = 0 := c_4
      refine lv_iconst (v := 0) hx hb dX2_tickOf_155 (by decide) ?_
      exact j156 _ (if_pos c_4).symm
    · have c_4 : (ga 22) = 0 := c_4
      refine lv_aload_n hx hb dX2_tickOf_131 rfl (lv_at hl 0 rfl) ?_
      refine va_get (D := D) (ci := 2) (v := .ref (as 0)) (C := RX2) (T := TX2) (N := 3) hx hb hts iw_X2_tickOf_X2 hown hE.1 hP 0 rfl rfl 0 (by decide) (hts (.fieldLink RX2 7 "EchoTapsModel" "state" "[I") (by decide +kernel)) (fun _ h9 => h9) rfl dX2_tickOf_132 ?_
      refine lv_bipush (v := 31) hx hb dX2_tickOf_135 (by decide) ?_
      refine va_iald hx hb hE.1 hP 1 0 rfl rfl (vp_in_nI (n := 31) (N := 555) (by decide) (by decide)) dX2_tickOf_137 ?_
      refine lv_if_ne (tgt := 155) hx hb dX2_tickOf_138 (by decide) (fun c_5 => ?_) (fun c_5 => ?_)
      · have c_5 : ¬ (ga 31) = 0 := c_5
        refine lv_iconst (v := 0) hx hb dX2_tickOf_155 (by decide) ?_
        exact j156 _ (by rw [mf_lr, if_neg (not_not_intro c_4), if_pos c_5])
      · have c_5 : (ga 31) = 0 := c_5
        refine lv_aload_n hx hb dX2_tickOf_141 rfl (lv_at hl 0 rfl) ?_
        refine va_get (D := D) (ci := 2) (v := .ref (as 0)) (C := RX2) (T := TX2) (N := 3) hx hb hts iw_X2_tickOf_X2 hown hE.1 hP 0 rfl rfl 0 (by decide) (hts (.fieldLink RX2 7 "EchoTapsModel" "state" "[I") (by decide +kernel)) (fun _ h9 => h9) rfl dX2_tickOf_142 ?_
        refine lv_bipush (v := 29) hx hb dX2_tickOf_145 (by decide) ?_
        refine va_iald hx hb hE.1 hP 1 0 rfl rfl (vp_in_nI (n := 29) (N := 555) (by decide) (by decide)) dX2_tickOf_147 ?_
        refine lv_if_le (tgt := 155) hx hb dX2_tickOf_148 (by decide) (fun c_6 => ?_) (fun c_6 => ?_)
        · have c_6 : (ga 29) ≤ 0 := c_6
          refine lv_iconst (v := 0) hx hb dX2_tickOf_155 (by decide) ?_
          exact j156 _ (by rw [mf_lr, if_neg (not_not_intro c_4), if_neg (not_not_intro c_5), if_pos c_6])
        · have c_6 : ¬ (ga 29) ≤ 0 := c_6
          refine lv_iconst (v := 1) hx hb dX2_tickOf_151 (by decide) ?_
          refine lv_goto (tgt := 156) hx hb dX2_tickOf_152 (by decide) ?_
          exact j156 _ (by rw [mf_lr, if_neg (not_not_intro c_4), if_neg (not_not_intro c_5), if_neg c_6])
  refine lv_icmp_le (tgt := 104) hx hb dX2_tickOf_97 (by decide) (fun c_7 => ?_) (fun c_7 => ?_)
  · have c_7 : (2 * (pf_sz near)) ≤ (g7 28) := c_7
    refine lv_iconst (v := 0) hx hb dX2_tickOf_104 (by decide) ?_
    exact j105 _ (if_pos c_7).symm
  · have c_7 : ¬ (2 * (pf_sz near)) ≤ (g7 28) := c_7
    refine lv_iconst (v := 1) hx hb dX2_tickOf_100 (by decide) ?_
    refine lv_goto (tgt := 105) hx hb dX2_tickOf_101 (by decide) ?_
    exact j105 _ (if_neg c_7).symm

abbrev rm_X2_speakOf : Room := { frames := 4, cells := 0, slots := 0, locals := 83 }
set_option maxRecDepth 100000 in
set_option maxHeartbeats 4000000 in
theorem c_X2_speakOf (l : Launch) (D : va_G) (cA cZ cR : ClassId) (h : Nat) (as : Nat → Nat) (g im kp : Fn) (far v : Int32) (hd : DL g) (hg : LG g) : BMi l D cA cZ cR yX2_speakOf wsX2_speakOf rm_X2_speakOf [.ref h, .int far, .int v] (MW cA cZ h as g im kp) (MW cA cZ h as (mf_spk g far v) im kp) (mf_spk g far v 27) := by
  refine bm_open (maxL := 3) (by decide) rfl rfl rfl (Nat.le_of_ble_eq_true rfl) ?_
  intro p e s m args below meth c A Q hx hb hml hts hown hE hP hD hA hS hret ls hl
  have hown : s.vm.findClass RX2 = some m.cls := hown
  have hl : lv_has ls 3 [(0, .ref h), (1, .int far), (2, .int v)] := hl
  obtain ⟨H, locs, eH, eL⟩ : ∃ (H : Heap) (locs : List Loc), H = s.heap ∧ locs = [] := ⟨_, _, rfl, rfl⟩
  rw [← eH, ← eL]
  rw [← eH] at hP
  have hS : va_S A s.heap H locs := by rw [eH, eL]; exact hS
  clear eH eL
  refine lv_aload_n hx hb dX2_speakOf_0 rfl (lv_at hl 0 rfl) ?_
  refine lv_iload_n hx hb dX2_speakOf_1 rfl (lv_at hl 1 rfl) ?_
  refine lv_aload_n hx hb dX2_speakOf_2 rfl (lv_at hl 0 rfl) ?_
  refine lv_iload_n hx hb dX2_speakOf_3 rfl (lv_at hl 1 rfl) ?_
  refine bm_i [] (MW cA cZ h as g im kp) [] [.int far] [.int far, .ref h] ⟨hx, hb, hml, hown, hts⟩ (c_X2_echo l D cA cZ cR h as g im kp far hg) (cwV 1 hts gX2_speakOf_X2_echo rfl rfl rfl (by decide +kernel) ⟨Nat.le_of_ble_eq_true rfl, Nat.le_of_ble_eq_true rfl⟩) hE hP hD hS hA MW_adr 0 2 rfl rfl rfl hl.1 rfl (Nat.le_of_ble_eq_true rfl) dX2_speakOf_4 ⟨Nat.zero_le _, Nat.zero_le _⟩ (fun H locs hP hD hS => ?_)
  have hP : va_P D vwCl (MW cA cZ h as g im kp) H := hP
  have hD : va_D A (MW cA cZ h as g im kp) := hD
  refine lv_iload_n hx hb dX2_speakOf_7 rfl (lv_at hl 2 rfl) ?_
  refine lv_iadd hx hb dX2_speakOf_8 ?_
  refine lv_sipush (v := (-2000)) hx hb dX2_speakOf_9 (by decide) ?_
  refine lv_sipush (v := 2000) hx hb dX2_speakOf_12 (by decide) ?_
  refine sm_i [.int ((mf_echo g far) + v), .int (-2000), .int 2000] [.int far, .ref h] ⟨hx, hb, hml, hown, hts⟩ (c_X2_within l ((mf_echo g far) + v) (-2000) 2000) (va_cwS 3 hts gX2_speakOf_X2_within rfl rfl rfl (by decide +kernel) ⟨Nat.le_of_ble_eq_true rfl, Nat.le_of_ble_eq_true rfl⟩) rfl hl.1 rfl (Nat.le_of_ble_eq_true rfl) dX2_speakOf_15 ⟨Nat.zero_le _, Nat.zero_le _⟩ ?_
  refine lv_topi (fun nr enr => ?_)
  refine bm_i [] (MW cA cZ h as g im kp) [] [.int far, .int nr] [] ⟨hx, hb, hml, hown, hts⟩ (c_X2_tickOf l D cA cZ cR h as g im kp far nr hd) (cwV 2 hts gX2_speakOf_X2_tickOf rfl rfl rfl (by decide +kernel) ⟨Nat.le_of_ble_eq_true rfl, Nat.le_of_ble_eq_true rfl⟩) hE hP hD hS hA MW_adr 0 2 rfl rfl rfl hl.1 rfl (Nat.le_of_ble_eq_true rfl) dX2_speakOf_18 ⟨Nat.zero_le _, Nat.zero_le _⟩ (fun H locs hP hD hS => ?_)
  have hP : va_P D vwCl (MW cA cZ h as (mf_tick g far nr) im kp) H := hP
  have hD : va_D A (MW cA cZ h as (mf_tick g far nr) im kp) := hD
  have e1 : mf_spk g far v = mf_tick g far nr := by rw [enr]; rfl
  exact hret _ _ _ _ _ (by rw [e1]; exact hP) (by rw [e1]) hS dX2_speakOf_21
