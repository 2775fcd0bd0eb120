def lf_hn (st : St) (far voice : Int32) : Int32 := pf_lm (lf_echo (lf_tf st far) + voice) (-2000) 2000
def lf_hs (st : St) (far voice : Int32) : St := lf_near (lf_tf st far) (lf_hn st far voice)
def lf_hr (st : St) (far voice : Int32) : Int32 := lf_out (lf_tf st far) (lf_hn st far voice)
abbrev rm_X0_hearSpeech : Room := { frames := 4, cells := 0, slots := 0, locals := 98 }
set_option maxRecDepth 100000 in
set_option maxHeartbeats 4000000 in
theorem c_X0_hearSpeech (l : Launch) (D : va_G) (cA cZ cR : ClassId) (h : Nat) (as : Nat → Nat) (st : St) (far voice : Int32) : BMi l D cA cZ cR yX0_hearSpeech wsX0_hearSpeech rm_X0_hearSpeech [.ref h, .int far, .int voice] (LW cA h as st) (LW cA h as (lf_hs st far voice)) (lf_hr st far voice) := by
  refine bm_open (maxL := 3) (by decide) rfl rfl rfl (Nat.le_of_ble_eq_true rfl) ?_
  intro p e s m args below meth c A Q hx hb hml hts hown hE hP hD hA hS hret ls hl
  have hown : s.vm.findClass RX0 = some m.cls := hown
  have hl : lv_has ls 3 [(0, .ref h), (1, .int far), (2, .int voice)] := hl
  obtain ⟨H, locs, eH, eL⟩ : ∃ (H : Heap) (locs : List Loc), H = s.heap ∧ locs = [] := ⟨_, _, rfl, rfl⟩
  rw [← eH, ← eL]
  rw [← eH] at hP
  have hS : va_S A s.heap H locs := by rw [eH, eL]; exact hS
  clear eH eL
  refine lv_aload_n hx hb dX0_hearSpeech_0 rfl (lv_at hl 0 rfl) ?_
  refine lv_iload_n hx hb dX0_hearSpeech_1 rfl (lv_at hl 1 rfl) ?_
  refine bm_v [] (LW cA h as st) [] [.int far] [] ⟨hx, hb, hml, hown, hts⟩ (c_X0_takeFar l D cA cZ cR h as st far) (cwV 1 hts gX0_hearSpeech_X0_takeFar rfl rfl rfl (by decide +kernel) ⟨Nat.le_of_ble_eq_true rfl, Nat.le_of_ble_eq_true rfl⟩) hE hP hD hS hA LW_adr 0 0 rfl rfl rfl hl.1 rfl (Nat.le_of_ble_eq_true rfl) dX0_hearSpeech_2 ⟨Nat.zero_le _, Nat.zero_le _⟩ (fun H locs hP hD hS => ?_)
  have hP : va_P D vwCl (LW cA h as (lf_tf st far)) H := hP
  have hD : va_D A (LW cA h as (lf_tf st far)) := hD
  have hP : va_P D vwCl (LW cA h as (lf_tf st far)) H := hP
  have hD : va_D A (LW cA h as (lf_tf st far)) := hD
  obtain ⟨s0, es0⟩ : ∃ z : St, z = lf_tf st far := ⟨_, rfl⟩
  rw [← es0] at hP hD
  refine lv_aload_n hx hb dX0_hearSpeech_5 rfl (lv_at hl 0 rfl) ?_
  refine lv_aload_n hx hb dX0_hearSpeech_6 rfl (lv_at hl 0 rfl) ?_
  refine bm_i [] (LW cA h as s0) [] [] [.ref h] ⟨hx, hb, hml, hown, hts⟩ (c_X0_echo l D cA cZ cR h as s0) (cwV 0 hts gX0_hearSpeech_X0_echo rfl rfl rfl (by decide +kernel) ⟨Nat.le_of_ble_eq_true rfl, Nat.le_of_ble_eq_true rfl⟩) hE hP hD hS hA LW_adr 0 0 rfl rfl rfl hl.1 rfl (Nat.le_of_ble_eq_true rfl) dX0_hearSpeech_7 ⟨Nat.zero_le _, Nat.zero_le _⟩ (fun H locs hP hD hS => ?_)
  have hP : va_P D vwCl (LW cA h as s0) H := hP
  have hD : va_D A (LW cA h as s0) := hD
  refine lv_iload_n hx hb dX0_hearSpeech_10 rfl (lv_at hl 2 rfl) ?_
  refine lv_iadd hx hb dX0_hearSpeech_11 ?_
  refine lv_sipush (v := (-2000)) hx hb dX0_hearSpeech_12 (by decide) ?_
  refine lv_sipush (v := 2000) hx hb dX0_hearSpeech_15 (by decide) ?_
  refine sm_n (host := "EchoTaps") [.int ((lf_echo s0) + voice), .int (-2000), .int 2000] [.ref h] ⟨hx, hb, hml, hown, hts⟩ (c_X1_limited l ((lf_echo s0) + voice) (-2000) 2000) ⟨va_cnB 3 hts ggX0_hearSpeech_X1_limited rfl rfl rfl hE.2.1 (hts (.initialized RX1) (by decide +kernel)) (by decide +kernel) ⟨Nat.le_of_ble_eq_true rfl, Nat.le_of_ble_eq_true rfl⟩, (hts (.static yX1_limited) (by decide +kernel)), trivial⟩ rfl hl.1 rfl (Nat.le_of_ble_eq_true rfl) dX0_hearSpeech_18 ⟨Nat.zero_le _, Nat.zero_le _⟩ ?_
  refine lv_topi (fun nr enr => ?_)
  refine bm_i [] (LW cA h as s0) [] [.int nr] [] ⟨hx, hb, hml, hown, hts⟩ (c_X0_takeNear l D cA cZ cR h as s0 nr) (cwV 1 hts gX0_hearSpeech_X0_takeNear rfl rfl rfl (by decide +kernel) ⟨Nat.le_of_ble_eq_true rfl, Nat.le_of_ble_eq_true rfl⟩) hE hP hD hS hA LW_adr 0 0 rfl rfl rfl hl.1 rfl (Nat.le_of_ble_eq_true rfl) dX0_hearSpeech_21 ⟨Nat.zero_le _, Nat.zero_le _⟩ (fun H locs hP hD hS => ?_)
  have hP : va_P D vwCl (LW cA h as (lf_near s0 nr)) H := hP
  have hD : va_D A (LW cA h as (lf_near s0 nr)) := hD
  have e1 : lf_hs st far voice = lf_near s0 nr := by subst enr es0; rfl
  have e2 : lf_out s0 nr = lf_hr st far voice := by subst enr es0; rfl
  exact hret _ _ _ _ _ (by rw [e1]; exact hP) e2 hS dX0_hearSpeech_24
