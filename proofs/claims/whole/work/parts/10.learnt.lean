theorem LLW_adr {cA : ClassId} {h1 h2 : Nat} {as1 as2 : Nat → Nat} {st1 st2 st1' st2' : St} : ((LW cA h2 as2 st2') ++ (LW cA h1 as1 st1')).map Prod.fst = ((LW cA h2 as2 st2) ++ (LW cA h1 as1 st1)).map Prod.fst := rfl
def xl_c (limit : Int32) (s : St) (a : Int32) : Int32 := if limit < pf_ab (s 7 1) then 0 else a + 1
noncomputable def xl_r (loud limit : Int32) : Nat → Nat → Int32 → St → Int32 → Int32
  | 0, _, _, _, _ => -6
  | n + 1, k, z, st, a => if xl_c limit (lf_hs st (pf_ce (pf_nx z) loud) 0) a < 8 then xl_r loud limit n (k + 1) (pf_nx z) (lf_hs st (pf_ce (pf_nx z) loud) 0) (xl_c limit (lf_hs st (pf_ce (pf_nx z) loud) 0) a) else nI k
noncomputable def xl_s (loud limit : Int32) : Nat → Int32 → St → Int32 → St
  | 0, _, st, _ => st
  | n + 1, z, st, a => if xl_c limit (lf_hs st (pf_ce (pf_nx z) loud) 0) a < 8 then xl_s loud limit n (pf_nx z) (lf_hs st (pf_ce (pf_nx z) loud) 0) (xl_c limit (lf_hs st (pf_ce (pf_nx z) loud) 0) a) else lf_hs st (pf_ce (pf_nx z) loud) 0
noncomputable def xf_learnt (st : St) (z loud limit : Int32) : Int32 := if pf_sr z loud = 0 ∨ pf_in limit 0 999 = 0 then -2 else xl_r loud limit 200 1 z st 0
noncomputable def xs_learnt (st st2 : St) (z loud limit : Int32) : St := if pf_sr z loud = 0 ∨ pf_in limit 0 999 = 0 then st2 else xl_s loud limit 200 z st 0
abbrev rm_X1_learnt : Room := { frames := 5, cells := 0, slots := 0, locals := 120 }
theorem iw_X1_learnt_X0 : ∀ w ∈ wsX00, w ∈ wsX1_learnt := by decide +kernel
theorem iw_X1_learnt_X1 : ∀ w ∈ wsX10, w ∈ wsX1_learnt := by decide +kernel
set_option maxRecDepth 100000 in
set_option maxHeartbeats 4000000 in
theorem c_X1_learnt (l : Launch) (D : va_G) (cA cZ cR : ClassId) (ob h t i : Nat) (kp : Int32) (as : Nat → Nat) (st : St) (as2 : Nat → Nat) (st2 : St) (z loud limit : Int32) : BMi l D cA cZ cR yX1_learnt wsX1_learnt rm_X1_learnt [.ref ob, .int z, .int loud, .int limit] ([EO ob h t i kp] ++ ((LW cA h as st) ++ (LW cA t as2 st2))) ([EO ob h t i kp] ++ ((LW cA h as st) ++ (LW cA t as2 (xs_learnt st st2 z loud limit)))) (xf_learnt st z loud limit) := by
  refine bm_open (maxL := 7) (by decide) rfl rfl rfl (Nat.le_of_ble_eq_true rfl) ?_
  intro p e s m args below meth c A Q hx hb hml hts hown hE hP hD hA hS hret ls hl
  have hown : s.vm.findClass RX1 = some m.cls := hown
  have hl : lv_has ls 7 [(0, .ref ob), (1, .int z), (2, .int loud), (3, .int limit)] := hl
  obtain ⟨H, locs, eH, eL⟩ : ∃ (H : Heap) (locs : List Loc), H = s.heap ∧ locs = [] := ⟨_, _, rfl, rfl⟩
  rw [← eH, ← eL]
  rw [← eH] at hP
  have hS : va_S A s.heap H locs := by rw [eH, eL]; exact hS
  clear eH eL
  refine lv_iload_n hx hb dX1_learnt_0 rfl (lv_at hl 1 rfl) ?_
  refine lv_iload_n hx hb dX1_learnt_1 rfl (lv_at hl 2 rfl) ?_
  refine sm_i [.int z, .int loud] [] ⟨hx, hb, hml, hown, hts⟩ (c_X1_startsRun l z loud) (va_cwS 2 hts gX1_learnt_X1_startsRun rfl rfl rfl (by decide +kernel) ⟨Nat.le_of_ble_eq_true rfl, Nat.le_of_ble_eq_true rfl⟩) rfl hl.1 rfl (Nat.le_of_ble_eq_true rfl) dX1_learnt_2 ⟨Nat.zero_le _, Nat.zero_le _⟩ ?_
  refine lv_if_eq (tgt := 19) hx hb dX1_learnt_5 (by decide) (fun c_1 => ?_) (fun c_1 => ?_)
  · have c_1 : (pf_sr z loud) = 0 := c_1
    refine lv_bipush (v := (-2)) hx hb dX1_learnt_19 (by decide) ?_
    have e1 : xs_learnt st st2 z loud limit = st2 := if_pos (Or.inl c_1)
    exact hret _ _ _ _ _ (by rw [e1]; exact hP) ((if_pos (Or.inl c_1)).symm) hS dX1_learnt_21
  · have c_1 : ¬ (pf_sr z loud) = 0 := c_1
    refine lv_iload_n hx hb dX1_learnt_8 rfl (lv_at hl 3 rfl) ?_
    refine lv_iconst (v := 0) hx hb dX1_learnt_9 (by decide) ?_
    refine lv_sipush (v := 999) hx hb dX1_learnt_10 (by decide) ?_
    refine sm_i [.int limit, .int 0, .int 999] [] ⟨hx, hb, hml, hown, hts⟩ (c_X1_within l limit 0 999) (va_cwS 3 hts gX1_learnt_X1_within rfl rfl rfl (by decide +kernel) ⟨Nat.le_of_ble_eq_true rfl, Nat.le_of_ble_eq_true rfl⟩) rfl hl.1 rfl (Nat.le_of_ble_eq_true rfl) dX1_learnt_13 ⟨Nat.zero_le _, Nat.zero_le _⟩ ?_
    refine lv_if_ne (tgt := 22) hx hb dX1_learnt_16 (by decide) (fun c_2 => ?_) (fun c_2 => ?_)
    · have c_2 : ¬ (pf_in limit 0 999) = 0 := c_2
      have e1 : xs_learnt st st2 z loud limit = xl_s loud limit 200 z st 0 := if_neg (fun q => q.elim c_1 c_2)
      have e2 : xf_learnt st z loud limit = xl_r loud limit 200 1 z st 0 := if_neg (fun q => q.elim c_1 c_2)
      rw [e1, e2] at hret
      refine lv_aload_n hx hb dX1_learnt_22 rfl (lv_at hl 0 rfl) ?_
      refine va_get (D := D) (ci := 1) (v := .ref t) (C := RX1) (T := TX1) (N := 4) hx hb hts iw_X1_learnt_X1 hown hE.1 hP 0 rfl rfl 1 (by decide) (hts (.fieldLink RX1 16 "EchoTaps" "trial" "LEchoTaps$Line;") (by decide +kernel)) (fun _ h9 => h9) rfl dX1_learnt_23 ?_
      refine lv_aload_n hx hb dX1_learnt_26 rfl (lv_at hl 0 rfl) ?_
      refine va_get (D := D) (ci := 1) (v := .ref h) (C := RX1) (T := TX1) (N := 4) hx hb hts iw_X1_learnt_X1 hown hE.1 hP 0 rfl rfl 0 (by decide) (hts (.fieldLink RX1 12 "EchoTaps" "line" "LEchoTaps$Line;") (by decide +kernel)) (fun _ h9 => h9) rfl dX1_learnt_27 ?_
      refine bm_v [EO ob h t i kp] ((LW cA h as st) ++ (LW cA t as2 st2)) [] [.ref h] [] ⟨hx, hb, hml, hown, hts⟩ (c_X0_copyFrom l D cA cZ cR t as2 st2 h as st) (cwV 1 hts gX1_learnt_X0_copyFrom rfl rfl rfl (by decide +kernel) ⟨Nat.le_of_ble_eq_true rfl, Nat.le_of_ble_eq_true rfl⟩) hE hP hD hS hA LLW_adr 9 0 rfl rfl rfl hl.1 rfl (Nat.le_of_ble_eq_true rfl) dX1_learnt_30 ⟨Nat.zero_le _, Nat.zero_le _⟩ (fun H locs hP hD hS => ?_)
      have hP : va_P D vwCl ([EO ob h t i kp] ++ ((LW cA h as st) ++ (LW cA t as2 st))) H := hP
      have hD : va_D A ([EO ob h t i kp] ++ ((LW cA h as st) ++ (LW cA t as2 st))) := hD
      refine lv_iload_n hx hb dX1_learnt_33 rfl (lv_at hl 1 rfl) ?_
      refine lv_istore (lv' := [(4, .int z), (0, .ref ob), (1, .int z), (2, .int loud), (3, .int limit)]) hx hb dX1_learnt_34 hl (by decide) rfl (fun ls hl => ?_)
      refine lv_iconst (v := 0) hx hb dX1_learnt_36 (by decide) ?_
      refine lv_istore (lv' := [(5, .int 0), (4, .int z), (0, .ref ob), (1, .int z), (2, .int loud), (3, .int limit)]) hx hb dX1_learnt_37 hl (by decide) rfl (fun ls hl => ?_)
      refine lv_iconst (v := 1) hx hb dX1_learnt_39 (by decide) ?_
      refine lv_istore (lv' := [(6, .int 1), (5, .int 0), (4, .int z), (0, .ref ob), (1, .int z), (2, .int loud), (3, .int limit)]) hx hb dX1_learnt_40 hl (by decide) rfl (fun ls hl => ?_)
      have loop : ∀ (n : Nat) (k : Nat) (y : Int32) (s1 : St) (a : Int32) (hk : k + n = 201) (ha : xl_r loud limit n k y s1 a = xl_r loud limit 200 1 z st 0) (hs : xl_s loud limit n y s1 a = xl_s loud limit 200 z st 0), ∀ (H : Heap) (locs : List Loc), va_P D vwCl ([EO ob h t i kp] ++ ((LW cA h as st) ++ (LW cA t as2 s1))) H → va_D A ([EO ob h t i kp] ++ ((LW cA h as st) ++ (LW cA t as2 s1))) → va_S A s.heap H locs → ∀ ls : Array Slot, lv_has ls 7 [(6, .int (nI k)), (5, .int a), (4, .int y), (3, .int limit), (2, .int loud), (1, .int z), (0, .ref ob)] → W p l e rm_X1_learnt s m args below meth c H locs 0 0 Q (F0 m 42 ls []) := by
        intro n
        induction n with
        | zero =>
          intro k y s1 a hk ha hs H locs hP hD hS ls hl
          obtain rfl : k = 201 := by omega
          refine lv_iload hx hb dX1_learnt_42 (lv_at hl 0 rfl) ?_
          refine lv_sipush (v := 200) hx hb dX1_learnt_44 (by decide) ?_
          refine lv_icmp_gt (tgt := 114) hx hb dX1_learnt_47 (by decide) (fun c_3 => ?_) (fun c_3 => absurd (by decide) c_3)
          refine lv_bipush (v := (-6)) hx hb dX1_learnt_114 (by decide) ?_
          exact hret _ _ _ _ _ (by rw [← hs]; exact hP) ha hS dX1_learnt_116
        | succ n ih =>
          intro k y s1 a hk ha hs H locs hP hD hS ls hl
          refine lv_iload hx hb dX1_learnt_42 (lv_at hl 0 rfl) ?_
          refine lv_sipush (v := 200) hx hb dX1_learnt_44 (by decide) ?_
          refine lv_icmp_gt (tgt := 114) hx hb dX1_learnt_47 (by decide) (fun c_4 => absurd c_4 (nI_nlt (a := 200) (b := k) (by omega) (by decide))) (fun c_4 => ?_)
          refine lv_iload hx hb dX1_learnt_50 (lv_at hl 2 rfl) ?_
          refine sm_i [.int y] [] ⟨hx, hb, hml, hown, hts⟩ (c_X1_nextSeed l y) (va_cwS 1 hts gX1_learnt_X1_nextSeed rfl rfl rfl (by decide +kernel) ⟨Nat.le_of_ble_eq_true rfl, Nat.le_of_ble_eq_true rfl⟩) rfl hl.1 rfl (Nat.le_of_ble_eq_true rfl) dX1_learnt_52 ⟨Nat.zero_le _, Nat.zero_le _⟩ ?_
          refine lv_topi (fun y2 ey2 => ?_)
          refine lv_istore (lv' := [(4, .int y2), (6, .int (nI k)), (5, .int a), (3, .int limit), (2, .int loud), (1, .int z), (0, .ref ob)]) hx hb dX1_learnt_55 hl (by decide) rfl (fun ls hl => ?_)
          refine lv_aload_n hx hb dX1_learnt_57 rfl (lv_at hl 6 rfl) ?_
          refine va_get (D := D) (ci := 1) (v := .ref t) (C := RX1) (T := TX1) (N := 4) hx hb hts iw_X1_learnt_X1 hown hE.1 hP 0 rfl rfl 1 (by decide) (hts (.fieldLink RX1 16 "EchoTaps" "trial" "LEchoTaps$Line;") (by decide +kernel)) (fun _ h9 => h9) rfl dX1_learnt_58 ?_
          refine lv_iload hx hb dX1_learnt_61 (lv_at hl 0 rfl) ?_
          refine lv_iload_n hx hb dX1_learnt_63 rfl (lv_at hl 4 rfl) ?_
          refine sm_i [.int y2, .int loud] [.ref t] ⟨hx, hb, hml, hown, hts⟩ (c_X1_centred l y2 loud) (va_cwS 2 hts gX1_learnt_X1_centred rfl rfl rfl (by decide +kernel) ⟨Nat.le_of_ble_eq_true rfl, Nat.le_of_ble_eq_true rfl⟩) rfl hl.1 rfl (Nat.le_of_ble_eq_true rfl) dX1_learnt_64 ⟨Nat.zero_le _, Nat.zero_le _⟩ ?_
          refine lv_iconst (v := 0) hx hb dX1_learnt_67 (by decide) ?_
          refine bm_i ([EO ob h t i kp] ++ (LW cA h as st)) (LW cA t as2 s1) [] [.int (pf_ce y2 loud), .int 0] [] ⟨hx, hb, hml, hown, hts⟩ (c_X0_hearSpeech l D cA cZ cR t as2 s1 (pf_ce y2 loud) 0) (cwV 2 hts gX1_learnt_X0_hearSpeech rfl rfl rfl (by decide +kernel) ⟨Nat.le_of_ble_eq_true rfl, Nat.le_of_ble_eq_true rfl⟩) hE hP hD hS hA LW_adr 0 0 rfl rfl rfl hl.1 rfl (Nat.le_of_ble_eq_true rfl) dX1_learnt_68 ⟨Nat.zero_le _, Nat.zero_le _⟩ (fun H locs hP hD hS => ?_)
          have hP : va_P D vwCl ([EO ob h t i kp] ++ ((LW cA h as st) ++ (LW cA t as2 (lf_hs s1 (pf_ce y2 loud) 0)))) H := hP
          have hD : va_D A ([EO ob h t i kp] ++ ((LW cA h as st) ++ (LW cA t as2 (lf_hs s1 (pf_ce y2 loud) 0)))) := hD
          have hP : va_P D vwCl ([EO ob h t i kp] ++ ((LW cA h as st) ++ (LW cA t as2 (lf_hs s1 (pf_ce y2 loud) 0)))) H := hP
          have hD : va_D A ([EO ob h t i kp] ++ ((LW cA h as st) ++ (LW cA t as2 (lf_hs s1 (pf_ce y2 loud) 0)))) := hD
          obtain ⟨s2, es2⟩ : ∃ z : St, z = lf_hs s1 (pf_ce y2 loud) 0 := ⟨_, rfl⟩
          rw [← es2] at hP hD
          refine lv_pop hx hb dX1_learnt_71 rfl ?_
          refine lv_aload_n hx hb dX1_learnt_72 rfl (lv_at hl 6 rfl) ?_
          refine va_get (D := D) (ci := 1) (v := .ref t) (C := RX1) (T := TX1) (N := 4) hx hb hts iw_X1_learnt_X1 hown hE.1 hP 0 rfl rfl 1 (by decide) (hts (.fieldLink RX1 16 "EchoTaps" "trial" "LEchoTaps$Line;") (by decide +kernel)) (fun _ h9 => h9) rfl dX1_learnt_73 ?_
          refine va_get (D := D) (ci := 0) (v := .ref (as2 7)) (C := RX0) (T := TX0) (N := 11) hx hb hts iw_X1_learnt_X0 hown hE.1 hP 10 rfl rfl 7 (by decide) (hts (.fieldLink RX1 51 "EchoTaps$Line" "told" "[I") (by decide +kernel)) (fun _ h9 => h9) rfl dX1_learnt_76 ?_
          refine lv_iconst (v := 1) hx hb dX1_learnt_79 (by decide) ?_
          refine va_iald hx hb hE.1 hP 18 0 rfl rfl (vp_in_nI (n := 1) (N := 8) (by decide) (by decide)) dX1_learnt_80 ?_
          refine va_mabs hx hb (hml.trans hl.1.symm) hown (hts (.methodLink RX1 81 Lib.Math.abs.name) (by decide +kernel)) (hts (.static Lib.Math.abs.name) (by decide +kernel)) (hts (.initialized "java/lang/Math") (by decide +kernel)) (hts (.code Lib.Math.abs.name Lib.Math.abs.code 1 (some .int)) (by decide +kernel)) (Nat.le_of_ble_eq_true rfl) (Nat.le_of_ble_eq_true rfl) (Nat.zero_le _) (Nat.zero_le _) dX1_learnt_81 ?_
          refine lv_iload_n hx hb dX1_learnt_84 rfl (lv_at hl 3 rfl) ?_
          have j96 : ∀ (a2 : Int32) (ea2 : a2 = xl_c limit s2 a), W p l e rm_X1_learnt s m args below meth c H locs 0 0 Q (F0 m 96 ls [.int a2]) := by
            intro a2 ea2
            refine lv_istore (lv' := [(5, .int a2), (4, .int y2), (6, .int (nI k)), (3, .int limit), (2, .int loud), (1, .int z), (0, .ref ob)]) hx hb dX1_learnt_96 hl (by decide) rfl (fun ls hl => ?_)
            refine lv_iload hx hb dX1_learnt_98 (lv_at hl 0 rfl) ?_
            refine lv_bipush (v := 8) hx hb dX1_learnt_100 (by decide) ?_
            rw [xl_r, ← ey2, ← es2, ← ea2] at ha
            rw [xl_s, ← ey2, ← es2, ← ea2] at hs
            refine lv_icmp_lt (tgt := 108) hx hb dX1_learnt_102 (by decide) (fun c_5 => ?_) (fun c_5 => ?_)
            · have c_5 : a2 < 8 := c_5
              rw [if_pos c_5] at ha hs
              refine lv_iinc (v := nI (k + 1)) (lv' := [(6, .int (nI (k + 1))), (5, .int a2), (4, .int y2), (3, .int limit), (2, .int loud), (1, .int z), (0, .ref ob)]) hx hb dX1_learnt_108 hl (k := 2) rfl (nI_1 k) (by decide) rfl (fun ls hl => ?_)
              refine lv_goto (tgt := 42) hx hb dX1_learnt_111 (by decide) ?_
              exact ih (k + 1) y2 s2 a2 (by omega) ha hs H locs hP hD hS ls (lv_sub hl [0, 1, 2, 3, 4, 5, 6] rfl)
            · have c_5 : ¬ a2 < 8 := c_5
              rw [if_neg c_5] at ha hs
              refine lv_iload hx hb dX1_learnt_105 (lv_at hl 2 rfl) ?_
              exact hret _ _ _ _ _ (by rw [← hs]; exact hP) ha hS dX1_learnt_107
          refine lv_icmp_gt (tgt := 95) hx hb dX1_learnt_85 (by decide) (fun c_6 => ?_) (fun c_6 => ?_)
          · have c_6 : limit < (pf_ab ((s2 7) 1)) := c_6
            refine lv_iconst (v := 0) hx hb dX1_learnt_95 (by decide) ?_
            exact j96 _ (if_pos c_6).symm
          · have c_6 : ¬ limit < (pf_ab ((s2 7) 1)) := c_6
            refine lv_iload hx hb dX1_learnt_88 (lv_at hl 2 rfl) ?_
            refine lv_iconst (v := 1) hx hb dX1_learnt_90 (by decide) ?_
            refine lv_iadd hx hb dX1_learnt_91 ?_
            refine lv_goto (tgt := 96) hx hb dX1_learnt_92 (by decide) ?_
            exact j96 _ (if_neg c_6).symm
      exact loop 200 1 z st 0 rfl rfl rfl H locs hP hD hS ls (lv_sub hl [0, 1, 2, 6, 5, 4, 3] rfl)
    · have c_2 : (pf_in limit 0 999) = 0 := c_2
      refine lv_bipush (v := (-2)) hx hb dX1_learnt_19 (by decide) ?_
      have e1 : xs_learnt st st2 z loud limit = st2 := if_pos (Or.inr c_2)
      exact hret _ _ _ _ _ (by rw [e1]; exact hP) ((if_pos (Or.inr c_2)).symm) hS dX1_learnt_21
