def im2 (h0 h1 : Nat) : Nat → Option Nat := va_up (va_up (fun _ => none) 0 (some h0)) 1 (some h1)
abbrev AO (cR : ClassId) (i h0 h1 : Nat) : Nat × va_E := (i, .inl (cR, 2, .inr (.inr (.inr (.inr (im2 h0 h1))))))
def xb (k : Int32) : Int32 := 1 <<< (k &&& 31)
def xf_image (k : Int32) : Int32 := if pf_in k 0 1 = 0 then -2 else 1
def xk_image (kp k : Int32) : Int32 := if pf_in k 0 1 = 0 then kp else kp ||| xb k
def xs_im0 (st s0 : St) (k : Int32) : St := if k = 0 then st else s0
def xs_im1 (st s1 : St) (k : Int32) : St := if k = 1 then st else s1
def xf_rest (kp k : Int32) : Int32 := if pf_in k 0 1 = 0 then -2 else if kp &&& xb k = 0 then -3 else 1
def xs_rest (st s0 s1 : St) (kp k : Int32) : St := if pf_in k 0 1 = 0 then st else if kp &&& xb k = 0 then st else if k = 0 then s0 else s1
theorem pf_in01 {k : Int32} (h : pf_in k 0 1 = 0) : ¬ k = 0 ∧ ¬ k = 1 := by
  constructor
  · rintro rfl; exact absurd h (by decide)
  · rintro rfl; exact absurd h (by decide)
abbrev rm_X1_image : Room := { frames := 2, cells := 0, slots := 0, locals := 85 }
theorem iw_X1_image_X1 : ∀ w ∈ wsX10, w ∈ wsX1_image := by decide +kernel
set_option maxRecDepth 100000 in
set_option maxHeartbeats 4000000 in
theorem c_X1_image (l : Launch) (D : va_G) (cA cZ cR : ClassId) (ob h t i : Nat) (kp : Int32) (as : Nat → Nat) (st : St) (h0 : Nat) (a0 : Nat → Nat) (s0 : St) (h1 : Nat) (a1 : Nat → Nat) (s1 : St) (k : Int32) : BMi l D cA cZ cR yX1_image wsX1_image rm_X1_image [.ref ob, .int k] ([EO ob h t i kp] ++ ([AO cR i h0 h1] ++ ((LW cA h as st) ++ ((LW cA h0 a0 s0) ++ (LW cA h1 a1 s1))))) ([EO ob h t i (xk_image kp k)] ++ ([AO cR i h0 h1] ++ ((LW cA h as st) ++ ((LW cA h0 a0 (xs_im0 st s0 k)) ++ (LW cA h1 a1 (xs_im1 st s1 k)))))) (xf_image k) := by
  refine bm_open (maxL := 2) (by decide) rfl rfl rfl (Nat.le_of_ble_eq_true rfl) ?_
  intro p e s m args below meth c A Q hx hb hml hts hown hE hP hD hA hS hret ls hl
  have hown : s.vm.findClass RX1 = some m.cls := hown
  have hl : lv_has ls 2 [(0, .ref ob), (1, .int k)] := hl
  obtain ⟨H, locs, eH, eL⟩ : ∃ (H : Heap) (locs : List Loc), H = s.heap ∧ locs = [] := ⟨_, _, rfl, rfl⟩
  rw [← eH, ← eL]
  rw [← eH] at hP
  have hS : va_S A s.heap H locs := by rw [eH, eL]; exact hS
  clear eH eL
  refine lv_iload_n hx hb dX1_image_0 rfl (lv_at hl 1 rfl) ?_
  refine lv_iconst (v := 0) hx hb dX1_image_1 (by decide) ?_
  refine lv_iconst (v := 1) hx hb dX1_image_2 (by decide) ?_
  refine sm_i [.int k, .int 0, .int 1] [] ⟨hx, hb, hml, hown, hts⟩ (c_X1_within l k 0 1) (va_cwS 3 hts gX1_image_X1_within rfl rfl rfl (by decide +kernel) ⟨Nat.le_of_ble_eq_true rfl, Nat.le_of_ble_eq_true rfl⟩) rfl hl.1 rfl (Nat.le_of_ble_eq_true rfl) dX1_image_3 ⟨Nat.zero_le _, Nat.zero_le _⟩ ?_
  refine lv_if_ne (tgt := 12) hx hb dX1_image_6 (by decide) (fun c_1 => ?_) (fun c_1 => ?_)
  · have c_1 : ¬ (pf_in k 0 1) = 0 := c_1
    obtain ⟨j, hj, ek⟩ := in_nI (b := 1) (by decide) c_1
    rcases (show j = 0 ∨ j = 1 by omega) with rfl | rfl
    · obtain rfl : k = 0 := ek
      refine lv_aload_n hx hb dX1_image_12 rfl (lv_at hl 0 rfl) ?_
      refine va_get (D := D) (ci := 1) (v := .ref i) (C := RX1) (T := TX1) (N := 4) hx hb hts iw_X1_image_X1 hown hE.1 hP 0 rfl rfl 2 (by decide) (hts (.fieldLink RX1 19 "EchoTaps" "images" "[LEchoTaps$Line;") (by decide +kernel)) (fun _ h9 => h9) rfl dX1_image_13 ?_
      refine lv_iload_n hx hb dX1_image_16 rfl (lv_at hl 1 rfl) ?_
      refine va_aldq hx hb hE.1 hP 1 2 rfl rfl (vp_in_nI (n := 0) (N := 2) (by decide) (by decide)) dX1_image_17 ?_
      refine W.eq (g2 := F0 m 18 ls [.ref h0]) rfl ?_
      refine lv_aload_n hx hb dX1_image_18 rfl (lv_at hl 0 rfl) ?_
      refine va_get (D := D) (ci := 1) (v := .ref h) (C := RX1) (T := TX1) (N := 4) hx hb hts iw_X1_image_X1 hown hE.1 hP 0 rfl rfl 0 (by decide) (hts (.fieldLink RX1 12 "EchoTaps" "line" "LEchoTaps$Line;") (by decide +kernel)) (fun _ h9 => h9) rfl dX1_image_19 ?_
      have hP : va_P D vwCl ([EO ob h t i kp] ++ ([AO cR i h0 h1] ++ ((LW cA h as st) ++ ((LW cA h0 a0 s0) ++ (LW cA h1 a1 s1))))) H := hP.sub [0, 1, 2, 3, 4, 5, 6, 7, 8, 9, 10, 11, 12, 13, 14, 15, 16, 17, 18, 19, 20, 21, 22, 23, 24, 25, 26, 27, 28] rfl
      have hD : va_D A ([EO ob h t i kp] ++ ([AO cR i h0 h1] ++ ((LW cA h as st) ++ ((LW cA h0 a0 s0) ++ (LW cA h1 a1 s1))))) := hD.sub [0, 1, 2, 3, 4, 5, 6, 7, 8, 9, 10, 11, 12, 13, 14, 15, 16, 17, 18, 19, 20, 21, 22, 23, 24, 25, 26, 27, 28] (by decide) rfl
      refine bm_v ([EO ob h t i kp] ++ [AO cR i h0 h1]) ((LW cA h as st) ++ (LW cA h0 a0 s0)) (LW cA h1 a1 s1) [.ref h] [] ⟨hx, hb, hml, hown, hts⟩ (c_X0_copyFrom l D cA cZ cR h0 a0 s0 h as st) (cwV 1 hts gX1_image_X0_copyFrom rfl rfl rfl (by decide +kernel) ⟨Nat.le_of_ble_eq_true rfl, Nat.le_of_ble_eq_true rfl⟩) hE hP hD hS hA LLW_adr 9 0 rfl rfl rfl hl.1 rfl (Nat.le_of_ble_eq_true rfl) dX1_image_22 ⟨Nat.zero_le _, Nat.zero_le _⟩ (fun H locs hP hD hS => ?_)
      have hP : va_P D vwCl ([EO ob h t i kp] ++ ([AO cR i h0 h1] ++ ((LW cA h as st) ++ ((LW cA h0 a0 st) ++ (LW cA h1 a1 s1))))) H := hP
      have hD : va_D A ([EO ob h t i kp] ++ ([AO cR i h0 h1] ++ ((LW cA h as st) ++ ((LW cA h0 a0 st) ++ (LW cA h1 a1 s1))))) := hD
      refine lv_aload_n hx hb dX1_image_25 rfl (lv_at hl 0 rfl) ?_
      refine lv_dup hx hb dX1_image_26 rfl ?_
      refine va_get (D := D) (ci := 1) (v := .int kp) (C := RX1) (T := TX1) (N := 4) hx hb hts iw_X1_image_X1 hown hE.1 hP 0 rfl rfl 3 (by decide) (hts (.fieldLink RX1 109 "EchoTaps" "kept" "I") (by decide +kernel)) (fun _ h9 => h9) rfl dX1_image_27 ?_
      refine lv_iconst (v := 1) hx hb dX1_image_30 (by decide) ?_
      refine lv_iload_n hx hb dX1_image_31 rfl (lv_at hl 1 rfl) ?_
      refine lv_ishl hx hb dX1_image_32 ?_
      refine lv_ior hx hb dX1_image_33 ?_
      refine va_put (D := D) (ci := 1) (v := .int (kp ||| ((1 : Int32) <<< ((0 : Int32) &&& 31)))) (ty := .int) (C := RX1) (T := TX1) (N := 4) hx hb hts iw_X1_image_X1 tyX1 tyX1_ok nmX1 hown hE.1 hP hD hS 0 rfl rfl 3 (by decide) (hts (.fieldLink RX1 109 "EchoTaps" "kept" "I") (by decide +kernel)) (fun _ h9 => h9) rfl (by decide +kernel) rfl rfl (Nat.le_of_ble_eq_true rfl) dX1_image_34 (fun H locs hP hD hS => ?_)
      have hP : va_P D vwCl ([EO ob h t i (kp ||| ((1 : Int32) <<< ((0 : Int32) &&& 31)))] ++ ([AO cR i h0 h1] ++ ((LW cA h as st) ++ ((LW cA h0 a0 st) ++ (LW cA h1 a1 s1))))) H := hP
      have hD : va_D A ([EO ob h t i (kp ||| ((1 : Int32) <<< ((0 : Int32) &&& 31)))] ++ ([AO cR i h0 h1] ++ ((LW cA h as st) ++ ((LW cA h0 a0 st) ++ (LW cA h1 a1 s1))))) := hD
      refine lv_iconst (v := 1) hx hb dX1_image_37 (by decide) ?_
      exact hret _ _ _ _ _ hP rfl hS dX1_image_38
    · obtain rfl : k = 1 := ek
      refine lv_aload_n hx hb dX1_image_12 rfl (lv_at hl 0 rfl) ?_
      refine va_get (D := D) (ci := 1) (v := .ref i) (C := RX1) (T := TX1) (N := 4) hx hb hts iw_X1_image_X1 hown hE.1 hP 0 rfl rfl 2 (by decide) (hts (.fieldLink RX1 19 "EchoTaps" "images" "[LEchoTaps$Line;") (by decide +kernel)) (fun _ h9 => h9) rfl dX1_image_13 ?_
      refine lv_iload_n hx hb dX1_image_16 rfl (lv_at hl 1 rfl) ?_
      refine va_aldq hx hb hE.1 hP 1 2 rfl rfl (vp_in_nI (n := 1) (N := 2) (by decide) (by decide)) dX1_image_17 ?_
      refine W.eq (g2 := F0 m 18 ls [.ref h1]) rfl ?_
      refine lv_aload_n hx hb dX1_image_18 rfl (lv_at hl 0 rfl) ?_
      refine va_get (D := D) (ci := 1) (v := .ref h) (C := RX1) (T := TX1) (N := 4) hx hb hts iw_X1_image_X1 hown hE.1 hP 0 rfl rfl 0 (by decide) (hts (.fieldLink RX1 12 "EchoTaps" "line" "LEchoTaps$Line;") (by decide +kernel)) (fun _ h9 => h9) rfl dX1_image_19 ?_
      have hP : va_P D vwCl ([EO ob h t i kp] ++ ([AO cR i h0 h1] ++ ((LW cA h0 a0 s0) ++ ((LW cA h as st) ++ (LW cA h1 a1 s1))))) H := hP.sub [0, 1, 11, 12, 13, 14, 15, 16, 17, 18, 19, 2, 3, 4, 5, 6, 7, 8, 9, 10, 20, 21, 22, 23, 24, 25, 26, 27, 28] rfl
      have hD : va_D A ([EO ob h t i kp] ++ ([AO cR i h0 h1] ++ ((LW cA h0 a0 s0) ++ ((LW cA h as st) ++ (LW cA h1 a1 s1))))) := hD.sub [0, 1, 11, 12, 13, 14, 15, 16, 17, 18, 19, 2, 3, 4, 5, 6, 7, 8, 9, 10, 20, 21, 22, 23, 24, 25, 26, 27, 28] (by decide) rfl
      refine bm_v ([EO ob h t i kp] ++ ([AO cR i h0 h1] ++ (LW cA h0 a0 s0))) ((LW cA h as st) ++ (LW cA h1 a1 s1)) [] [.ref h] [] ⟨hx, hb, hml, hown, hts⟩ (c_X0_copyFrom l D cA cZ cR h1 a1 s1 h as st) (cwV 1 hts gX1_image_X0_copyFrom rfl rfl rfl (by decide +kernel) ⟨Nat.le_of_ble_eq_true rfl, Nat.le_of_ble_eq_true rfl⟩) hE hP hD hS hA LLW_adr 9 0 rfl rfl rfl hl.1 rfl (Nat.le_of_ble_eq_true rfl) dX1_image_22 ⟨Nat.zero_le _, Nat.zero_le _⟩ (fun H locs hP hD hS => ?_)
      have hP : va_P D vwCl ([EO ob h t i kp] ++ ([AO cR i h0 h1] ++ ((LW cA h0 a0 s0) ++ ((LW cA h as st) ++ (LW cA h1 a1 st))))) H := hP
      have hD : va_D A ([EO ob h t i kp] ++ ([AO cR i h0 h1] ++ ((LW cA h0 a0 s0) ++ ((LW cA h as st) ++ (LW cA h1 a1 st))))) := hD
      have hP : va_P D vwCl ([EO ob h t i kp] ++ ([AO cR i h0 h1] ++ ((LW cA h as st) ++ ((LW cA h0 a0 s0) ++ (LW cA h1 a1 st))))) H := hP.sub [0, 1, 11, 12, 13, 14, 15, 16, 17, 18, 19, 2, 3, 4, 5, 6, 7, 8, 9, 10, 20, 21, 22, 23, 24, 25, 26, 27, 28] rfl
      have hD : va_D A ([EO ob h t i kp] ++ ([AO cR i h0 h1] ++ ((LW cA h as st) ++ ((LW cA h0 a0 s0) ++ (LW cA h1 a1 st))))) := hD.sub [0, 1, 11, 12, 13, 14, 15, 16, 17, 18, 19, 2, 3, 4, 5, 6, 7, 8, 9, 10, 20, 21, 22, 23, 24, 25, 26, 27, 28] (by decide) rfl
      refine lv_aload_n hx hb dX1_image_25 rfl (lv_at hl 0 rfl) ?_
      refine lv_dup hx hb dX1_image_26 rfl ?_
      refine va_get (D := D) (ci := 1) (v := .int kp) (C := RX1) (T := TX1) (N := 4) hx hb hts iw_X1_image_X1 hown hE.1 hP 0 rfl rfl 3 (by decide) (hts (.fieldLink RX1 109 "EchoTaps" "kept" "I") (by decide +kernel)) (fun _ h9 => h9) rfl dX1_image_27 ?_
      refine lv_iconst (v := 1) hx hb dX1_image_30 (by decide) ?_
      refine lv_iload_n hx hb dX1_image_31 rfl (lv_at hl 1 rfl) ?_
      refine lv_ishl hx hb dX1_image_32 ?_
      refine lv_ior hx hb dX1_image_33 ?_
      refine va_put (D := D) (ci := 1) (v := .int (kp ||| ((1 : Int32) <<< ((1 : Int32) &&& 31)))) (ty := .int) (C := RX1) (T := TX1) (N := 4) hx hb hts iw_X1_image_X1 tyX1 tyX1_ok nmX1 hown hE.1 hP hD hS 0 rfl rfl 3 (by decide) (hts (.fieldLink RX1 109 "EchoTaps" "kept" "I") (by decide +kernel)) (fun _ h9 => h9) rfl (by decide +kernel) rfl rfl (Nat.le_of_ble_eq_true rfl) dX1_image_34 (fun H locs hP hD hS => ?_)
      have hP : va_P D vwCl ([EO ob h t i (kp ||| ((1 : Int32) <<< ((1 : Int32) &&& 31)))] ++ ([AO cR i h0 h1] ++ ((LW cA h as st) ++ ((LW cA h0 a0 s0) ++ (LW cA h1 a1 st))))) H := hP
      have hD : va_D A ([EO ob h t i (kp ||| ((1 : Int32) <<< ((1 : Int32) &&& 31)))] ++ ([AO cR i h0 h1] ++ ((LW cA h as st) ++ ((LW cA h0 a0 s0) ++ (LW cA h1 a1 st))))) := hD
      refine lv_iconst (v := 1) hx hb dX1_image_37 (by decide) ?_
      exact hret _ _ _ _ _ hP rfl hS dX1_image_38
  · have c_1 : (pf_in k 0 1) = 0 := c_1
    have e0 := pf_in01 c_1
    have e1 : xs_im0 st s0 k = s0 := if_neg e0.1
    have e2 : xs_im1 st s1 k = s1 := if_neg e0.2
    have e3 : xk_image kp k = kp := if_pos c_1
    refine lv_bipush (v := (-2)) hx hb dX1_image_9 (by decide) ?_
    exact hret _ _ _ _ _ (by rw [e1, e2, e3]; exact hP) ((if_pos c_1).symm) hS dX1_image_11

abbrev rm_X1_restore : Room := { frames := 2, cells := 0, slots := 0, locals := 85 }
theorem iw_X1_restore_X1 : ∀ w ∈ wsX10, w ∈ wsX1_restore := by decide +kernel
set_option maxRecDepth 100000 in
set_option maxHeartbeats 4000000 in
theorem c_X1_restore (l : Launch) (D : va_G) (cA cZ cR : ClassId) (ob h t i : Nat) (kp : Int32) (as : Nat → Nat) (st : St) (h0 : Nat) (a0 : Nat → Nat) (s0 : St) (h1 : Nat) (a1 : Nat → Nat) (s1 : St) (k : Int32) : BMi l D cA cZ cR yX1_restore wsX1_restore rm_X1_restore [.ref ob, .int k] ([EO ob h t i kp] ++ ([AO cR i h0 h1] ++ ((LW cA h as st) ++ ((LW cA h0 a0 s0) ++ (LW cA h1 a1 s1))))) ([EO ob h t i kp] ++ ([AO cR i h0 h1] ++ ((LW cA h as (xs_rest st s0 s1 kp k)) ++ ((LW cA h0 a0 s0) ++ (LW cA h1 a1 s1))))) (xf_rest kp k) := by
  refine bm_open (maxL := 2) (by decide) rfl rfl rfl (Nat.le_of_ble_eq_true rfl) ?_
  intro p e s m args below meth c A Q hx hb hml hts hown hE hP hD hA hS hret ls hl
  have hown : s.vm.findClass RX1 = some m.cls := hown
  have hl : lv_has ls 2 [(0, .ref ob), (1, .int k)] := hl
  obtain ⟨H, locs, eH, eL⟩ : ∃ (H : Heap) (locs : List Loc), H = s.heap ∧ locs = [] := ⟨_, _, rfl, rfl⟩
  rw [← eH, ← eL]
  rw [← eH] at hP
  have hS : va_S A s.heap H locs := by rw [eH, eL]; exact hS
  clear eH eL
  refine lv_iload_n hx hb dX1_restore_0 rfl (lv_at hl 1 rfl) ?_
  refine lv_iconst (v := 0) hx hb dX1_restore_1 (by decide) ?_
  refine lv_iconst (v := 1) hx hb dX1_restore_2 (by decide) ?_
  refine sm_i [.int k, .int 0, .int 1] [] ⟨hx, hb, hml, hown, hts⟩ (c_X1_within l k 0 1) (va_cwS 3 hts gX1_restore_X1_within rfl rfl rfl (by decide +kernel) ⟨Nat.le_of_ble_eq_true rfl, Nat.le_of_ble_eq_true rfl⟩) rfl hl.1 rfl (Nat.le_of_ble_eq_true rfl) dX1_restore_3 ⟨Nat.zero_le _, Nat.zero_le _⟩ ?_
  refine lv_if_ne (tgt := 12) hx hb dX1_restore_6 (by decide) (fun c_1 => ?_) (fun c_1 => ?_)
  · have c_1 : ¬ (pf_in k 0 1) = 0 := c_1
    refine lv_aload_n hx hb dX1_restore_12 rfl (lv_at hl 0 rfl) ?_
    refine va_get (D := D) (ci := 1) (v := .int kp) (C := RX1) (T := TX1) (N := 4) hx hb hts iw_X1_restore_X1 hown hE.1 hP 0 rfl rfl 3 (by decide) (hts (.fieldLink RX1 109 "EchoTaps" "kept" "I") (by decide +kernel)) (fun _ h9 => h9) rfl dX1_restore_13 ?_
    refine lv_iconst (v := 1) hx hb dX1_restore_16 (by decide) ?_
    refine lv_iload_n hx hb dX1_restore_17 rfl (lv_at hl 1 rfl) ?_
    refine lv_ishl hx hb dX1_restore_18 ?_
    refine lv_iand hx hb dX1_restore_19 ?_
    refine lv_if_ne (tgt := 26) hx hb dX1_restore_20 (by decide) (fun c_2 => ?_) (fun c_2 => ?_)
    · have c_2 : ¬ (kp &&& ((1 : Int32) <<< ((k : Int32) &&& 31))) = 0 := c_2
      have e1 : xs_rest st s0 s1 kp k = if k = 0 then s0 else s1 := by rw [xs_rest, if_neg c_1, xb, if_neg c_2]
      have e2 : xf_rest kp k = 1 := by rw [xf_rest, if_neg c_1, xb, if_neg c_2]
      rw [e1, e2] at hret
      obtain ⟨j, hj, ek⟩ := in_nI (b := 1) (by decide) c_1
      rcases (show j = 0 ∨ j = 1 by omega) with rfl | rfl
      · obtain rfl : k = 0 := ek
        refine lv_aload_n hx hb dX1_restore_26 rfl (lv_at hl 0 rfl) ?_
        refine va_get (D := D) (ci := 1) (v := .ref h) (C := RX1) (T := TX1) (N := 4) hx hb hts iw_X1_restore_X1 hown hE.1 hP 0 rfl rfl 0 (by decide) (hts (.fieldLink RX1 12 "EchoTaps" "line" "LEchoTaps$Line;") (by decide +kernel)) (fun _ h9 => h9) rfl dX1_restore_27 ?_
        refine lv_aload_n hx hb dX1_restore_30 rfl (lv_at hl 0 rfl) ?_
        refine va_get (D := D) (ci := 1) (v := .ref i) (C := RX1) (T := TX1) (N := 4) hx hb hts iw_X1_restore_X1 hown hE.1 hP 0 rfl rfl 2 (by decide) (hts (.fieldLink RX1 19 "EchoTaps" "images" "[LEchoTaps$Line;") (by decide +kernel)) (fun _ h9 => h9) rfl dX1_restore_31 ?_
        refine lv_iload_n hx hb dX1_restore_34 rfl (lv_at hl 1 rfl) ?_
        refine va_aldq hx hb hE.1 hP 1 2 rfl rfl (vp_in_nI (n := 0) (N := 2) (by decide) (by decide)) dX1_restore_35 ?_
        refine W.eq (g2 := F0 m 36 ls [.ref h0, .ref h]) rfl ?_
        have hP : va_P D vwCl ([EO ob h t i kp] ++ ([AO cR i h0 h1] ++ ((LW cA h0 a0 s0) ++ ((LW cA h as st) ++ (LW cA h1 a1 s1))))) H := hP.sub [0, 1, 11, 12, 13, 14, 15, 16, 17, 18, 19, 2, 3, 4, 5, 6, 7, 8, 9, 10, 20, 21, 22, 23, 24, 25, 26, 27, 28] rfl
        have hD : va_D A ([EO ob h t i kp] ++ ([AO cR i h0 h1] ++ ((LW cA h0 a0 s0) ++ ((LW cA h as st) ++ (LW cA h1 a1 s1))))) := hD.sub [0, 1, 11, 12, 13, 14, 15, 16, 17, 18, 19, 2, 3, 4, 5, 6, 7, 8, 9, 10, 20, 21, 22, 23, 24, 25, 26, 27, 28] (by decide) rfl
        refine bm_v ([EO ob h t i kp] ++ [AO cR i h0 h1]) ((LW cA h0 a0 s0) ++ (LW cA h as st)) (LW cA h1 a1 s1) [.ref h0] [] ⟨hx, hb, hml, hown, hts⟩ (c_X0_copyFrom l D cA cZ cR h as st h0 a0 s0) (cwV 1 hts gX1_restore_X0_copyFrom rfl rfl rfl (by decide +kernel) ⟨Nat.le_of_ble_eq_true rfl, Nat.le_of_ble_eq_true rfl⟩) hE hP hD hS hA LLW_adr 9 0 rfl rfl rfl hl.1 rfl (Nat.le_of_ble_eq_true rfl) dX1_restore_36 ⟨Nat.zero_le _, Nat.zero_le _⟩ (fun H locs hP hD hS => ?_)
        have hP : va_P D vwCl ([EO ob h t i kp] ++ ([AO cR i h0 h1] ++ ((LW cA h0 a0 s0) ++ ((LW cA h as s0) ++ (LW cA h1 a1 s1))))) H := hP
        have hD : va_D A ([EO ob h t i kp] ++ ([AO cR i h0 h1] ++ ((LW cA h0 a0 s0) ++ ((LW cA h as s0) ++ (LW cA h1 a1 s1))))) := hD
        have hP : va_P D vwCl ([EO ob h t i kp] ++ ([AO cR i h0 h1] ++ ((LW cA h as s0) ++ ((LW cA h0 a0 s0) ++ (LW cA h1 a1 s1))))) H := hP.sub [0, 1, 11, 12, 13, 14, 15, 16, 17, 18, 19, 2, 3, 4, 5, 6, 7, 8, 9, 10, 20, 21, 22, 23, 24, 25, 26, 27, 28] rfl
        have hD : va_D A ([EO ob h t i kp] ++ ([AO cR i h0 h1] ++ ((LW cA h as s0) ++ ((LW cA h0 a0 s0) ++ (LW cA h1 a1 s1))))) := hD.sub [0, 1, 11, 12, 13, 14, 15, 16, 17, 18, 19, 2, 3, 4, 5, 6, 7, 8, 9, 10, 20, 21, 22, 23, 24, 25, 26, 27, 28] (by decide) rfl
        refine lv_iconst (v := 1) hx hb dX1_restore_39 (by decide) ?_
        exact hret _ _ _ _ _ hP rfl hS dX1_restore_40
      · obtain rfl : k = 1 := ek
        refine lv_aload_n hx hb dX1_restore_26 rfl (lv_at hl 0 rfl) ?_
        refine va_get (D := D) (ci := 1) (v := .ref h) (C := RX1) (T := TX1) (N := 4) hx hb hts iw_X1_restore_X1 hown hE.1 hP 0 rfl rfl 0 (by decide) (hts (.fieldLink RX1 12 "EchoTaps" "line" "LEchoTaps$Line;") (by decide +kernel)) (fun _ h9 => h9) rfl dX1_restore_27 ?_
        refine lv_aload_n hx hb dX1_restore_30 rfl (lv_at hl 0 rfl) ?_
        refine va_get (D := D) (ci := 1) (v := .ref i) (C := RX1) (T := TX1) (N := 4) hx hb hts iw_X1_restore_X1 hown hE.1 hP 0 rfl rfl 2 (by decide) (hts (.fieldLink RX1 19 "EchoTaps" "images" "[LEchoTaps$Line;") (by decide +kernel)) (fun _ h9 => h9) rfl dX1_restore_31 ?_
        refine lv_iload_n hx hb dX1_restore_34 rfl (lv_at hl 1 rfl) ?_
        refine va_aldq hx hb hE.1 hP 1 2 rfl rfl (vp_in_nI (n := 1) (N := 2) (by decide) (by decide)) dX1_restore_35 ?_
        refine W.eq (g2 := F0 m 36 ls [.ref h1, .ref h]) rfl ?_
        have hP : va_P D vwCl ([EO ob h t i kp] ++ ([AO cR i h0 h1] ++ ((LW cA h0 a0 s0) ++ ((LW cA h1 a1 s1) ++ (LW cA h as st))))) H := hP.sub [0, 1, 11, 12, 13, 14, 15, 16, 17, 18, 19, 20, 21, 22, 23, 24, 25, 26, 27, 28, 2, 3, 4, 5, 6, 7, 8, 9, 10] rfl
        have hD : va_D A ([EO ob h t i kp] ++ ([AO cR i h0 h1] ++ ((LW cA h0 a0 s0) ++ ((LW cA h1 a1 s1) ++ (LW cA h as st))))) := hD.sub [0, 1, 11, 12, 13, 14, 15, 16, 17, 18, 19, 20, 21, 22, 23, 24, 25, 26, 27, 28, 2, 3, 4, 5, 6, 7, 8, 9, 10] (by decide) rfl
        refine bm_v ([EO ob h t i kp] ++ ([AO cR i h0 h1] ++ (LW cA h0 a0 s0))) ((LW cA h1 a1 s1) ++ (LW cA h as st)) [] [.ref h1] [] ⟨hx, hb, hml, hown, hts⟩ (c_X0_copyFrom l D cA cZ cR h as st h1 a1 s1) (cwV 1 hts gX1_restore_X0_copyFrom rfl rfl rfl (by decide +kernel) ⟨Nat.le_of_ble_eq_true rfl, Nat.le_of_ble_eq_true rfl⟩) hE hP hD hS hA LLW_adr 9 0 rfl rfl rfl hl.1 rfl (Nat.le_of_ble_eq_true rfl) dX1_restore_36 ⟨Nat.zero_le _, Nat.zero_le _⟩ (fun H locs hP hD hS => ?_)
        have hP : va_P D vwCl ([EO ob h t i kp] ++ ([AO cR i h0 h1] ++ ((LW cA h0 a0 s0) ++ ((LW cA h1 a1 s1) ++ (LW cA h as s1))))) H := hP
        have hD : va_D A ([EO ob h t i kp] ++ ([AO cR i h0 h1] ++ ((LW cA h0 a0 s0) ++ ((LW cA h1 a1 s1) ++ (LW cA h as s1))))) := hD
        have hP : va_P D vwCl ([EO ob h t i kp] ++ ([AO cR i h0 h1] ++ ((LW cA h as s1) ++ ((LW cA h0 a0 s0) ++ (LW cA h1 a1 s1))))) H := hP.sub [0, 1, 20, 21, 22, 23, 24, 25, 26, 27, 28, 2, 3, 4, 5, 6, 7, 8, 9, 10, 11, 12, 13, 14, 15, 16, 17, 18, 19] rfl
        have hD : va_D A ([EO ob h t i kp] ++ ([AO cR i h0 h1] ++ ((LW cA h as s1) ++ ((LW cA h0 a0 s0) ++ (LW cA h1 a1 s1))))) := hD.sub [0, 1, 20, 21, 22, 23, 24, 25, 26, 27, 28, 2, 3, 4, 5, 6, 7, 8, 9, 10, 11, 12, 13, 14, 15, 16, 17, 18, 19] (by decide) rfl
        refine lv_iconst (v := 1) hx hb dX1_restore_39 (by decide) ?_
        exact hret _ _ _ _ _ hP rfl hS dX1_restore_40
    · have c_2 : (kp &&& ((1 : Int32) <<< ((k : Int32) &&& 31))) = 0 := c_2
      have e1 : xs_rest st s0 s1 kp k = st := by rw [xs_rest, if_neg c_1, xb, if_pos c_2]
      have e2 : xf_rest kp k = -3 := by rw [xf_rest, if_neg c_1, xb, if_pos c_2]
      refine lv_bipush (v := (-3)) hx hb dX1_restore_23 (by decide) ?_
      exact hret _ _ _ _ _ (by rw [e1]; exact hP) e2.symm hS dX1_restore_25
  · have c_1 : (pf_in k 0 1) = 0 := c_1
    have e1 : xs_rest st s0 s1 kp k = st := if_pos c_1
    refine lv_bipush (v := (-2)) hx hb dX1_restore_9 (by decide) ?_
    exact hret _ _ _ _ _ (by rw [e1]; exact hP) ((if_pos c_1).symm) hS dX1_restore_11
