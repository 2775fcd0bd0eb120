abbrev rm_X2_save : Room := { frames := 0, cells := 0, slots := 0, locals := 0 }
theorem iw_X2_save_X2 : ∀ w ∈ wsX20, w ∈ wsX2_save := by decide +kernel
set_option maxRecDepth 100000 in
set_option maxHeartbeats 4000000 in
theorem c_X2_save (l : Launch) (D : va_G) (cA cZ cR : ClassId) (h : Nat) (as : Nat → Nat) (g im kp : Fn) (t : Nat) (ht : t ≤ 2) : BMv l D cA cZ cR yX2_save wsX2_save rm_X2_save [.ref h, .int (nI t)] (MW cA cZ h as g im kp) (MW cA cZ h as g (mf_sv im g t 555) kp) := by
  refine bm_openV (maxL := 3) (by decide) rfl rfl rfl (Nat.le_of_ble_eq_true rfl) ?_
  intro p e s m args below meth c A Q hx hb hml hts hown hE hP hD hA hS hret ls hl
  have hown : s.vm.findClass RX2 = some m.cls := hown
  have hl : lv_has ls 3 [(0, .ref h), (1, .int (nI t))] := hl
  obtain ⟨H, locs, eH, eL⟩ : ∃ (H : Heap) (locs : List Loc), H = s.heap ∧ locs = [] := ⟨_, _, rfl, rfl⟩
  rw [← eH, ← eL]
  rw [← eH] at hP
  have hS : va_S A s.heap H locs := by rw [eH, eL]; exact hS
  clear eH eL
  refine lv_iconst (v := 0) hx hb dX2_save_0 (by decide) ?_
  refine lv_istore_n (lv' := [(2, .int 0), (0, .ref h), (1, .int (nI t))]) hx hb dX2_save_1 rfl hl (by decide) rfl (fun ls hl => ?_)
  have hP : va_P D vwCl (MW cA cZ h as g (mf_sv im g t 0) kp) H := by rw [mf_sv0]; exact hP
  have hD : va_D A (MW cA cZ h as g (mf_sv im g t 0) kp) := by rw [mf_sv0]; exact hD
  have loop : ∀ (n : Nat) (k : Nat) (hk : k + n = 555), ∀ (H : Heap) (locs : List Loc), va_P D vwCl (MW cA cZ h as g (mf_sv im g t k) kp) H → va_D A (MW cA cZ h as g (mf_sv im g t k) kp) → va_S A s.heap H locs → ∀ ls : Array Slot, lv_has ls 3 [(2, .int (nI k)), (1, .int (nI t)), (0, .ref h)] → W p l e rm_X2_save s m args below meth c H locs 0 0 Q (F0 m 2 ls []) := by
    intro n
    induction n with
    | zero =>
      intro k hk H locs hP hD hS ls hl
      obtain rfl : k = 555 := by omega
      refine lv_iload_n hx hb dX2_save_2 rfl (lv_at hl 0 rfl) ?_
      refine lv_sipush (v := 555) hx hb dX2_save_3 (by decide) ?_
      refine lv_icmp_ge (tgt := 33) hx hb dX2_save_6 (by decide) (fun c_1 => ?_) (fun c_1 => absurd (by decide) c_1)
      exact hret _ _ _ _ hP hS dX2_save_33
    | succ n ih =>
      intro k hk H locs hP hD hS ls hl
      obtain ⟨mk, emk⟩ : ∃ z : Fn, z = mf_sv im g t k := ⟨_, rfl⟩
      rw [← emk] at hP hD
      refine lv_iload_n hx hb dX2_save_2 rfl (lv_at hl 0 rfl) ?_
      refine lv_sipush (v := 555) hx hb dX2_save_3 (by decide) ?_
      refine lv_icmp_ge (tgt := 33) hx hb dX2_save_6 (by decide) (fun c_2 => absurd c_2 (nI_ge (a := k) (b := 555) (by omega) (by decide))) (fun c_2 => ?_)
      refine lv_aload_n hx hb dX2_save_9 rfl (lv_at hl 2 rfl) ?_
      refine va_get (D := D) (ci := 2) (v := .ref (as 1)) (C := RX2) (T := TX2) (N := 3) hx hb hts iw_X2_save_X2 hown hE.1 hP 0 rfl rfl 1 (by decide) (hts (.fieldLink RX2 13 "EchoTapsModel" "images" "[I") (by decide +kernel)) (fun _ h9 => h9) rfl dX2_save_10 ?_
      refine lv_sipush (v := 555) hx hb dX2_save_13 (by decide) ?_
      refine lv_iload_n hx hb dX2_save_16 rfl (lv_at hl 1 rfl) ?_
      refine lv_imul hx hb dX2_save_17 ?_
      refine lv_ri (pk_mul 555 t) ?_
      refine lv_iload_n hx hb dX2_save_18 rfl (lv_at hl 0 rfl) ?_
      refine lv_iadd hx hb dX2_save_19 ?_
      refine lv_ri (nI_add (555 * t) k) ?_
      refine lv_aload_n hx hb dX2_save_20 rfl (lv_at hl 2 rfl) ?_
      refine va_get (D := D) (ci := 2) (v := .ref (as 0)) (C := RX2) (T := TX2) (N := 3) hx hb hts iw_X2_save_X2 hown hE.1 hP 0 rfl rfl 0 (by decide) (hts (.fieldLink RX2 7 "EchoTapsModel" "state" "[I") (by decide +kernel)) (fun _ h9 => h9) rfl dX2_save_21 ?_
      refine lv_iload_n hx hb dX2_save_24 rfl (lv_at hl 0 rfl) ?_
      refine va_iald hx hb hE.1 hP 1 0 rfl rfl (vp_in_nI (by omega) (by decide)) dX2_save_25 ?_
      refine lv_ri (congrArg g (nI_clamp (n := k) (by omega))) ?_
      refine va_iast hx hb hE.1 hP hD hS 2 0 rfl rfl (vp_in_nI (by omega) (by decide)) dX2_save_26 (fun H locs hP hD hS => ?_)
      rw [show (nI (555 * t + k)).toNatClampNeg = 555 * t + k from nI_clamp (by omega)] at hP hD
      have hP : va_P D vwCl (MW cA cZ h as g (upd mk (555 * t + k) (g k)) kp) H := hP
      have hD : va_D A (MW cA cZ h as g (upd mk (555 * t + k) (g k)) kp) := hD
      refine lv_iinc (v := nI (k + 1)) (lv' := [(2, .int (nI (k + 1))), (1, .int (nI t)), (0, .ref h)]) hx hb dX2_save_27 hl (k := 0) rfl (nI_1 k) (by decide) rfl (fun ls hl => ?_)
      refine lv_goto (tgt := 2) hx hb dX2_save_30 (by decide) ?_
      rw [emk, mf_sv1] at hP hD
      exact ih (k + 1) (by omega) H locs hP hD hS ls (lv_sub hl [0, 1, 2] rfl)
  exact loop 555 0 rfl H locs hP hD hS ls (lv_sub hl [0, 2, 1] rfl)

abbrev rm_X2_load : Room := { frames := 0, cells := 0, slots := 0, locals := 0 }
theorem iw_X2_load_X2 : ∀ w ∈ wsX20, w ∈ wsX2_load := by decide +kernel
set_option maxRecDepth 100000 in
set_option maxHeartbeats 4000000 in
theorem c_X2_load (l : Launch) (D : va_G) (cA cZ cR : ClassId) (h : Nat) (as : Nat → Nat) (g im kp : Fn) (t : Nat) (ht : t ≤ 2) : BMv l D cA cZ cR yX2_load wsX2_load rm_X2_load [.ref h, .int (nI t)] (MW cA cZ h as g im kp) (MW cA cZ h as (mf_ld g im t 555) im kp) := by
  refine bm_openV (maxL := 3) (by decide) rfl rfl rfl (Nat.le_of_ble_eq_true rfl) ?_
  intro p e s m args below meth c A Q hx hb hml hts hown hE hP hD hA hS hret ls hl
  have hown : s.vm.findClass RX2 = some m.cls := hown
  have hl : lv_has ls 3 [(0, .ref h), (1, .int (nI t))] := hl
  obtain ⟨H, locs, eH, eL⟩ : ∃ (H : Heap) (locs : List Loc), H = s.heap ∧ locs = [] := ⟨_, _, rfl, rfl⟩
  rw [← eH, ← eL]
  rw [← eH] at hP
  have hS : va_S A s.heap H locs := by rw [eH, eL]; exact hS
  clear eH eL
  refine lv_iconst (v := 0) hx hb dX2_load_0 (by decide) ?_
  refine lv_istore_n (lv' := [(2, .int 0), (0, .ref h), (1, .int (nI t))]) hx hb dX2_load_1 rfl hl (by decide) rfl (fun ls hl => ?_)
  have hP : va_P D vwCl (MW cA cZ h as (mf_ld g im t 0) im kp) H := by rw [mf_ld0]; exact hP
  have hD : va_D A (MW cA cZ h as (mf_ld g im t 0) im kp) := by rw [mf_ld0]; exact hD
  have loop : ∀ (n : Nat) (k : Nat) (hk : k + n = 555), ∀ (H : Heap) (locs : List Loc), va_P D vwCl (MW cA cZ h as (mf_ld g im t k) im kp) H → va_D A (MW cA cZ h as (mf_ld g im t k) im kp) → va_S A s.heap H locs → ∀ ls : Array Slot, lv_has ls 3 [(2, .int (nI k)), (1, .int (nI t)), (0, .ref h)] → W p l e rm_X2_load s m args below meth c H locs 0 0 Q (F0 m 2 ls []) := by
    intro n
    induction n with
    | zero =>
      intro k hk H locs hP hD hS ls hl
      obtain rfl : k = 555 := by omega
      refine lv_iload_n hx hb dX2_load_2 rfl (lv_at hl 0 rfl) ?_
      refine lv_sipush (v := 555) hx hb dX2_load_3 (by decide) ?_
      refine lv_icmp_ge (tgt := 33) hx hb dX2_load_6 (by decide) (fun c_1 => ?_) (fun c_1 => absurd (by decide) c_1)
      exact hret _ _ _ _ hP hS dX2_load_33
    | succ n ih =>
      intro k hk H locs hP hD hS ls hl
      obtain ⟨gk, egk⟩ : ∃ z : Fn, z = mf_ld g im t k := ⟨_, rfl⟩
      rw [← egk] at hP hD
      refine lv_iload_n hx hb dX2_load_2 rfl (lv_at hl 0 rfl) ?_
      refine lv_sipush (v := 555) hx hb dX2_load_3 (by decide) ?_
      refine lv_icmp_ge (tgt := 33) hx hb dX2_load_6 (by decide) (fun c_2 => absurd c_2 (nI_ge (a := k) (b := 555) (by omega) (by decide))) (fun c_2 => ?_)
      refine lv_aload_n hx hb dX2_load_9 rfl (lv_at hl 2 rfl) ?_
      refine va_get (D := D) (ci := 2) (v := .ref (as 0)) (C := RX2) (T := TX2) (N := 3) hx hb hts iw_X2_load_X2 hown hE.1 hP 0 rfl rfl 0 (by decide) (hts (.fieldLink RX2 7 "EchoTapsModel" "state" "[I") (by decide +kernel)) (fun _ h9 => h9) rfl dX2_load_10 ?_
      refine lv_iload_n hx hb dX2_load_13 rfl (lv_at hl 0 rfl) ?_
      refine lv_aload_n hx hb dX2_load_14 rfl (lv_at hl 2 rfl) ?_
      refine va_get (D := D) (ci := 2) (v := .ref (as 1)) (C := RX2) (T := TX2) (N := 3) hx hb hts iw_X2_load_X2 hown hE.1 hP 0 rfl rfl 1 (by decide) (hts (.fieldLink RX2 13 "EchoTapsModel" "images" "[I") (by decide +kernel)) (fun _ h9 => h9) rfl dX2_load_15 ?_
      refine lv_sipush (v := 555) hx hb dX2_load_18 (by decide) ?_
      refine lv_iload_n hx hb dX2_load_21 rfl (lv_at hl 1 rfl) ?_
      refine lv_imul hx hb dX2_load_22 ?_
      refine lv_ri (pk_mul 555 t) ?_
      refine lv_iload_n hx hb dX2_load_23 rfl (lv_at hl 0 rfl) ?_
      refine lv_iadd hx hb dX2_load_24 ?_
      refine lv_ri (nI_add (555 * t) k) ?_
      refine va_iald hx hb hE.1 hP 2 0 rfl rfl (vp_in_nI (by omega) (by decide)) dX2_load_25 ?_
      refine lv_ri (congrArg im (nI_clamp (n := 555 * t + k) (by omega))) ?_
      refine va_iast hx hb hE.1 hP hD hS 1 0 rfl rfl (vp_in_nI (by omega) (by decide)) dX2_load_26 (fun H locs hP hD hS => ?_)
      rw [show (nI (k)).toNatClampNeg = k from nI_clamp (by omega)] at hP hD
      have hP : va_P D vwCl (MW cA cZ h as (upd gk k (im (555 * t + k))) im kp) H := hP
      have hD : va_D A (MW cA cZ h as (upd gk k (im (555 * t + k))) im kp) := hD
      refine lv_iinc (v := nI (k + 1)) (lv' := [(2, .int (nI (k + 1))), (1, .int (nI t)), (0, .ref h)]) hx hb dX2_load_27 hl (k := 0) rfl (nI_1 k) (by decide) rfl (fun ls hl => ?_)
      refine lv_goto (tgt := 2) hx hb dX2_load_30 (by decide) ?_
      rw [egk, mf_ld1] at hP hD
      exact ih (k + 1) (by omega) H locs hP hD hS ls (lv_sub hl [0, 1, 2] rfl)
  exact loop 555 0 rfl H locs hP hD hS ls (lv_sub hl [0, 2, 1] rfl)

abbrev rm_X2_run : Room := { frames := 5, cells := 0, slots := 0, locals := 105 }
theorem iw_X2_run_X2 : ∀ w ∈ wsX20, w ∈ wsX2_run := by decide +kernel
set_option maxRecDepth 100000 in
set_option maxHeartbeats 4000000 in
theorem c_X2_run (l : Launch) (D : va_G) (cA cZ cR : ClassId) (h : Nat) (as : Nat → Nat) (g im kp : Fn) (z n0 loud : Int32) (hd : DL g) (hg : LG g) : BMi l D cA cZ cR yX2_run wsX2_run rm_X2_run [.ref h, .int z, .int n0, .int loud] (MW cA cZ h as g im kp) (MW cA cZ h as (ys_run g z n0 loud) im kp) (yf_run g z n0 loud) := by
  refine bm_open (maxL := 7) (by decide) rfl rfl rfl (Nat.le_of_ble_eq_true rfl) ?_
  intro p e s m args below meth c A Q hx hb hml hts hown hE hP hD hA hS hret ls hl
  have hown : s.vm.findClass RX2 = some m.cls := hown
  have hl : lv_has ls 7 [(0, .ref h), (1, .int z), (2, .int n0), (3, .int loud)] := hl
  obtain ⟨H, locs, eH, eL⟩ : ∃ (H : Heap) (locs : List Loc), H = s.heap ∧ locs = [] := ⟨_, _, rfl, rfl⟩
  rw [← eH, ← eL]
  rw [← eH] at hP
  have hS : va_S A s.heap H locs := by rw [eH, eL]; exact hS
  clear eH eL
  refine lv_iload_n hx hb dX2_run_0 rfl (lv_at hl 1 rfl) ?_
  refine lv_iconst (v := 0) hx hb dX2_run_1 (by decide) ?_
  refine lv_ldc (v := 65536) hx hb hown (hts (.constant RX2 88 (65536)) (by decide +kernel)) dX2_run_2 ?_
  refine sm_i [.int z, .int 0, .int 65536] [] ⟨hx, hb, hml, hown, hts⟩ (c_X2_in l z 0 65536) (va_cwS 3 hts gX2_run_X2_in rfl rfl rfl (by decide +kernel) ⟨Nat.le_of_ble_eq_true rfl, Nat.le_of_ble_eq_true rfl⟩) rfl hl.1 rfl (Nat.le_of_ble_eq_true rfl) dX2_run_4 ⟨Nat.zero_le _, Nat.zero_le _⟩ ?_
  refine lv_if_eq (tgt := 31) hx hb dX2_run_7 (by decide) (fun c_1 => ?_) (fun c_1 => ?_)
  · have c_1 : (pf_in z 0 65536) = 0 := c_1
    refine lv_bipush (v := (-2)) hx hb dX2_run_31 (by decide) ?_
    have e1 : ys_run g z n0 loud = g := if_pos (Or.inl c_1)
    exact hret _ _ _ _ _ (by rw [e1]; exact hP) ((if_pos (Or.inl c_1)).symm) hS dX2_run_33
  · have c_1 : ¬ (pf_in z 0 65536) = 0 := c_1
    refine lv_iload_n hx hb dX2_run_10 rfl (lv_at hl 2 rfl) ?_
    refine lv_iconst (v := 1) hx hb dX2_run_11 (by decide) ?_
    refine lv_bipush (v := 60) hx hb dX2_run_12 (by decide) ?_
    refine sm_i [.int n0, .int 1, .int 60] [] ⟨hx, hb, hml, hown, hts⟩ (c_X2_in l n0 1 60) (va_cwS 3 hts gX2_run_X2_in rfl rfl rfl (by decide +kernel) ⟨Nat.le_of_ble_eq_true rfl, Nat.le_of_ble_eq_true rfl⟩) rfl hl.1 rfl (Nat.le_of_ble_eq_true rfl) dX2_run_14 ⟨Nat.zero_le _, Nat.zero_le _⟩ ?_
    refine lv_if_eq (tgt := 31) hx hb dX2_run_17 (by decide) (fun c_2 => ?_) (fun c_2 => ?_)
    · have c_2 : (pf_in n0 1 60) = 0 := c_2
      refine lv_bipush (v := (-2)) hx hb dX2_run_31 (by decide) ?_
      have e1 : ys_run g z n0 loud = g := if_pos (Or.inr (Or.inl c_2))
      exact hret _ _ _ _ _ (by rw [e1]; exact hP) ((if_pos (Or.inr (Or.inl c_2))).symm) hS dX2_run_33
    · have c_2 : ¬ (pf_in n0 1 60) = 0 := c_2
      refine lv_iload_n hx hb dX2_run_20 rfl (lv_at hl 3 rfl) ?_
      refine lv_iconst (v := 0) hx hb dX2_run_21 (by decide) ?_
      refine lv_sipush (v := 1000) hx hb dX2_run_22 (by decide) ?_
      refine sm_i [.int loud, .int 0, .int 1000] [] ⟨hx, hb, hml, hown, hts⟩ (c_X2_in l loud 0 1000) (va_cwS 3 hts gX2_run_X2_in rfl rfl rfl (by decide +kernel) ⟨Nat.le_of_ble_eq_true rfl, Nat.le_of_ble_eq_true rfl⟩) rfl hl.1 rfl (Nat.le_of_ble_eq_true rfl) dX2_run_25 ⟨Nat.zero_le _, Nat.zero_le _⟩ ?_
      refine lv_if_ne (tgt := 34) hx hb dX2_run_28 (by decide) (fun c_3 => ?_) (fun c_3 => ?_)
      · have c_3 : ¬ (pf_in loud 0 1000) = 0 := c_3
        obtain ⟨N, hN, rfl⟩ := in_nI60 c_2
        have e1 : ys_run g z (nI N) loud = yr_g loud (nI N).toNatClampNeg z g := if_neg (fun q => q.elim c_1 (fun q => q.elim c_2 c_3))
        have e2 : yf_run g z (nI N) loud = yr_sum loud (nI N).toNatClampNeg z g 0 := if_neg (fun q => q.elim c_1 (fun q => q.elim c_2 c_3))
        rw [nI_clamp (by omega)] at e1 e2
        rw [e1, e2] at hret
        refine lv_iload_n hx hb dX2_run_34 rfl (lv_at hl 1 rfl) ?_
        refine lv_istore (lv' := [(4, .int z), (0, .ref h), (1, .int z), (2, .int (nI N)), (3, .int loud)]) hx hb dX2_run_35 hl (by decide) rfl (fun ls hl => ?_)
        refine lv_iconst (v := 0) hx hb dX2_run_37 (by decide) ?_
        refine lv_istore (lv' := [(5, .int 0), (4, .int z), (0, .ref h), (1, .int z), (2, .int (nI N)), (3, .int loud)]) hx hb dX2_run_38 hl (by decide) rfl (fun ls hl => ?_)
        refine lv_iconst (v := 0) hx hb dX2_run_40 (by decide) ?_
        refine lv_istore (lv' := [(6, .int 0), (5, .int 0), (4, .int z), (0, .ref h), (1, .int z), (2, .int (nI N)), (3, .int loud)]) hx hb dX2_run_41 hl (by decide) rfl (fun ls hl => ?_)
        have loop : ∀ (n : Nat) (k : Nat) (y : Int32) (g1 : Fn) (a : Int32) (hk : k + n = N) (hd : DL g1) (hg : LG g1) (ha : yr_sum loud n y g1 a = yr_sum loud N z g 0) (hs : yr_g loud n y g1 = yr_g loud N z g), ∀ (H : Heap) (locs : List Loc), va_P D vwCl (MW cA cZ h as g1 im kp) H → va_D A (MW cA cZ h as g1 im kp) → va_S A s.heap H locs → ∀ ls : Array Slot, lv_has ls 7 [(6, .int (nI k)), (5, .int a), (4, .int y), (3, .int loud), (2, .int (nI N)), (1, .int z), (0, .ref h)] → W p l e rm_X2_run s m args below meth c H locs 0 0 Q (F0 m 43 ls []) := by
          intro n
          induction n with
          | zero =>
            intro k y g1 a hk hd hg ha hs H locs hP hD hS ls hl
            obtain rfl : k = N := by omega
            refine lv_iload hx hb dX2_run_43 (lv_at hl 0 rfl) ?_
            refine lv_iload_n hx hb dX2_run_45 rfl (lv_at hl 4 rfl) ?_
            refine lv_icmp_ge (tgt := 93) hx hb dX2_run_46 (by decide) (fun c_4 => ?_) (fun c_4 => absurd (Int32.le_refl _) c_4)
            refine lv_iload hx hb dX2_run_93 (lv_at hl 1 rfl) ?_
            exact hret _ _ _ _ _ (by rw [← hs]; exact hP) ha hS dX2_run_95
          | succ n ih =>
            intro k y g1 a hk hd hg ha hs H locs hP hD hS ls hl
            refine lv_iload hx hb dX2_run_43 (lv_at hl 0 rfl) ?_
            refine lv_iload_n hx hb dX2_run_45 rfl (lv_at hl 4 rfl) ?_
            refine lv_icmp_ge (tgt := 93) hx hb dX2_run_46 (by decide) (fun c_5 => absurd c_5 (nI_ge (a := k) (b := N) (by omega) (by omega))) (fun c_5 => ?_)
            refine lv_iload hx hb dX2_run_49 (lv_at hl 2 rfl) ?_
            refine sm_i [.int y] [] ⟨hx, hb, hml, hown, hts⟩ (c_X2_next l y) (va_cwS 1 hts gX2_run_X2_next rfl rfl rfl (by decide +kernel) ⟨Nat.le_of_ble_eq_true rfl, Nat.le_of_ble_eq_true rfl⟩) rfl hl.1 rfl (Nat.le_of_ble_eq_true rfl) dX2_run_51 ⟨Nat.zero_le _, Nat.zero_le _⟩ ?_
            refine lv_topi (fun y2 ey2 => ?_)
            refine lv_istore (lv' := [(4, .int y2), (6, .int (nI k)), (5, .int a), (3, .int loud), (2, .int (nI N)), (1, .int z), (0, .ref h)]) hx hb dX2_run_54 hl (by decide) rfl (fun ls hl => ?_)
            refine lv_aload_n hx hb dX2_run_56 rfl (lv_at hl 6 rfl) ?_
            refine lv_iload hx hb dX2_run_57 (lv_at hl 0 rfl) ?_
            refine lv_iconst (v := 2) hx hb dX2_run_59 (by decide) ?_
            refine lv_iload_n hx hb dX2_run_60 rfl (lv_at hl 3 rfl) ?_
            refine lv_imul hx hb dX2_run_61 ?_
            refine lv_iconst (v := 1) hx hb dX2_run_62 (by decide) ?_
            refine lv_iadd hx hb dX2_run_63 ?_
            refine lv_irem hx hb dX2_run_64 (pf_odd _) ?_
            refine lv_iload_n hx hb dX2_run_65 rfl (lv_at hl 3 rfl) ?_
            refine lv_isub hx hb dX2_run_66 ?_
            refine lv_topi (fun fr efr => ?_)
            refine lv_iconst (v := 0) hx hb dX2_run_67 (by decide) ?_
            refine bm_i [] (MW cA cZ h as g1 im kp) [] [.int fr, .int 0] [] ⟨hx, hb, hml, hown, hts⟩ (c_X2_speakOf l D cA cZ cR h as g1 im kp fr 0 hd hg) (cwV 2 hts gX2_run_X2_speakOf rfl rfl rfl (by decide +kernel) ⟨Nat.le_of_ble_eq_true rfl, Nat.le_of_ble_eq_true rfl⟩) hE hP hD hS hA MW_adr 0 2 rfl rfl rfl hl.1 rfl (Nat.le_of_ble_eq_true rfl) dX2_run_68 ⟨Nat.zero_le _, Nat.zero_le _⟩ (fun H locs hP hD hS => ?_)
            have hP : va_P D vwCl (MW cA cZ h as (mf_spk g1 fr 0) im kp) H := hP
            have hD : va_D A (MW cA cZ h as (mf_spk g1 fr 0) im kp) := hD
            have hP : va_P D vwCl (MW cA cZ h as (mf_spk g1 fr 0) im kp) H := hP
            have hD : va_D A (MW cA cZ h as (mf_spk g1 fr 0) im kp) := hD
            obtain ⟨g2, eg2⟩ : ∃ z : Fn, z = mf_spk g1 fr 0 := ⟨_, rfl⟩
            rw [← eg2] at hP hD
            have efr : pf_ce y2 loud = fr := efr.symm
            rw [yr_sum, ← ey2, efr, ← eg2] at ha
            rw [yr_g, ← ey2, efr, ← eg2] at hs
            have hd : DL g2 := DL.of (by rw [eg2]; exact mf_spk_out g1 fr 0 (by decide)) hd
            have hg : LG g2 := LG.of (by rw [eg2]; exact mf_spk_out g1 fr 0 (by decide)) hg
            refine lv_pop hx hb dX2_run_71 rfl ?_
            refine lv_iload hx hb dX2_run_72 (lv_at hl 2 rfl) ?_
            refine lv_aload_n hx hb dX2_run_74 rfl (lv_at hl 6 rfl) ?_
            refine va_get (D := D) (ci := 2) (v := .ref (as 0)) (C := RX2) (T := TX2) (N := 3) hx hb hts iw_X2_run_X2 hown hE.1 hP 0 rfl rfl 0 (by decide) (hts (.fieldLink RX2 7 "EchoTapsModel" "state" "[I") (by decide +kernel)) (fun _ h9 => h9) rfl dX2_run_75 ?_
            refine lv_bipush (v := 26) hx hb dX2_run_78 (by decide) ?_
            refine va_iald hx hb hE.1 hP 1 0 rfl rfl (vp_in_nI (n := 26) (N := 555) (by decide) (by decide)) dX2_run_80 ?_
            refine sm_i [.int (g2 26)] [.int a] ⟨hx, hb, hml, hown, hts⟩ (c_X2_size l (g2 26)) (va_cwS 1 hts gX2_run_X2_size rfl rfl rfl (by decide +kernel) ⟨Nat.le_of_ble_eq_true rfl, Nat.le_of_ble_eq_true rfl⟩) rfl hl.1 rfl (Nat.le_of_ble_eq_true rfl) dX2_run_81 ⟨Nat.zero_le _, Nat.zero_le _⟩ ?_
            refine lv_iadd hx hb dX2_run_84 ?_
            refine lv_istore (lv' := [(5, .int (a + (pf_sz (g2 26)))), (4, .int y2), (6, .int (nI k)), (3, .int loud), (2, .int (nI N)), (1, .int z), (0, .ref h)]) hx hb dX2_run_85 hl (by decide) rfl (fun ls hl => ?_)
            refine lv_iinc (v := nI (k + 1)) (lv' := [(6, .int (nI (k + 1))), (5, .int (a + (pf_sz (g2 26)))), (4, .int y2), (3, .int loud), (2, .int (nI N)), (1, .int z), (0, .ref h)]) hx hb dX2_run_87 hl (k := 2) rfl (nI_1 k) (by decide) rfl (fun ls hl => ?_)
            refine lv_goto (tgt := 43) hx hb dX2_run_90 (by decide) ?_
            exact ih (k + 1) y2 g2 _ (by omega) hd hg ha hs H locs hP hD hS ls (lv_sub hl [0, 1, 2, 3, 4, 5, 6] rfl)
        exact loop N 0 z g 0 (by omega) hd hg rfl rfl H locs hP hD hS ls (lv_sub hl [0, 1, 2, 6, 5, 4, 3] rfl)
      · have c_3 : (pf_in loud 0 1000) = 0 := c_3
        refine lv_bipush (v := (-2)) hx hb dX2_run_31 (by decide) ?_
        have e1 : ys_run g z n0 loud = g := if_pos (Or.inr (Or.inr c_3))
        exact hret _ _ _ _ _ (by rw [e1]; exact hP) ((if_pos (Or.inr (Or.inr c_3))).symm) hS dX2_run_33

abbrev rm_X2_learnt : Room := { frames := 5, cells := 0, slots := 0, locals := 105 }
theorem iw_X2_learnt_X2 : ∀ w ∈ wsX20, w ∈ wsX2_learnt := by decide +kernel
set_option maxRecDepth 100000 in
set_option maxHeartbeats 4000000 in
theorem c_X2_learnt (l : Launch) (D : va_G) (cA cZ cR : ClassId) (h : Nat) (as : Nat → Nat) (g im kp : Fn) (z loud limit : Int32) (hd : DL g) (hg : LG g) : BMi l D cA cZ cR yX2_learnt wsX2_learnt rm_X2_learnt [.ref h, .int z, .int loud, .int limit] (MW cA cZ h as g im kp) (MW cA cZ h as g (ym_learnt g im z loud limit) kp) (yf_learnt g z loud limit) := by
  refine bm_open (maxL := 7) (by decide) rfl rfl rfl (Nat.le_of_ble_eq_true rfl) ?_
  intro p e s m args below meth c A Q hx hb hml hts hown hE hP hD hA hS hret ls hl
  have hown : s.vm.findClass RX2 = some m.cls := hown
  have hl : lv_has ls 7 [(0, .ref h), (1, .int z), (2, .int loud), (3, .int limit)] := hl
  obtain ⟨H, locs, eH, eL⟩ : ∃ (H : Heap) (locs : List Loc), H = s.heap ∧ locs = [] := ⟨_, _, rfl, rfl⟩
  rw [← eH, ← eL]
  rw [← eH] at hP
  have hS : va_S A s.heap H locs := by rw [eH, eL]; exact hS
  clear eH eL
  refine lv_iload_n hx hb dX2_learnt_0 rfl (lv_at hl 1 rfl) ?_
  refine lv_iconst (v := 0) hx hb dX2_learnt_1 (by decide) ?_
  refine lv_ldc (v := 65536) hx hb hown (hts (.constant RX2 88 (65536)) (by decide +kernel)) dX2_learnt_2 ?_
  refine sm_i [.int z, .int 0, .int 65536] [] ⟨hx, hb, hml, hown, hts⟩ (c_X2_in l z 0 65536) (va_cwS 3 hts gX2_learnt_X2_in rfl rfl rfl (by decide +kernel) ⟨Nat.le_of_ble_eq_true rfl, Nat.le_of_ble_eq_true rfl⟩) rfl hl.1 rfl (Nat.le_of_ble_eq_true rfl) dX2_learnt_4 ⟨Nat.zero_le _, Nat.zero_le _⟩ ?_
  refine lv_if_eq (tgt := 32) hx hb dX2_learnt_7 (by decide) (fun c_1 => ?_) (fun c_1 => ?_)
  · have c_1 : (pf_in z 0 65536) = 0 := c_1
    refine lv_bipush (v := (-2)) hx hb dX2_learnt_32 (by decide) ?_
    have e1 : ym_learnt g im z loud limit = im := if_pos (Or.inl c_1)
    exact hret _ _ _ _ _ (by rw [e1]; exact hP) ((if_pos (Or.inl c_1)).symm) hS dX2_learnt_34
  · have c_1 : ¬ (pf_in z 0 65536) = 0 := c_1
    refine lv_iload_n hx hb dX2_learnt_10 rfl (lv_at hl 2 rfl) ?_
    refine lv_iconst (v := 0) hx hb dX2_learnt_11 (by decide) ?_
    refine lv_sipush (v := 1000) hx hb dX2_learnt_12 (by decide) ?_
    refine sm_i [.int loud, .int 0, .int 1000] [] ⟨hx, hb, hml, hown, hts⟩ (c_X2_in l loud 0 1000) (va_cwS 3 hts gX2_learnt_X2_in rfl rfl rfl (by decide +kernel) ⟨Nat.le_of_ble_eq_true rfl, Nat.le_of_ble_eq_true rfl⟩) rfl hl.1 rfl (Nat.le_of_ble_eq_true rfl) dX2_learnt_15 ⟨Nat.zero_le _, Nat.zero_le _⟩ ?_
    refine lv_if_eq (tgt := 32) hx hb dX2_learnt_18 (by decide) (fun c_2 => ?_) (fun c_2 => ?_)
    · have c_2 : (pf_in loud 0 1000) = 0 := c_2
      refine lv_bipush (v := (-2)) hx hb dX2_learnt_32 (by decide) ?_
      have e1 : ym_learnt g im z loud limit = im := if_pos (Or.inr (Or.inl c_2))
      exact hret _ _ _ _ _ (by rw [e1]; exact hP) ((if_pos (Or.inr (Or.inl c_2))).symm) hS dX2_learnt_34
    · have c_2 : ¬ (pf_in loud 0 1000) = 0 := c_2
      refine lv_iload_n hx hb dX2_learnt_21 rfl (lv_at hl 3 rfl) ?_
      refine lv_iconst (v := 0) hx hb dX2_learnt_22 (by decide) ?_
      refine lv_sipush (v := 999) hx hb dX2_learnt_23 (by decide) ?_
      refine sm_i [.int limit, .int 0, .int 999] [] ⟨hx, hb, hml, hown, hts⟩ (c_X2_in l limit 0 999) (va_cwS 3 hts gX2_learnt_X2_in rfl rfl rfl (by decide +kernel) ⟨Nat.le_of_ble_eq_true rfl, Nat.le_of_ble_eq_true rfl⟩) rfl hl.1 rfl (Nat.le_of_ble_eq_true rfl) dX2_learnt_26 ⟨Nat.zero_le _, Nat.zero_le _⟩ ?_
      refine lv_if_ne (tgt := 35) hx hb dX2_learnt_29 (by decide) (fun c_3 => ?_) (fun c_3 => ?_)
      · have c_3 : ¬ (pf_in limit 0 999) = 0 := c_3
        have e1 : ym_learnt g im z loud limit = mf_sv im g 2 555 := if_neg (fun q => q.elim c_1 (fun q => q.elim c_2 c_3))
        have e2 : yf_learnt g z loud limit = yl_r loud limit 200 0 z g 0 := if_neg (fun q => q.elim c_1 (fun q => q.elim c_2 c_3))
        rw [e1, e2] at hret
        refine lv_aload_n hx hb dX2_learnt_35 rfl (lv_at hl 0 rfl) ?_
        refine lv_iconst (v := 2) hx hb dX2_learnt_36 (by decide) ?_
        refine bm_v [] (MW cA cZ h as g im kp) [] [.int 2] [] ⟨hx, hb, hml, hown, hts⟩ (c_X2_save l D cA cZ cR h as g im kp 2 (by omega)) (cwV 1 hts gX2_learnt_X2_save rfl rfl rfl (by decide +kernel) ⟨Nat.le_of_ble_eq_true rfl, Nat.le_of_ble_eq_true rfl⟩) hE hP hD hS hA MW_adr 0 2 rfl rfl rfl hl.1 rfl (Nat.le_of_ble_eq_true rfl) dX2_learnt_37 ⟨Nat.zero_le _, Nat.zero_le _⟩ (fun H locs hP hD hS => ?_)
        have hP : va_P D vwCl (MW cA cZ h as g (mf_sv im g 2 555) kp) H := hP
        have hD : va_D A (MW cA cZ h as g (mf_sv im g 2 555) kp) := hD
        obtain ⟨i2, ei2⟩ : ∃ z : Fn, z = mf_sv im g 2 555 := ⟨_, rfl⟩
        rw [← ei2] at hP hD hret
        have hld : ∀ (g1 : Fn) (j : Nat), j < 555 → mf_ld g1 i2 2 555 j = g j := fun g1 j hj => by rw [mf_ld, if_pos hj, ei2, mf_sv, if_pos (by omega), show 555 * 2 + j - 555 * 2 = j by omega]
        refine lv_iload_n hx hb dX2_learnt_40 rfl (lv_at hl 1 rfl) ?_
        refine lv_istore (lv' := [(4, .int z), (0, .ref h), (1, .int z), (2, .int loud), (3, .int limit)]) hx hb dX2_learnt_41 hl (by decide) rfl (fun ls hl => ?_)
        refine lv_iconst (v := 0) hx hb dX2_learnt_43 (by decide) ?_
        refine lv_istore (lv' := [(5, .int 0), (4, .int z), (0, .ref h), (1, .int z), (2, .int loud), (3, .int limit)]) hx hb dX2_learnt_44 hl (by decide) rfl (fun ls hl => ?_)
        refine lv_iconst (v := 0) hx hb dX2_learnt_46 (by decide) ?_
        refine lv_istore (lv' := [(6, .int 0), (5, .int 0), (4, .int z), (0, .ref h), (1, .int z), (2, .int loud), (3, .int limit)]) hx hb dX2_learnt_47 hl (by decide) rfl (fun ls hl => ?_)
        have loop : ∀ (n : Nat) (k : Nat) (y : Int32) (g1 : Fn) (a : Int32) (hk : k + n = 200) (hd : DL g1) (hg : LG g1) (ha : yl_r loud limit n k y g1 a = yl_r loud limit 200 0 z g 0), ∀ (H : Heap) (locs : List Loc), va_P D vwCl (MW cA cZ h as g1 i2 kp) H → va_D A (MW cA cZ h as g1 i2 kp) → va_S A s.heap H locs → ∀ ls : Array Slot, lv_has ls 7 [(6, .int a), (5, .int (nI k)), (4, .int y), (3, .int limit), (2, .int loud), (1, .int z), (0, .ref h)] → W p l e rm_X2_learnt s m args below meth c H locs 0 0 Q (F0 m 49 ls []) := by
          intro n
          induction n with
          | zero =>
            intro k y g1 a hk hd hg ha H locs hP hD hS ls hl
            obtain rfl : k = 200 := by omega
            rw [yl_r] at ha
            refine lv_iload hx hb dX2_learnt_49 (lv_at hl 1 rfl) ?_
            refine lv_sipush (v := 200) hx hb dX2_learnt_51 (by decide) ?_
            refine lv_icmp_ge (tgt := 117) hx hb dX2_learnt_54 (by decide) (fun c_4 => ?_) (fun c_4 => absurd (by decide) c_4)
            refine lv_aload_n hx hb dX2_learnt_117 rfl (lv_at hl 6 rfl) ?_
            refine lv_iconst (v := 2) hx hb dX2_learnt_118 (by decide) ?_
            refine bm_v [] (MW cA cZ h as g1 i2 kp) [] [.int 2] [] ⟨hx, hb, hml, hown, hts⟩ (c_X2_load l D cA cZ cR h as g1 i2 kp 2 (by omega)) (cwV 1 hts gX2_learnt_X2_load rfl rfl rfl (by decide +kernel) ⟨Nat.le_of_ble_eq_true rfl, Nat.le_of_ble_eq_true rfl⟩) hE hP hD hS hA MW_adr 0 2 rfl rfl rfl hl.1 rfl (Nat.le_of_ble_eq_true rfl) dX2_learnt_119 ⟨Nat.zero_le _, Nat.zero_le _⟩ (fun H locs hP hD hS => ?_)
            have hP : va_P D vwCl (MW cA cZ h as (mf_ld g1 i2 2 555) i2 kp) H := hP
            have hD : va_D A (MW cA cZ h as (mf_ld g1 i2 2 555) i2 kp) := hD
            have hP : va_P D vwCl (MW cA cZ h as g i2 kp) H := MW_cg (hld g1) hP
            refine lv_iload hx hb dX2_learnt_122 (lv_at hl 0 rfl) ?_
            refine lv_bipush (v := 8) hx hb dX2_learnt_124 (by decide) ?_
            refine lv_icmp_ne (tgt := 134) hx hb dX2_learnt_126 (by decide) (fun c_5 => ?_) (fun c_5 => ?_)
            · have c_5 : ¬ a = 8 := c_5
              refine lv_bipush (v := (-6)) hx hb dX2_learnt_134 (by decide) ?_
              exact hret _ _ _ _ _ hP (by rw [← ha, yl_e, if_pos c_5]) hS dX2_learnt_136
            · have c_5 : a = 8 := c_5
              refine lv_iload hx hb dX2_learnt_129 (lv_at hl 1 rfl) ?_
              refine lv_goto (tgt := 136) hx hb dX2_learnt_131 (by decide) ?_
              exact hret _ _ _ _ _ hP (by rw [← ha, yl_e, if_neg (not_not_intro c_5)]) hS dX2_learnt_136
          | succ n ih =>
            intro k y g1 a hk hd hg ha H locs hP hD hS ls hl
            refine lv_iload hx hb dX2_learnt_49 (lv_at hl 1 rfl) ?_
            refine lv_sipush (v := 200) hx hb dX2_learnt_51 (by decide) ?_
            refine lv_icmp_ge (tgt := 117) hx hb dX2_learnt_54 (by decide) (fun c_6 => absurd c_6 (nI_ge (a := k) (b := 200) (by omega) (by decide))) (fun c_6 => ?_)
            refine lv_iload hx hb dX2_learnt_57 (lv_at hl 0 rfl) ?_
            refine lv_bipush (v := 8) hx hb dX2_learnt_59 (by decide) ?_
            refine lv_icmp_ge (tgt := 117) hx hb dX2_learnt_61 (by decide) (fun c_7 => ?_) (fun c_7 => ?_)
            · have c_7 : 8 ≤ a := c_7
              rw [yl_r, if_pos c_7] at ha
              refine lv_aload_n hx hb dX2_learnt_117 rfl (lv_at hl 6 rfl) ?_
              refine lv_iconst (v := 2) hx hb dX2_learnt_118 (by decide) ?_
              refine bm_v [] (MW cA cZ h as g1 i2 kp) [] [.int 2] [] ⟨hx, hb, hml, hown, hts⟩ (c_X2_load l D cA cZ cR h as g1 i2 kp 2 (by omega)) (cwV 1 hts gX2_learnt_X2_load rfl rfl rfl (by decide +kernel) ⟨Nat.le_of_ble_eq_true rfl, Nat.le_of_ble_eq_true rfl⟩) hE hP hD hS hA MW_adr 0 2 rfl rfl rfl hl.1 rfl (Nat.le_of_ble_eq_true rfl) dX2_learnt_119 ⟨Nat.zero_le _, Nat.zero_le _⟩ (fun H locs hP hD hS => ?_)
              have hP : va_P D vwCl (MW cA cZ h as (mf_ld g1 i2 2 555) i2 kp) H := hP
              have hD : va_D A (MW cA cZ h as (mf_ld g1 i2 2 555) i2 kp) := hD
              have hP : va_P D vwCl (MW cA cZ h as g i2 kp) H := MW_cg (hld g1) hP
              refine lv_iload hx hb dX2_learnt_122 (lv_at hl 0 rfl) ?_
              refine lv_bipush (v := 8) hx hb dX2_learnt_124 (by decide) ?_
              refine lv_icmp_ne (tgt := 134) hx hb dX2_learnt_126 (by decide) (fun c_8 => ?_) (fun c_8 => ?_)
              · have c_8 : ¬ a = 8 := c_8
                refine lv_bipush (v := (-6)) hx hb dX2_learnt_134 (by decide) ?_
                exact hret _ _ _ _ _ hP (by rw [← ha, yl_e, if_pos c_8]) hS dX2_learnt_136
              · have c_8 : a = 8 := c_8
                refine lv_iload hx hb dX2_learnt_129 (lv_at hl 1 rfl) ?_
                refine lv_goto (tgt := 136) hx hb dX2_learnt_131 (by decide) ?_
                exact hret _ _ _ _ _ hP (by rw [← ha, yl_e, if_neg (not_not_intro c_8)]) hS dX2_learnt_136
            · have c_7 : ¬ 8 ≤ a := c_7
              rw [yl_r, if_neg c_7] at ha
              refine lv_iload hx hb dX2_learnt_64 (lv_at hl 2 rfl) ?_
              refine sm_i [.int y] [] ⟨hx, hb, hml, hown, hts⟩ (c_X2_next l y) (va_cwS 1 hts gX2_learnt_X2_next rfl rfl rfl (by decide +kernel) ⟨Nat.le_of_ble_eq_true rfl, Nat.le_of_ble_eq_true rfl⟩) rfl hl.1 rfl (Nat.le_of_ble_eq_true rfl) dX2_learnt_66 ⟨Nat.zero_le _, Nat.zero_le _⟩ ?_
              refine lv_topi (fun y2 ey2 => ?_)
              refine lv_istore (lv' := [(4, .int y2), (6, .int a), (5, .int (nI k)), (3, .int limit), (2, .int loud), (1, .int z), (0, .ref h)]) hx hb dX2_learnt_69 hl (by decide) rfl (fun ls hl => ?_)
              refine lv_aload_n hx hb dX2_learnt_71 rfl (lv_at hl 6 rfl) ?_
              refine lv_iload hx hb dX2_learnt_72 (lv_at hl 0 rfl) ?_
              refine lv_iconst (v := 2) hx hb dX2_learnt_74 (by decide) ?_
              refine lv_iload_n hx hb dX2_learnt_75 rfl (lv_at hl 4 rfl) ?_
              refine lv_imul hx hb dX2_learnt_76 ?_
              refine lv_iconst (v := 1) hx hb dX2_learnt_77 (by decide) ?_
              refine lv_iadd hx hb dX2_learnt_78 ?_
              refine lv_irem hx hb dX2_learnt_79 (pf_odd _) ?_
              refine lv_iload_n hx hb dX2_learnt_80 rfl (lv_at hl 4 rfl) ?_
              refine lv_isub hx hb dX2_learnt_81 ?_
              refine lv_topi (fun fr efr => ?_)
              refine lv_iconst (v := 0) hx hb dX2_learnt_82 (by decide) ?_
              refine bm_i [] (MW cA cZ h as g1 i2 kp) [] [.int fr, .int 0] [] ⟨hx, hb, hml, hown, hts⟩ (c_X2_speakOf l D cA cZ cR h as g1 i2 kp fr 0 hd hg) (cwV 2 hts gX2_learnt_X2_speakOf rfl rfl rfl (by decide +kernel) ⟨Nat.le_of_ble_eq_true rfl, Nat.le_of_ble_eq_true rfl⟩) hE hP hD hS hA MW_adr 0 2 rfl rfl rfl hl.1 rfl (Nat.le_of_ble_eq_true rfl) dX2_learnt_83 ⟨Nat.zero_le _, Nat.zero_le _⟩ (fun H locs hP hD hS => ?_)
              have hP : va_P D vwCl (MW cA cZ h as (mf_spk g1 fr 0) i2 kp) H := hP
              have hD : va_D A (MW cA cZ h as (mf_spk g1 fr 0) i2 kp) := hD
              have hP : va_P D vwCl (MW cA cZ h as (mf_spk g1 fr 0) i2 kp) H := hP
              have hD : va_D A (MW cA cZ h as (mf_spk g1 fr 0) i2 kp) := hD
              obtain ⟨g2, eg2⟩ : ∃ z : Fn, z = mf_spk g1 fr 0 := ⟨_, rfl⟩
              rw [← eg2] at hP hD
              have efr : pf_ce y2 loud = fr := efr.symm
              rw [← ey2, efr, ← eg2] at ha
              have hd : DL g2 := DL.of (by rw [eg2]; exact mf_spk_out g1 fr 0 (by decide)) hd
              have hg : LG g2 := LG.of (by rw [eg2]; exact mf_spk_out g1 fr 0 (by decide)) hg
              refine lv_pop hx hb dX2_learnt_86 rfl ?_
              refine lv_aload_n hx hb dX2_learnt_87 rfl (lv_at hl 6 rfl) ?_
              refine va_get (D := D) (ci := 2) (v := .ref (as 0)) (C := RX2) (T := TX2) (N := 3) hx hb hts iw_X2_learnt_X2 hown hE.1 hP 0 rfl rfl 0 (by decide) (hts (.fieldLink RX2 7 "EchoTapsModel" "state" "[I") (by decide +kernel)) (fun _ h9 => h9) rfl dX2_learnt_88 ?_
              refine lv_bipush (v := 26) hx hb dX2_learnt_91 (by decide) ?_
              refine va_iald hx hb hE.1 hP 1 0 rfl rfl (vp_in_nI (n := 26) (N := 555) (by decide) (by decide)) dX2_learnt_93 ?_
              refine sm_i [.int (g2 26)] [] ⟨hx, hb, hml, hown, hts⟩ (c_X2_size l (g2 26)) (va_cwS 1 hts gX2_learnt_X2_size rfl rfl rfl (by decide +kernel) ⟨Nat.le_of_ble_eq_true rfl, Nat.le_of_ble_eq_true rfl⟩) rfl hl.1 rfl (Nat.le_of_ble_eq_true rfl) dX2_learnt_94 ⟨Nat.zero_le _, Nat.zero_le _⟩ ?_
              refine lv_iload_n hx hb dX2_learnt_97 rfl (lv_at hl 3 rfl) ?_
              have j109 : ∀ (a2 : Int32) (ea2 : a2 = yl_c limit g2 a), W p l e rm_X2_learnt s m args below meth c H locs 0 0 Q (F0 m 109 ls [.int a2]) := by
                intro a2 ea2
                refine lv_istore (lv' := [(6, .int a2), (4, .int y2), (5, .int (nI k)), (3, .int limit), (2, .int loud), (1, .int z), (0, .ref h)]) hx hb dX2_learnt_109 hl (by decide) rfl (fun ls hl => ?_)
                refine lv_iinc (v := nI (k + 1)) (lv' := [(5, .int (nI (k + 1))), (6, .int a2), (4, .int y2), (3, .int limit), (2, .int loud), (1, .int z), (0, .ref h)]) hx hb dX2_learnt_111 hl (k := 2) rfl (nI_1 k) (by decide) rfl (fun ls hl => ?_)
                refine lv_goto (tgt := 49) hx hb dX2_learnt_114 (by decide) ?_
                rw [← ea2] at ha
                exact ih (k + 1) y2 g2 a2 (by omega) hd hg ha H locs hP hD hS ls (lv_sub hl [1, 0, 2, 3, 4, 5, 6] rfl)
              refine lv_icmp_gt (tgt := 108) hx hb dX2_learnt_98 (by decide) (fun c_9 => ?_) (fun c_9 => ?_)
              · have c_9 : limit < (pf_sz (g2 26)) := c_9
                refine lv_iconst (v := 0) hx hb dX2_learnt_108 (by decide) ?_
                exact j109 _ (if_pos c_9).symm
              · have c_9 : ¬ limit < (pf_sz (g2 26)) := c_9
                refine lv_iload hx hb dX2_learnt_101 (lv_at hl 1 rfl) ?_
                refine lv_iconst (v := 1) hx hb dX2_learnt_103 (by decide) ?_
                refine lv_iadd hx hb dX2_learnt_104 ?_
                refine lv_goto (tgt := 109) hx hb dX2_learnt_105 (by decide) ?_
                exact j109 _ (if_neg c_9).symm
        exact loop 200 0 z g 0 rfl hd hg rfl H locs hP hD hS ls (lv_sub hl [0, 1, 2, 6, 5, 4, 3] rfl)
      · have c_3 : (pf_in limit 0 999) = 0 := c_3
        refine lv_bipush (v := (-2)) hx hb dX2_learnt_32 (by decide) ?_
        have e1 : ym_learnt g im z loud limit = im := if_pos (Or.inr (Or.inr c_3))
        exact hret _ _ _ _ _ (by rw [e1]; exact hP) ((if_pos (Or.inr (Or.inr c_3))).symm) hS dX2_learnt_34

abbrev rm_X2_image : Room := { frames := 1, cells := 0, slots := 0, locals := 22 }
theorem iw_X2_image_X2 : ∀ w ∈ wsX20, w ∈ wsX2_image := by decide +kernel
set_option maxRecDepth 100000 in
set_option maxHeartbeats 4000000 in
theorem c_X2_image (l : Launch) (D : va_G) (cA cZ cR : ClassId) (h : Nat) (as : Nat → Nat) (g im kp : Fn) (k : Int32) : BMi l D cA cZ cR yX2_image wsX2_image rm_X2_image [.ref h, .int k] (MW cA cZ h as g im kp) (MW cA cZ h as g (ym_image g im k) (yk_image kp k)) (xf_image k) := by
  refine bm_open (maxL := 2) (by decide) rfl rfl rfl (Nat.le_of_ble_eq_true rfl) ?_
  intro p e s m args below meth c A Q hx hb hml hts hown hE hP hD hA hS hret ls hl
  have hown : s.vm.findClass RX2 = some m.cls := hown
  have hl : lv_has ls 2 [(0, .ref h), (1, .int k)] := hl
  obtain ⟨H, locs, eH, eL⟩ : ∃ (H : Heap) (locs : List Loc), H = s.heap ∧ locs = [] := ⟨_, _, rfl, rfl⟩
  rw [← eH, ← eL]
  rw [← eH] at hP
  have hS : va_S A s.heap H locs := by rw [eH, eL]; exact hS
  clear eH eL
  refine lv_iload_n hx hb dX2_image_0 rfl (lv_at hl 1 rfl) ?_
  refine lv_iconst (v := 0) hx hb dX2_image_1 (by decide) ?_
  refine lv_iconst (v := 1) hx hb dX2_image_2 (by decide) ?_
  refine sm_i [.int k, .int 0, .int 1] [] ⟨hx, hb, hml, hown, hts⟩ (c_X2_in l k 0 1) (va_cwS 3 hts gX2_image_X2_in rfl rfl rfl (by decide +kernel) ⟨Nat.le_of_ble_eq_true rfl, Nat.le_of_ble_eq_true rfl⟩) rfl hl.1 rfl (Nat.le_of_ble_eq_true rfl) dX2_image_3 ⟨Nat.zero_le _, Nat.zero_le _⟩ ?_
  refine lv_if_ne (tgt := 12) hx hb dX2_image_6 (by decide) (fun c_1 => ?_) (fun c_1 => ?_)
  · have c_1 : ¬ (pf_in k 0 1) = 0 := c_1
    obtain ⟨j, hj, rfl⟩ := in_nI (b := 1) (by decide) c_1
    have e1 : ym_image g im (nI j) = mf_sv im g j 555 := by rw [ym_image, if_neg c_1, nI_clamp (by omega)]
    have e2 : yk_image kp (nI j) = upd kp j 1 := by rw [yk_image, if_neg c_1, nI_clamp (by omega)]
    refine lv_aload_n hx hb dX2_image_12 rfl (lv_at hl 0 rfl) ?_
    refine lv_iload_n hx hb dX2_image_13 rfl (lv_at hl 1 rfl) ?_
    refine bm_v [] (MW cA cZ h as g im kp) [] [.int (nI j)] [] ⟨hx, hb, hml, hown, hts⟩ (c_X2_save l D cA cZ cR h as g im kp j (by omega)) (cwV 1 hts gX2_image_X2_save rfl rfl rfl (by decide +kernel) ⟨Nat.le_of_ble_eq_true rfl, Nat.le_of_ble_eq_true rfl⟩) hE hP hD hS hA MW_adr 0 2 rfl rfl rfl hl.1 rfl (Nat.le_of_ble_eq_true rfl) dX2_image_14 ⟨Nat.zero_le _, Nat.zero_le _⟩ (fun H locs hP hD hS => ?_)
    have hP : va_P D vwCl (MW cA cZ h as g (mf_sv im g j 555) kp) H := hP
    have hD : va_D A (MW cA cZ h as g (mf_sv im g j 555) kp) := hD
    refine lv_aload_n hx hb dX2_image_17 rfl (lv_at hl 0 rfl) ?_
    refine va_get (D := D) (ci := 2) (v := .ref (as 2)) (C := RX2) (T := TX2) (N := 3) hx hb hts iw_X2_image_X2 hown hE.1 hP 0 rfl rfl 2 (by decide) (hts (.fieldLink RX2 16 "EchoTapsModel" "isKept" "[Z") (by decide +kernel)) (fun _ h9 => h9) rfl dX2_image_18 ?_
    refine lv_iload_n hx hb dX2_image_21 rfl (lv_at hl 1 rfl) ?_
    refine lv_iconst (v := 1) hx hb dX2_image_22 (by decide) ?_
    refine va_zast hx hb hE.1 hP hD hS 3 1 rfl rfl (vp_in_nI (by omega) (by decide)) dX2_image_23 (fun H locs hP hD hS => ?_)
    rw [show (nI j).toNatClampNeg = j from nI_clamp (by omega)] at hP hD
    have hP : va_P D vwCl (MW cA cZ h as g (mf_sv im g j 555) (upd kp j 1)) H := hP
    have hD : va_D A (MW cA cZ h as g (mf_sv im g j 555) (upd kp j 1)) := hD
    refine lv_iconst (v := 1) hx hb dX2_image_24 (by decide) ?_
    exact hret _ _ _ _ _ (by rw [e1, e2]; exact hP) (by rw [xf_image, if_neg c_1]) hS dX2_image_25
  · have c_1 : (pf_in k 0 1) = 0 := c_1
    have e1 : ym_image g im k = im := if_pos c_1
    have e2 : yk_image kp k = kp := if_pos c_1
    refine lv_bipush (v := (-2)) hx hb dX2_image_9 (by decide) ?_
    exact hret _ _ _ _ _ (by rw [e1, e2]; exact hP) ((if_pos c_1).symm) hS dX2_image_11

abbrev rm_X2_restore : Room := { frames := 1, cells := 0, slots := 0, locals := 22 }
theorem iw_X2_restore_X2 : ∀ w ∈ wsX20, w ∈ wsX2_restore := by decide +kernel
set_option maxRecDepth 100000 in
set_option maxHeartbeats 4000000 in
theorem c_X2_restore (l : Launch) (D : va_G) (cA cZ cR : ClassId) (h : Nat) (as : Nat → Nat) (g im kp : Fn) (k : Int32) : BMi l D cA cZ cR yX2_restore wsX2_restore rm_X2_restore [.ref h, .int k] (MW cA cZ h as g im kp) (MW cA cZ h as (yg_rest g im kp k) im kp) (yf_rest kp k) := by
  refine bm_open (maxL := 2) (by decide) rfl rfl rfl (Nat.le_of_ble_eq_true rfl) ?_
  intro p e s m args below meth c A Q hx hb hml hts hown hE hP hD hA hS hret ls hl
  have hown : s.vm.findClass RX2 = some m.cls := hown
  have hl : lv_has ls 2 [(0, .ref h), (1, .int k)] := hl
  obtain ⟨H, locs, eH, eL⟩ : ∃ (H : Heap) (locs : List Loc), H = s.heap ∧ locs = [] := ⟨_, _, rfl, rfl⟩
  rw [← eH, ← eL]
  rw [← eH] at hP
  have hS : va_S A s.heap H locs := by rw [eH, eL]; exact hS
  clear eH eL
  refine lv_iload_n hx hb dX2_restore_0 rfl (lv_at hl 1 rfl) ?_
  refine lv_iconst (v := 0) hx hb dX2_restore_1 (by decide) ?_
  refine lv_iconst (v := 1) hx hb dX2_restore_2 (by decide) ?_
  refine sm_i [.int k, .int 0, .int 1] [] ⟨hx, hb, hml, hown, hts⟩ (c_X2_in l k 0 1) (va_cwS 3 hts gX2_restore_X2_in rfl rfl rfl (by decide +kernel) ⟨Nat.le_of_ble_eq_true rfl, Nat.le_of_ble_eq_true rfl⟩) rfl hl.1 rfl (Nat.le_of_ble_eq_true rfl) dX2_restore_3 ⟨Nat.zero_le _, Nat.zero_le _⟩ ?_
  refine lv_if_ne (tgt := 12) hx hb dX2_restore_6 (by decide) (fun c_1 => ?_) (fun c_1 => ?_)
  · have c_1 : ¬ (pf_in k 0 1) = 0 := c_1
    obtain ⟨j, hj, rfl⟩ := in_nI (b := 1) (by decide) c_1
    refine lv_aload_n hx hb dX2_restore_12 rfl (lv_at hl 0 rfl) ?_
    refine va_get (D := D) (ci := 2) (v := .ref (as 2)) (C := RX2) (T := TX2) (N := 3) hx hb hts iw_X2_restore_X2 hown hE.1 hP 0 rfl rfl 2 (by decide) (hts (.fieldLink RX2 16 "EchoTapsModel" "isKept" "[Z") (by decide +kernel)) (fun _ h9 => h9) rfl dX2_restore_13 ?_
    refine lv_iload_n hx hb dX2_restore_16 rfl (lv_at hl 1 rfl) ?_
    refine va_zald hx hb hE.1 hP 3 1 rfl rfl (vp_in_nI (by omega) (by decide)) dX2_restore_17 ?_
    refine lv_ri (congrArg kp (nI_clamp (n := j) (by omega))) ?_
    refine lv_if_ne (tgt := 24) hx hb dX2_restore_18 (by decide) (fun c_2 => ?_) (fun c_2 => ?_)
    · have c_2 : ¬ (kp j) = 0 := c_2
      have e1 : yg_rest g im kp (nI j) = mf_ld g im j 555 := by rw [yg_rest, if_neg c_1, nI_clamp (by omega), if_neg c_2]
      refine lv_aload_n hx hb dX2_restore_24 rfl (lv_at hl 0 rfl) ?_
      refine lv_iload_n hx hb dX2_restore_25 rfl (lv_at hl 1 rfl) ?_
      refine bm_v [] (MW cA cZ h as g im kp) [] [.int (nI j)] [] ⟨hx, hb, hml, hown, hts⟩ (c_X2_load l D cA cZ cR h as g im kp j (by omega)) (cwV 1 hts gX2_restore_X2_load rfl rfl rfl (by decide +kernel) ⟨Nat.le_of_ble_eq_true rfl, Nat.le_of_ble_eq_true rfl⟩) hE hP hD hS hA MW_adr 0 2 rfl rfl rfl hl.1 rfl (Nat.le_of_ble_eq_true rfl) dX2_restore_26 ⟨Nat.zero_le _, Nat.zero_le _⟩ (fun H locs hP hD hS => ?_)
      have hP : va_P D vwCl (MW cA cZ h as (mf_ld g im j 555) im kp) H := hP
      have hD : va_D A (MW cA cZ h as (mf_ld g im j 555) im kp) := hD
      refine lv_iconst (v := 1) hx hb dX2_restore_29 (by decide) ?_
      exact hret _ _ _ _ _ (by rw [e1]; exact hP) (by rw [yf_rest, if_neg c_1, nI_clamp (by omega), if_neg c_2]) hS dX2_restore_30
    · have c_2 : (kp j) = 0 := c_2
      have e1 : yg_rest g im kp (nI j) = g := by rw [yg_rest, if_neg c_1, nI_clamp (by omega), if_pos c_2]
      refine lv_bipush (v := (-3)) hx hb dX2_restore_21 (by decide) ?_
      exact hret _ _ _ _ _ (by rw [e1]; exact hP) (by rw [yf_rest, if_neg c_1, nI_clamp (by omega), if_pos c_2]) hS dX2_restore_23
  · have c_1 : (pf_in k 0 1) = 0 := c_1
    have e1 : yg_rest g im kp k = g := if_pos c_1
    refine lv_bipush (v := (-2)) hx hb dX2_restore_9 (by decide) ?_
    exact hret _ _ _ _ _ (by rw [e1]; exact hP) ((if_pos c_1).symm) hS dX2_restore_11

abbrev rm_X2_count : Room := { frames := 2, cells := 0, slots := 0, locals := 42 }
theorem iw_X2_count_X2 : ∀ w ∈ wsX20, w ∈ wsX2_count := by decide +kernel
set_option maxRecDepth 100000 in
set_option maxHeartbeats 4000000 in
theorem c_X2_count (l : Launch) (D : va_G) (cA cZ cR : ClassId) (h : Nat) (as : Nat → Nat) (g im kp : Fn) (k : Int32) : BMi l D cA cZ cR yX2_count wsX2_count rm_X2_count [.ref h, .int k] (MW cA cZ h as g im kp) (MW cA cZ h as g im kp) (yf_count g kp k) := by
  refine bm_open (maxL := 2) (by decide) rfl rfl rfl (Nat.le_of_ble_eq_true rfl) ?_
  intro p e s m args below meth c A Q hx hb hml hts hown hE hP hD hA hS hret ls hl
  have hown : s.vm.findClass RX2 = some m.cls := hown
  have hl : lv_has ls 2 [(0, .ref h), (1, .int k)] := hl
  obtain ⟨H, locs, eH, eL⟩ : ∃ (H : Heap) (locs : List Loc), H = s.heap ∧ locs = [] := ⟨_, _, rfl, rfl⟩
  rw [← eH, ← eL]
  rw [← eH] at hP
  have hS : va_S A s.heap H locs := by rw [eH, eL]; exact hS
  clear eH eL
  refine lv_iload_n hx hb dX2_count_0 rfl (lv_at hl 1 rfl) ?_
  refine lv_bipush (v := 10) hx hb dX2_count_1 (by decide) ?_
  refine lv_bipush (v := 14) hx hb dX2_count_3 (by decide) ?_
  refine sm_i [.int k, .int 10, .int 14] [] ⟨hx, hb, hml, hown, hts⟩ (c_X2_in l k 10 14) (va_cwS 3 hts gX2_count_X2_in rfl rfl rfl (by decide +kernel) ⟨Nat.le_of_ble_eq_true rfl, Nat.le_of_ble_eq_true rfl⟩) rfl hl.1 rfl (Nat.le_of_ble_eq_true rfl) dX2_count_5 ⟨Nat.zero_le _, Nat.zero_le _⟩ ?_
  refine lv_if_eq (tgt := 23) hx hb dX2_count_8 (by decide) (fun c_1 => ?_) (fun c_1 => ?_)
  · have c_1 : (pf_in k 10 14) = 0 := c_1
    refine lv_iload_n hx hb dX2_count_23 rfl (lv_at hl 1 rfl) ?_
    by_cases h0 : k = 0
    · refine lv_tableIn (tgt := 64) hx hb dX2_count_24 (by rw [h0]; decide) (by rw [h0]; decide) (by rw [h0]; rfl) (by decide) ?_
      refine lv_aload_n hx hb dX2_count_64 rfl (lv_at hl 0 rfl) ?_
      refine va_get (D := D) (ci := 2) (v := .ref (as 0)) (C := RX2) (T := TX2) (N := 3) hx hb hts iw_X2_count_X2 hown hE.1 hP 0 rfl rfl 0 (by decide) (hts (.fieldLink RX2 7 "EchoTapsModel" "state" "[I") (by decide +kernel)) (fun _ h9 => h9) rfl dX2_count_65 ?_
      refine lv_bipush (v := 24) hx hb dX2_count_68 (by decide) ?_
      refine va_iald hx hb hE.1 hP 1 0 rfl rfl (vp_in_nI (n := 24) (N := 555) (by decide) (by decide)) dX2_count_70 ?_
      exact hret _ _ _ _ _ hP (by rw [yf_count, if_neg (not_not_intro c_1), if_pos h0] <;> rfl) hS dX2_count_71
    by_cases h1 : k = 1
    · refine lv_tableIn (tgt := 72) hx hb dX2_count_24 (by rw [h1]; decide) (by rw [h1]; decide) (by rw [h1]; rfl) (by decide) ?_
      refine lv_aload_n hx hb dX2_count_72 rfl (lv_at hl 0 rfl) ?_
      refine va_get (D := D) (ci := 2) (v := .ref (as 0)) (C := RX2) (T := TX2) (N := 3) hx hb hts iw_X2_count_X2 hown hE.1 hP 0 rfl rfl 0 (by decide) (hts (.fieldLink RX2 7 "EchoTapsModel" "state" "[I") (by decide +kernel)) (fun _ h9 => h9) rfl dX2_count_73 ?_
      refine lv_bipush (v := 22) hx hb dX2_count_76 (by decide) ?_
      refine va_iald hx hb hE.1 hP 1 0 rfl rfl (vp_in_nI (n := 22) (N := 555) (by decide) (by decide)) dX2_count_78 ?_
      exact hret _ _ _ _ _ hP (by rw [yf_count, if_neg (not_not_intro c_1), if_neg h0, if_pos h1] <;> rfl) hS dX2_count_79
    by_cases h2 : k = 2
    · refine lv_tableIn (tgt := 80) hx hb dX2_count_24 (by rw [h2]; decide) (by rw [h2]; decide) (by rw [h2]; rfl) (by decide) ?_
      refine lv_aload_n hx hb dX2_count_80 rfl (lv_at hl 0 rfl) ?_
      refine va_get (D := D) (ci := 2) (v := .ref (as 0)) (C := RX2) (T := TX2) (N := 3) hx hb hts iw_X2_count_X2 hown hE.1 hP 0 rfl rfl 0 (by decide) (hts (.fieldLink RX2 7 "EchoTapsModel" "state" "[I") (by decide +kernel)) (fun _ h9 => h9) rfl dX2_count_81 ?_
      refine lv_bipush (v := 23) hx hb dX2_count_84 (by decide) ?_
      refine va_iald hx hb hE.1 hP 1 0 rfl rfl (vp_in_nI (n := 23) (N := 555) (by decide) (by decide)) dX2_count_86 ?_
      exact hret _ _ _ _ _ hP (by rw [yf_count, if_neg (not_not_intro c_1), if_neg h0, if_neg h1, if_pos h2] <;> rfl) hS dX2_count_87
    by_cases h3 : k = 3
    · refine lv_tableIn (tgt := 88) hx hb dX2_count_24 (by rw [h3]; decide) (by rw [h3]; decide) (by rw [h3]; rfl) (by decide) ?_
      refine lv_aload_n hx hb dX2_count_88 rfl (lv_at hl 0 rfl) ?_
      refine bm_i [] (MW cA cZ h as g im kp) [] [] [] ⟨hx, hb, hml, hown, hts⟩ (c_X2_tapSizes l D cA cZ cR h as g im kp) (cwV 0 hts gX2_count_X2_tapSizes rfl rfl rfl (by decide +kernel) ⟨Nat.le_of_ble_eq_true rfl, Nat.le_of_ble_eq_true rfl⟩) hE hP hD hS hA MW_adr 0 2 rfl rfl rfl hl.1 rfl (Nat.le_of_ble_eq_true rfl) dX2_count_89 ⟨Nat.zero_le _, Nat.zero_le _⟩ (fun H locs hP hD hS => ?_)
      have hP : va_P D vwCl (MW cA cZ h as g im kp) H := hP
      have hD : va_D A (MW cA cZ h as g im kp) := hD
      exact hret _ _ _ _ _ hP (by rw [yf_count, if_neg (not_not_intro c_1), if_neg h0, if_neg h1, if_neg h2, if_pos h3] <;> rfl) hS dX2_count_92
    by_cases h4 : k = 4
    · refine lv_tableIn (tgt := 93) hx hb dX2_count_24 (by rw [h4]; decide) (by rw [h4]; decide) (by rw [h4]; rfl) (by decide) ?_
      refine lv_aload_n hx hb dX2_count_93 rfl (lv_at hl 0 rfl) ?_
      refine va_get (D := D) (ci := 2) (v := .ref (as 0)) (C := RX2) (T := TX2) (N := 3) hx hb hts iw_X2_count_X2 hown hE.1 hP 0 rfl rfl 0 (by decide) (hts (.fieldLink RX2 7 "EchoTapsModel" "state" "[I") (by decide +kernel)) (fun _ h9 => h9) rfl dX2_count_94 ?_
      refine lv_bipush (v := 21) hx hb dX2_count_97 (by decide) ?_
      refine va_iald hx hb hE.1 hP 1 0 rfl rfl (vp_in_nI (n := 21) (N := 555) (by decide) (by decide)) dX2_count_99 ?_
      exact hret _ _ _ _ _ hP (by rw [yf_count, if_neg (not_not_intro c_1), if_neg h0, if_neg h1, if_neg h2, if_neg h3, if_pos h4] <;> rfl) hS dX2_count_100
    by_cases h5 : k = 5
    · refine lv_tableIn (tgt := 101) hx hb dX2_count_24 (by rw [h5]; decide) (by rw [h5]; decide) (by rw [h5]; rfl) (by decide) ?_
      refine lv_aload_n hx hb dX2_count_101 rfl (lv_at hl 0 rfl) ?_
      refine va_get (D := D) (ci := 2) (v := .ref (as 2)) (C := RX2) (T := TX2) (N := 3) hx hb hts iw_X2_count_X2 hown hE.1 hP 0 rfl rfl 2 (by decide) (hts (.fieldLink RX2 16 "EchoTapsModel" "isKept" "[Z") (by decide +kernel)) (fun _ h9 => h9) rfl dX2_count_102 ?_
      refine lv_iconst (v := 0) hx hb dX2_count_105 (by decide) ?_
      refine va_zald hx hb hE.1 hP 3 1 rfl rfl (vp_in_nI (n := 0) (N := 2) (by decide) (by decide)) dX2_count_106 ?_
      have j115 : ∀ (u : Int32) (eu : u = yk2 (kp 0) 1), W p l e rm_X2_count s m args below meth c H locs 0 0 Q (F0 m 115 ls [.int u]) := by
        intro u eu
        refine lv_aload_n hx hb dX2_count_115 rfl (lv_at hl 0 rfl) ?_
        refine va_get (D := D) (ci := 2) (v := .ref (as 2)) (C := RX2) (T := TX2) (N := 3) hx hb hts iw_X2_count_X2 hown hE.1 hP 0 rfl rfl 2 (by decide) (hts (.fieldLink RX2 16 "EchoTapsModel" "isKept" "[Z") (by decide +kernel)) (fun _ h9 => h9) rfl dX2_count_116 ?_
        refine lv_iconst (v := 1) hx hb dX2_count_119 (by decide) ?_
        refine va_zald hx hb hE.1 hP 3 1 rfl rfl (vp_in_nI (n := 1) (N := 2) (by decide) (by decide)) dX2_count_120 ?_
        have j129 : ∀ (v : Int32) (ev : v = yk2 (kp 1) 2), W p l e rm_X2_count s m args below meth c H locs 0 0 Q (F0 m 129 ls [.int v, .int u]) := by
          intro v ev
          refine lv_iadd hx hb dX2_count_129 ?_
          exact hret _ _ _ _ _ hP (by rw [yf_count, if_neg (not_not_intro c_1), if_neg h0, if_neg h1, if_neg h2, if_neg h3, if_neg h4, if_pos h5, eu, ev]) hS dX2_count_130
        refine lv_if_eq (tgt := 128) hx hb dX2_count_121 (by decide) (fun c_2 => ?_) (fun c_2 => ?_)
        · have c_2 : (kp 1) = 0 := c_2
          refine lv_iconst (v := 0) hx hb dX2_count_128 (by decide) ?_
          exact j129 _ (if_pos c_2).symm
        · have c_2 : ¬ (kp 1) = 0 := c_2
          refine lv_iconst (v := 2) hx hb dX2_count_124 (by decide) ?_
          refine lv_goto (tgt := 129) hx hb dX2_count_125 (by decide) ?_
          exact j129 _ (if_neg c_2).symm
      refine lv_if_eq (tgt := 114) hx hb dX2_count_107 (by decide) (fun c_3 => ?_) (fun c_3 => ?_)
      · have c_3 : (kp 0) = 0 := c_3
        refine lv_iconst (v := 0) hx hb dX2_count_114 (by decide) ?_
        exact j115 _ (if_pos c_3).symm
      · have c_3 : ¬ (kp 0) = 0 := c_3
        refine lv_iconst (v := 1) hx hb dX2_count_110 (by decide) ?_
        refine lv_goto (tgt := 115) hx hb dX2_count_111 (by decide) ?_
        exact j115 _ (if_neg c_3).symm
    refine lv_tableOut (tgt := 131) hx hb dX2_count_24 (sw5 h0 h1 h2 h3 h4 h5) (by decide) ?_
    refine lv_bipush (v := (-2)) hx hb dX2_count_131 (by decide) ?_
    exact hret _ _ _ _ _ hP (by rw [yf_count, if_neg (not_not_intro c_1), if_neg h0, if_neg h1, if_neg h2, if_neg h3, if_neg h4, if_neg h5]) hS dX2_count_133
  · have c_1 : ¬ (pf_in k 10 14) = 0 := c_1
    have e0 : (0 : Int32) + k - 10 = k - 10 := by rw [Int32.zero_add]
    refine lv_aload_n hx hb dX2_count_11 rfl (lv_at hl 0 rfl) ?_
    refine va_get (D := D) (ci := 2) (v := .ref (as 0)) (C := RX2) (T := TX2) (N := 3) hx hb hts iw_X2_count_X2 hown hE.1 hP 0 rfl rfl 0 (by decide) (hts (.fieldLink RX2 7 "EchoTapsModel" "state" "[I") (by decide +kernel)) (fun _ h9 => h9) rfl dX2_count_12 ?_
    refine lv_iconst (v := 0) hx hb dX2_count_15 (by decide) ?_
    refine lv_iload_n hx hb dX2_count_16 rfl (lv_at hl 1 rfl) ?_
    refine lv_iadd hx hb dX2_count_17 ?_
    refine lv_bipush (v := 10) hx hb dX2_count_18 (by decide) ?_
    refine lv_isub hx hb dX2_count_20 ?_
    refine lv_ri e0 ?_
    refine va_iald hx hb hE.1 hP 1 0 rfl rfl (fun q => in_cnt c_1 (q.imp id (fun h => Nat.le_trans (by decide) h))) dX2_count_21 ?_
    exact hret _ _ _ _ _ hP ((if_pos c_1).symm) hS dX2_count_22
