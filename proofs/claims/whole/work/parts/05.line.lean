/-! what the methods of Line work out -/
def pf_mxs (f : Fn) : Nat → Int32
  | 0 => 0
  | n + 1 => pf_mx (pf_mxs f n) (pf_ab (f n))
def pf_ft (P : Nat → Bool) : Nat → Nat → Nat
  | 0, _ => 0
  | n + 1, p => if P p = true then p else pf_ft P n (p + 1)
def pf_b (b : Bool) : Int32 := if b = true then 1 else 0
theorem pf_b_z (b : Bool) : narrow .boolean (.int (pf_b b)) = .int (pf_b b) := by cases b <;> rfl
theorem pf_b0 {b : Bool} : pf_b b = 0 ↔ b = false := by cases b <;> decide
abbrev up8 (st : St) (k : Nat) (v : Int32) : St := va_up st 8 (upd (st 8) k v)
def lf_tf (st : St) (far : Int32) : St := va_up (up8 st 0 (st 8 0 + 1)) 3 (upd (st 3) ((st 8 0 + 1) &&& 63).toNatClampNeg far)
def lf_echo (st : St) : Int32 := l_sum (fun k => st 2 (nI k).toNatClampNeg * fa st (nI k + st 2 8)) 8 / 1024
def lf_est (st : St) : Int32 := l_sum (fun k => st 1 (nI k).toNatClampNeg * fa st (nI k + st 0 4)) 8 / 1024
def lf_loud (st : St) : Int32 := pf_mxs (fun i => fa st (nI i)) 24
def lf_hold (st : St) (t : Int32) : St := if t = 0 then (if st 8 1 ≤ 0 then st else up8 st 1 (st 8 1 - 1)) else up8 st 1 (st 0 1)
def lf_sil (st : St) : Bool := pf_al (fun i => decide (fa st (nI i) = 0)) 16
def lf_rep (st : St) (p : Nat) : Bool := pf_al (fun i => decide (fa st (nI i) = fa st (nI i + nI p))) (16 - p)
def lf_tone (st : St) : Nat := if lf_sil st = true then 0 else pf_ft (lf_rep st) 8 1
def lf_pow (st : St) : Int32 := l_sum (fun k => fa st (nI k + st 0 4) * fa st (nI k + st 0 4)) 8
def lf_ln (st : St) (left power : Int32) : Nat → Fn
  | 0 => st 1
  | k + 1 => upd (lf_ln st left power k) (nI k).toNatClampNeg (pf_mxl (-4096) (pf_mnl 4095 ((lf_ln st left power k (nI k).toNatClampNeg).toInt64 + ((st 0 0).toInt64 * left.toInt64) * (fa st (nI k + st 0 4)).toInt64 / power.toInt64))).toInt32
def lf_learn (st : St) (left power : Int32) : St := if 0 < power then va_up st 1 (lf_ln st left power 8) else st
def lf_sor (st : St) (left : Int32) : Int32 := if pf_ab left < st 0 2 then pf_ce (pf_nx (st 8 2)) (st 0 3) else pf_lm left (-2000) 2000
def lf_sos (st : St) (left : Int32) : St := if pf_ab left < st 0 2 then up8 st 2 (pf_nx (st 8 2)) else st
def lf_like (st : St) (d : Int32) : Int32 := l_sum (fun i => na st (nI i) * fa st (nI i + d)) 24
def lf_zr (f : Fn) : Nat → Fn
  | 0 => f
  | k + 1 => upd (lf_zr f k) (nI k).toNatClampNeg 0
def lf_anew (st : St) (d : Int32) : St := va_up (va_up st 0 (upd (st 0) 4 d)) 1 (lf_zr (st 1) 8)
def lf_nsq (st : St) : Int32 := l_sum (fun i => na st (nI i) * na st (nI i)) 32
def lf_osq (st : St) : Int32 := l_sum (fun i => oa st (nI i) * oa st (nI i)) 32
def lf_ba (st : St) (t mk : Int32) : Bool := decide (¬ (st 6 (t &&& 255).toNatClampNeg &&& mk) = 0 ∧ (st 6 ((t - 1) &&& 255).toNatClampNeg &&& mk) = 0)
def lf_bg (st : St) (i mk : Int32) : Nat → Int32 → Int32
  | 0, f => if i = -1 then f else -6
  | n + 1, f => if nI n < st 8 0 ∧ lf_ba st (st 8 0 - nI n) mk = true then (if f = i then st 8 0 - nI n else lf_bg st i mk n (f + 1)) else lf_bg st i mk n f
def lf_tsz (st : St) : Int32 := l_sum (fun k => pf_ab (st 1 (nI k).toNatClampNeg)) 8
theorem pf_al_f {P : Nat → Bool} {k n : Nat} (h : k < n) (hk : P k = false) : pf_al P n = false := by
  induction n with
  | zero => omega
  | succ n ih =>
    rw [pf_al]
    by_cases e : k = n
    · subst e; rw [hk, Bool.and_false]
    · rw [ih (by omega), Bool.false_and]
theorem pf_bn {b : Bool} (h : ¬ pf_b b = 0) : b = true := by cases b <;> first | rfl | exact absurd rfl h
theorem pf_l0 {x : Int32} (h : 0 < x) : ¬ x.toInt64 = 0 := by
  intro q
  have h1 : x.toInt64.toInt = 0 := by rw [q]; rfl
  rw [Int32.toInt_toInt64] at h1
  have h2 := Int32.lt_iff_toInt_lt.mp h
  rw [h1] at h2
  exact absurd h2 (by decide)
abbrev rm_X0_farAgo : Room := { frames := 0, cells := 0, slots := 0, locals := 0 }
theorem iw_X0_farAgo_X0 : ∀ w ∈ wsX00, w ∈ wsX0_farAgo := by decide +kernel
set_option maxRecDepth 100000 in
set_option maxHeartbeats 4000000 in
theorem c_X0_farAgo (l : Launch) (D : va_G) (cA cZ cR : ClassId) (h : Nat) (as : Nat → Nat) (st : St) (i : Int32) : BMi l D cA cZ cR yX0_farAgo wsX0_farAgo rm_X0_farAgo [.ref h, .int i] (LW cA h as st) (LW cA h as st) (fa st i) := by
  refine bm_open (maxL := 2) (by decide) rfl rfl rfl (Nat.le_of_ble_eq_true rfl) ?_
  intro p e s m args below meth c A Q hx hb hml hts hown hE hP hD hA hS hret ls hl
  have hown : s.vm.findClass RX0 = some m.cls := hown
  have hl : lv_has ls 2 [(0, .ref h), (1, .int i)] := hl
  obtain ⟨H, locs, eH, eL⟩ : ∃ (H : Heap) (locs : List Loc), H = s.heap ∧ locs = [] := ⟨_, _, rfl, rfl⟩
  rw [← eH, ← eL]
  rw [← eH] at hP
  have hS : va_S A s.heap H locs := by rw [eH, eL]; exact hS
  clear eH eL
  refine lv_aload_n hx hb dX0_farAgo_0 rfl (lv_at hl 0 rfl) ?_
  refine va_get (D := D) (ci := 0) (v := .ref (as 3)) (C := RX0) (T := TX0) (N := 11) hx hb hts iw_X0_farAgo_X0 hown hE.1 hP 0 rfl rfl 3 (by decide) (hts (.fieldLink RX0 29 "EchoTaps$Line" "fars" "[I") (by decide +kernel)) (fun _ h9 => h9) rfl dX0_farAgo_1 ?_
  refine lv_aload_n hx hb dX0_farAgo_4 rfl (lv_at hl 0 rfl) ?_
  refine va_get (D := D) (ci := 0) (v := .int (st 8 0)) (C := RX0) (T := TX0) (N := 11) hx hb hts iw_X0_farAgo_X0 hown hE.1 hP 0 rfl rfl 8 (by decide) (hts (.fieldLink RX0 50 "EchoTaps$Line" "ticks" "I") (by decide +kernel)) (fun _ h9 => h9) rfl dX0_farAgo_5 ?_
  refine lv_iload_n hx hb dX0_farAgo_8 rfl (lv_at hl 1 rfl) ?_
  refine lv_isub hx hb dX0_farAgo_9 ?_
  refine lv_bipush (v := 63) hx hb dX0_farAgo_10 (by decide) ?_
  refine lv_iand hx hb dX0_farAgo_12 ?_
  refine va_iald hx hb hE.1 hP 4 0 rfl rfl (in63 _) dX0_farAgo_13 ?_
  exact hret _ _ _ _ _ hP rfl hS dX0_farAgo_14

abbrev rm_X0_nearAgo : Room := { frames := 0, cells := 0, slots := 0, locals := 0 }
theorem iw_X0_nearAgo_X0 : ∀ w ∈ wsX00, w ∈ wsX0_nearAgo := by decide +kernel
set_option maxRecDepth 100000 in
set_option maxHeartbeats 4000000 in
theorem c_X0_nearAgo (l : Launch) (D : va_G) (cA cZ cR : ClassId) (h : Nat) (as : Nat → Nat) (st : St) (i : Int32) : BMi l D cA cZ cR yX0_nearAgo wsX0_nearAgo rm_X0_nearAgo [.ref h, .int i] (LW cA h as st) (LW cA h as st) (na st i) := by
  refine bm_open (maxL := 2) (by decide) rfl rfl rfl (Nat.le_of_ble_eq_true rfl) ?_
  intro p e s m args below meth c A Q hx hb hml hts hown hE hP hD hA hS hret ls hl
  have hown : s.vm.findClass RX0 = some m.cls := hown
  have hl : lv_has ls 2 [(0, .ref h), (1, .int i)] := hl
  obtain ⟨H, locs, eH, eL⟩ : ∃ (H : Heap) (locs : List Loc), H = s.heap ∧ locs = [] := ⟨_, _, rfl, rfl⟩
  rw [← eH, ← eL]
  rw [← eH] at hP
  have hS : va_S A s.heap H locs := by rw [eH, eL]; exact hS
  clear eH eL
  refine lv_aload_n hx hb dX0_nearAgo_0 rfl (lv_at hl 0 rfl) ?_
  refine va_get (D := D) (ci := 0) (v := .ref (as 4)) (C := RX0) (T := TX0) (N := 11) hx hb hts iw_X0_nearAgo_X0 hown hE.1 hP 0 rfl rfl 4 (by decide) (hts (.fieldLink RX0 32 "EchoTaps$Line" "nears" "[I") (by decide +kernel)) (fun _ h9 => h9) rfl dX0_nearAgo_1 ?_
  refine lv_aload_n hx hb dX0_nearAgo_4 rfl (lv_at hl 0 rfl) ?_
  refine va_get (D := D) (ci := 0) (v := .int (st 8 0)) (C := RX0) (T := TX0) (N := 11) hx hb hts iw_X0_nearAgo_X0 hown hE.1 hP 0 rfl rfl 8 (by decide) (hts (.fieldLink RX0 50 "EchoTaps$Line" "ticks" "I") (by decide +kernel)) (fun _ h9 => h9) rfl dX0_nearAgo_5 ?_
  refine lv_iload_n hx hb dX0_nearAgo_8 rfl (lv_at hl 1 rfl) ?_
  refine lv_isub hx hb dX0_nearAgo_9 ?_
  refine lv_bipush (v := 63) hx hb dX0_nearAgo_10 (by decide) ?_
  refine lv_iand hx hb dX0_nearAgo_12 ?_
  refine va_iald hx hb hE.1 hP 5 0 rfl rfl (in63 _) dX0_nearAgo_13 ?_
  exact hret _ _ _ _ _ hP rfl hS dX0_nearAgo_14

abbrev rm_X0_outAgo : Room := { frames := 0, cells := 0, slots := 0, locals := 0 }
theorem iw_X0_outAgo_X0 : ∀ w ∈ wsX00, w ∈ wsX0_outAgo := by decide +kernel
set_option maxRecDepth 100000 in
set_option maxHeartbeats 4000000 in
theorem c_X0_outAgo (l : Launch) (D : va_G) (cA cZ cR : ClassId) (h : Nat) (as : Nat → Nat) (st : St) (i : Int32) : BMi l D cA cZ cR yX0_outAgo wsX0_outAgo rm_X0_outAgo [.ref h, .int i] (LW cA h as st) (LW cA h as st) (oa st i) := by
  refine bm_open (maxL := 2) (by decide) rfl rfl rfl (Nat.le_of_ble_eq_true rfl) ?_
  intro p e s m args below meth c A Q hx hb hml hts hown hE hP hD hA hS hret ls hl
  have hown : s.vm.findClass RX0 = some m.cls := hown
  have hl : lv_has ls 2 [(0, .ref h), (1, .int i)] := hl
  obtain ⟨H, locs, eH, eL⟩ : ∃ (H : Heap) (locs : List Loc), H = s.heap ∧ locs = [] := ⟨_, _, rfl, rfl⟩
  rw [← eH, ← eL]
  rw [← eH] at hP
  have hS : va_S A s.heap H locs := by rw [eH, eL]; exact hS
  clear eH eL
  refine lv_aload_n hx hb dX0_outAgo_0 rfl (lv_at hl 0 rfl) ?_
  refine va_get (D := D) (ci := 0) (v := .ref (as 5)) (C := RX0) (T := TX0) (N := 11) hx hb hts iw_X0_outAgo_X0 hown hE.1 hP 0 rfl rfl 5 (by decide) (hts (.fieldLink RX0 35 "EchoTaps$Line" "outs" "[I") (by decide +kernel)) (fun _ h9 => h9) rfl dX0_outAgo_1 ?_
  refine lv_aload_n hx hb dX0_outAgo_4 rfl (lv_at hl 0 rfl) ?_
  refine va_get (D := D) (ci := 0) (v := .int (st 8 0)) (C := RX0) (T := TX0) (N := 11) hx hb hts iw_X0_outAgo_X0 hown hE.1 hP 0 rfl rfl 8 (by decide) (hts (.fieldLink RX0 50 "EchoTaps$Line" "ticks" "I") (by decide +kernel)) (fun _ h9 => h9) rfl dX0_outAgo_5 ?_
  refine lv_iload_n hx hb dX0_outAgo_8 rfl (lv_at hl 1 rfl) ?_
  refine lv_isub hx hb dX0_outAgo_9 ?_
  refine lv_bipush (v := 63) hx hb dX0_outAgo_10 (by decide) ?_
  refine lv_iand hx hb dX0_outAgo_12 ?_
  refine va_iald hx hb hE.1 hP 6 0 rfl rfl (in63 _) dX0_outAgo_13 ?_
  exact hret _ _ _ _ _ hP rfl hS dX0_outAgo_14

abbrev rm_X0_seenBy : Room := { frames := 1, cells := 0, slots := 0, locals := 21 }
theorem iw_X0_seenBy_X0 : ∀ w ∈ wsX00, w ∈ wsX0_seenBy := by decide +kernel
set_option maxRecDepth 100000 in
set_option maxHeartbeats 4000000 in
theorem c_X0_seenBy (l : Launch) (D : va_G) (cA cZ cR : ClassId) (h : Nat) (as : Nat → Nat) (st : St) (k : Int32) : BMi l D cA cZ cR yX0_seenBy wsX0_seenBy rm_X0_seenBy [.ref h, .int k] (LW cA h as st) (LW cA h as st) (fa st (k + st 0 4)) := by
  refine bm_open (maxL := 2) (by decide) rfl rfl rfl (Nat.le_of_ble_eq_true rfl) ?_
  intro p e s m args below meth c A Q hx hb hml hts hown hE hP hD hA hS hret ls hl
  have hown : s.vm.findClass RX0 = some m.cls := hown
  have hl : lv_has ls 2 [(0, .ref h), (1, .int k)] := hl
  obtain ⟨H, locs, eH, eL⟩ : ∃ (H : Heap) (locs : List Loc), H = s.heap ∧ locs = [] := ⟨_, _, rfl, rfl⟩
  rw [← eH, ← eL]
  rw [← eH] at hP
  have hS : va_S A s.heap H locs := by rw [eH, eL]; exact hS
  clear eH eL
  refine lv_aload_n hx hb dX0_seenBy_0 rfl (lv_at hl 0 rfl) ?_
  refine lv_iload_n hx hb dX0_seenBy_1 rfl (lv_at hl 1 rfl) ?_
  refine lv_aload_n hx hb dX0_seenBy_2 rfl (lv_at hl 0 rfl) ?_
  refine va_get (D := D) (ci := 0) (v := .ref (as 0)) (C := RX0) (T := TX0) (N := 11) hx hb hts iw_X0_seenBy_X0 hown hE.1 hP 0 rfl rfl 0 (by decide) (hts (.fieldLink RX0 18 "EchoTaps$Line" "rules" "[I") (by decide +kernel)) (fun _ h9 => h9) rfl dX0_seenBy_3 ?_
  refine lv_iconst (v := 4) hx hb dX0_seenBy_6 (by decide) ?_
  refine va_iald hx hb hE.1 hP 1 0 rfl rfl (vp_in_nI (n := 4) (N := 5) (by decide) (by decide)) dX0_seenBy_7 ?_
  refine lv_iadd hx hb dX0_seenBy_8 ?_
  refine bm_i [] (LW cA h as st) [] [.int (k + ((st 0) 4))] [] ⟨hx, hb, hml, hown, hts⟩ (c_X0_farAgo l D cA cZ cR h as st (k + ((st 0) 4))) (cwV 1 hts gX0_seenBy_X0_farAgo rfl rfl rfl (by decide +kernel) ⟨Nat.le_of_ble_eq_true rfl, Nat.le_of_ble_eq_true rfl⟩) hE hP hD hS hA LW_adr 0 0 rfl rfl rfl hl.1 rfl (Nat.le_of_ble_eq_true rfl) dX0_seenBy_9 ⟨Nat.zero_le _, Nat.zero_le _⟩ (fun H locs hP hD hS => ?_)
  have hP : va_P D vwCl (LW cA h as st) H := hP
  have hD : va_D A (LW cA h as st) := hD
  exact hret _ _ _ _ _ hP rfl hS dX0_seenBy_12

abbrev rm_X0_takeFar : Room := { frames := 0, cells := 0, slots := 0, locals := 0 }
theorem iw_X0_takeFar_X0 : ∀ w ∈ wsX00, w ∈ wsX0_takeFar := by decide +kernel
set_option maxRecDepth 100000 in
set_option maxHeartbeats 4000000 in
theorem c_X0_takeFar (l : Launch) (D : va_G) (cA cZ cR : ClassId) (h : Nat) (as : Nat → Nat) (st : St) (far : Int32) : BMv l D cA cZ cR yX0_takeFar wsX0_takeFar rm_X0_takeFar [.ref h, .int far] (LW cA h as st) (LW cA h as (lf_tf st far)) := by
  refine bm_openV (maxL := 2) (by decide) rfl rfl rfl (Nat.le_of_ble_eq_true rfl) ?_
  intro p e s m args below meth c A Q hx hb hml hts hown hE hP hD hA hS hret ls hl
  have hown : s.vm.findClass RX0 = some m.cls := hown
  have hl : lv_has ls 2 [(0, .ref h), (1, .int far)] := hl
  obtain ⟨H, locs, eH, eL⟩ : ∃ (H : Heap) (locs : List Loc), H = s.heap ∧ locs = [] := ⟨_, _, rfl, rfl⟩
  rw [← eH, ← eL]
  rw [← eH] at hP
  have hS : va_S A s.heap H locs := by rw [eH, eL]; exact hS
  clear eH eL
  refine lv_aload_n hx hb dX0_takeFar_0 rfl (lv_at hl 0 rfl) ?_
  refine lv_dup hx hb dX0_takeFar_1 rfl ?_
  refine va_get (D := D) (ci := 0) (v := .int (st 8 0)) (C := RX0) (T := TX0) (N := 11) hx hb hts iw_X0_takeFar_X0 hown hE.1 hP 0 rfl rfl 8 (by decide) (hts (.fieldLink RX0 50 "EchoTaps$Line" "ticks" "I") (by decide +kernel)) (fun _ h9 => h9) rfl dX0_takeFar_2 ?_
  refine lv_iconst (v := 1) hx hb dX0_takeFar_5 (by decide) ?_
  refine lv_iadd hx hb dX0_takeFar_6 ?_
  refine va_put (D := D) (ci := 0) (v := .int ((st 8 0) + 1)) (ty := .int) (C := RX0) (T := TX0) (N := 11) hx hb hts iw_X0_takeFar_X0 tyX0 tyX0_ok nmX0 hown hE.1 hP hD hS 0 rfl rfl 8 (by decide) (hts (.fieldLink RX0 50 "EchoTaps$Line" "ticks" "I") (by decide +kernel)) (fun _ h9 => h9) rfl (by decide +kernel) rfl rfl (Nat.le_of_ble_eq_true rfl) dX0_takeFar_7 (fun H locs hP hD hS => ?_)
  have hP : va_P D vwCl (LW cA h as (va_up st 8 (upd (st 8) 0 ((st 8 0) + 1)))) H := hP
  have hD : va_D A (LW cA h as (va_up st 8 (upd (st 8) 0 ((st 8 0) + 1)))) := hD
  refine lv_aload_n hx hb dX0_takeFar_10 rfl (lv_at hl 0 rfl) ?_
  refine va_get (D := D) (ci := 0) (v := .ref (as 3)) (C := RX0) (T := TX0) (N := 11) hx hb hts iw_X0_takeFar_X0 hown hE.1 hP 0 rfl rfl 3 (by decide) (hts (.fieldLink RX0 29 "EchoTaps$Line" "fars" "[I") (by decide +kernel)) (fun _ h9 => h9) rfl dX0_takeFar_11 ?_
  refine lv_aload_n hx hb dX0_takeFar_14 rfl (lv_at hl 0 rfl) ?_
  refine va_get (D := D) (ci := 0) (v := .int ((va_up st 8 (upd (st 8) 0 ((st 8 0) + 1))) 8 0)) (C := RX0) (T := TX0) (N := 11) hx hb hts iw_X0_takeFar_X0 hown hE.1 hP 0 rfl rfl 8 (by decide) (hts (.fieldLink RX0 50 "EchoTaps$Line" "ticks" "I") (by decide +kernel)) (fun _ h9 => h9) rfl dX0_takeFar_15 ?_
  refine lv_bipush (v := 63) hx hb dX0_takeFar_18 (by decide) ?_
  refine lv_iand hx hb dX0_takeFar_20 ?_
  refine lv_iload_n hx hb dX0_takeFar_21 rfl (lv_at hl 1 rfl) ?_
  refine va_iast hx hb hE.1 hP hD hS 4 0 rfl rfl (in63 _) dX0_takeFar_22 (fun H locs hP hD hS => ?_)
  have hP : va_P D vwCl (LW cA h as (va_up (va_up st 8 (upd (st 8) 0 ((st 8 0) + 1))) 3 (upd ((va_up st 8 (upd (st 8) 0 ((st 8 0) + 1))) 3) (((va_up st 8 (upd (st 8) 0 ((st 8 0) + 1))) 8 0) &&& 63).toNatClampNeg far))) H := hP
  have hD : va_D A (LW cA h as (va_up (va_up st 8 (upd (st 8) 0 ((st 8 0) + 1))) 3 (upd ((va_up st 8 (upd (st 8) 0 ((st 8 0) + 1))) 3) (((va_up st 8 (upd (st 8) 0 ((st 8 0) + 1))) 8 0) &&& 63).toNatClampNeg far))) := hD
  exact hret _ _ _ _ hP hS dX0_takeFar_23

abbrev rm_X0_echo : Room := { frames := 1, cells := 0, slots := 0, locals := 21 }
theorem iw_X0_echo_X0 : ∀ w ∈ wsX00, w ∈ wsX0_echo := by decide +kernel
set_option maxRecDepth 100000 in
set_option maxHeartbeats 4000000 in
theorem c_X0_echo (l : Launch) (D : va_G) (cA cZ cR : ClassId) (h : Nat) (as : Nat → Nat) (st : St) : BMi l D cA cZ cR yX0_echo wsX0_echo rm_X0_echo [.ref h] (LW cA h as st) (LW cA h as st) (lf_echo st) := by
  refine bm_open (maxL := 3) (by decide) rfl rfl rfl (Nat.le_of_ble_eq_true rfl) ?_
  intro p e s m args below meth c A Q hx hb hml hts hown hE hP hD hA hS hret ls hl
  have hown : s.vm.findClass RX0 = some m.cls := hown
  have hl : lv_has ls 3 [(0, .ref h)] := hl
  obtain ⟨H, locs, eH, eL⟩ : ∃ (H : Heap) (locs : List Loc), H = s.heap ∧ locs = [] := ⟨_, _, rfl, rfl⟩
  rw [← eH, ← eL]
  rw [← eH] at hP
  have hS : va_S A s.heap H locs := by rw [eH, eL]; exact hS
  clear eH eL
  refine lv_iconst (v := 0) hx hb dX0_echo_0 (by decide) ?_
  refine lv_istore_n (lv' := [(1, .int 0), (0, .ref h)]) hx hb dX0_echo_1 rfl hl (by decide) rfl (fun ls hl => ?_)
  refine lv_iconst (v := 0) hx hb dX0_echo_2 (by decide) ?_
  refine lv_istore_n (lv' := [(2, .int 0), (1, .int 0), (0, .ref h)]) hx hb dX0_echo_3 rfl hl (by decide) rfl (fun ls hl => ?_)
  have loop : ∀ (n : Nat) (k : Nat) (a : Int32) (hk : k + n = 8) (ha : a = l_sum (fun k => st 2 (nI k).toNatClampNeg * fa st (nI k + st 2 8)) k), ∀ (H : Heap) (locs : List Loc), va_P D vwCl (LW cA h as st) H → va_D A (LW cA h as st) → va_S A s.heap H locs → ∀ ls : Array Slot, lv_has ls 3 [(1, .int a), (2, .int (nI k)), (0, .ref h)] → W p l e rm_X0_echo s m args below meth c H locs 0 0 Q (F0 m 4 ls []) := by
    intro n
    induction n with
    | zero =>
      intro k a hk ha H locs hP hD hS ls hl
      obtain rfl : k = 8 := by omega
      refine lv_iload_n hx hb dX0_echo_4 rfl (lv_at hl 1 rfl) ?_
      refine lv_bipush (v := 8) hx hb dX0_echo_5 (by decide) ?_
      refine lv_icmp_ge (tgt := 39) hx hb dX0_echo_7 (by decide) (fun c_1 => ?_) (fun c_1 => absurd (by decide) c_1)
      refine lv_iload_n hx hb dX0_echo_39 rfl (lv_at hl 0 rfl) ?_
      refine lv_sipush (v := 1024) hx hb dX0_echo_40 (by decide) ?_
      refine lv_idiv hx hb dX0_echo_43 (by decide) ?_
      exact hret _ _ _ _ _ hP (by rw [ha]; rfl) hS dX0_echo_44
    | succ n ih =>
      intro k a hk ha H locs hP hD hS ls hl
      refine lv_iload_n hx hb dX0_echo_4 rfl (lv_at hl 1 rfl) ?_
      refine lv_bipush (v := 8) hx hb dX0_echo_5 (by decide) ?_
      refine lv_icmp_ge (tgt := 39) hx hb dX0_echo_7 (by decide) (fun c_2 => absurd c_2 (nI_ge (a := k) (b := 8) (by omega) (by decide))) (fun c_2 => ?_)
      refine lv_iload_n hx hb dX0_echo_10 rfl (lv_at hl 0 rfl) ?_
      refine lv_aload_n hx hb dX0_echo_11 rfl (lv_at hl 2 rfl) ?_
      refine va_get (D := D) (ci := 0) (v := .ref (as 2)) (C := RX0) (T := TX0) (N := 11) hx hb hts iw_X0_echo_X0 hown hE.1 hP 0 rfl rfl 2 (by decide) (hts (.fieldLink RX0 26 "EchoTaps$Line" "way" "[I") (by decide +kernel)) (fun _ h9 => h9) rfl dX0_echo_12 ?_
      refine lv_iload_n hx hb dX0_echo_15 rfl (lv_at hl 1 rfl) ?_
      refine va_iald hx hb hE.1 hP 3 0 rfl rfl (vp_in_nI (by omega) (by decide)) dX0_echo_16 ?_
      refine lv_aload_n hx hb dX0_echo_17 rfl (lv_at hl 2 rfl) ?_
      refine lv_iload_n hx hb dX0_echo_18 rfl (lv_at hl 1 rfl) ?_
      refine lv_aload_n hx hb dX0_echo_19 rfl (lv_at hl 2 rfl) ?_
      refine va_get (D := D) (ci := 0) (v := .ref (as 2)) (C := RX0) (T := TX0) (N := 11) hx hb hts iw_X0_echo_X0 hown hE.1 hP 0 rfl rfl 2 (by decide) (hts (.fieldLink RX0 26 "EchoTaps$Line" "way" "[I") (by decide +kernel)) (fun _ h9 => h9) rfl dX0_echo_20 ?_
      refine lv_bipush (v := 8) hx hb dX0_echo_23 (by decide) ?_
      refine va_iald hx hb hE.1 hP 3 0 rfl rfl (vp_in_nI (n := 8) (N := 9) (by decide) (by decide)) dX0_echo_25 ?_
      refine lv_iadd hx hb dX0_echo_26 ?_
      refine bm_i [] (LW cA h as st) [] [.int ((nI k) + ((st 2) 8))] [.int ((st 2) (nI k).toNatClampNeg), .int a] ⟨hx, hb, hml, hown, hts⟩ (c_X0_farAgo l D cA cZ cR h as st ((nI k) + ((st 2) 8))) (cwV 1 hts gX0_echo_X0_farAgo rfl rfl rfl (by decide +kernel) ⟨Nat.le_of_ble_eq_true rfl, Nat.le_of_ble_eq_true rfl⟩) hE hP hD hS hA LW_adr 0 0 rfl rfl rfl hl.1 rfl (Nat.le_of_ble_eq_true rfl) dX0_echo_27 ⟨Nat.zero_le _, Nat.zero_le _⟩ (fun H locs hP hD hS => ?_)
      have hP : va_P D vwCl (LW cA h as st) H := hP
      have hD : va_D A (LW cA h as st) := hD
      refine lv_imul hx hb dX0_echo_30 ?_
      refine lv_iadd hx hb dX0_echo_31 ?_
      refine lv_istore_n (lv' := [(1, .int (a + (((st 2) (nI k).toNatClampNeg) * (fa st ((nI k) + ((st 2) 8)))))), (2, .int (nI k)), (0, .ref h)]) hx hb dX0_echo_32 rfl hl (by decide) rfl (fun ls hl => ?_)
      refine lv_iinc (v := nI (k + 1)) (lv' := [(2, .int (nI (k + 1))), (1, .int (a + (((st 2) (nI k).toNatClampNeg) * (fa st ((nI k) + ((st 2) 8)))))), (0, .ref h)]) hx hb dX0_echo_33 hl (k := 1) rfl (nI_1 k) (by decide) rfl (fun ls hl => ?_)
      refine lv_goto (tgt := 4) hx hb dX0_echo_36 (by decide) ?_
      exact ih (k + 1) _ (by omega) (by rw [ha]; rfl) H locs hP hD hS ls (lv_sub hl [1, 0, 2] rfl)
  exact loop 8 0 0 rfl rfl H locs hP hD hS ls (lv_sub hl [1, 0, 2] rfl)

abbrev rm_X0_estimated : Room := { frames := 2, cells := 0, slots := 0, locals := 42 }
theorem iw_X0_estimated_X0 : ∀ w ∈ wsX00, w ∈ wsX0_estimated := by decide +kernel
set_option maxRecDepth 100000 in
set_option maxHeartbeats 4000000 in
theorem c_X0_estimated (l : Launch) (D : va_G) (cA cZ cR : ClassId) (h : Nat) (as : Nat → Nat) (st : St) : BMi l D cA cZ cR yX0_estimated wsX0_estimated rm_X0_estimated [.ref h] (LW cA h as st) (LW cA h as st) (lf_est st) := by
  refine bm_open (maxL := 3) (by decide) rfl rfl rfl (Nat.le_of_ble_eq_true rfl) ?_
  intro p e s m args below meth c A Q hx hb hml hts hown hE hP hD hA hS hret ls hl
  have hown : s.vm.findClass RX0 = some m.cls := hown
  have hl : lv_has ls 3 [(0, .ref h)] := hl
  obtain ⟨H, locs, eH, eL⟩ : ∃ (H : Heap) (locs : List Loc), H = s.heap ∧ locs = [] := ⟨_, _, rfl, rfl⟩
  rw [← eH, ← eL]
  rw [← eH] at hP
  have hS : va_S A s.heap H locs := by rw [eH, eL]; exact hS
  clear eH eL
  refine lv_iconst (v := 0) hx hb dX0_estimated_0 (by decide) ?_
  refine lv_istore_n (lv' := [(1, .int 0), (0, .ref h)]) hx hb dX0_estimated_1 rfl hl (by decide) rfl (fun ls hl => ?_)
  refine lv_iconst (v := 0) hx hb dX0_estimated_2 (by decide) ?_
  refine lv_istore_n (lv' := [(2, .int 0), (1, .int 0), (0, .ref h)]) hx hb dX0_estimated_3 rfl hl (by decide) rfl (fun ls hl => ?_)
  have loop : ∀ (n : Nat) (k : Nat) (a : Int32) (hk : k + n = 8) (ha : a = l_sum (fun k => st 1 (nI k).toNatClampNeg * fa st (nI k + st 0 4)) k), ∀ (H : Heap) (locs : List Loc), va_P D vwCl (LW cA h as st) H → va_D A (LW cA h as st) → va_S A s.heap H locs → ∀ ls : Array Slot, lv_has ls 3 [(1, .int a), (2, .int (nI k)), (0, .ref h)] → W p l e rm_X0_estimated s m args below meth c H locs 0 0 Q (F0 m 4 ls []) := by
    intro n
    induction n with
    | zero =>
      intro k a hk ha H locs hP hD hS ls hl
      obtain rfl : k = 8 := by omega
      refine lv_iload_n hx hb dX0_estimated_4 rfl (lv_at hl 1 rfl) ?_
      refine lv_bipush (v := 8) hx hb dX0_estimated_5 (by decide) ?_
      refine lv_icmp_ge (tgt := 31) hx hb dX0_estimated_7 (by decide) (fun c_1 => ?_) (fun c_1 => absurd (by decide) c_1)
      refine lv_iload_n hx hb dX0_estimated_31 rfl (lv_at hl 0 rfl) ?_
      refine lv_sipush (v := 1024) hx hb dX0_estimated_32 (by decide) ?_
      refine lv_idiv hx hb dX0_estimated_35 (by decide) ?_
      exact hret _ _ _ _ _ hP (by rw [ha]; rfl) hS dX0_estimated_36
    | succ n ih =>
      intro k a hk ha H locs hP hD hS ls hl
      refine lv_iload_n hx hb dX0_estimated_4 rfl (lv_at hl 1 rfl) ?_
      refine lv_bipush (v := 8) hx hb dX0_estimated_5 (by decide) ?_
      refine lv_icmp_ge (tgt := 31) hx hb dX0_estimated_7 (by decide) (fun c_2 => absurd c_2 (nI_ge (a := k) (b := 8) (by omega) (by decide))) (fun c_2 => ?_)
      refine lv_iload_n hx hb dX0_estimated_10 rfl (lv_at hl 0 rfl) ?_
      refine lv_aload_n hx hb dX0_estimated_11 rfl (lv_at hl 2 rfl) ?_
      refine va_get (D := D) (ci := 0) (v := .ref (as 1)) (C := RX0) (T := TX0) (N := 11) hx hb hts iw_X0_estimated_X0 hown hE.1 hP 0 rfl rfl 1 (by decide) (hts (.fieldLink RX0 23 "EchoTaps$Line" "taps" "[I") (by decide +kernel)) (fun _ h9 => h9) rfl dX0_estimated_12 ?_
      refine lv_iload_n hx hb dX0_estimated_15 rfl (lv_at hl 1 rfl) ?_
      refine va_iald hx hb hE.1 hP 2 0 rfl rfl (vp_in_nI (by omega) (by decide)) dX0_estimated_16 ?_
      refine lv_aload_n hx hb dX0_estimated_17 rfl (lv_at hl 2 rfl) ?_
      refine lv_iload_n hx hb dX0_estimated_18 rfl (lv_at hl 1 rfl) ?_
      refine bm_i [] (LW cA h as st) [] [.int (nI k)] [.int ((st 1) (nI k).toNatClampNeg), .int a] ⟨hx, hb, hml, hown, hts⟩ (c_X0_seenBy l D cA cZ cR h as st (nI k)) (cwV 1 hts gX0_estimated_X0_seenBy rfl rfl rfl (by decide +kernel) ⟨Nat.le_of_ble_eq_true rfl, Nat.le_of_ble_eq_true rfl⟩) hE hP hD hS hA LW_adr 0 0 rfl rfl rfl hl.1 rfl (Nat.le_of_ble_eq_true rfl) dX0_estimated_19 ⟨Nat.zero_le _, Nat.zero_le _⟩ (fun H locs hP hD hS => ?_)
      have hP : va_P D vwCl (LW cA h as st) H := hP
      have hD : va_D A (LW cA h as st) := hD
      refine lv_imul hx hb dX0_estimated_22 ?_
      refine lv_iadd hx hb dX0_estimated_23 ?_
      refine lv_istore_n (lv' := [(1, .int (a + (((st 1) (nI k).toNatClampNeg) * (fa st ((nI k) + st 0 4))))), (2, .int (nI k)), (0, .ref h)]) hx hb dX0_estimated_24 rfl hl (by decide) rfl (fun ls hl => ?_)
      refine lv_iinc (v := nI (k + 1)) (lv' := [(2, .int (nI (k + 1))), (1, .int (a + (((st 1) (nI k).toNatClampNeg) * (fa st ((nI k) + st 0 4))))), (0, .ref h)]) hx hb dX0_estimated_25 hl (k := 1) rfl (nI_1 k) (by decide) rfl (fun ls hl => ?_)
      refine lv_goto (tgt := 4) hx hb dX0_estimated_28 (by decide) ?_
      exact ih (k + 1) _ (by omega) (by rw [ha]; rfl) H locs hP hD hS ls (lv_sub hl [1, 0, 2] rfl)
  exact loop 8 0 0 rfl rfl H locs hP hD hS ls (lv_sub hl [1, 0, 2] rfl)

abbrev rm_X0_loudest : Room := { frames := 1, cells := 0, slots := 0, locals := 21 }
set_option maxRecDepth 100000 in
set_option maxHeartbeats 4000000 in
theorem c_X0_loudest (l : Launch) (D : va_G) (cA cZ cR : ClassId) (h : Nat) (as : Nat → Nat) (st : St) : BMi l D cA cZ cR yX0_loudest wsX0_loudest rm_X0_loudest [.ref h] (LW cA h as st) (LW cA h as st) (lf_loud st) := by
  refine bm_open (maxL := 3) (by decide) rfl rfl rfl (Nat.le_of_ble_eq_true rfl) ?_
  intro p e s m args below meth c A Q hx hb hml hts hown hE hP hD hA hS hret ls hl
  have hown : s.vm.findClass RX0 = some m.cls := hown
  have hl : lv_has ls 3 [(0, .ref h)] := hl
  obtain ⟨H, locs, eH, eL⟩ : ∃ (H : Heap) (locs : List Loc), H = s.heap ∧ locs = [] := ⟨_, _, rfl, rfl⟩
  rw [← eH, ← eL]
  rw [← eH] at hP
  have hS : va_S A s.heap H locs := by rw [eH, eL]; exact hS
  clear eH eL
  refine lv_iconst (v := 0) hx hb dX0_loudest_0 (by decide) ?_
  refine lv_istore_n (lv' := [(1, .int 0), (0, .ref h)]) hx hb dX0_loudest_1 rfl hl (by decide) rfl (fun ls hl => ?_)
  refine lv_iconst (v := 0) hx hb dX0_loudest_2 (by decide) ?_
  refine lv_istore_n (lv' := [(2, .int 0), (1, .int 0), (0, .ref h)]) hx hb dX0_loudest_3 rfl hl (by decide) rfl (fun ls hl => ?_)
  have loop : ∀ (n : Nat) (k : Nat) (a : Int32) (hk : k + n = 24) (ha : a = pf_mxs (fun i => fa st (nI i)) k), ∀ (H : Heap) (locs : List Loc), va_P D vwCl (LW cA h as st) H → va_D A (LW cA h as st) → va_S A s.heap H locs → ∀ ls : Array Slot, lv_has ls 3 [(1, .int a), (2, .int (nI k)), (0, .ref h)] → W p l e rm_X0_loudest s m args below meth c H locs 0 0 Q (F0 m 4 ls []) := by
    intro n
    induction n with
    | zero =>
      intro k a hk ha H locs hP hD hS ls hl
      obtain rfl : k = 24 := by omega
      refine lv_iload_n hx hb dX0_loudest_4 rfl (lv_at hl 1 rfl) ?_
      refine lv_bipush (v := 24) hx hb dX0_loudest_5 (by decide) ?_
      refine lv_icmp_ge (tgt := 29) hx hb dX0_loudest_7 (by decide) (fun c_1 => ?_) (fun c_1 => absurd (by decide) c_1)
      refine lv_iload_n hx hb dX0_loudest_29 rfl (lv_at hl 0 rfl) ?_
      exact hret _ _ _ _ _ hP (by rw [ha]; rfl) hS dX0_loudest_30
    | succ n ih =>
      intro k a hk ha H locs hP hD hS ls hl
      refine lv_iload_n hx hb dX0_loudest_4 rfl (lv_at hl 1 rfl) ?_
      refine lv_bipush (v := 24) hx hb dX0_loudest_5 (by decide) ?_
      refine lv_icmp_ge (tgt := 29) hx hb dX0_loudest_7 (by decide) (fun c_2 => absurd c_2 (nI_ge (a := k) (b := 24) (by omega) (by decide))) (fun c_2 => ?_)
      refine lv_iload_n hx hb dX0_loudest_10 rfl (lv_at hl 0 rfl) ?_
      refine lv_aload_n hx hb dX0_loudest_11 rfl (lv_at hl 2 rfl) ?_
      refine lv_iload_n hx hb dX0_loudest_12 rfl (lv_at hl 1 rfl) ?_
      refine bm_i [] (LW cA h as st) [] [.int (nI k)] [.int a] ⟨hx, hb, hml, hown, hts⟩ (c_X0_farAgo l D cA cZ cR h as st (nI k)) (cwV 1 hts gX0_loudest_X0_farAgo rfl rfl rfl (by decide +kernel) ⟨Nat.le_of_ble_eq_true rfl, Nat.le_of_ble_eq_true rfl⟩) hE hP hD hS hA LW_adr 0 0 rfl rfl rfl hl.1 rfl (Nat.le_of_ble_eq_true rfl) dX0_loudest_13 ⟨Nat.zero_le _, Nat.zero_le _⟩ (fun H locs hP hD hS => ?_)
      have hP : va_P D vwCl (LW cA h as st) H := hP
      have hD : va_D A (LW cA h as st) := hD
      refine va_mabs hx hb (hml.trans hl.1.symm) hown (hts (.methodLink RX0 67 Lib.Math.abs.name) (by decide +kernel)) (hts (.static Lib.Math.abs.name) (by decide +kernel)) (hts (.initialized "java/lang/Math") (by decide +kernel)) (hts (.code Lib.Math.abs.name Lib.Math.abs.code 1 (some .int)) (by decide +kernel)) (Nat.le_of_ble_eq_true rfl) (Nat.le_of_ble_eq_true rfl) (Nat.zero_le _) (Nat.zero_le _) dX0_loudest_16 ?_
      refine va_mmax hx hb (hml.trans hl.1.symm) hown (hts (.methodLink RX0 110 Lib.Math.max.name) (by decide +kernel)) (hts (.static Lib.Math.max.name) (by decide +kernel)) (hts (.initialized "java/lang/Math") (by decide +kernel)) (hts (.code Lib.Math.max.name Lib.Math.max.code 2 (some .int)) (by decide +kernel)) (Nat.le_of_ble_eq_true rfl) (Nat.le_of_ble_eq_true rfl) (Nat.zero_le _) (Nat.zero_le _) dX0_loudest_19 ?_
      refine lv_istore_n (lv' := [(1, .int (pf_mx a (pf_ab (fa st (nI k))))), (2, .int (nI k)), (0, .ref h)]) hx hb dX0_loudest_22 rfl hl (by decide) rfl (fun ls hl => ?_)
      refine lv_iinc (v := nI (k + 1)) (lv' := [(2, .int (nI (k + 1))), (1, .int (pf_mx a (pf_ab (fa st (nI k))))), (0, .ref h)]) hx hb dX0_loudest_23 hl (k := 1) rfl (nI_1 k) (by decide) rfl (fun ls hl => ?_)
      refine lv_goto (tgt := 4) hx hb dX0_loudest_26 (by decide) ?_
      exact ih (k + 1) _ (by omega) (by rw [ha]; rfl) H locs hP hD hS ls (lv_sub hl [1, 0, 2] rfl)
  exact loop 24 0 0 rfl rfl H locs hP hD hS ls (lv_sub hl [1, 0, 2] rfl)

abbrev rm_X0_powerSeen : Room := { frames := 2, cells := 0, slots := 0, locals := 42 }
set_option maxRecDepth 100000 in
set_option maxHeartbeats 4000000 in
theorem c_X0_powerSeen (l : Launch) (D : va_G) (cA cZ cR : ClassId) (h : Nat) (as : Nat → Nat) (st : St) : BMi l D cA cZ cR yX0_powerSeen wsX0_powerSeen rm_X0_powerSeen [.ref h] (LW cA h as st) (LW cA h as st) (lf_pow st) := by
  refine bm_open (maxL := 4) (by decide) rfl rfl rfl (Nat.le_of_ble_eq_true rfl) ?_
  intro p e s m args below meth c A Q hx hb hml hts hown hE hP hD hA hS hret ls hl
  have hown : s.vm.findClass RX0 = some m.cls := hown
  have hl : lv_has ls 4 [(0, .ref h)] := hl
  obtain ⟨H, locs, eH, eL⟩ : ∃ (H : Heap) (locs : List Loc), H = s.heap ∧ locs = [] := ⟨_, _, rfl, rfl⟩
  rw [← eH, ← eL]
  rw [← eH] at hP
  have hS : va_S A s.heap H locs := by rw [eH, eL]; exact hS
  clear eH eL
  refine lv_iconst (v := 0) hx hb dX0_powerSeen_0 (by decide) ?_
  refine lv_istore_n (lv' := [(1, .int 0), (0, .ref h)]) hx hb dX0_powerSeen_1 rfl hl (by decide) rfl (fun ls hl => ?_)
  refine lv_iconst (v := 0) hx hb dX0_powerSeen_2 (by decide) ?_
  refine lv_istore_n (lv' := [(2, .int 0), (1, .int 0), (0, .ref h)]) hx hb dX0_powerSeen_3 rfl hl (by decide) rfl (fun ls hl => ?_)
  have loop : ∀ (n : Nat) (k : Nat) (a : Int32) (hk : k + n = 8) (ha : a = l_sum (fun k => fa st (nI k + st 0 4) * fa st (nI k + st 0 4)) k), ∀ (H : Heap) (locs : List Loc), va_P D vwCl (LW cA h as st) H → va_D A (LW cA h as st) → va_S A s.heap H locs → ∀ ls : Array Slot, lv_has ls 4 [(1, .int a), (2, .int (nI k)), (0, .ref h)] → W p l e rm_X0_powerSeen s m args below meth c H locs 0 0 Q (F0 m 4 ls []) := by
    intro n
    induction n with
    | zero =>
      intro k a hk ha H locs hP hD hS ls hl
      obtain rfl : k = 8 := by omega
      refine lv_iload_n hx hb dX0_powerSeen_4 rfl (lv_at hl 1 rfl) ?_
      refine lv_bipush (v := 8) hx hb dX0_powerSeen_5 (by decide) ?_
      refine lv_icmp_ge (tgt := 28) hx hb dX0_powerSeen_7 (by decide) (fun c_1 => ?_) (fun c_1 => absurd (by decide) c_1)
      refine lv_iload_n hx hb dX0_powerSeen_28 rfl (lv_at hl 0 rfl) ?_
      exact hret _ _ _ _ _ hP (by rw [ha]; rfl) hS dX0_powerSeen_29
    | succ n ih =>
      intro k a hk ha H locs hP hD hS ls hl
      refine lv_iload_n hx hb dX0_powerSeen_4 rfl (lv_at hl 1 rfl) ?_
      refine lv_bipush (v := 8) hx hb dX0_powerSeen_5 (by decide) ?_
      refine lv_icmp_ge (tgt := 28) hx hb dX0_powerSeen_7 (by decide) (fun c_2 => absurd c_2 (nI_ge (a := k) (b := 8) (by omega) (by decide))) (fun c_2 => ?_)
      refine lv_aload_n hx hb dX0_powerSeen_10 rfl (lv_at hl 2 rfl) ?_
      refine lv_iload_n hx hb dX0_powerSeen_11 rfl (lv_at hl 1 rfl) ?_
      refine bm_i [] (LW cA h as st) [] [.int (nI k)] [] ⟨hx, hb, hml, hown, hts⟩ (c_X0_seenBy l D cA cZ cR h as st (nI k)) (cwV 1 hts gX0_powerSeen_X0_seenBy rfl rfl rfl (by decide +kernel) ⟨Nat.le_of_ble_eq_true rfl, Nat.le_of_ble_eq_true rfl⟩) hE hP hD hS hA LW_adr 0 0 rfl rfl rfl hl.1 rfl (Nat.le_of_ble_eq_true rfl) dX0_powerSeen_12 ⟨Nat.zero_le _, Nat.zero_le _⟩ (fun H locs hP hD hS => ?_)
      have hP : va_P D vwCl (LW cA h as st) H := hP
      have hD : va_D A (LW cA h as st) := hD
      refine lv_istore_n (lv' := [(3, .int (fa st ((nI k) + st 0 4))), (1, .int a), (2, .int (nI k)), (0, .ref h)]) hx hb dX0_powerSeen_15 rfl hl (by decide) rfl (fun ls hl => ?_)
      refine lv_iload_n hx hb dX0_powerSeen_16 rfl (lv_at hl 1 rfl) ?_
      refine lv_iload_n hx hb dX0_powerSeen_17 rfl (lv_at hl 0 rfl) ?_
      refine lv_iload_n hx hb dX0_powerSeen_18 rfl (lv_at hl 0 rfl) ?_
      refine lv_imul hx hb dX0_powerSeen_19 ?_
      refine lv_iadd hx hb dX0_powerSeen_20 ?_
      refine lv_istore_n (lv' := [(1, .int (a + ((fa st ((nI k) + st 0 4)) * (fa st ((nI k) + st 0 4))))), (3, .int (fa st ((nI k) + st 0 4))), (2, .int (nI k)), (0, .ref h)]) hx hb dX0_powerSeen_21 rfl hl (by decide) rfl (fun ls hl => ?_)
      refine lv_iinc (v := nI (k + 1)) (lv' := [(2, .int (nI (k + 1))), (1, .int (a + ((fa st ((nI k) + st 0 4)) * (fa st ((nI k) + st 0 4))))), (3, .int (fa st ((nI k) + st 0 4))), (0, .ref h)]) hx hb dX0_powerSeen_22 hl (k := 2) rfl (nI_1 k) (by decide) rfl (fun ls hl => ?_)
      refine lv_goto (tgt := 4) hx hb dX0_powerSeen_25 (by decide) ?_
      exact ih (k + 1) _ (by omega) (by rw [ha]; rfl) H locs hP hD hS ls (lv_sub hl [1, 0, 3] rfl)
  exact loop 8 0 0 rfl rfl H locs hP hD hS ls (lv_sub hl [1, 0, 2] rfl)

abbrev rm_X0_likenessOf : Room := { frames := 1, cells := 0, slots := 0, locals := 21 }
set_option maxRecDepth 100000 in
set_option maxHeartbeats 4000000 in
theorem c_X0_likenessOf (l : Launch) (D : va_G) (cA cZ cR : ClassId) (h : Nat) (as : Nat → Nat) (st : St) (d : Int32) : BMi l D cA cZ cR yX0_likenessOf wsX0_likenessOf rm_X0_likenessOf [.ref h, .int d] (LW cA h as st) (LW cA h as st) (lf_like st d) := by
  refine bm_open (maxL := 4) (by decide) rfl rfl rfl (Nat.le_of_ble_eq_true rfl) ?_
  intro p e s m args below meth c A Q hx hb hml hts hown hE hP hD hA hS hret ls hl
  have hown : s.vm.findClass RX0 = some m.cls := hown
  have hl : lv_has ls 4 [(0, .ref h), (1, .int d)] := hl
  obtain ⟨H, locs, eH, eL⟩ : ∃ (H : Heap) (locs : List Loc), H = s.heap ∧ locs = [] := ⟨_, _, rfl, rfl⟩
  rw [← eH, ← eL]
  rw [← eH] at hP
  have hS : va_S A s.heap H locs := by rw [eH, eL]; exact hS
  clear eH eL
  refine lv_iconst (v := 0) hx hb dX0_likenessOf_0 (by decide) ?_
  refine lv_istore_n (lv' := [(2, .int 0), (0, .ref h), (1, .int d)]) hx hb dX0_likenessOf_1 rfl hl (by decide) rfl (fun ls hl => ?_)
  refine lv_iconst (v := 0) hx hb dX0_likenessOf_2 (by decide) ?_
  refine lv_istore_n (lv' := [(3, .int 0), (2, .int 0), (0, .ref h), (1, .int d)]) hx hb dX0_likenessOf_3 rfl hl (by decide) rfl (fun ls hl => ?_)
  have loop : ∀ (n : Nat) (k : Nat) (a : Int32) (hk : k + n = 24) (ha : a = l_sum (fun i => na st (nI i) * fa st (nI i + d)) k), ∀ (H : Heap) (locs : List Loc), va_P D vwCl (LW cA h as st) H → va_D A (LW cA h as st) → va_S A s.heap H locs → ∀ ls : Array Slot, lv_has ls 4 [(2, .int a), (3, .int (nI k)), (1, .int d), (0, .ref h)] → W p l e rm_X0_likenessOf s m args below meth c H locs 0 0 Q (F0 m 4 ls []) := by
    intro n
    induction n with
    | zero =>
      intro k a hk ha H locs hP hD hS ls hl
      obtain rfl : k = 24 := by omega
      refine lv_iload_n hx hb dX0_likenessOf_4 rfl (lv_at hl 1 rfl) ?_
      refine lv_bipush (v := 24) hx hb dX0_likenessOf_5 (by decide) ?_
      refine lv_icmp_ge (tgt := 32) hx hb dX0_likenessOf_7 (by decide) (fun c_1 => ?_) (fun c_1 => absurd (by decide) c_1)
      refine lv_iload_n hx hb dX0_likenessOf_32 rfl (lv_at hl 0 rfl) ?_
      exact hret _ _ _ _ _ hP (by rw [ha]; rfl) hS dX0_likenessOf_33
    | succ n ih =>
      intro k a hk ha H locs hP hD hS ls hl
      refine lv_iload_n hx hb dX0_likenessOf_4 rfl (lv_at hl 1 rfl) ?_
      refine lv_bipush (v := 24) hx hb dX0_likenessOf_5 (by decide) ?_
      refine lv_icmp_ge (tgt := 32) hx hb dX0_likenessOf_7 (by decide) (fun c_2 => absurd c_2 (nI_ge (a := k) (b := 24) (by omega) (by decide))) (fun c_2 => ?_)
      refine lv_iload_n hx hb dX0_likenessOf_10 rfl (lv_at hl 0 rfl) ?_
      refine lv_aload_n hx hb dX0_likenessOf_11 rfl (lv_at hl 3 rfl) ?_
      refine lv_iload_n hx hb dX0_likenessOf_12 rfl (lv_at hl 1 rfl) ?_
      refine bm_i [] (LW cA h as st) [] [.int (nI k)] [.int a] ⟨hx, hb, hml, hown, hts⟩ (c_X0_nearAgo l D cA cZ cR h as st (nI k)) (cwV 1 hts gX0_likenessOf_X0_nearAgo rfl rfl rfl (by decide +kernel) ⟨Nat.le_of_ble_eq_true rfl, Nat.le_of_ble_eq_true rfl⟩) hE hP hD hS hA LW_adr 0 0 rfl rfl rfl hl.1 rfl (Nat.le_of_ble_eq_true rfl) dX0_likenessOf_13 ⟨Nat.zero_le _, Nat.zero_le _⟩ (fun H locs hP hD hS => ?_)
      have hP : va_P D vwCl (LW cA h as st) H := hP
      have hD : va_D A (LW cA h as st) := hD
      refine lv_aload_n hx hb dX0_likenessOf_16 rfl (lv_at hl 3 rfl) ?_
      refine lv_iload_n hx hb dX0_likenessOf_17 rfl (lv_at hl 1 rfl) ?_
      refine lv_iload_n hx hb dX0_likenessOf_18 rfl (lv_at hl 2 rfl) ?_
      refine lv_iadd hx hb dX0_likenessOf_19 ?_
      refine bm_i [] (LW cA h as st) [] [.int ((nI k) + d)] [.int (na st (nI k)), .int a] ⟨hx, hb, hml, hown, hts⟩ (c_X0_farAgo l D cA cZ cR h as st ((nI k) + d)) (cwV 1 hts gX0_likenessOf_X0_farAgo rfl rfl rfl (by decide +kernel) ⟨Nat.le_of_ble_eq_true rfl, Nat.le_of_ble_eq_true rfl⟩) hE hP hD hS hA LW_adr 0 0 rfl rfl rfl hl.1 rfl (Nat.le_of_ble_eq_true rfl) dX0_likenessOf_20 ⟨Nat.zero_le _, Nat.zero_le _⟩ (fun H locs hP hD hS => ?_)
      have hP : va_P D vwCl (LW cA h as st) H := hP
      have hD : va_D A (LW cA h as st) := hD
      refine lv_imul hx hb dX0_likenessOf_23 ?_
      refine lv_iadd hx hb dX0_likenessOf_24 ?_
      refine lv_istore_n (lv' := [(2, .int (a + ((na st (nI k)) * (fa st ((nI k) + d))))), (3, .int (nI k)), (1, .int d), (0, .ref h)]) hx hb dX0_likenessOf_25 rfl hl (by decide) rfl (fun ls hl => ?_)
      refine lv_iinc (v := nI (k + 1)) (lv' := [(3, .int (nI (k + 1))), (2, .int (a + ((na st (nI k)) * (fa st ((nI k) + d))))), (1, .int d), (0, .ref h)]) hx hb dX0_likenessOf_26 hl (k := 1) rfl (nI_1 k) (by decide) rfl (fun ls hl => ?_)
      refine lv_goto (tgt := 4) hx hb dX0_likenessOf_29 (by decide) ?_
      exact ih (k + 1) _ (by omega) (by rw [ha]; rfl) H locs hP hD hS ls (lv_sub hl [1, 0, 2, 3] rfl)
  exact loop 24 0 0 rfl rfl H locs hP hD hS ls (lv_sub hl [1, 0, 3, 2] rfl)

abbrev rm_X0_nearSquares : Room := { frames := 1, cells := 0, slots := 0, locals := 21 }
set_option maxRecDepth 100000 in
set_option maxHeartbeats 4000000 in
theorem c_X0_nearSquares (l : Launch) (D : va_G) (cA cZ cR : ClassId) (h : Nat) (as : Nat → Nat) (st : St) : BMi l D cA cZ cR yX0_nearSquares wsX0_nearSquares rm_X0_nearSquares [.ref h] (LW cA h as st) (LW cA h as st) (lf_nsq st) := by
  refine bm_open (maxL := 3) (by decide) rfl rfl rfl (Nat.le_of_ble_eq_true rfl) ?_
  intro p e s m args below meth c A Q hx hb hml hts hown hE hP hD hA hS hret ls hl
  have hown : s.vm.findClass RX0 = some m.cls := hown
  have hl : lv_has ls 3 [(0, .ref h)] := hl
  obtain ⟨H, locs, eH, eL⟩ : ∃ (H : Heap) (locs : List Loc), H = s.heap ∧ locs = [] := ⟨_, _, rfl, rfl⟩
  rw [← eH, ← eL]
  rw [← eH] at hP
  have hS : va_S A s.heap H locs := by rw [eH, eL]; exact hS
  clear eH eL
  refine lv_iconst (v := 0) hx hb dX0_nearSquares_0 (by decide) ?_
  refine lv_istore_n (lv' := [(1, .int 0), (0, .ref h)]) hx hb dX0_nearSquares_1 rfl hl (by decide) rfl (fun ls hl => ?_)
  refine lv_iconst (v := 0) hx hb dX0_nearSquares_2 (by decide) ?_
  refine lv_istore_n (lv' := [(2, .int 0), (1, .int 0), (0, .ref h)]) hx hb dX0_nearSquares_3 rfl hl (by decide) rfl (fun ls hl => ?_)
  have loop : ∀ (n : Nat) (k : Nat) (a : Int32) (hk : k + n = 32) (ha : a = l_sum (fun i => na st (nI i) * na st (nI i)) k), ∀ (H : Heap) (locs : List Loc), va_P D vwCl (LW cA h as st) H → va_D A (LW cA h as st) → va_S A s.heap H locs → ∀ ls : Array Slot, lv_has ls 3 [(1, .int a), (2, .int (nI k)), (0, .ref h)] → W p l e rm_X0_nearSquares s m args below meth c H locs 0 0 Q (F0 m 4 ls []) := by
    intro n
    induction n with
    | zero =>
      intro k a hk ha H locs hP hD hS ls hl
      obtain rfl : k = 32 := by omega
      refine lv_iload_n hx hb dX0_nearSquares_4 rfl (lv_at hl 1 rfl) ?_
      refine lv_bipush (v := 32) hx hb dX0_nearSquares_5 (by decide) ?_
      refine lv_icmp_ge (tgt := 30) hx hb dX0_nearSquares_7 (by decide) (fun c_1 => ?_) (fun c_1 => absurd (by decide) c_1)
      refine lv_iload_n hx hb dX0_nearSquares_30 rfl (lv_at hl 0 rfl) ?_
      exact hret _ _ _ _ _ hP (by rw [ha]; rfl) hS dX0_nearSquares_31
    | succ n ih =>
      intro k a hk ha H locs hP hD hS ls hl
      refine lv_iload_n hx hb dX0_nearSquares_4 rfl (lv_at hl 1 rfl) ?_
      refine lv_bipush (v := 32) hx hb dX0_nearSquares_5 (by decide) ?_
      refine lv_icmp_ge (tgt := 30) hx hb dX0_nearSquares_7 (by decide) (fun c_2 => absurd c_2 (nI_ge (a := k) (b := 32) (by omega) (by decide))) (fun c_2 => ?_)
      refine lv_iload_n hx hb dX0_nearSquares_10 rfl (lv_at hl 0 rfl) ?_
      refine lv_aload_n hx hb dX0_nearSquares_11 rfl (lv_at hl 2 rfl) ?_
      refine lv_iload_n hx hb dX0_nearSquares_12 rfl (lv_at hl 1 rfl) ?_
      refine bm_i [] (LW cA h as st) [] [.int (nI k)] [.int a] ⟨hx, hb, hml, hown, hts⟩ (c_X0_nearAgo l D cA cZ cR h as st (nI k)) (cwV 1 hts gX0_nearSquares_X0_nearAgo rfl rfl rfl (by decide +kernel) ⟨Nat.le_of_ble_eq_true rfl, Nat.le_of_ble_eq_true rfl⟩) hE hP hD hS hA LW_adr 0 0 rfl rfl rfl hl.1 rfl (Nat.le_of_ble_eq_true rfl) dX0_nearSquares_13 ⟨Nat.zero_le _, Nat.zero_le _⟩ (fun H locs hP hD hS => ?_)
      have hP : va_P D vwCl (LW cA h as st) H := hP
      have hD : va_D A (LW cA h as st) := hD
      refine lv_aload_n hx hb dX0_nearSquares_16 rfl (lv_at hl 2 rfl) ?_
      refine lv_iload_n hx hb dX0_nearSquares_17 rfl (lv_at hl 1 rfl) ?_
      refine bm_i [] (LW cA h as st) [] [.int (nI k)] [.int (na st (nI k)), .int a] ⟨hx, hb, hml, hown, hts⟩ (c_X0_nearAgo l D cA cZ cR h as st (nI k)) (cwV 1 hts gX0_nearSquares_X0_nearAgo rfl rfl rfl (by decide +kernel) ⟨Nat.le_of_ble_eq_true rfl, Nat.le_of_ble_eq_true rfl⟩) hE hP hD hS hA LW_adr 0 0 rfl rfl rfl hl.1 rfl (Nat.le_of_ble_eq_true rfl) dX0_nearSquares_18 ⟨Nat.zero_le _, Nat.zero_le _⟩ (fun H locs hP hD hS => ?_)
      have hP : va_P D vwCl (LW cA h as st) H := hP
      have hD : va_D A (LW cA h as st) := hD
      refine lv_imul hx hb dX0_nearSquares_21 ?_
      refine lv_iadd hx hb dX0_nearSquares_22 ?_
      refine lv_istore_n (lv' := [(1, .int (a + ((na st (nI k)) * (na st (nI k))))), (2, .int (nI k)), (0, .ref h)]) hx hb dX0_nearSquares_23 rfl hl (by decide) rfl (fun ls hl => ?_)
      refine lv_iinc (v := nI (k + 1)) (lv' := [(2, .int (nI (k + 1))), (1, .int (a + ((na st (nI k)) * (na st (nI k))))), (0, .ref h)]) hx hb dX0_nearSquares_24 hl (k := 1) rfl (nI_1 k) (by decide) rfl (fun ls hl => ?_)
      refine lv_goto (tgt := 4) hx hb dX0_nearSquares_27 (by decide) ?_
      exact ih (k + 1) _ (by omega) (by rw [ha]; rfl) H locs hP hD hS ls (lv_sub hl [1, 0, 2] rfl)
  exact loop 32 0 0 rfl rfl H locs hP hD hS ls (lv_sub hl [1, 0, 2] rfl)

abbrev rm_X0_outSquares : Room := { frames := 1, cells := 0, slots := 0, locals := 21 }
set_option maxRecDepth 100000 in
set_option maxHeartbeats 4000000 in
theorem c_X0_outSquares (l : Launch) (D : va_G) (cA cZ cR : ClassId) (h : Nat) (as : Nat → Nat) (st : St) : BMi l D cA cZ cR yX0_outSquares wsX0_outSquares rm_X0_outSquares [.ref h] (LW cA h as st) (LW cA h as st) (lf_osq st) := by
  refine bm_open (maxL := 3) (by decide) rfl rfl rfl (Nat.le_of_ble_eq_true rfl) ?_
  intro p e s m args below meth c A Q hx hb hml hts hown hE hP hD hA hS hret ls hl
  have hown : s.vm.findClass RX0 = some m.cls := hown
  have hl : lv_has ls 3 [(0, .ref h)] := hl
  obtain ⟨H, locs, eH, eL⟩ : ∃ (H : Heap) (locs : List Loc), H = s.heap ∧ locs = [] := ⟨_, _, rfl, rfl⟩
  rw [← eH, ← eL]
  rw [← eH] at hP
  have hS : va_S A s.heap H locs := by rw [eH, eL]; exact hS
  clear eH eL
  refine lv_iconst (v := 0) hx hb dX0_outSquares_0 (by decide) ?_
  refine lv_istore_n (lv' := [(1, .int 0), (0, .ref h)]) hx hb dX0_outSquares_1 rfl hl (by decide) rfl (fun ls hl => ?_)
  refine lv_iconst (v := 0) hx hb dX0_outSquares_2 (by decide) ?_
  refine lv_istore_n (lv' := [(2, .int 0), (1, .int 0), (0, .ref h)]) hx hb dX0_outSquares_3 rfl hl (by decide) rfl (fun ls hl => ?_)
  have loop : ∀ (n : Nat) (k : Nat) (a : Int32) (hk : k + n = 32) (ha : a = l_sum (fun i => oa st (nI i) * oa st (nI i)) k), ∀ (H : Heap) (locs : List Loc), va_P D vwCl (LW cA h as st) H → va_D A (LW cA h as st) → va_S A s.heap H locs → ∀ ls : Array Slot, lv_has ls 3 [(1, .int a), (2, .int (nI k)), (0, .ref h)] → W p l e rm_X0_outSquares s m args below meth c H locs 0 0 Q (F0 m 4 ls []) := by
    intro n
    induction n with
    | zero =>
      intro k a hk ha H locs hP hD hS ls hl
      obtain rfl : k = 32 := by omega
      refine lv_iload_n hx hb dX0_outSquares_4 rfl (lv_at hl 1 rfl) ?_
      refine lv_bipush (v := 32) hx hb dX0_outSquares_5 (by decide) ?_
      refine lv_icmp_ge (tgt := 30) hx hb dX0_outSquares_7 (by decide) (fun c_1 => ?_) (fun c_1 => absurd (by decide) c_1)
      refine lv_iload_n hx hb dX0_outSquares_30 rfl (lv_at hl 0 rfl) ?_
      exact hret _ _ _ _ _ hP (by rw [ha]; rfl) hS dX0_outSquares_31
    | succ n ih =>
      intro k a hk ha H locs hP hD hS ls hl
      refine lv_iload_n hx hb dX0_outSquares_4 rfl (lv_at hl 1 rfl) ?_
      refine lv_bipush (v := 32) hx hb dX0_outSquares_5 (by decide) ?_
      refine lv_icmp_ge (tgt := 30) hx hb dX0_outSquares_7 (by decide) (fun c_2 => absurd c_2 (nI_ge (a := k) (b := 32) (by omega) (by decide))) (fun c_2 => ?_)
      refine lv_iload_n hx hb dX0_outSquares_10 rfl (lv_at hl 0 rfl) ?_
      refine lv_aload_n hx hb dX0_outSquares_11 rfl (lv_at hl 2 rfl) ?_
      refine lv_iload_n hx hb dX0_outSquares_12 rfl (lv_at hl 1 rfl) ?_
      refine bm_i [] (LW cA h as st) [] [.int (nI k)] [.int a] ⟨hx, hb, hml, hown, hts⟩ (c_X0_outAgo l D cA cZ cR h as st (nI k)) (cwV 1 hts gX0_outSquares_X0_outAgo rfl rfl rfl (by decide +kernel) ⟨Nat.le_of_ble_eq_true rfl, Nat.le_of_ble_eq_true rfl⟩) hE hP hD hS hA LW_adr 0 0 rfl rfl rfl hl.1 rfl (Nat.le_of_ble_eq_true rfl) dX0_outSquares_13 ⟨Nat.zero_le _, Nat.zero_le _⟩ (fun H locs hP hD hS => ?_)
      have hP : va_P D vwCl (LW cA h as st) H := hP
      have hD : va_D A (LW cA h as st) := hD
      refine lv_aload_n hx hb dX0_outSquares_16 rfl (lv_at hl 2 rfl) ?_
      refine lv_iload_n hx hb dX0_outSquares_17 rfl (lv_at hl 1 rfl) ?_
      refine bm_i [] (LW cA h as st) [] [.int (nI k)] [.int (oa st (nI k)), .int a] ⟨hx, hb, hml, hown, hts⟩ (c_X0_outAgo l D cA cZ cR h as st (nI k)) (cwV 1 hts gX0_outSquares_X0_outAgo rfl rfl rfl (by decide +kernel) ⟨Nat.le_of_ble_eq_true rfl, Nat.le_of_ble_eq_true rfl⟩) hE hP hD hS hA LW_adr 0 0 rfl rfl rfl hl.1 rfl (Nat.le_of_ble_eq_true rfl) dX0_outSquares_18 ⟨Nat.zero_le _, Nat.zero_le _⟩ (fun H locs hP hD hS => ?_)
      have hP : va_P D vwCl (LW cA h as st) H := hP
      have hD : va_D A (LW cA h as st) := hD
      refine lv_imul hx hb dX0_outSquares_21 ?_
      refine lv_iadd hx hb dX0_outSquares_22 ?_
      refine lv_istore_n (lv' := [(1, .int (a + ((oa st (nI k)) * (oa st (nI k))))), (2, .int (nI k)), (0, .ref h)]) hx hb dX0_outSquares_23 rfl hl (by decide) rfl (fun ls hl => ?_)
      refine lv_iinc (v := nI (k + 1)) (lv' := [(2, .int (nI (k + 1))), (1, .int (a + ((oa st (nI k)) * (oa st (nI k))))), (0, .ref h)]) hx hb dX0_outSquares_24 hl (k := 1) rfl (nI_1 k) (by decide) rfl (fun ls hl => ?_)
      refine lv_goto (tgt := 4) hx hb dX0_outSquares_27 (by decide) ?_
      exact ih (k + 1) _ (by omega) (by rw [ha]; rfl) H locs hP hD hS ls (lv_sub hl [1, 0, 2] rfl)
  exact loop 32 0 0 rfl rfl H locs hP hD hS ls (lv_sub hl [1, 0, 2] rfl)

abbrev rm_X0_tapSizes : Room := { frames := 1, cells := 0, slots := 0, locals := 14 }
theorem iw_X0_tapSizes_X0 : ∀ w ∈ wsX00, w ∈ wsX0_tapSizes := by decide +kernel
set_option maxRecDepth 100000 in
set_option maxHeartbeats 4000000 in
theorem c_X0_tapSizes (l : Launch) (D : va_G) (cA cZ cR : ClassId) (h : Nat) (as : Nat → Nat) (st : St) : BMi l D cA cZ cR yX0_tapSizes wsX0_tapSizes rm_X0_tapSizes [.ref h] (LW cA h as st) (LW cA h as st) (lf_tsz st) := by
  refine bm_open (maxL := 3) (by decide) rfl rfl rfl (Nat.le_of_ble_eq_true rfl) ?_
  intro p e s m args below meth c A Q hx hb hml hts hown hE hP hD hA hS hret ls hl
  have hown : s.vm.findClass RX0 = some m.cls := hown
  have hl : lv_has ls 3 [(0, .ref h)] := hl
  obtain ⟨H, locs, eH, eL⟩ : ∃ (H : Heap) (locs : List Loc), H = s.heap ∧ locs = [] := ⟨_, _, rfl, rfl⟩
  rw [← eH, ← eL]
  rw [← eH] at hP
  have hS : va_S A s.heap H locs := by rw [eH, eL]; exact hS
  clear eH eL
  refine lv_iconst (v := 0) hx hb dX0_tapSizes_0 (by decide) ?_
  refine lv_istore_n (lv' := [(1, .int 0), (0, .ref h)]) hx hb dX0_tapSizes_1 rfl hl (by decide) rfl (fun ls hl => ?_)
  refine lv_iconst (v := 0) hx hb dX0_tapSizes_2 (by decide) ?_
  refine lv_istore_n (lv' := [(2, .int 0), (1, .int 0), (0, .ref h)]) hx hb dX0_tapSizes_3 rfl hl (by decide) rfl (fun ls hl => ?_)
  have loop : ∀ (n : Nat) (k : Nat) (a : Int32) (hk : k + n = 8) (ha : a = l_sum (fun k => pf_ab (st 1 (nI k).toNatClampNeg)) k), ∀ (H : Heap) (locs : List Loc), va_P D vwCl (LW cA h as st) H → va_D A (LW cA h as st) → va_S A s.heap H locs → ∀ ls : Array Slot, lv_has ls 3 [(1, .int a), (2, .int (nI k)), (0, .ref h)] → W p l e rm_X0_tapSizes s m args below meth c H locs 0 0 Q (F0 m 4 ls []) := by
    intro n
    induction n with
    | zero =>
      intro k a hk ha H locs hP hD hS ls hl
      obtain rfl : k = 8 := by omega
      refine lv_iload_n hx hb dX0_tapSizes_4 rfl (lv_at hl 1 rfl) ?_
      refine lv_bipush (v := 8) hx hb dX0_tapSizes_5 (by decide) ?_
      refine lv_icmp_ge (tgt := 28) hx hb dX0_tapSizes_7 (by decide) (fun c_1 => ?_) (fun c_1 => absurd (by decide) c_1)
      refine lv_iload_n hx hb dX0_tapSizes_28 rfl (lv_at hl 0 rfl) ?_
      exact hret _ _ _ _ _ hP (by rw [ha]; rfl) hS dX0_tapSizes_29
    | succ n ih =>
      intro k a hk ha H locs hP hD hS ls hl
      refine lv_iload_n hx hb dX0_tapSizes_4 rfl (lv_at hl 1 rfl) ?_
      refine lv_bipush (v := 8) hx hb dX0_tapSizes_5 (by decide) ?_
      refine lv_icmp_ge (tgt := 28) hx hb dX0_tapSizes_7 (by decide) (fun c_2 => absurd c_2 (nI_ge (a := k) (b := 8) (by omega) (by decide))) (fun c_2 => ?_)
      refine lv_iload_n hx hb dX0_tapSizes_10 rfl (lv_at hl 0 rfl) ?_
      refine lv_aload_n hx hb dX0_tapSizes_11 rfl (lv_at hl 2 rfl) ?_
      refine va_get (D := D) (ci := 0) (v := .ref (as 1)) (C := RX0) (T := TX0) (N := 11) hx hb hts iw_X0_tapSizes_X0 hown hE.1 hP 0 rfl rfl 1 (by decide) (hts (.fieldLink RX0 23 "EchoTaps$Line" "taps" "[I") (by decide +kernel)) (fun _ h9 => h9) rfl dX0_tapSizes_12 ?_
      refine lv_iload_n hx hb dX0_tapSizes_15 rfl (lv_at hl 1 rfl) ?_
      refine va_iald hx hb hE.1 hP 2 0 rfl rfl (vp_in_nI (by omega) (by decide)) dX0_tapSizes_16 ?_
      refine va_mabs hx hb (hml.trans hl.1.symm) hown (hts (.methodLink RX0 67 Lib.Math.abs.name) (by decide +kernel)) (hts (.static Lib.Math.abs.name) (by decide +kernel)) (hts (.initialized "java/lang/Math") (by decide +kernel)) (hts (.code Lib.Math.abs.name Lib.Math.abs.code 1 (some .int)) (by decide +kernel)) (Nat.le_of_ble_eq_true rfl) (Nat.le_of_ble_eq_true rfl) (Nat.zero_le _) (Nat.zero_le _) dX0_tapSizes_17 ?_
      refine lv_iadd hx hb dX0_tapSizes_20 ?_
      refine lv_istore_n (lv' := [(1, .int (a + (pf_ab ((st 1) (nI k).toNatClampNeg)))), (2, .int (nI k)), (0, .ref h)]) hx hb dX0_tapSizes_21 rfl hl (by decide) rfl (fun ls hl => ?_)
      refine lv_iinc (v := nI (k + 1)) (lv' := [(2, .int (nI (k + 1))), (1, .int (a + (pf_ab ((st 1) (nI k).toNatClampNeg)))), (0, .ref h)]) hx hb dX0_tapSizes_22 hl (k := 1) rfl (nI_1 k) (by decide) rfl (fun ls hl => ?_)
      refine lv_goto (tgt := 4) hx hb dX0_tapSizes_25 (by decide) ?_
      exact ih (k + 1) _ (by omega) (by rw [ha]; rfl) H locs hP hD hS ls (lv_sub hl [1, 0, 2] rfl)
  exact loop 8 0 0 rfl rfl H locs hP hD hS ls (lv_sub hl [1, 0, 2] rfl)

abbrev rm_X0_holdBy : Room := { frames := 0, cells := 0, slots := 0, locals := 0 }
theorem iw_X0_holdBy_X0 : ∀ w ∈ wsX00, w ∈ wsX0_holdBy := by decide +kernel
set_option maxRecDepth 100000 in
set_option maxHeartbeats 4000000 in
theorem c_X0_holdBy (l : Launch) (D : va_G) (cA cZ cR : ClassId) (h : Nat) (as : Nat → Nat) (st : St) (t : Int32) : BMv l D cA cZ cR yX0_holdBy wsX0_holdBy rm_X0_holdBy [.ref h, .int t] (LW cA h as st) (LW cA h as (lf_hold st t)) := by
  refine bm_openV (maxL := 2) (by decide) rfl rfl rfl (Nat.le_of_ble_eq_true rfl) ?_
  intro p e s m args below meth c A Q hx hb hml hts hown hE hP hD hA hS hret ls hl
  have hown : s.vm.findClass RX0 = some m.cls := hown
  have hl : lv_has ls 2 [(0, .ref h), (1, .int t)] := hl
  obtain ⟨H, locs, eH, eL⟩ : ∃ (H : Heap) (locs : List Loc), H = s.heap ∧ locs = [] := ⟨_, _, rfl, rfl⟩
  rw [← eH, ← eL]
  rw [← eH] at hP
  have hS : va_S A s.heap H locs := by rw [eH, eL]; exact hS
  clear eH eL
  refine lv_iload_n hx hb dX0_holdBy_0 rfl (lv_at hl 1 rfl) ?_
  refine lv_if_eq (tgt := 17) hx hb dX0_holdBy_1 (by decide) (fun c_1 => ?_) (fun c_1 => ?_)
  · have c_1 : t = 0 := c_1
    refine lv_aload_n hx hb dX0_holdBy_17 rfl (lv_at hl 0 rfl) ?_
    refine va_get (D := D) (ci := 0) (v := .int (st 8 1)) (C := RX0) (T := TX0) (N := 11) hx hb hts iw_X0_holdBy_X0 hown hE.1 hP 0 rfl rfl 9 (by decide) (hts (.fieldLink RX0 54 "EchoTaps$Line" "hold" "I") (by decide +kernel)) (fun _ h9 => h9) rfl dX0_holdBy_18 ?_
    refine lv_if_le (tgt := 34) hx hb dX0_holdBy_21 (by decide) (fun c_2 => ?_) (fun c_2 => ?_)
    · have c_2 : (st 8 1) ≤ 0 := c_2
      have e1 : lf_hold st t = st := by rw [lf_hold, if_pos c_1, if_pos c_2]
      exact hret _ _ _ _ (by rw [e1]; exact hP) hS dX0_holdBy_34
    · have c_2 : ¬ (st 8 1) ≤ 0 := c_2
      have e1 : lf_hold st t = up8 st 1 (st 8 1 - 1) := by rw [lf_hold, if_pos c_1, if_neg c_2]
      refine lv_aload_n hx hb dX0_holdBy_24 rfl (lv_at hl 0 rfl) ?_
      refine lv_dup hx hb dX0_holdBy_25 rfl ?_
      refine va_get (D := D) (ci := 0) (v := .int (st 8 1)) (C := RX0) (T := TX0) (N := 11) hx hb hts iw_X0_holdBy_X0 hown hE.1 hP 0 rfl rfl 9 (by decide) (hts (.fieldLink RX0 54 "EchoTaps$Line" "hold" "I") (by decide +kernel)) (fun _ h9 => h9) rfl dX0_holdBy_26 ?_
      refine lv_iconst (v := 1) hx hb dX0_holdBy_29 (by decide) ?_
      refine lv_isub hx hb dX0_holdBy_30 ?_
      refine va_put (D := D) (ci := 0) (v := .int ((st 8 1) - 1)) (ty := .int) (C := RX0) (T := TX0) (N := 11) hx hb hts iw_X0_holdBy_X0 tyX0 tyX0_ok nmX0 hown hE.1 hP hD hS 0 rfl rfl 9 (by decide) (hts (.fieldLink RX0 54 "EchoTaps$Line" "hold" "I") (by decide +kernel)) (fun _ h9 => h9) rfl (by decide +kernel) rfl rfl (Nat.le_of_ble_eq_true rfl) dX0_holdBy_31 (fun H locs hP hD hS => ?_)
      have hP : va_P D vwCl (LW cA h as (va_up st 8 (upd (st 8) 1 ((st 8 1) - 1)))) H := hP
      have hD : va_D A (LW cA h as (va_up st 8 (upd (st 8) 1 ((st 8 1) - 1)))) := hD
      exact hret _ _ _ _ (by rw [e1]; exact hP) hS dX0_holdBy_34
  · have c_1 : ¬ t = 0 := c_1
    have e1 : lf_hold st t = up8 st 1 (st 0 1) := by rw [lf_hold, if_neg c_1]
    refine lv_aload_n hx hb dX0_holdBy_4 rfl (lv_at hl 0 rfl) ?_
    refine lv_aload_n hx hb dX0_holdBy_5 rfl (lv_at hl 0 rfl) ?_
    refine va_get (D := D) (ci := 0) (v := .ref (as 0)) (C := RX0) (T := TX0) (N := 11) hx hb hts iw_X0_holdBy_X0 hown hE.1 hP 0 rfl rfl 0 (by decide) (hts (.fieldLink RX0 18 "EchoTaps$Line" "rules" "[I") (by decide +kernel)) (fun _ h9 => h9) rfl dX0_holdBy_6 ?_
    refine lv_iconst (v := 1) hx hb dX0_holdBy_9 (by decide) ?_
    refine va_iald hx hb hE.1 hP 1 0 rfl rfl (vp_in_nI (n := 1) (N := 5) (by decide) (by decide)) dX0_holdBy_10 ?_
    refine va_put (D := D) (ci := 0) (v := .int ((st 0) 1)) (ty := .int) (C := RX0) (T := TX0) (N := 11) hx hb hts iw_X0_holdBy_X0 tyX0 tyX0_ok nmX0 hown hE.1 hP hD hS 0 rfl rfl 9 (by decide) (hts (.fieldLink RX0 54 "EchoTaps$Line" "hold" "I") (by decide +kernel)) (fun _ h9 => h9) rfl (by decide +kernel) rfl rfl (Nat.le_of_ble_eq_true rfl) dX0_holdBy_11 (fun H locs hP hD hS => ?_)
    have hP : va_P D vwCl (LW cA h as (va_up st 8 (upd (st 8) 1 ((st 0) 1)))) H := hP
    have hD : va_D A (LW cA h as (va_up st 8 (upd (st 8) 1 ((st 0) 1)))) := hD
    refine lv_goto (tgt := 34) hx hb dX0_holdBy_14 (by decide) ?_
    exact hret _ _ _ _ (by rw [e1]; exact hP) hS dX0_holdBy_34

abbrev rm_X0_silent : Room := { frames := 1, cells := 0, slots := 0, locals := 21 }
set_option maxRecDepth 100000 in
set_option maxHeartbeats 4000000 in
theorem c_X0_silent (l : Launch) (D : va_G) (cA cZ cR : ClassId) (h : Nat) (as : Nat → Nat) (st : St) : BMi l D cA cZ cR yX0_silent wsX0_silent rm_X0_silent [.ref h] (LW cA h as st) (LW cA h as st) (pf_b (lf_sil st)) := by
  refine bm_openZ (maxL := 2) (by decide) rfl rfl rfl (Nat.le_of_ble_eq_true rfl) (pf_b_z _) ?_
  intro p e s m args below meth c A Q hx hb hml hts hown hE hP hD hA hS hret ls hl
  have hown : s.vm.findClass RX0 = some m.cls := hown
  have hl : lv_has ls 2 [(0, .ref h)] := hl
  obtain ⟨H, locs, eH, eL⟩ : ∃ (H : Heap) (locs : List Loc), H = s.heap ∧ locs = [] := ⟨_, _, rfl, rfl⟩
  rw [← eH, ← eL]
  rw [← eH] at hP
  have hS : va_S A s.heap H locs := by rw [eH, eL]; exact hS
  clear eH eL
  refine lv_iconst (v := 0) hx hb dX0_silent_0 (by decide) ?_
  refine lv_istore_n (lv' := [(1, .int 0), (0, .ref h)]) hx hb dX0_silent_1 rfl hl (by decide) rfl (fun ls hl => ?_)
  have loop : ∀ (n : Nat) (k : Nat) (hk : k + n = 16) (ha : pf_al (fun i => decide (fa st (nI i) = 0)) k = true), ∀ (H : Heap) (locs : List Loc), va_P D vwCl (LW cA h as st) H → va_D A (LW cA h as st) → va_S A s.heap H locs → ∀ ls : Array Slot, lv_has ls 2 [(1, .int (nI k)), (0, .ref h)] → W p l e rm_X0_silent s m args below meth c H locs 0 0 Q (F0 m 2 ls []) := by
    intro n
    induction n with
    | zero =>
      intro k hk ha H locs hP hD hS ls hl
      obtain rfl : k = 16 := by omega
      refine lv_iload_n hx hb dX0_silent_2 rfl (lv_at hl 0 rfl) ?_
      refine lv_bipush (v := 16) hx hb dX0_silent_3 (by decide) ?_
      refine lv_icmp_ge (tgt := 24) hx hb dX0_silent_5 (by decide) (fun c_1 => ?_) (fun c_1 => absurd (by decide) c_1)
      refine lv_iconst (v := 1) hx hb dX0_silent_24 (by decide) ?_
      exact hret _ _ _ _ _ hP (by rw [lf_sil, ha]; rfl) hS dX0_silent_25
    | succ n ih =>
      intro k hk ha H locs hP hD hS ls hl
      refine lv_iload_n hx hb dX0_silent_2 rfl (lv_at hl 0 rfl) ?_
      refine lv_bipush (v := 16) hx hb dX0_silent_3 (by decide) ?_
      refine lv_icmp_ge (tgt := 24) hx hb dX0_silent_5 (by decide) (fun c_2 => absurd c_2 (nI_ge (a := k) (b := 16) (by omega) (by decide))) (fun c_2 => ?_)
      refine lv_aload_n hx hb dX0_silent_8 rfl (lv_at hl 1 rfl) ?_
      refine lv_iload_n hx hb dX0_silent_9 rfl (lv_at hl 0 rfl) ?_
      refine bm_i [] (LW cA h as st) [] [.int (nI k)] [] ⟨hx, hb, hml, hown, hts⟩ (c_X0_farAgo l D cA cZ cR h as st (nI k)) (cwV 1 hts gX0_silent_X0_farAgo rfl rfl rfl (by decide +kernel) ⟨Nat.le_of_ble_eq_true rfl, Nat.le_of_ble_eq_true rfl⟩) hE hP hD hS hA LW_adr 0 0 rfl rfl rfl hl.1 rfl (Nat.le_of_ble_eq_true rfl) dX0_silent_10 ⟨Nat.zero_le _, Nat.zero_le _⟩ (fun H locs hP hD hS => ?_)
      have hP : va_P D vwCl (LW cA h as st) H := hP
      have hD : va_D A (LW cA h as st) := hD
      refine lv_if_eq (tgt := 18) hx hb dX0_silent_13 (by decide) (fun c_3 => ?_) (fun c_3 => ?_)
      · have c_3 : (fa st (nI k)) = 0 := c_3
        refine lv_iinc (v := nI (k + 1)) (lv' := [(1, .int (nI (k + 1))), (0, .ref h)]) hx hb dX0_silent_18 hl (k := 0) rfl (nI_1 k) (by decide) rfl (fun ls hl => ?_)
        refine lv_goto (tgt := 2) hx hb dX0_silent_21 (by decide) ?_
        exact ih (k + 1) (by omega) (by rw [pf_al, ha, decide_eq_true c_3]; rfl) H locs hP hD hS ls (lv_sub hl [0, 1] rfl)
      · have c_3 : ¬ (fa st (nI k)) = 0 := c_3
        refine lv_iconst (v := 0) hx hb dX0_silent_16 (by decide) ?_
        exact hret _ _ _ _ _ hP (by rw [lf_sil, pf_al_f (k := k) (by omega) (decide_eq_false c_3)]; rfl) hS dX0_silent_17
  exact loop 16 0 rfl rfl H locs hP hD hS ls (lv_sub hl [0, 1] rfl)

abbrev rm_X0_repeatsBy : Room := { frames := 1, cells := 0, slots := 0, locals := 21 }
set_option maxRecDepth 100000 in
set_option maxHeartbeats 4000000 in
theorem c_X0_repeatsBy (l : Launch) (D : va_G) (cA cZ cR : ClassId) (h : Nat) (as : Nat → Nat) (st : St) (pp : Nat) (hpp : pp ≤ 8) : BMi l D cA cZ cR yX0_repeatsBy wsX0_repeatsBy rm_X0_repeatsBy [.ref h, .int (nI pp)] (LW cA h as st) (LW cA h as st) (pf_b (lf_rep st pp)) := by
  refine bm_openZ (maxL := 3) (by decide) rfl rfl rfl (Nat.le_of_ble_eq_true rfl) (pf_b_z _) ?_
  intro p e s m args below meth c A Q hx hb hml hts hown hE hP hD hA hS hret ls hl
  have hown : s.vm.findClass RX0 = some m.cls := hown
  have hl : lv_has ls 3 [(0, .ref h), (1, .int (nI pp))] := hl
  obtain ⟨H, locs, eH, eL⟩ : ∃ (H : Heap) (locs : List Loc), H = s.heap ∧ locs = [] := ⟨_, _, rfl, rfl⟩
  rw [← eH, ← eL]
  rw [← eH] at hP
  have hS : va_S A s.heap H locs := by rw [eH, eL]; exact hS
  clear eH eL
  refine lv_iconst (v := 0) hx hb dX0_repeatsBy_0 (by decide) ?_
  refine lv_istore_n (lv' := [(2, .int 0), (0, .ref h), (1, .int (nI pp))]) hx hb dX0_repeatsBy_1 rfl hl (by decide) rfl (fun ls hl => ?_)
  have loop : ∀ (n : Nat) (k : Nat) (hk : k + n = 16 - pp) (ha : pf_al (fun i => decide (fa st (nI i) = fa st (nI i + nI pp))) k = true), ∀ (H : Heap) (locs : List Loc), va_P D vwCl (LW cA h as st) H → va_D A (LW cA h as st) → va_S A s.heap H locs → ∀ ls : Array Slot, lv_has ls 3 [(2, .int (nI k)), (1, .int (nI pp)), (0, .ref h)] → W p l e rm_X0_repeatsBy s m args below meth c H locs 0 0 Q (F0 m 2 ls []) := by
    intro n
    induction n with
    | zero =>
      intro k hk ha H locs hP hD hS ls hl
      obtain rfl : k = 16 - pp := by omega
      refine lv_iload_n hx hb dX0_repeatsBy_2 rfl (lv_at hl 0 rfl) ?_
      refine lv_iload_n hx hb dX0_repeatsBy_3 rfl (lv_at hl 1 rfl) ?_
      refine lv_iadd hx hb dX0_repeatsBy_4 ?_
      refine lv_bipush (v := 16) hx hb dX0_repeatsBy_5 (by decide) ?_
      refine lv_icmp_ge (tgt := 33) hx hb dX0_repeatsBy_7 (by decide) (fun c_1 => ?_) (fun c_1 => absurd (by rw [nI_add, show 16 - pp + pp = 16 by omega]; decide) c_1)
      refine lv_iconst (v := 1) hx hb dX0_repeatsBy_33 (by decide) ?_
      exact hret _ _ _ _ _ hP (by rw [lf_rep, ha]; rfl) hS dX0_repeatsBy_34
    | succ n ih =>
      intro k hk ha H locs hP hD hS ls hl
      refine lv_iload_n hx hb dX0_repeatsBy_2 rfl (lv_at hl 0 rfl) ?_
      refine lv_iload_n hx hb dX0_repeatsBy_3 rfl (lv_at hl 1 rfl) ?_
      refine lv_iadd hx hb dX0_repeatsBy_4 ?_
      refine lv_bipush (v := 16) hx hb dX0_repeatsBy_5 (by decide) ?_
      refine lv_icmp_ge (tgt := 33) hx hb dX0_repeatsBy_7 (by decide) (fun c_2 => absurd c_2 (by rw [nI_add]; exact nI_ge (a := k + pp) (b := 16) (by omega) (by decide))) (fun c_2 => ?_)
      refine lv_aload_n hx hb dX0_repeatsBy_10 rfl (lv_at hl 2 rfl) ?_
      refine lv_iload_n hx hb dX0_repeatsBy_11 rfl (lv_at hl 0 rfl) ?_
      refine bm_i [] (LW cA h as st) [] [.int (nI k)] [] ⟨hx, hb, hml, hown, hts⟩ (c_X0_farAgo l D cA cZ cR h as st (nI k)) (cwV 1 hts gX0_repeatsBy_X0_farAgo rfl rfl rfl (by decide +kernel) ⟨Nat.le_of_ble_eq_true rfl, Nat.le_of_ble_eq_true rfl⟩) hE hP hD hS hA LW_adr 0 0 rfl rfl rfl hl.1 rfl (Nat.le_of_ble_eq_true rfl) dX0_repeatsBy_12 ⟨Nat.zero_le _, Nat.zero_le _⟩ (fun H locs hP hD hS => ?_)
      have hP : va_P D vwCl (LW cA h as st) H := hP
      have hD : va_D A (LW cA h as st) := hD
      refine lv_aload_n hx hb dX0_repeatsBy_15 rfl (lv_at hl 2 rfl) ?_
      refine lv_iload_n hx hb dX0_repeatsBy_16 rfl (lv_at hl 0 rfl) ?_
      refine lv_iload_n hx hb dX0_repeatsBy_17 rfl (lv_at hl 1 rfl) ?_
      refine lv_iadd hx hb dX0_repeatsBy_18 ?_
      refine bm_i [] (LW cA h as st) [] [.int ((nI k) + (nI pp))] [.int (fa st (nI k))] ⟨hx, hb, hml, hown, hts⟩ (c_X0_farAgo l D cA cZ cR h as st ((nI k) + (nI pp))) (cwV 1 hts gX0_repeatsBy_X0_farAgo rfl rfl rfl (by decide +kernel) ⟨Nat.le_of_ble_eq_true rfl, Nat.le_of_ble_eq_true rfl⟩) hE hP hD hS hA LW_adr 0 0 rfl rfl rfl hl.1 rfl (Nat.le_of_ble_eq_true rfl) dX0_repeatsBy_19 ⟨Nat.zero_le _, Nat.zero_le _⟩ (fun H locs hP hD hS => ?_)
      have hP : va_P D vwCl (LW cA h as st) H := hP
      have hD : va_D A (LW cA h as st) := hD
      refine lv_icmp_eq (tgt := 27) hx hb dX0_repeatsBy_22 (by decide) (fun c_3 => ?_) (fun c_3 => ?_)
      · have c_3 : (fa st (nI k)) = (fa st ((nI k) + (nI pp))) := c_3
        refine lv_iinc (v := nI (k + 1)) (lv' := [(2, .int (nI (k + 1))), (1, .int (nI pp)), (0, .ref h)]) hx hb dX0_repeatsBy_27 hl (k := 0) rfl (nI_1 k) (by decide) rfl (fun ls hl => ?_)
        refine lv_goto (tgt := 2) hx hb dX0_repeatsBy_30 (by decide) ?_
        exact ih (k + 1) (by omega) (by rw [pf_al, ha, decide_eq_true c_3]; rfl) H locs hP hD hS ls (lv_sub hl [0, 1, 2] rfl)
      · have c_3 : ¬ (fa st (nI k)) = (fa st ((nI k) + (nI pp))) := c_3
        refine lv_iconst (v := 0) hx hb dX0_repeatsBy_25 (by decide) ?_
        exact hret _ _ _ _ _ hP (by rw [lf_rep, pf_al_f (k := k) (by omega) (decide_eq_false c_3)]; rfl) hS dX0_repeatsBy_26
  exact loop (16 - pp) 0 (Nat.zero_add _) rfl H locs hP hD hS ls (lv_sub hl [0, 2, 1] rfl)

abbrev rm_X0_tonePeriod : Room := { frames := 2, cells := 0, slots := 0, locals := 43 }
set_option maxRecDepth 100000 in
set_option maxHeartbeats 4000000 in
theorem c_X0_tonePeriod (l : Launch) (D : va_G) (cA cZ cR : ClassId) (h : Nat) (as : Nat → Nat) (st : St) : BMi l D cA cZ cR yX0_tonePeriod wsX0_tonePeriod rm_X0_tonePeriod [.ref h] (LW cA h as st) (LW cA h as st) (nI (lf_tone st)) := by
  refine bm_open (maxL := 2) (by decide) rfl rfl rfl (Nat.le_of_ble_eq_true rfl) ?_
  intro p e s m args below meth c A Q hx hb hml hts hown hE hP hD hA hS hret ls hl
  have hown : s.vm.findClass RX0 = some m.cls := hown
  have hl : lv_has ls 2 [(0, .ref h)] := hl
  obtain ⟨H, locs, eH, eL⟩ : ∃ (H : Heap) (locs : List Loc), H = s.heap ∧ locs = [] := ⟨_, _, rfl, rfl⟩
  rw [← eH, ← eL]
  rw [← eH] at hP
  have hS : va_S A s.heap H locs := by rw [eH, eL]; exact hS
  clear eH eL
  refine lv_aload_n hx hb dX0_tonePeriod_0 rfl (lv_at hl 0 rfl) ?_
  refine bm_i [] (LW cA h as st) [] [] [] ⟨hx, hb, hml, hown, hts⟩ (c_X0_silent l D cA cZ cR h as st) (cwV 0 hts gX0_tonePeriod_X0_silent rfl rfl rfl (by decide +kernel) ⟨Nat.le_of_ble_eq_true rfl, Nat.le_of_ble_eq_true rfl⟩) hE hP hD hS hA LW_adr 0 0 rfl rfl rfl hl.1 rfl (Nat.le_of_ble_eq_true rfl) dX0_tonePeriod_1 ⟨Nat.zero_le _, Nat.zero_le _⟩ (fun H locs hP hD hS => ?_)
  have hP : va_P D vwCl (LW cA h as st) H := hP
  have hD : va_D A (LW cA h as st) := hD
  refine lv_if_eq (tgt := 9) hx hb dX0_tonePeriod_4 (by decide) (fun c_1 => ?_) (fun c_1 => ?_)
  · have c_1 : (pf_b (lf_sil st)) = 0 := c_1
    have hs : lf_sil st = false := pf_b0.mp c_1
    refine lv_iconst (v := 1) hx hb dX0_tonePeriod_9 (by decide) ?_
    refine lv_istore_n (lv' := [(1, .int 1), (0, .ref h)]) hx hb dX0_tonePeriod_10 rfl hl (by decide) rfl (fun ls hl => ?_)
    have loop : ∀ (n : Nat) (k : Nat) (hk : k + n = 9) (ha : pf_ft (lf_rep st) n k = pf_ft (lf_rep st) 8 1), ∀ (H : Heap) (locs : List Loc), va_P D vwCl (LW cA h as st) H → va_D A (LW cA h as st) → va_S A s.heap H locs → ∀ ls : Array Slot, lv_has ls 2 [(1, .int (nI k)), (0, .ref h)] → W p l e rm_X0_tonePeriod s m args below meth c H locs 0 0 Q (F0 m 11 ls []) := by
      intro n
      induction n with
      | zero =>
        intro k hk ha H locs hP hD hS ls hl
        obtain rfl : k = 9 := by omega
        refine lv_iload_n hx hb dX0_tonePeriod_11 rfl (lv_at hl 0 rfl) ?_
        refine lv_bipush (v := 8) hx hb dX0_tonePeriod_12 (by decide) ?_
        refine lv_icmp_gt (tgt := 33) hx hb dX0_tonePeriod_14 (by decide) (fun c_2 => ?_) (fun c_2 => absurd (by decide) c_2)
        refine lv_iconst (v := 0) hx hb dX0_tonePeriod_33 (by decide) ?_
        exact hret _ _ _ _ _ hP (by rw [lf_tone, hs, ← ha]; rfl) hS dX0_tonePeriod_34
      | succ n ih =>
        intro k hk ha H locs hP hD hS ls hl
        refine lv_iload_n hx hb dX0_tonePeriod_11 rfl (lv_at hl 0 rfl) ?_
        refine lv_bipush (v := 8) hx hb dX0_tonePeriod_12 (by decide) ?_
        refine lv_icmp_gt (tgt := 33) hx hb dX0_tonePeriod_14 (by decide) (fun c_3 => absurd c_3 (nI_nlt (a := 8) (b := k) (by omega) (by decide))) (fun c_3 => ?_)
        refine lv_aload_n hx hb dX0_tonePeriod_17 rfl (lv_at hl 1 rfl) ?_
        refine lv_iload_n hx hb dX0_tonePeriod_18 rfl (lv_at hl 0 rfl) ?_
        refine bm_i [] (LW cA h as st) [] [.int (nI k)] [] ⟨hx, hb, hml, hown, hts⟩ (c_X0_repeatsBy l D cA cZ cR h as st k (by omega)) (cwV 1 hts gX0_tonePeriod_X0_repeatsBy rfl rfl rfl (by decide +kernel) ⟨Nat.le_of_ble_eq_true rfl, Nat.le_of_ble_eq_true rfl⟩) hE hP hD hS hA LW_adr 0 0 rfl rfl rfl hl.1 rfl (Nat.le_of_ble_eq_true rfl) dX0_tonePeriod_19 ⟨Nat.zero_le _, Nat.zero_le _⟩ (fun H locs hP hD hS => ?_)
        have hP : va_P D vwCl (LW cA h as st) H := hP
        have hD : va_D A (LW cA h as st) := hD
        refine lv_if_eq (tgt := 27) hx hb dX0_tonePeriod_22 (by decide) (fun c_4 => ?_) (fun c_4 => ?_)
        · have c_4 : (pf_b (lf_rep st k)) = 0 := c_4
          refine lv_iinc (v := nI (k + 1)) (lv' := [(1, .int (nI (k + 1))), (0, .ref h)]) hx hb dX0_tonePeriod_27 hl (k := 0) rfl (nI_1 k) (by decide) rfl (fun ls hl => ?_)
          refine lv_goto (tgt := 11) hx hb dX0_tonePeriod_30 (by decide) ?_
          exact ih (k + 1) (by omega) (by rw [← ha, pf_ft, pf_b0.mp c_4]; rfl) H locs hP hD hS ls (lv_sub hl [0, 1] rfl)
        · have c_4 : ¬ (pf_b (lf_rep st k)) = 0 := c_4
          refine lv_iload_n hx hb dX0_tonePeriod_25 rfl (lv_at hl 0 rfl) ?_
          exact hret _ _ _ _ _ hP (by rw [lf_tone, hs, ← ha, pf_ft, pf_bn c_4]; rfl) hS dX0_tonePeriod_26
    exact loop 8 1 rfl rfl H locs hP hD hS ls (lv_sub hl [0, 1] rfl)
  · have c_1 : ¬ (pf_b (lf_sil st)) = 0 := c_1
    refine lv_iconst (v := 0) hx hb dX0_tonePeriod_7 (by decide) ?_
    exact hret _ _ _ _ _ hP (by rw [lf_tone, pf_bn c_1]; rfl) hS dX0_tonePeriod_8

abbrev rm_X0_learn : Room := { frames := 2, cells := 0, slots := 0, locals := 42 }
theorem iw_X0_learn_X0 : ∀ w ∈ wsX00, w ∈ wsX0_learn := by decide +kernel
set_option maxRecDepth 100000 in
set_option maxHeartbeats 4000000 in
theorem c_X0_learn (l : Launch) (D : va_G) (cA cZ cR : ClassId) (h : Nat) (as : Nat → Nat) (st : St) (left power : Int32) : BMv l D cA cZ cR yX0_learn wsX0_learn rm_X0_learn [.ref h, .int left, .int power] (LW cA h as st) (LW cA h as (lf_learn st left power)) := by
  refine bm_openV (maxL := 8) (by decide) rfl rfl rfl (Nat.le_of_ble_eq_true rfl) ?_
  intro p e s m args below meth c A Q hx hb hml hts hown hE hP hD hA hS hret ls hl
  have hown : s.vm.findClass RX0 = some m.cls := hown
  have hl : lv_has ls 8 [(0, .ref h), (1, .int left), (2, .int power)] := hl
  obtain ⟨H, locs, eH, eL⟩ : ∃ (H : Heap) (locs : List Loc), H = s.heap ∧ locs = [] := ⟨_, _, rfl, rfl⟩
  rw [← eH, ← eL]
  rw [← eH] at hP
  have hS : va_S A s.heap H locs := by rw [eH, eL]; exact hS
  clear eH eL
  refine lv_iload_n hx hb dX0_learn_0 rfl (lv_at hl 2 rfl) ?_
  refine lv_if_gt (tgt := 5) hx hb dX0_learn_1 (by decide) (fun c_1 => ?_) (fun c_1 => ?_)
  · have c_1 : 0 < power := c_1
    have hz : ¬ power.toInt64 = 0 := pf_l0 c_1
    have e0 : lf_learn st left power = va_up st 1 (lf_ln st left power 8) := by rw [lf_learn, if_pos c_1]
    rw [e0] at hret
    refine lv_aload_n hx hb dX0_learn_5 rfl (lv_at hl 0 rfl) ?_
    refine va_get (D := D) (ci := 0) (v := .ref (as 0)) (C := RX0) (T := TX0) (N := 11) hx hb hts iw_X0_learn_X0 hown hE.1 hP 0 rfl rfl 0 (by decide) (hts (.fieldLink RX0 18 "EchoTaps$Line" "rules" "[I") (by decide +kernel)) (fun _ h9 => h9) rfl dX0_learn_6 ?_
    refine lv_iconst (v := 0) hx hb dX0_learn_9 (by decide) ?_
    refine va_iald hx hb hE.1 hP 1 0 rfl rfl (vp_in_nI (n := 0) (N := 5) (by decide) (by decide)) dX0_learn_10 ?_
    refine lv_i2l hx hb dX0_learn_11 rfl ?_
    refine lv_iload_n hx hb dX0_learn_12 rfl (lv_at hl 1 rfl) ?_
    refine lv_i2l hx hb dX0_learn_13 rfl ?_
    refine lv_lmul hx hb dX0_learn_14 ?_
    refine lv_lstore_n (lv' := [(3, .long ((((st 0) 0).toInt64) * left.toInt64)), (0, .ref h), (1, .int left), (2, .int power)]) hx hb dX0_learn_15 rfl hl (by decide) rfl (fun ls hl => ?_)
    refine lv_iconst (v := 0) hx hb dX0_learn_16 (by decide) ?_
    refine lv_istore (lv' := [(5, .int 0), (3, .long ((((st 0) 0).toInt64) * left.toInt64)), (0, .ref h), (1, .int left), (2, .int power)]) hx hb dX0_learn_17 hl (by decide) rfl (fun ls hl => ?_)
    have hP : va_P D vwCl (LW cA h as (va_up st 1 (lf_ln st left power 0))) H := hP
    have hD : va_D A (LW cA h as (va_up st 1 (lf_ln st left power 0))) := hD
    have loop : ∀ (n : Nat) (k : Nat) (hk : k + n = 8), ∀ (H : Heap) (locs : List Loc), va_P D vwCl (LW cA h as (va_up st 1 (lf_ln st left power k))) H → va_D A (LW cA h as (va_up st 1 (lf_ln st left power k))) → va_S A s.heap H locs → ∀ ls : Array Slot, lv_has ls 8 [(5, .int (nI k)), (3, .long ((st 0 0).toInt64 * left.toInt64)), (2, .int power), (1, .int left), (0, .ref h)] → W p l e rm_X0_learn s m args below meth c H locs 0 0 Q (F0 m 19 ls []) := by
      intro n
      induction n with
      | zero =>
        intro k hk H locs hP hD hS ls hl
        obtain rfl : k = 8 := by omega
        refine lv_iload hx hb dX0_learn_19 (lv_at hl 0 rfl) ?_
        refine lv_bipush (v := 8) hx hb dX0_learn_21 (by decide) ?_
        refine lv_icmp_ge (tgt := 77) hx hb dX0_learn_23 (by decide) (fun c_2 => ?_) (fun c_2 => absurd (by decide) c_2)
        exact hret _ _ _ _ hP hS dX0_learn_77
      | succ n ih =>
        intro k hk H locs hP hD hS ls hl
        refine lv_iload hx hb dX0_learn_19 (lv_at hl 0 rfl) ?_
        refine lv_bipush (v := 8) hx hb dX0_learn_21 (by decide) ?_
        refine lv_icmp_ge (tgt := 77) hx hb dX0_learn_23 (by decide) (fun c_3 => absurd c_3 (nI_ge (a := k) (b := 8) (by omega) (by decide))) (fun c_3 => ?_)
        refine lv_lload_n hx hb dX0_learn_26 rfl (lv_at hl 1 rfl) ?_
        refine lv_aload_n hx hb dX0_learn_27 rfl (lv_at hl 4 rfl) ?_
        refine lv_iload hx hb dX0_learn_28 (lv_at hl 0 rfl) ?_
        refine bm_i [] (LW cA h as (va_up st 1 (lf_ln st left power k))) [] [.int (nI k)] [.long ((st 0 0).toInt64 * left.toInt64)] ⟨hx, hb, hml, hown, hts⟩ (c_X0_seenBy l D cA cZ cR h as (va_up st 1 (lf_ln st left power k)) (nI k)) (cwV 1 hts gX0_learn_X0_seenBy rfl rfl rfl (by decide +kernel) ⟨Nat.le_of_ble_eq_true rfl, Nat.le_of_ble_eq_true rfl⟩) hE hP hD hS hA LW_adr 0 0 rfl rfl rfl hl.1 rfl (Nat.le_of_ble_eq_true rfl) dX0_learn_30 ⟨Nat.zero_le _, Nat.zero_le _⟩ (fun H locs hP hD hS => ?_)
        have hP : va_P D vwCl (LW cA h as (va_up st 1 (lf_ln st left power k))) H := hP
        have hD : va_D A (LW cA h as (va_up st 1 (lf_ln st left power k))) := hD
        refine lv_i2l hx hb dX0_learn_33 rfl ?_
        refine lv_lmul hx hb dX0_learn_34 ?_
        refine lv_iload_n hx hb dX0_learn_35 rfl (lv_at hl 2 rfl) ?_
        refine lv_i2l hx hb dX0_learn_36 rfl ?_
        refine lv_ldiv hx hb dX0_learn_37 hz ?_
        refine lv_lstore (lv' := [(6, .long ((((st 0 0).toInt64 * left.toInt64) * ((fa (va_up st 1 (lf_ln st left power k)) ((nI k) + (va_up st 1 (lf_ln st left power k)) 0 4)).toInt64)) / power.toInt64)), (5, .int (nI k)), (3, .long ((st 0 0).toInt64 * left.toInt64)), (2, .int power), (1, .int left), (0, .ref h)]) hx hb dX0_learn_38 hl (by decide) rfl (fun ls hl => ?_)
        refine lv_aload_n hx hb dX0_learn_40 rfl (lv_at hl 5 rfl) ?_
        refine va_get (D := D) (ci := 0) (v := .ref (as 1)) (C := RX0) (T := TX0) (N := 11) hx hb hts iw_X0_learn_X0 hown hE.1 hP 0 rfl rfl 1 (by decide) (hts (.fieldLink RX0 23 "EchoTaps$Line" "taps" "[I") (by decide +kernel)) (fun _ h9 => h9) rfl dX0_learn_41 ?_
        refine lv_iload hx hb dX0_learn_44 (lv_at hl 1 rfl) ?_
        refine lv_ldc2 (v := (-4096)) hx hb hown (hts (.constantLong RX0 122 (-4096)) (by decide +kernel)) dX0_learn_46 ?_
        refine lv_ldc2 (v := 4095) hx hb hown (hts (.constantLong RX0 124 (4095)) (by decide +kernel)) dX0_learn_49 ?_
        refine lv_aload_n hx hb dX0_learn_52 rfl (lv_at hl 5 rfl) ?_
        refine va_get (D := D) (ci := 0) (v := .ref (as 1)) (C := RX0) (T := TX0) (N := 11) hx hb hts iw_X0_learn_X0 hown hE.1 hP 0 rfl rfl 1 (by decide) (hts (.fieldLink RX0 23 "EchoTaps$Line" "taps" "[I") (by decide +kernel)) (fun _ h9 => h9) rfl dX0_learn_53 ?_
        refine lv_iload hx hb dX0_learn_56 (lv_at hl 1 rfl) ?_
        refine va_iald hx hb hE.1 hP 2 0 rfl rfl (vp_in_nI (by omega) (by decide)) dX0_learn_58 ?_
        refine lv_i2l hx hb dX0_learn_59 rfl ?_
        refine lv_lload hx hb dX0_learn_60 (lv_at hl 0 rfl) ?_
        refine lv_ladd hx hb dX0_learn_62 ?_
        refine va_mmin_long hx hb (hml.trans hl.1.symm) hown (hts (.methodLink RX0 126 Lib.MathLoose.min_long.x) (by decide +kernel)) (hts (.static Lib.MathLoose.min_long.x) (by decide +kernel)) (hts (.initialized "java/lang/Math") (by decide +kernel)) (hts (.code Lib.MathLoose.min_long.x Lib.MathLoose.min_long.code 4 (some .long)) (by decide +kernel)) (Nat.le_of_ble_eq_true rfl) (Nat.le_of_ble_eq_true rfl) (Nat.zero_le _) (Nat.zero_le _) dX0_learn_63 ?_
        refine va_mmax_long hx hb (hml.trans hl.1.symm) hown (hts (.methodLink RX0 130 Lib.MathLoose.max_long.x) (by decide +kernel)) (hts (.static Lib.MathLoose.max_long.x) (by decide +kernel)) (hts (.initialized "java/lang/Math") (by decide +kernel)) (hts (.code Lib.MathLoose.max_long.x Lib.MathLoose.max_long.code 4 (some .long)) (by decide +kernel)) (Nat.le_of_ble_eq_true rfl) (Nat.le_of_ble_eq_true rfl) (Nat.zero_le _) (Nat.zero_le _) dX0_learn_66 ?_
        refine lv_l2i hx hb dX0_learn_69 rfl ?_
        refine va_iast hx hb hE.1 hP hD hS 2 0 rfl rfl (vp_in_nI (by omega) (by decide)) dX0_learn_70 (fun H locs hP hD hS => ?_)
        have hP : va_P D vwCl (LW cA h as (va_up (va_up st 1 (lf_ln st left power k)) 1 (upd ((va_up st 1 (lf_ln st left power k)) 1) (nI k).toNatClampNeg ((pf_mxl (-4096) (pf_mnl 4095 (((((va_up st 1 (lf_ln st left power k)) 1) (nI k).toNatClampNeg).toInt64) + ((((st 0 0).toInt64 * left.toInt64) * ((fa (va_up st 1 (lf_ln st left power k)) ((nI k) + (va_up st 1 (lf_ln st left power k)) 0 4)).toInt64)) / power.toInt64)))).toInt32)))) H := hP
        have hD : va_D A (LW cA h as (va_up (va_up st 1 (lf_ln st left power k)) 1 (upd ((va_up st 1 (lf_ln st left power k)) 1) (nI k).toNatClampNeg ((pf_mxl (-4096) (pf_mnl 4095 (((((va_up st 1 (lf_ln st left power k)) 1) (nI k).toNatClampNeg).toInt64) + ((((st 0 0).toInt64 * left.toInt64) * ((fa (va_up st 1 (lf_ln st left power k)) ((nI k) + (va_up st 1 (lf_ln st left power k)) 0 4)).toInt64)) / power.toInt64)))).toInt32)))) := hD
        refine lv_iinc (v := nI (k + 1)) (lv' := [(5, .int (nI (k + 1))), (6, .long ((((st 0 0).toInt64 * left.toInt64) * ((fa (va_up st 1 (lf_ln st left power k)) ((nI k) + (va_up st 1 (lf_ln st left power k)) 0 4)).toInt64)) / power.toInt64)), (3, .long ((st 0 0).toInt64 * left.toInt64)), (2, .int power), (1, .int left), (0, .ref h)]) hx hb dX0_learn_71 hl (k := 1) rfl (nI_1 k) (by decide) rfl (fun ls hl => ?_)
        refine lv_goto (tgt := 19) hx hb dX0_learn_74 (by decide) ?_
        exact ih (k + 1) (by omega) H locs hP hD hS ls (lv_sub hl [0, 2, 3, 4, 5] rfl)
    exact loop 8 0 rfl H locs hP hD hS ls (lv_sub hl [0, 1, 4, 3, 2] rfl)
  · have c_1 : ¬ 0 < power := c_1
    have e0 : lf_learn st left power = st := by rw [lf_learn, if_neg c_1]
    exact hret _ _ _ _ (by rw [e0]; exact hP) hS dX0_learn_4

abbrev rm_X0_softened : Room := { frames := 2, cells := 0, slots := 0, locals := 36 }
theorem iw_X0_softened_X0 : ∀ w ∈ wsX00, w ∈ wsX0_softened := by decide +kernel
set_option maxRecDepth 100000 in
set_option maxHeartbeats 4000000 in
theorem c_X0_softened (l : Launch) (D : va_G) (cA cZ cR : ClassId) (h : Nat) (as : Nat → Nat) (st : St) (left : Int32) : BMi l D cA cZ cR yX0_softened wsX0_softened rm_X0_softened [.ref h, .int left] (LW cA h as st) (LW cA h as (lf_sos st left)) (lf_sor st left) := by
  refine bm_open (maxL := 2) (by decide) rfl rfl rfl (Nat.le_of_ble_eq_true rfl) ?_
  intro p e s m args below meth c A Q hx hb hml hts hown hE hP hD hA hS hret ls hl
  have hown : s.vm.findClass RX0 = some m.cls := hown
  have hl : lv_has ls 2 [(0, .ref h), (1, .int left)] := hl
  obtain ⟨H, locs, eH, eL⟩ : ∃ (H : Heap) (locs : List Loc), H = s.heap ∧ locs = [] := ⟨_, _, rfl, rfl⟩
  rw [← eH, ← eL]
  rw [← eH] at hP
  have hS : va_S A s.heap H locs := by rw [eH, eL]; exact hS
  clear eH eL
  refine lv_iload_n hx hb dX0_softened_0 rfl (lv_at hl 1 rfl) ?_
  refine va_mabs hx hb (hml.trans hl.1.symm) hown (hts (.methodLink RX0 67 Lib.Math.abs.name) (by decide +kernel)) (hts (.static Lib.Math.abs.name) (by decide +kernel)) (hts (.initialized "java/lang/Math") (by decide +kernel)) (hts (.code Lib.Math.abs.name Lib.Math.abs.code 1 (some .int)) (by decide +kernel)) (Nat.le_of_ble_eq_true rfl) (Nat.le_of_ble_eq_true rfl) (Nat.zero_le _) (Nat.zero_le _) dX0_softened_1 ?_
  refine lv_aload_n hx hb dX0_softened_4 rfl (lv_at hl 0 rfl) ?_
  refine va_get (D := D) (ci := 0) (v := .ref (as 0)) (C := RX0) (T := TX0) (N := 11) hx hb hts iw_X0_softened_X0 hown hE.1 hP 0 rfl rfl 0 (by decide) (hts (.fieldLink RX0 18 "EchoTaps$Line" "rules" "[I") (by decide +kernel)) (fun _ h9 => h9) rfl dX0_softened_5 ?_
  refine lv_iconst (v := 2) hx hb dX0_softened_8 (by decide) ?_
  refine va_iald hx hb hE.1 hP 1 0 rfl rfl (vp_in_nI (n := 2) (N := 5) (by decide) (by decide)) dX0_softened_9 ?_
  refine lv_icmp_lt (tgt := 24) hx hb dX0_softened_10 (by decide) (fun c_1 => ?_) (fun c_1 => ?_)
  · have c_1 : (pf_ab left) < ((st 0) 2) := c_1
    have e1 : lf_sos st left = up8 st 2 (pf_nx (st 8 2)) := by rw [lf_sos, if_pos c_1]
    refine lv_aload_n hx hb dX0_softened_24 rfl (lv_at hl 0 rfl) ?_
    refine lv_aload_n hx hb dX0_softened_25 rfl (lv_at hl 0 rfl) ?_
    refine va_get (D := D) (ci := 0) (v := .int (st 8 2)) (C := RX0) (T := TX0) (N := 11) hx hb hts iw_X0_softened_X0 hown hE.1 hP 0 rfl rfl 10 (by decide) (hts (.fieldLink RX0 57 "EchoTaps$Line" "seed" "I") (by decide +kernel)) (fun _ h9 => h9) rfl dX0_softened_26 ?_
    refine sm_n (host := "EchoTaps") [.int (st 8 2)] [.ref h] ⟨hx, hb, hml, hown, hts⟩ (c_X1_nextSeed l (st 8 2)) ⟨va_cnB 1 hts ggX0_softened_X1_nextSeed rfl rfl rfl hE.2.2.1 (hts (.initialized RX1) (by decide +kernel)) (by decide +kernel) ⟨Nat.le_of_ble_eq_true rfl, Nat.le_of_ble_eq_true rfl⟩, (hts (.static yX1_nextSeed) (by decide +kernel)), trivial⟩ rfl hl.1 rfl (Nat.le_of_ble_eq_true rfl) dX0_softened_29 ⟨Nat.zero_le _, Nat.zero_le _⟩ ?_
    refine va_put (D := D) (ci := 0) (v := .int (pf_nx (st 8 2))) (ty := .int) (C := RX0) (T := TX0) (N := 11) hx hb hts iw_X0_softened_X0 tyX0 tyX0_ok nmX0 hown hE.1 hP hD hS 0 rfl rfl 10 (by decide) (hts (.fieldLink RX0 57 "EchoTaps$Line" "seed" "I") (by decide +kernel)) (fun _ h9 => h9) rfl (by decide +kernel) rfl rfl (Nat.le_of_ble_eq_true rfl) dX0_softened_32 (fun H locs hP hD hS => ?_)
    have hP : va_P D vwCl (LW cA h as (va_up st 8 (upd (st 8) 2 (pf_nx (st 8 2))))) H := hP
    have hD : va_D A (LW cA h as (va_up st 8 (upd (st 8) 2 (pf_nx (st 8 2))))) := hD
    refine lv_aload_n hx hb dX0_softened_35 rfl (lv_at hl 0 rfl) ?_
    refine va_get (D := D) (ci := 0) (v := .int ((va_up st 8 (upd (st 8) 2 (pf_nx (st 8 2)))) 8 2)) (C := RX0) (T := TX0) (N := 11) hx hb hts iw_X0_softened_X0 hown hE.1 hP 0 rfl rfl 10 (by decide) (hts (.fieldLink RX0 57 "EchoTaps$Line" "seed" "I") (by decide +kernel)) (fun _ h9 => h9) rfl dX0_softened_36 ?_
    refine lv_aload_n hx hb dX0_softened_39 rfl (lv_at hl 0 rfl) ?_
    refine va_get (D := D) (ci := 0) (v := .ref (as 0)) (C := RX0) (T := TX0) (N := 11) hx hb hts iw_X0_softened_X0 hown hE.1 hP 0 rfl rfl 0 (by decide) (hts (.fieldLink RX0 18 "EchoTaps$Line" "rules" "[I") (by decide +kernel)) (fun _ h9 => h9) rfl dX0_softened_40 ?_
    refine lv_iconst (v := 3) hx hb dX0_softened_43 (by decide) ?_
    refine va_iald hx hb hE.1 hP 1 0 rfl rfl (vp_in_nI (n := 3) (N := 5) (by decide) (by decide)) dX0_softened_44 ?_
    refine sm_n (host := "EchoTaps") [.int ((va_up st 8 (upd (st 8) 2 (pf_nx (st 8 2)))) 8 2), .int (((va_up st 8 (upd (st 8) 2 (pf_nx (st 8 2)))) 0) 3)] [] ⟨hx, hb, hml, hown, hts⟩ (c_X1_centred l ((va_up st 8 (upd (st 8) 2 (pf_nx (st 8 2)))) 8 2) (((va_up st 8 (upd (st 8) 2 (pf_nx (st 8 2)))) 0) 3)) ⟨va_cnB 2 hts ggX0_softened_X1_centred rfl rfl rfl hE.2.2.2 (hts (.initialized RX1) (by decide +kernel)) (by decide +kernel) ⟨Nat.le_of_ble_eq_true rfl, Nat.le_of_ble_eq_true rfl⟩, (hts (.static yX1_centred) (by decide +kernel)), trivial⟩ rfl hl.1 rfl (Nat.le_of_ble_eq_true rfl) dX0_softened_45 ⟨Nat.zero_le _, Nat.zero_le _⟩ ?_
    exact hret _ _ _ _ _ (by rw [e1]; exact hP) (by rw [lf_sor, if_pos c_1]; rfl) hS dX0_softened_48
  · have c_1 : ¬ (pf_ab left) < ((st 0) 2) := c_1
    have e1 : lf_sos st left = st := by rw [lf_sos, if_neg c_1]
    refine lv_iload_n hx hb dX0_softened_13 rfl (lv_at hl 1 rfl) ?_
    refine lv_sipush (v := (-2000)) hx hb dX0_softened_14 (by decide) ?_
    refine lv_sipush (v := 2000) hx hb dX0_softened_17 (by decide) ?_
    refine sm_n (host := "EchoTaps") [.int left, .int (-2000), .int 2000] [] ⟨hx, hb, hml, hown, hts⟩ (c_X1_limited l left (-2000) 2000) ⟨va_cnB 3 hts ggX0_softened_X1_limited rfl rfl rfl hE.2.1 (hts (.initialized RX1) (by decide +kernel)) (by decide +kernel) ⟨Nat.le_of_ble_eq_true rfl, Nat.le_of_ble_eq_true rfl⟩, (hts (.static yX1_limited) (by decide +kernel)), trivial⟩ rfl hl.1 rfl (Nat.le_of_ble_eq_true rfl) dX0_softened_20 ⟨Nat.zero_le _, Nat.zero_le _⟩ ?_
    exact hret _ _ _ _ _ (by rw [e1]; exact hP) (by rw [lf_sor, if_neg c_1]) hS dX0_softened_23

abbrev rm_X0_startAnew : Room := { frames := 0, cells := 0, slots := 0, locals := 0 }
theorem iw_X0_startAnew_X0 : ∀ w ∈ wsX00, w ∈ wsX0_startAnew := by decide +kernel
set_option maxRecDepth 100000 in
set_option maxHeartbeats 4000000 in
theorem c_X0_startAnew (l : Launch) (D : va_G) (cA cZ cR : ClassId) (h : Nat) (as : Nat → Nat) (st : St) (d : Int32) : BMv l D cA cZ cR yX0_startAnew wsX0_startAnew rm_X0_startAnew [.ref h, .int d] (LW cA h as st) (LW cA h as (lf_anew st d)) := by
  refine bm_openV (maxL := 3) (by decide) rfl rfl rfl (Nat.le_of_ble_eq_true rfl) ?_
  intro p e s m args below meth c A Q hx hb hml hts hown hE hP hD hA hS hret ls hl
  have hown : s.vm.findClass RX0 = some m.cls := hown
  have hl : lv_has ls 3 [(0, .ref h), (1, .int d)] := hl
  obtain ⟨H, locs, eH, eL⟩ : ∃ (H : Heap) (locs : List Loc), H = s.heap ∧ locs = [] := ⟨_, _, rfl, rfl⟩
  rw [← eH, ← eL]
  rw [← eH] at hP
  have hS : va_S A s.heap H locs := by rw [eH, eL]; exact hS
  clear eH eL
  refine lv_aload_n hx hb dX0_startAnew_0 rfl (lv_at hl 0 rfl) ?_
  refine va_get (D := D) (ci := 0) (v := .ref (as 0)) (C := RX0) (T := TX0) (N := 11) hx hb hts iw_X0_startAnew_X0 hown hE.1 hP 0 rfl rfl 0 (by decide) (hts (.fieldLink RX0 18 "EchoTaps$Line" "rules" "[I") (by decide +kernel)) (fun _ h9 => h9) rfl dX0_startAnew_1 ?_
  refine lv_iconst (v := 4) hx hb dX0_startAnew_4 (by decide) ?_
  refine lv_iload_n hx hb dX0_startAnew_5 rfl (lv_at hl 1 rfl) ?_
  refine va_iast hx hb hE.1 hP hD hS 1 0 rfl rfl (vp_in_nI (n := 4) (N := 5) (by decide) (by decide)) dX0_startAnew_6 (fun H locs hP hD hS => ?_)
  have hP : va_P D vwCl (LW cA h as (va_up st 0 (upd (st 0) 4 d))) H := hP
  have hD : va_D A (LW cA h as (va_up st 0 (upd (st 0) 4 d))) := hD
  refine lv_iconst (v := 0) hx hb dX0_startAnew_7 (by decide) ?_
  refine lv_istore_n (lv' := [(2, .int 0), (0, .ref h), (1, .int d)]) hx hb dX0_startAnew_8 rfl hl (by decide) rfl (fun ls hl => ?_)
  have hP : va_P D vwCl (LW cA h as (va_up (va_up st 0 (upd (st 0) 4 d)) 1 (lf_zr (st 1) 0))) H := hP
  have hD : va_D A (LW cA h as (va_up (va_up st 0 (upd (st 0) 4 d)) 1 (lf_zr (st 1) 0))) := hD
  have loop : ∀ (n : Nat) (k : Nat) (hk : k + n = 8), ∀ (H : Heap) (locs : List Loc), va_P D vwCl (LW cA h as (va_up (va_up st 0 (upd (st 0) 4 d)) 1 (lf_zr (st 1) k))) H → va_D A (LW cA h as (va_up (va_up st 0 (upd (st 0) 4 d)) 1 (lf_zr (st 1) k))) → va_S A s.heap H locs → ∀ ls : Array Slot, lv_has ls 3 [(2, .int (nI k)), (1, .int d), (0, .ref h)] → W p l e rm_X0_startAnew s m args below meth c H locs 0 0 Q (F0 m 9 ls []) := by
    intro n
    induction n with
    | zero =>
      intro k hk H locs hP hD hS ls hl
      obtain rfl : k = 8 := by omega
      refine lv_iload_n hx hb dX0_startAnew_9 rfl (lv_at hl 0 rfl) ?_
      refine lv_bipush (v := 8) hx hb dX0_startAnew_10 (by decide) ?_
      refine lv_icmp_ge (tgt := 28) hx hb dX0_startAnew_12 (by decide) (fun c_1 => ?_) (fun c_1 => absurd (by decide) c_1)
      exact hret _ _ _ _ hP hS dX0_startAnew_28
    | succ n ih =>
      intro k hk H locs hP hD hS ls hl
      refine lv_iload_n hx hb dX0_startAnew_9 rfl (lv_at hl 0 rfl) ?_
      refine lv_bipush (v := 8) hx hb dX0_startAnew_10 (by decide) ?_
      refine lv_icmp_ge (tgt := 28) hx hb dX0_startAnew_12 (by decide) (fun c_2 => absurd c_2 (nI_ge (a := k) (b := 8) (by omega) (by decide))) (fun c_2 => ?_)
      refine lv_aload_n hx hb dX0_startAnew_15 rfl (lv_at hl 2 rfl) ?_
      refine va_get (D := D) (ci := 0) (v := .ref (as 1)) (C := RX0) (T := TX0) (N := 11) hx hb hts iw_X0_startAnew_X0 hown hE.1 hP 0 rfl rfl 1 (by decide) (hts (.fieldLink RX0 23 "EchoTaps$Line" "taps" "[I") (by decide +kernel)) (fun _ h9 => h9) rfl dX0_startAnew_16 ?_
      refine lv_iload_n hx hb dX0_startAnew_19 rfl (lv_at hl 0 rfl) ?_
      refine lv_iconst (v := 0) hx hb dX0_startAnew_20 (by decide) ?_
      refine va_iast hx hb hE.1 hP hD hS 2 0 rfl rfl (vp_in_nI (by omega) (by decide)) dX0_startAnew_21 (fun H locs hP hD hS => ?_)
      have hP : va_P D vwCl (LW cA h as (va_up (va_up (va_up st 0 (upd (st 0) 4 d)) 1 (lf_zr (st 1) k)) 1 (upd ((va_up (va_up st 0 (upd (st 0) 4 d)) 1 (lf_zr (st 1) k)) 1) (nI k).toNatClampNeg 0))) H := hP
      have hD : va_D A (LW cA h as (va_up (va_up (va_up st 0 (upd (st 0) 4 d)) 1 (lf_zr (st 1) k)) 1 (upd ((va_up (va_up st 0 (upd (st 0) 4 d)) 1 (lf_zr (st 1) k)) 1) (nI k).toNatClampNeg 0))) := hD
      refine lv_iinc (v := nI (k + 1)) (lv' := [(2, .int (nI (k + 1))), (1, .int d), (0, .ref h)]) hx hb dX0_startAnew_22 hl (k := 0) rfl (nI_1 k) (by decide) rfl (fun ls hl => ?_)
      refine lv_goto (tgt := 9) hx hb dX0_startAnew_25 (by decide) ?_
      exact ih (k + 1) (by omega) H locs hP hD hS ls (lv_sub hl [0, 1, 2] rfl)
  exact loop 8 0 rfl H locs hP hD hS ls (lv_sub hl [0, 2, 1] rfl)

abbrev rm_X0_beginsAt : Room := { frames := 0, cells := 0, slots := 0, locals := 0 }
theorem iw_X0_beginsAt_X0 : ∀ w ∈ wsX00, w ∈ wsX0_beginsAt := by decide +kernel
set_option maxRecDepth 100000 in
set_option maxHeartbeats 4000000 in
theorem c_X0_beginsAt (l : Launch) (D : va_G) (cA cZ cR : ClassId) (h : Nat) (as : Nat → Nat) (st : St) (t mk : Int32) : BMi l D cA cZ cR yX0_beginsAt wsX0_beginsAt rm_X0_beginsAt [.ref h, .int t, .int mk] (LW cA h as st) (LW cA h as st) (pf_b (lf_ba st t mk)) := by
  refine bm_openZ (maxL := 3) (by decide) rfl rfl rfl (Nat.le_of_ble_eq_true rfl) (pf_b_z _) ?_
  intro p e s m args below meth c A Q hx hb hml hts hown hE hP hD hA hS hret ls hl
  have hown : s.vm.findClass RX0 = some m.cls := hown
  have hl : lv_has ls 3 [(0, .ref h), (1, .int t), (2, .int mk)] := hl
  obtain ⟨H, locs, eH, eL⟩ : ∃ (H : Heap) (locs : List Loc), H = s.heap ∧ locs = [] := ⟨_, _, rfl, rfl⟩
  rw [← eH, ← eL]
  rw [← eH] at hP
  have hS : va_S A s.heap H locs := by rw [eH, eL]; exact hS
  clear eH eL
  refine lv_aload_n hx hb dX0_beginsAt_0 rfl (lv_at hl 0 rfl) ?_
  refine va_get (D := D) (ci := 0) (v := .ref (as 6)) (C := RX0) (T := TX0) (N := 11) hx hb hts iw_X0_beginsAt_X0 hown hE.1 hP 0 rfl rfl 6 (by decide) (hts (.fieldLink RX0 38 "EchoTaps$Line" "marks" "[I") (by decide +kernel)) (fun _ h9 => h9) rfl dX0_beginsAt_1 ?_
  refine lv_iload_n hx hb dX0_beginsAt_4 rfl (lv_at hl 1 rfl) ?_
  refine lv_sipush (v := 255) hx hb dX0_beginsAt_5 (by decide) ?_
  refine lv_iand hx hb dX0_beginsAt_8 ?_
  refine va_iald hx hb hE.1 hP 7 0 rfl rfl (in255 _) dX0_beginsAt_9 ?_
  refine lv_iload_n hx hb dX0_beginsAt_10 rfl (lv_at hl 2 rfl) ?_
  refine lv_iand hx hb dX0_beginsAt_11 ?_
  refine lv_if_eq (tgt := 36) hx hb dX0_beginsAt_12 (by decide) (fun c_1 => ?_) (fun c_1 => ?_)
  · have c_1 : (((st 6) (t &&& 255).toNatClampNeg) &&& mk) = 0 := c_1
    refine lv_iconst (v := 0) hx hb dX0_beginsAt_36 (by decide) ?_
    exact hret _ _ _ _ _ hP (by rw [lf_ba, decide_eq_false (fun q => q.1 c_1)]; rfl) hS dX0_beginsAt_37
  · have c_1 : ¬ (((st 6) (t &&& 255).toNatClampNeg) &&& mk) = 0 := c_1
    refine lv_aload_n hx hb dX0_beginsAt_15 rfl (lv_at hl 0 rfl) ?_
    refine va_get (D := D) (ci := 0) (v := .ref (as 6)) (C := RX0) (T := TX0) (N := 11) hx hb hts iw_X0_beginsAt_X0 hown hE.1 hP 0 rfl rfl 6 (by decide) (hts (.fieldLink RX0 38 "EchoTaps$Line" "marks" "[I") (by decide +kernel)) (fun _ h9 => h9) rfl dX0_beginsAt_16 ?_
    refine lv_iload_n hx hb dX0_beginsAt_19 rfl (lv_at hl 1 rfl) ?_
    refine lv_iconst (v := 1) hx hb dX0_beginsAt_20 (by decide) ?_
    refine lv_isub hx hb dX0_beginsAt_21 ?_
    refine lv_sipush (v := 255) hx hb dX0_beginsAt_22 (by decide) ?_
    refine lv_iand hx hb dX0_beginsAt_25 ?_
    refine va_iald hx hb hE.1 hP 7 0 rfl rfl (in255 _) dX0_beginsAt_26 ?_
    refine lv_iload_n hx hb dX0_beginsAt_27 rfl (lv_at hl 2 rfl) ?_
    refine lv_iand hx hb dX0_beginsAt_28 ?_
    refine lv_if_ne (tgt := 36) hx hb dX0_beginsAt_29 (by decide) (fun c_2 => ?_) (fun c_2 => ?_)
    · have c_2 : ¬ (((st 6) ((t - 1) &&& 255).toNatClampNeg) &&& mk) = 0 := c_2
      refine lv_iconst (v := 0) hx hb dX0_beginsAt_36 (by decide) ?_
      exact hret _ _ _ _ _ hP (by rw [lf_ba, decide_eq_false (fun q => c_2 q.2)]; rfl) hS dX0_beginsAt_37
    · have c_2 : (((st 6) ((t - 1) &&& 255).toNatClampNeg) &&& mk) = 0 := c_2
      refine lv_iconst (v := 1) hx hb dX0_beginsAt_32 (by decide) ?_
      refine lv_goto (tgt := 37) hx hb dX0_beginsAt_33 (by decide) ?_
      exact hret _ _ _ _ _ hP (by rw [lf_ba, decide_eq_true ⟨c_1, c_2⟩]; rfl) hS dX0_beginsAt_37

abbrev rm_X0_beginning : Room := { frames := 1, cells := 0, slots := 0, locals := 22 }
theorem iw_X0_beginning_X0 : ∀ w ∈ wsX00, w ∈ wsX0_beginning := by decide +kernel
set_option maxRecDepth 100000 in
set_option maxHeartbeats 4000000 in
theorem c_X0_beginning (l : Launch) (D : va_G) (cA cZ cR : ClassId) (h : Nat) (as : Nat → Nat) (st : St) (i mk : Int32) : BMi l D cA cZ cR yX0_beginning wsX0_beginning rm_X0_beginning [.ref h, .int i, .int mk] (LW cA h as st) (LW cA h as st) (lf_bg st i mk 200 0) := by
  refine bm_open (maxL := 5) (by decide) rfl rfl rfl (Nat.le_of_ble_eq_true rfl) ?_
  intro p e s m args below meth c A Q hx hb hml hts hown hE hP hD hA hS hret ls hl
  have hown : s.vm.findClass RX0 = some m.cls := hown
  have hl : lv_has ls 5 [(0, .ref h), (1, .int i), (2, .int mk)] := hl
  obtain ⟨H, locs, eH, eL⟩ : ∃ (H : Heap) (locs : List Loc), H = s.heap ∧ locs = [] := ⟨_, _, rfl, rfl⟩
  rw [← eH, ← eL]
  rw [← eH] at hP
  have hS : va_S A s.heap H locs := by rw [eH, eL]; exact hS
  clear eH eL
  refine lv_iconst (v := 0) hx hb dX0_beginning_0 (by decide) ?_
  refine lv_istore_n (lv' := [(3, .int 0), (0, .ref h), (1, .int i), (2, .int mk)]) hx hb dX0_beginning_1 rfl hl (by decide) rfl (fun ls hl => ?_)
  refine lv_sipush (v := 199) hx hb dX0_beginning_2 (by decide) ?_
  refine lv_istore (lv' := [(4, .int 199), (3, .int 0), (0, .ref h), (1, .int i), (2, .int mk)]) hx hb dX0_beginning_5 hl (by decide) rfl (fun ls hl => ?_)
  have loop : ∀ (n : Nat) (f : Int32) (hn : n ≤ 200) (hg : lf_bg st i mk n f = lf_bg st i mk 200 0), ∀ (H : Heap) (locs : List Loc), va_P D vwCl (LW cA h as st) H → va_D A (LW cA h as st) → va_S A s.heap H locs → ∀ ls : Array Slot, lv_has ls 5 [(4, .int (nI n + (-1))), (3, .int f), (2, .int mk), (1, .int i), (0, .ref h)] → W p l e rm_X0_beginning s m args below meth c H locs 0 0 Q (F0 m 7 ls []) := by
    intro n
    induction n with
    | zero =>
      intro f hn hg H locs hP hD hS ls hl
      refine lv_iload hx hb dX0_beginning_7 (lv_at hl 0 rfl) ?_
      refine lv_if_lt (tgt := 58) hx hb dX0_beginning_9 (by decide) (fun c_1 => ?_) (fun c_1 => absurd (by decide) c_1)
      refine lv_iload_n hx hb dX0_beginning_58 rfl (lv_at hl 3 rfl) ?_
      refine lv_iconst (v := (-1)) hx hb dX0_beginning_59 (by decide) ?_
      refine lv_icmp_ne (tgt := 67) hx hb dX0_beginning_60 (by decide) (fun c_2 => ?_) (fun c_2 => ?_)
      · have c_2 : ¬ i = (-1) := c_2
        refine lv_bipush (v := (-6)) hx hb dX0_beginning_67 (by decide) ?_
        exact hret _ _ _ _ _ hP (by rw [← hg, lf_bg, if_neg c_2]) hS dX0_beginning_69
      · have c_2 : i = (-1) := c_2
        refine lv_iload_n hx hb dX0_beginning_63 rfl (lv_at hl 1 rfl) ?_
        refine lv_goto (tgt := 69) hx hb dX0_beginning_64 (by decide) ?_
        exact hret _ _ _ _ _ hP (by rw [← hg, lf_bg, if_pos c_2]) hS dX0_beginning_69
    | succ n ih =>
      intro f hn hg H locs hP hD hS ls hl
      rw [pk_m1] at hl
      refine lv_iload hx hb dX0_beginning_7 (lv_at hl 0 rfl) ?_
      refine lv_if_lt (tgt := 58) hx hb dX0_beginning_9 (by decide) (fun c_3 => absurd c_3 (nI_pos (n := n) (by omega))) (fun c_3 => ?_)
      refine lv_iload hx hb dX0_beginning_12 (lv_at hl 0 rfl) ?_
      refine lv_aload_n hx hb dX0_beginning_14 rfl (lv_at hl 4 rfl) ?_
      refine va_get (D := D) (ci := 0) (v := .int (st 8 0)) (C := RX0) (T := TX0) (N := 11) hx hb hts iw_X0_beginning_X0 hown hE.1 hP 0 rfl rfl 8 (by decide) (hts (.fieldLink RX0 50 "EchoTaps$Line" "ticks" "I") (by decide +kernel)) (fun _ h9 => h9) rfl dX0_beginning_15 ?_
      refine lv_icmp_ge (tgt := 52) hx hb dX0_beginning_18 (by decide) (fun c_4 => ?_) (fun c_4 => ?_)
      · have c_4 : (st 8 0) ≤ (nI n) := c_4
        rw [lf_bg, if_neg (fun q => absurd q.1 (Int32.not_lt.mpr c_4))] at hg
        refine lv_iinc (v := nI n + (-1)) (lv' := [(4, .int (nI n + (-1))), (3, .int f), (2, .int mk), (1, .int i), (0, .ref h)]) hx hb dX0_beginning_52 hl (k := 0) rfl (rfl) (by decide) rfl (fun ls hl => ?_)
        refine lv_goto (tgt := 7) hx hb dX0_beginning_55 (by decide) ?_
        exact ih f (by omega) hg H locs hP hD hS ls (lv_sub hl [0, 1, 2, 3, 4] rfl)
      · have c_4 : ¬ (st 8 0) ≤ (nI n) := c_4
        refine lv_aload_n hx hb dX0_beginning_21 rfl (lv_at hl 4 rfl) ?_
        refine lv_aload_n hx hb dX0_beginning_22 rfl (lv_at hl 4 rfl) ?_
        refine va_get (D := D) (ci := 0) (v := .int (st 8 0)) (C := RX0) (T := TX0) (N := 11) hx hb hts iw_X0_beginning_X0 hown hE.1 hP 0 rfl rfl 8 (by decide) (hts (.fieldLink RX0 50 "EchoTaps$Line" "ticks" "I") (by decide +kernel)) (fun _ h9 => h9) rfl dX0_beginning_23 ?_
        refine lv_iload hx hb dX0_beginning_26 (lv_at hl 0 rfl) ?_
        refine lv_isub hx hb dX0_beginning_28 ?_
        refine lv_iload_n hx hb dX0_beginning_29 rfl (lv_at hl 2 rfl) ?_
        refine bm_i [] (LW cA h as st) [] [.int ((st 8 0) - (nI n)), .int mk] [] ⟨hx, hb, hml, hown, hts⟩ (c_X0_beginsAt l D cA cZ cR h as st ((st 8 0) - (nI n)) mk) (cwV 2 hts gX0_beginning_X0_beginsAt rfl rfl rfl (by decide +kernel) ⟨Nat.le_of_ble_eq_true rfl, Nat.le_of_ble_eq_true rfl⟩) hE hP hD hS hA LW_adr 0 0 rfl rfl rfl hl.1 rfl (Nat.le_of_ble_eq_true rfl) dX0_beginning_30 ⟨Nat.zero_le _, Nat.zero_le _⟩ (fun H locs hP hD hS => ?_)
        have hP : va_P D vwCl (LW cA h as st) H := hP
        have hD : va_D A (LW cA h as st) := hD
        refine lv_if_eq (tgt := 52) hx hb dX0_beginning_33 (by decide) (fun c_5 => ?_) (fun c_5 => ?_)
        · have c_5 : (pf_b (lf_ba st ((st 8 0) - (nI n)) mk)) = 0 := c_5
          rw [lf_bg, if_neg (fun q => absurd q.2 (by rw [pf_b0.mp c_5]; decide))] at hg
          refine lv_iinc (v := nI n + (-1)) (lv' := [(4, .int (nI n + (-1))), (3, .int f), (2, .int mk), (1, .int i), (0, .ref h)]) hx hb dX0_beginning_52 hl (k := 0) rfl (rfl) (by decide) rfl (fun ls hl => ?_)
          refine lv_goto (tgt := 7) hx hb dX0_beginning_55 (by decide) ?_
          exact ih f (by omega) hg H locs hP hD hS ls (lv_sub hl [0, 1, 2, 3, 4] rfl)
        · have c_5 : ¬ (pf_b (lf_ba st ((st 8 0) - (nI n)) mk)) = 0 := c_5
          rw [lf_bg, if_pos ⟨Int32.not_le.mp c_4, pf_bn c_5⟩] at hg
          refine lv_iload_n hx hb dX0_beginning_36 rfl (lv_at hl 1 rfl) ?_
          refine lv_iload_n hx hb dX0_beginning_37 rfl (lv_at hl 3 rfl) ?_
          refine lv_icmp_ne (tgt := 49) hx hb dX0_beginning_38 (by decide) (fun c_6 => ?_) (fun c_6 => ?_)
          · have c_6 : ¬ f = i := c_6
            rw [if_neg c_6] at hg
            refine lv_iinc (v := f + 1) (lv' := [(3, .int (f + 1)), (4, .int (nI n)), (2, .int mk), (1, .int i), (0, .ref h)]) hx hb dX0_beginning_49 hl (k := 1) rfl (rfl) (by decide) rfl (fun ls hl => ?_)
            refine lv_iinc (v := nI n + (-1)) (lv' := [(4, .int (nI n + (-1))), (3, .int (f + 1)), (2, .int mk), (1, .int i), (0, .ref h)]) hx hb dX0_beginning_52 hl (k := 1) rfl (rfl) (by decide) rfl (fun ls hl => ?_)
            refine lv_goto (tgt := 7) hx hb dX0_beginning_55 (by decide) ?_
            exact ih _ (by omega) hg H locs hP hD hS ls (lv_sub hl [0, 1, 2, 3, 4] rfl)
          · have c_6 : f = i := c_6
            rw [if_pos c_6] at hg
            refine lv_aload_n hx hb dX0_beginning_41 rfl (lv_at hl 4 rfl) ?_
            refine va_get (D := D) (ci := 0) (v := .int (st 8 0)) (C := RX0) (T := TX0) (N := 11) hx hb hts iw_X0_beginning_X0 hown hE.1 hP 0 rfl rfl 8 (by decide) (hts (.fieldLink RX0 50 "EchoTaps$Line" "ticks" "I") (by decide +kernel)) (fun _ h9 => h9) rfl dX0_beginning_42 ?_
            refine lv_iload hx hb dX0_beginning_45 (lv_at hl 0 rfl) ?_
            refine lv_isub hx hb dX0_beginning_47 ?_
            exact hret _ _ _ _ _ hP hg hS dX0_beginning_48
  exact loop 200 0 (Nat.le_refl _) rfl H locs hP hD hS ls (lv_sub hl [0, 1, 4, 3, 2] rfl)
