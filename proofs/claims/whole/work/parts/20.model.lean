theorem lv_ri {p : Program} {l : Launch} {e : Env} {R : Room} {s : State} {m : MethodId} {args : Array Value} {below : List Frame} {meth : Method} {c : Code} {H : Heap} {locs : List Loc} {cells slots : Nat} {Q : State → Prop} {pc : Nat} {ls : Array Slot} {rest : List Value} {x y : Int32} (h : x = y) (k : W p l e R s m args below meth c H locs cells slots Q (F0 m pc ls (.int y :: rest))) : W p l e R s m args below meth c H locs cells slots Q (F0 m pc ls (.int x :: rest)) := h ▸ k
/-! the reference, as functions of its row of numbers -/
def DL (g : Fn) : Prop := ∃ d : Nat, d ≤ 15 ∧ g 4 = nI d
def LG (g : Fn) : Prop := ∃ d : Nat, d ≤ 15 ∧ g 21 = nI d
def mf_seen (g : Fn) (k : Nat) : Int32 := g (33 + k + (g 4).toNatClampNeg)
def mf_est (g : Fn) : Int32 := l_sum (fun k => g (5 + k) * mf_seen g k) 8 / 1024
def mf_mx (f : Fn) : Nat → Int32
  | 0 => 0
  | n + 1 => if pf_sz (f n) ≤ mf_mx f n then mf_mx f n else pf_sz (f n)
def mf_loud (g : Fn) : Int32 := mf_mx (fun i => g (33 + i)) 24
def mf_pow (g : Fn) : Int32 := l_sum (fun k => mf_seen g k * mf_seen g k) 8
def mf_cr (g : Fn) (p : Nat) : Bool := pf_al (fun i => decide (g (33 + i) = g (33 + i + p))) (16 - p)
def mf_sil (g : Fn) : Bool := pf_al (fun i => decide (g (33 + i) = 0)) 16
def mf_tone (g : Fn) : Nat := if mf_sil g = true then 0 else pf_ft (mf_cr g) 8 1
def mf_hold (g : Fn) : Fn := if ¬ g 30 = 1 then (if g 22 ≤ 0 then g else upd g 22 (g 22 - 1)) else upd g 22 (g 1)
def mf_ln (g : Fn) : Nat → Fn
  | 0 => g
  | k + 1 => upd (mf_ln g k) (5 + k) (pf_cl (mf_ln g k (5 + k) + ((mf_ln g k 0).toInt64 * (mf_ln g k 26).toInt64 * (mf_seen (mf_ln g k) k).toInt64 / (mf_ln g k 29).toInt64).toInt32) (-4096) 4095)
theorem mf_ln_out (g : Fn) : ∀ k, k ≤ 8 → ∀ j, (j < 5 ∨ 13 ≤ j) → mf_ln g k j = g j := by
  intro k
  induction k with
  | zero => intro _ j _; rfl
  | succ k ih =>
    intro hk j hj
    rw [mf_ln, pk_un (by omega)]
    exact ih (by omega) j hj
def mf_learn (g : Fn) : Fn := mf_ln g 8
def mf_nor (g : Fn) : Int32 := pf_ce (pf_nx (g 23)) (g 3)
def mf_nos (g : Fn) : Fn := upd g 23 (pf_nx (g 23))
def mf_or (g : Fn) : Int32 := if g 31 ≤ 0 then (if g 2 ≤ pf_sz (g 26) then pf_cl (g 26) (-2000) 2000 else mf_nor g) else g 73
def mf_os (g : Fn) : Fn := if g 31 ≤ 0 then (if g 2 ≤ pf_sz (g 26) then g else mf_nos g) else g
def mf_sk (g : Fn) (R M i : Nat) : Fn := fun j => if R + i < j ∧ j < R + M then g (j - 1) else g j
def mf_sh (g : Fn) (R M : Nat) (v : Int32) : Fn := upd (mf_sk g R M 0) R v
theorem mf_sk0 (g : Fn) (R M : Nat) (h : 1 ≤ M) : mf_sk g R M (M - 1) = g := by
  funext j
  unfold mf_sk
  rw [if_neg]
  omega
theorem mf_sk1 (g : Fn) (R M i : Nat) (h0 : 1 ≤ i) (h : i < M) : upd (mf_sk g R M i) (R + i) (mf_sk g R M i (R + i - 1)) = mf_sk g R M (i - 1) := by
  funext j
  by_cases e : j = R + i
  · subst e
    rw [pk_us]
    unfold mf_sk
    rw [if_neg (by omega), if_pos (by omega)]
  · rw [pk_un e]
    unfold mf_sk
    by_cases h2 : R + i < j ∧ j < R + M
    · rw [if_pos h2, if_pos (by omega)]
    · rw [if_neg h2, if_neg (by omega)]
def mf_ee (g : Fn) (far : Int32) (k : Nat) : Int32 := if k + (g 21).toNatClampNeg = 0 then far else g (33 + (k + (g 21).toNatClampNeg) - 1)
def mf_echo (g : Fn) (far : Int32) : Int32 := l_sum (fun k => g (13 + k) * mf_ee g far k) 8 / 1024
def mf_like (g : Fn) (d : Nat) : Int32 := l_sum (fun i => g (73 + i) * g (33 + i + d)) 24
def mf_sq (g : Fn) (r : Nat) : Int32 := l_sum (fun i => g (r + i) * g (r + i)) 32
def mf_tsz (g : Fn) : Int32 := l_sum (fun k => pf_sz (g (5 + k))) 8
abbrev rm_X2_seen : Room := { frames := 0, cells := 0, slots := 0, locals := 0 }
theorem iw_X2_seen_X2 : ∀ w ∈ wsX20, w ∈ wsX2_seen := by decide +kernel
set_option maxRecDepth 100000 in
set_option maxHeartbeats 4000000 in
theorem c_X2_seen (l : Launch) (D : va_G) (cA cZ cR : ClassId) (h : Nat) (as : Nat → Nat) (g im kp : Fn) (k : Nat) (hk7 : k ≤ 7) (hd : DL g) : BMi l D cA cZ cR yX2_seen wsX2_seen rm_X2_seen [.ref h, .int (nI k)] (MW cA cZ h as g im kp) (MW cA cZ h as g im kp) (mf_seen g k) := by
  refine bm_open (maxL := 2) (by decide) rfl rfl rfl (Nat.le_of_ble_eq_true rfl) ?_
  intro p e s m args below meth c A Q hx hb hml hts hown hE hP hD hA hS hret ls hl
  have hown : s.vm.findClass RX2 = some m.cls := hown
  have hl : lv_has ls 2 [(0, .ref h), (1, .int (nI k))] := hl
  obtain ⟨H, locs, eH, eL⟩ : ∃ (H : Heap) (locs : List Loc), H = s.heap ∧ locs = [] := ⟨_, _, rfl, rfl⟩
  rw [← eH, ← eL]
  rw [← eH] at hP
  have hS : va_S A s.heap H locs := by rw [eH, eL]; exact hS
  clear eH eL
  obtain ⟨d, hd15, ed⟩ := hd
  refine lv_aload_n hx hb dX2_seen_0 rfl (lv_at hl 0 rfl) ?_
  refine va_get (D := D) (ci := 2) (v := .ref (as 0)) (C := RX2) (T := TX2) (N := 3) hx hb hts iw_X2_seen_X2 hown hE.1 hP 0 rfl rfl 0 (by decide) (hts (.fieldLink RX2 7 "EchoTapsModel" "state" "[I") (by decide +kernel)) (fun _ h9 => h9) rfl dX2_seen_1 ?_
  refine lv_bipush (v := 33) hx hb dX2_seen_4 (by decide) ?_
  refine lv_iload_n hx hb dX2_seen_6 rfl (lv_at hl 1 rfl) ?_
  refine lv_iadd hx hb dX2_seen_7 ?_
  refine lv_ri (nI_add 33 k) ?_
  refine lv_aload_n hx hb dX2_seen_8 rfl (lv_at hl 0 rfl) ?_
  refine va_get (D := D) (ci := 2) (v := .ref (as 0)) (C := RX2) (T := TX2) (N := 3) hx hb hts iw_X2_seen_X2 hown hE.1 hP 0 rfl rfl 0 (by decide) (hts (.fieldLink RX2 7 "EchoTapsModel" "state" "[I") (by decide +kernel)) (fun _ h9 => h9) rfl dX2_seen_9 ?_
  refine lv_iconst (v := 4) hx hb dX2_seen_12 (by decide) ?_
  refine va_iald hx hb hE.1 hP 1 0 rfl rfl (vp_in_nI (n := 4) (N := 555) (by decide) (by decide)) dX2_seen_13 ?_
  refine lv_ri ed ?_
  refine lv_iadd hx hb dX2_seen_14 ?_
  refine lv_ri (nI_add (33 + k) d) ?_
  refine va_iald hx hb hE.1 hP 1 0 rfl rfl (vp_in_nI (by omega) (by decide)) dX2_seen_15 ?_
  refine lv_ri (congrArg g (nI_clamp (n := 33 + k + d) (by omega))) ?_
  exact hret _ _ _ _ _ hP (by rw [mf_seen, ed, nI_clamp (by omega)]) hS dX2_seen_16

abbrev rm_X2_estimate : Room := { frames := 1, cells := 0, slots := 0, locals := 21 }
theorem iw_X2_estimate_X2 : ∀ w ∈ wsX20, w ∈ wsX2_estimate := by decide +kernel
set_option maxRecDepth 100000 in
set_option maxHeartbeats 4000000 in
theorem c_X2_estimate (l : Launch) (D : va_G) (cA cZ cR : ClassId) (h : Nat) (as : Nat → Nat) (g im kp : Fn) (hd : DL g) : BMi l D cA cZ cR yX2_estimate wsX2_estimate rm_X2_estimate [.ref h] (MW cA cZ h as g im kp) (MW cA cZ h as g im kp) (mf_est g) := by
  refine bm_open (maxL := 3) (by decide) rfl rfl rfl (Nat.le_of_ble_eq_true rfl) ?_
  intro p e s m args below meth c A Q hx hb hml hts hown hE hP hD hA hS hret ls hl
  have hown : s.vm.findClass RX2 = some m.cls := hown
  have hl : lv_has ls 3 [(0, .ref h)] := hl
  obtain ⟨H, locs, eH, eL⟩ : ∃ (H : Heap) (locs : List Loc), H = s.heap ∧ locs = [] := ⟨_, _, rfl, rfl⟩
  rw [← eH, ← eL]
  rw [← eH] at hP
  have hS : va_S A s.heap H locs := by rw [eH, eL]; exact hS
  clear eH eL
  refine lv_iconst (v := 0) hx hb dX2_estimate_0 (by decide) ?_
  refine lv_istore_n (lv' := [(1, .int 0), (0, .ref h)]) hx hb dX2_estimate_1 rfl hl (by decide) rfl (fun ls hl => ?_)
  refine lv_iconst (v := 0) hx hb dX2_estimate_2 (by decide) ?_
  refine lv_istore_n (lv' := [(2, .int 0), (1, .int 0), (0, .ref h)]) hx hb dX2_estimate_3 rfl hl (by decide) rfl (fun ls hl => ?_)
  have loop : ∀ (n : Nat) (k : Nat) (a : Int32) (hk : k + n = 8) (ha : a = l_sum (fun k => g (5 + k) * mf_seen g k) k), ∀ (H : Heap) (locs : List Loc), va_P D vwCl (MW cA cZ h as g im kp) H → va_D A (MW cA cZ h as g im kp) → va_S A s.heap H locs → ∀ ls : Array Slot, lv_has ls 3 [(1, .int a), (2, .int (nI k)), (0, .ref h)] → W p l e rm_X2_estimate s m args below meth c H locs 0 0 Q (F0 m 4 ls []) := by
    intro n
    induction n with
    | zero =>
      intro k a hk ha H locs hP hD hS ls hl
      obtain rfl : k = 8 := by omega
      refine lv_iload_n hx hb dX2_estimate_4 rfl (lv_at hl 1 rfl) ?_
      refine lv_bipush (v := 8) hx hb dX2_estimate_5 (by decide) ?_
      refine lv_icmp_ge (tgt := 33) hx hb dX2_estimate_7 (by decide) (fun c_1 => ?_) (fun c_1 => absurd (by decide) c_1)
      refine lv_iload_n hx hb dX2_estimate_33 rfl (lv_at hl 0 rfl) ?_
      refine lv_sipush (v := 1024) hx hb dX2_estimate_34 (by decide) ?_
      refine lv_idiv hx hb dX2_estimate_37 (by decide) ?_
      exact hret _ _ _ _ _ hP (by rw [ha]; rfl) hS dX2_estimate_38
    | succ n ih =>
      intro k a hk ha H locs hP hD hS ls hl
      refine lv_iload_n hx hb dX2_estimate_4 rfl (lv_at hl 1 rfl) ?_
      refine lv_bipush (v := 8) hx hb dX2_estimate_5 (by decide) ?_
      refine lv_icmp_ge (tgt := 33) hx hb dX2_estimate_7 (by decide) (fun c_2 => absurd c_2 (nI_ge (a := k) (b := 8) (by omega) (by decide))) (fun c_2 => ?_)
      refine lv_iload_n hx hb dX2_estimate_10 rfl (lv_at hl 0 rfl) ?_
      refine lv_aload_n hx hb dX2_estimate_11 rfl (lv_at hl 2 rfl) ?_
      refine va_get (D := D) (ci := 2) (v := .ref (as 0)) (C := RX2) (T := TX2) (N := 3) hx hb hts iw_X2_estimate_X2 hown hE.1 hP 0 rfl rfl 0 (by decide) (hts (.fieldLink RX2 7 "EchoTapsModel" "state" "[I") (by decide +kernel)) (fun _ h9 => h9) rfl dX2_estimate_12 ?_
      refine lv_iconst (v := 5) hx hb dX2_estimate_15 (by decide) ?_
      refine lv_iload_n hx hb dX2_estimate_16 rfl (lv_at hl 1 rfl) ?_
      refine lv_iadd hx hb dX2_estimate_17 ?_
      refine lv_ri (nI_add 5 k) ?_
      refine va_iald hx hb hE.1 hP 1 0 rfl rfl (vp_in_nI (by omega) (by decide)) dX2_estimate_18 ?_
      refine lv_ri (congrArg g (nI_clamp (n := 5 + k) (by omega))) ?_
      refine lv_aload_n hx hb dX2_estimate_19 rfl (lv_at hl 2 rfl) ?_
      refine lv_iload_n hx hb dX2_estimate_20 rfl (lv_at hl 1 rfl) ?_
      refine bm_i [] (MW cA cZ h as g im kp) [] [.int (nI k)] [.int (g (5 + k)), .int a] ⟨hx, hb, hml, hown, hts⟩ (c_X2_seen l D cA cZ cR h as g im kp k (by omega) hd) (cwV 1 hts gX2_estimate_X2_seen rfl rfl rfl (by decide +kernel) ⟨Nat.le_of_ble_eq_true rfl, Nat.le_of_ble_eq_true rfl⟩) hE hP hD hS hA MW_adr 0 2 rfl rfl rfl hl.1 rfl (Nat.le_of_ble_eq_true rfl) dX2_estimate_21 ⟨Nat.zero_le _, Nat.zero_le _⟩ (fun H locs hP hD hS => ?_)
      have hP : va_P D vwCl (MW cA cZ h as g im kp) H := hP
      have hD : va_D A (MW cA cZ h as g im kp) := hD
      refine lv_imul hx hb dX2_estimate_24 ?_
      refine lv_iadd hx hb dX2_estimate_25 ?_
      refine lv_istore_n (lv' := [(1, .int (a + ((g (5 + k)) * (mf_seen g k)))), (2, .int (nI k)), (0, .ref h)]) hx hb dX2_estimate_26 rfl hl (by decide) rfl (fun ls hl => ?_)
      refine lv_iinc (v := nI (k + 1)) (lv' := [(2, .int (nI (k + 1))), (1, .int (a + ((g (5 + k)) * (mf_seen g k)))), (0, .ref h)]) hx hb dX2_estimate_27 hl (k := 1) rfl (nI_1 k) (by decide) rfl (fun ls hl => ?_)
      refine lv_goto (tgt := 4) hx hb dX2_estimate_30 (by decide) ?_
      exact ih (k + 1) _ (by omega) (by rw [ha]; rfl) H locs hP hD hS ls (lv_sub hl [1, 0, 2] rfl)
  exact loop 8 0 0 rfl rfl H locs hP hD hS ls (lv_sub hl [1, 0, 2] rfl)

abbrev rm_X2_power : Room := { frames := 1, cells := 0, slots := 0, locals := 21 }
set_option maxRecDepth 100000 in
set_option maxHeartbeats 4000000 in
theorem c_X2_power (l : Launch) (D : va_G) (cA cZ cR : ClassId) (h : Nat) (as : Nat → Nat) (g im kp : Fn) (hd : DL g) : BMi l D cA cZ cR yX2_power wsX2_power rm_X2_power [.ref h] (MW cA cZ h as g im kp) (MW cA cZ h as g im kp) (mf_pow g) := by
  refine bm_open (maxL := 3) (by decide) rfl rfl rfl (Nat.le_of_ble_eq_true rfl) ?_
  intro p e s m args below meth c A Q hx hb hml hts hown hE hP hD hA hS hret ls hl
  have hown : s.vm.findClass RX2 = some m.cls := hown
  have hl : lv_has ls 3 [(0, .ref h)] := hl
  obtain ⟨H, locs, eH, eL⟩ : ∃ (H : Heap) (locs : List Loc), H = s.heap ∧ locs = [] := ⟨_, _, rfl, rfl⟩
  rw [← eH, ← eL]
  rw [← eH] at hP
  have hS : va_S A s.heap H locs := by rw [eH, eL]; exact hS
  clear eH eL
  refine lv_iconst (v := 0) hx hb dX2_power_0 (by decide) ?_
  refine lv_istore_n (lv' := [(1, .int 0), (0, .ref h)]) hx hb dX2_power_1 rfl hl (by decide) rfl (fun ls hl => ?_)
  refine lv_iconst (v := 0) hx hb dX2_power_2 (by decide) ?_
  refine lv_istore_n (lv' := [(2, .int 0), (1, .int 0), (0, .ref h)]) hx hb dX2_power_3 rfl hl (by decide) rfl (fun ls hl => ?_)
  have loop : ∀ (n : Nat) (k : Nat) (a : Int32) (hk : k + n = 8) (ha : a = l_sum (fun k => mf_seen g k * mf_seen g k) k), ∀ (H : Heap) (locs : List Loc), va_P D vwCl (MW cA cZ h as g im kp) H → va_D A (MW cA cZ h as g im kp) → va_S A s.heap H locs → ∀ ls : Array Slot, lv_has ls 3 [(1, .int a), (2, .int (nI k)), (0, .ref h)] → W p l e rm_X2_power s m args below meth c H locs 0 0 Q (F0 m 4 ls []) := by
    intro n
    induction n with
    | zero =>
      intro k a hk ha H locs hP hD hS ls hl
      obtain rfl : k = 8 := by omega
      refine lv_iload_n hx hb dX2_power_4 rfl (lv_at hl 1 rfl) ?_
      refine lv_bipush (v := 8) hx hb dX2_power_5 (by decide) ?_
      refine lv_icmp_ge (tgt := 30) hx hb dX2_power_7 (by decide) (fun c_1 => ?_) (fun c_1 => absurd (by decide) c_1)
      refine lv_iload_n hx hb dX2_power_30 rfl (lv_at hl 0 rfl) ?_
      exact hret _ _ _ _ _ hP (by rw [ha]; rfl) hS dX2_power_31
    | succ n ih =>
      intro k a hk ha H locs hP hD hS ls hl
      refine lv_iload_n hx hb dX2_power_4 rfl (lv_at hl 1 rfl) ?_
      refine lv_bipush (v := 8) hx hb dX2_power_5 (by decide) ?_
      refine lv_icmp_ge (tgt := 30) hx hb dX2_power_7 (by decide) (fun c_2 => absurd c_2 (nI_ge (a := k) (b := 8) (by omega) (by decide))) (fun c_2 => ?_)
      refine lv_iload_n hx hb dX2_power_10 rfl (lv_at hl 0 rfl) ?_
      refine lv_aload_n hx hb dX2_power_11 rfl (lv_at hl 2 rfl) ?_
      refine lv_iload_n hx hb dX2_power_12 rfl (lv_at hl 1 rfl) ?_
      refine bm_i [] (MW cA cZ h as g im kp) [] [.int (nI k)] [.int a] ⟨hx, hb, hml, hown, hts⟩ (c_X2_seen l D cA cZ cR h as g im kp k (by omega) hd) (cwV 1 hts gX2_power_X2_seen rfl rfl rfl (by decide +kernel) ⟨Nat.le_of_ble_eq_true rfl, Nat.le_of_ble_eq_true rfl⟩) hE hP hD hS hA MW_adr 0 2 rfl rfl rfl hl.1 rfl (Nat.le_of_ble_eq_true rfl) dX2_power_13 ⟨Nat.zero_le _, Nat.zero_le _⟩ (fun H locs hP hD hS => ?_)
      have hP : va_P D vwCl (MW cA cZ h as g im kp) H := hP
      have hD : va_D A (MW cA cZ h as g im kp) := hD
      refine lv_aload_n hx hb dX2_power_16 rfl (lv_at hl 2 rfl) ?_
      refine lv_iload_n hx hb dX2_power_17 rfl (lv_at hl 1 rfl) ?_
      refine bm_i [] (MW cA cZ h as g im kp) [] [.int (nI k)] [.int (mf_seen g k), .int a] ⟨hx, hb, hml, hown, hts⟩ (c_X2_seen l D cA cZ cR h as g im kp k (by omega) hd) (cwV 1 hts gX2_power_X2_seen rfl rfl rfl (by decide +kernel) ⟨Nat.le_of_ble_eq_true rfl, Nat.le_of_ble_eq_true rfl⟩) hE hP hD hS hA MW_adr 0 2 rfl rfl rfl hl.1 rfl (Nat.le_of_ble_eq_true rfl) dX2_power_18 ⟨Nat.zero_le _, Nat.zero_le _⟩ (fun H locs hP hD hS => ?_)
      have hP : va_P D vwCl (MW cA cZ h as g im kp) H := hP
      have hD : va_D A (MW cA cZ h as g im kp) := hD
      refine lv_imul hx hb dX2_power_21 ?_
      refine lv_iadd hx hb dX2_power_22 ?_
      refine lv_istore_n (lv' := [(1, .int (a + ((mf_seen g k) * (mf_seen g k)))), (2, .int (nI k)), (0, .ref h)]) hx hb dX2_power_23 rfl hl (by decide) rfl (fun ls hl => ?_)
      refine lv_iinc (v := nI (k + 1)) (lv' := [(2, .int (nI (k + 1))), (1, .int (a + ((mf_seen g k) * (mf_seen g k)))), (0, .ref h)]) hx hb dX2_power_24 hl (k := 1) rfl (nI_1 k) (by decide) rfl (fun ls hl => ?_)
      refine lv_goto (tgt := 4) hx hb dX2_power_27 (by decide) ?_
      exact ih (k + 1) _ (by omega) (by rw [ha]; rfl) H locs hP hD hS ls (lv_sub hl [1, 0, 2] rfl)
  exact loop 8 0 0 rfl rfl H locs hP hD hS ls (lv_sub hl [1, 0, 2] rfl)

abbrev rm_X2_loud : Room := { frames := 1, cells := 0, slots := 0, locals := 20 }
theorem iw_X2_loud_X2 : ∀ w ∈ wsX20, w ∈ wsX2_loud := by decide +kernel
set_option maxRecDepth 100000 in
set_option maxHeartbeats 4000000 in
theorem c_X2_loud (l : Launch) (D : va_G) (cA cZ cR : ClassId) (h : Nat) (as : Nat → Nat) (g im kp : Fn) : BMi l D cA cZ cR yX2_loud wsX2_loud rm_X2_loud [.ref h] (MW cA cZ h as g im kp) (MW cA cZ h as g im kp) (mf_loud g) := by
  refine bm_open (maxL := 3) (by decide) rfl rfl rfl (Nat.le_of_ble_eq_true rfl) ?_
  intro p e s m args below meth c A Q hx hb hml hts hown hE hP hD hA hS hret ls hl
  have hown : s.vm.findClass RX2 = some m.cls := hown
  have hl : lv_has ls 3 [(0, .ref h)] := hl
  obtain ⟨H, locs, eH, eL⟩ : ∃ (H : Heap) (locs : List Loc), H = s.heap ∧ locs = [] := ⟨_, _, rfl, rfl⟩
  rw [← eH, ← eL]
  rw [← eH] at hP
  have hS : va_S A s.heap H locs := by rw [eH, eL]; exact hS
  clear eH eL
  refine lv_iconst (v := 0) hx hb dX2_loud_0 (by decide) ?_
  refine lv_istore_n (lv' := [(1, .int 0), (0, .ref h)]) hx hb dX2_loud_1 rfl hl (by decide) rfl (fun ls hl => ?_)
  refine lv_iconst (v := 0) hx hb dX2_loud_2 (by decide) ?_
  refine lv_istore_n (lv' := [(2, .int 0), (1, .int 0), (0, .ref h)]) hx hb dX2_loud_3 rfl hl (by decide) rfl (fun ls hl => ?_)
  have loop : ∀ (n : Nat) (k : Nat) (a : Int32) (hk : k + n = 24) (ha : a = mf_mx (fun i => g (33 + i)) k), ∀ (H : Heap) (locs : List Loc), va_P D vwCl (MW cA cZ h as g im kp) H → va_D A (MW cA cZ h as g im kp) → va_S A s.heap H locs → ∀ ls : Array Slot, lv_has ls 3 [(1, .int a), (2, .int (nI k)), (0, .ref h)] → W p l e rm_X2_loud s m args below meth c H locs 0 0 Q (F0 m 4 ls []) := by
    intro n
    induction n with
    | zero =>
      intro k a hk ha H locs hP hD hS ls hl
      obtain rfl : k = 24 := by omega
      refine lv_iload_n hx hb dX2_loud_4 rfl (lv_at hl 1 rfl) ?_
      refine lv_bipush (v := 24) hx hb dX2_loud_5 (by decide) ?_
      refine lv_icmp_ge (tgt := 49) hx hb dX2_loud_7 (by decide) (fun c_1 => ?_) (fun c_1 => absurd (by decide) c_1)
      refine lv_iload_n hx hb dX2_loud_49 rfl (lv_at hl 0 rfl) ?_
      exact hret _ _ _ _ _ hP (by rw [ha]; rfl) hS dX2_loud_50
    | succ n ih =>
      intro k a hk ha H locs hP hD hS ls hl
      refine lv_iload_n hx hb dX2_loud_4 rfl (lv_at hl 1 rfl) ?_
      refine lv_bipush (v := 24) hx hb dX2_loud_5 (by decide) ?_
      refine lv_icmp_ge (tgt := 49) hx hb dX2_loud_7 (by decide) (fun c_2 => absurd c_2 (nI_ge (a := k) (b := 24) (by omega) (by decide))) (fun c_2 => ?_)
      refine lv_aload_n hx hb dX2_loud_10 rfl (lv_at hl 2 rfl) ?_
      refine va_get (D := D) (ci := 2) (v := .ref (as 0)) (C := RX2) (T := TX2) (N := 3) hx hb hts iw_X2_loud_X2 hown hE.1 hP 0 rfl rfl 0 (by decide) (hts (.fieldLink RX2 7 "EchoTapsModel" "state" "[I") (by decide +kernel)) (fun _ h9 => h9) rfl dX2_loud_11 ?_
      refine lv_bipush (v := 33) hx hb dX2_loud_14 (by decide) ?_
      refine lv_iload_n hx hb dX2_loud_16 rfl (lv_at hl 1 rfl) ?_
      refine lv_iadd hx hb dX2_loud_17 ?_
      refine lv_ri (nI_add 33 k) ?_
      refine va_iald hx hb hE.1 hP 1 0 rfl rfl (vp_in_nI (by omega) (by decide)) dX2_loud_18 ?_
      refine lv_ri (congrArg g (nI_clamp (n := 33 + k) (by omega))) ?_
      refine sm_i [.int (g (33 + k))] [] ⟨hx, hb, hml, hown, hts⟩ (c_X2_size l (g (33 + k))) (va_cwS 1 hts gX2_loud_X2_size rfl rfl rfl (by decide +kernel) ⟨Nat.le_of_ble_eq_true rfl, Nat.le_of_ble_eq_true rfl⟩) rfl hl.1 rfl (Nat.le_of_ble_eq_true rfl) dX2_loud_19 ⟨Nat.zero_le _, Nat.zero_le _⟩ ?_
      refine lv_iload_n hx hb dX2_loud_22 rfl (lv_at hl 0 rfl) ?_
      have j42 : ∀ (v : Int32) (ev : v = if pf_sz (g (33 + k)) ≤ a then a else pf_sz (g (33 + k))), W p l e rm_X2_loud s m args below meth c H locs 0 0 Q (F0 m 42 ls [.int v]) := by
        intro v ev
        refine lv_istore_n (lv' := [(1, .int v), (2, .int (nI k)), (0, .ref h)]) hx hb dX2_loud_42 rfl hl (by decide) rfl (fun ls hl => ?_)
        refine lv_iinc (v := nI (k + 1)) (lv' := [(2, .int (nI (k + 1))), (1, .int v), (0, .ref h)]) hx hb dX2_loud_43 hl (k := 1) rfl (nI_1 k) (by decide) rfl (fun ls hl => ?_)
        refine lv_goto (tgt := 4) hx hb dX2_loud_46 (by decide) ?_
        exact ih (k + 1) _ (by omega) (by rw [mf_mx, ← ha, ev]) H locs hP hD hS ls (lv_sub hl [1, 0, 2] rfl)
      refine lv_icmp_le (tgt := 41) hx hb dX2_loud_23 (by decide) (fun c_3 => ?_) (fun c_3 => ?_)
      · have c_3 : (pf_sz (g (33 + k))) ≤ a := c_3
        refine lv_iload_n hx hb dX2_loud_41 rfl (lv_at hl 0 rfl) ?_
        exact j42 _ (if_pos c_3).symm
      · have c_3 : ¬ (pf_sz (g (33 + k))) ≤ a := c_3
        refine lv_aload_n hx hb dX2_loud_26 rfl (lv_at hl 2 rfl) ?_
        refine va_get (D := D) (ci := 2) (v := .ref (as 0)) (C := RX2) (T := TX2) (N := 3) hx hb hts iw_X2_loud_X2 hown hE.1 hP 0 rfl rfl 0 (by decide) (hts (.fieldLink RX2 7 "EchoTapsModel" "state" "[I") (by decide +kernel)) (fun _ h9 => h9) rfl dX2_loud_27 ?_
        refine lv_bipush (v := 33) hx hb dX2_loud_30 (by decide) ?_
        refine lv_iload_n hx hb dX2_loud_32 rfl (lv_at hl 1 rfl) ?_
        refine lv_iadd hx hb dX2_loud_33 ?_
        refine lv_ri (nI_add 33 k) ?_
        refine va_iald hx hb hE.1 hP 1 0 rfl rfl (vp_in_nI (by omega) (by decide)) dX2_loud_34 ?_
        refine lv_ri (congrArg g (nI_clamp (n := 33 + k) (by omega))) ?_
        refine sm_i [.int (g (33 + k))] [] ⟨hx, hb, hml, hown, hts⟩ (c_X2_size l (g (33 + k))) (va_cwS 1 hts gX2_loud_X2_size rfl rfl rfl (by decide +kernel) ⟨Nat.le_of_ble_eq_true rfl, Nat.le_of_ble_eq_true rfl⟩) rfl hl.1 rfl (Nat.le_of_ble_eq_true rfl) dX2_loud_35 ⟨Nat.zero_le _, Nat.zero_le _⟩ ?_
        refine lv_goto (tgt := 42) hx hb dX2_loud_38 (by decide) ?_
        exact j42 _ (if_neg c_3).symm
  exact loop 24 0 0 rfl rfl H locs hP hD hS ls (lv_sub hl [1, 0, 2] rfl)

abbrev rm_X2_likenessOf : Room := { frames := 0, cells := 0, slots := 0, locals := 0 }
theorem iw_X2_likenessOf_X2 : ∀ w ∈ wsX20, w ∈ wsX2_likenessOf := by decide +kernel
set_option maxRecDepth 100000 in
set_option maxHeartbeats 4000000 in
theorem c_X2_likenessOf (l : Launch) (D : va_G) (cA cZ cR : ClassId) (h : Nat) (as : Nat → Nat) (g im kp : Fn) (d : Nat) (hd15 : d ≤ 15) : BMi l D cA cZ cR yX2_likenessOf wsX2_likenessOf rm_X2_likenessOf [.ref h, .int (nI d)] (MW cA cZ h as g im kp) (MW cA cZ h as g im kp) (mf_like g d) := by
  refine bm_open (maxL := 4) (by decide) rfl rfl rfl (Nat.le_of_ble_eq_true rfl) ?_
  intro p e s m args below meth c A Q hx hb hml hts hown hE hP hD hA hS hret ls hl
  have hown : s.vm.findClass RX2 = some m.cls := hown
  have hl : lv_has ls 4 [(0, .ref h), (1, .int (nI d))] := hl
  obtain ⟨H, locs, eH, eL⟩ : ∃ (H : Heap) (locs : List Loc), H = s.heap ∧ locs = [] := ⟨_, _, rfl, rfl⟩
  rw [← eH, ← eL]
  rw [← eH] at hP
  have hS : va_S A s.heap H locs := by rw [eH, eL]; exact hS
  clear eH eL
  refine lv_iconst (v := 0) hx hb dX2_likenessOf_0 (by decide) ?_
  refine lv_istore_n (lv' := [(2, .int 0), (0, .ref h), (1, .int (nI d))]) hx hb dX2_likenessOf_1 rfl hl (by decide) rfl (fun ls hl => ?_)
  refine lv_iconst (v := 0) hx hb dX2_likenessOf_2 (by decide) ?_
  refine lv_istore_n (lv' := [(3, .int 0), (2, .int 0), (0, .ref h), (1, .int (nI d))]) hx hb dX2_likenessOf_3 rfl hl (by decide) rfl (fun ls hl => ?_)
  have loop : ∀ (n : Nat) (k : Nat) (a : Int32) (hk : k + n = 24) (ha : a = l_sum (fun i => g (73 + i) * g (33 + i + d)) k), ∀ (H : Heap) (locs : List Loc), va_P D vwCl (MW cA cZ h as g im kp) H → va_D A (MW cA cZ h as g im kp) → va_S A s.heap H locs → ∀ ls : Array Slot, lv_has ls 4 [(2, .int a), (3, .int (nI k)), (1, .int (nI d)), (0, .ref h)] → W p l e rm_X2_likenessOf s m args below meth c H locs 0 0 Q (F0 m 4 ls []) := by
    intro n
    induction n with
    | zero =>
      intro k a hk ha H locs hP hD hS ls hl
      obtain rfl : k = 24 := by omega
      refine lv_iload_n hx hb dX2_likenessOf_4 rfl (lv_at hl 1 rfl) ?_
      refine lv_bipush (v := 24) hx hb dX2_likenessOf_5 (by decide) ?_
      refine lv_icmp_ge (tgt := 40) hx hb dX2_likenessOf_7 (by decide) (fun c_1 => ?_) (fun c_1 => absurd (by decide) c_1)
      refine lv_iload_n hx hb dX2_likenessOf_40 rfl (lv_at hl 0 rfl) ?_
      exact hret _ _ _ _ _ hP (by rw [ha]; rfl) hS dX2_likenessOf_41
    | succ n ih =>
      intro k a hk ha H locs hP hD hS ls hl
      refine lv_iload_n hx hb dX2_likenessOf_4 rfl (lv_at hl 1 rfl) ?_
      refine lv_bipush (v := 24) hx hb dX2_likenessOf_5 (by decide) ?_
      refine lv_icmp_ge (tgt := 40) hx hb dX2_likenessOf_7 (by decide) (fun c_2 => absurd c_2 (nI_ge (a := k) (b := 24) (by omega) (by decide))) (fun c_2 => ?_)
      refine lv_iload_n hx hb dX2_likenessOf_10 rfl (lv_at hl 0 rfl) ?_
      refine lv_aload_n hx hb dX2_likenessOf_11 rfl (lv_at hl 3 rfl) ?_
      refine va_get (D := D) (ci := 2) (v := .ref (as 0)) (C := RX2) (T := TX2) (N := 3) hx hb hts iw_X2_likenessOf_X2 hown hE.1 hP 0 rfl rfl 0 (by decide) (hts (.fieldLink RX2 7 "EchoTapsModel" "state" "[I") (by decide +kernel)) (fun _ h9 => h9) rfl dX2_likenessOf_12 ?_
      refine lv_bipush (v := 73) hx hb dX2_likenessOf_15 (by decide) ?_
      refine lv_iload_n hx hb dX2_likenessOf_17 rfl (lv_at hl 1 rfl) ?_
      refine lv_iadd hx hb dX2_likenessOf_18 ?_
      refine lv_ri (nI_add 73 k) ?_
      refine va_iald hx hb hE.1 hP 1 0 rfl rfl (vp_in_nI (by omega) (by decide)) dX2_likenessOf_19 ?_
      refine lv_ri (congrArg g (nI_clamp (n := 73 + k) (by omega))) ?_
      refine lv_aload_n hx hb dX2_likenessOf_20 rfl (lv_at hl 3 rfl) ?_
      refine va_get (D := D) (ci := 2) (v := .ref (as 0)) (C := RX2) (T := TX2) (N := 3) hx hb hts iw_X2_likenessOf_X2 hown hE.1 hP 0 rfl rfl 0 (by decide) (hts (.fieldLink RX2 7 "EchoTapsModel" "state" "[I") (by decide +kernel)) (fun _ h9 => h9) rfl dX2_likenessOf_21 ?_
      refine lv_bipush (v := 33) hx hb dX2_likenessOf_24 (by decide) ?_
      refine lv_iload_n hx hb dX2_likenessOf_26 rfl (lv_at hl 1 rfl) ?_
      refine lv_iadd hx hb dX2_likenessOf_27 ?_
      refine lv_ri (nI_add 33 k) ?_
      refine lv_iload_n hx hb dX2_likenessOf_28 rfl (lv_at hl 2 rfl) ?_
      refine lv_iadd hx hb dX2_likenessOf_29 ?_
      refine lv_ri (nI_add (33 + k) d) ?_
      refine va_iald hx hb hE.1 hP 1 0 rfl rfl (vp_in_nI (by omega) (by decide)) dX2_likenessOf_30 ?_
      refine lv_ri (congrArg g (nI_clamp (n := 33 + k + d) (by omega))) ?_
      refine lv_imul hx hb dX2_likenessOf_31 ?_
      refine lv_iadd hx hb dX2_likenessOf_32 ?_
      refine lv_istore_n (lv' := [(2, .int (a + ((g (73 + k)) * (g (33 + k + d))))), (3, .int (nI k)), (1, .int (nI d)), (0, .ref h)]) hx hb dX2_likenessOf_33 rfl hl (by decide) rfl (fun ls hl => ?_)
      refine lv_iinc (v := nI (k + 1)) (lv' := [(3, .int (nI (k + 1))), (2, .int (a + ((g (73 + k)) * (g (33 + k + d))))), (1, .int (nI d)), (0, .ref h)]) hx hb dX2_likenessOf_34 hl (k := 1) rfl (nI_1 k) (by decide) rfl (fun ls hl => ?_)
      refine lv_goto (tgt := 4) hx hb dX2_likenessOf_37 (by decide) ?_
      exact ih (k + 1) _ (by omega) (by rw [ha]; rfl) H locs hP hD hS ls (lv_sub hl [1, 0, 2, 3] rfl)
  exact loop 24 0 0 rfl rfl H locs hP hD hS ls (lv_sub hl [1, 0, 3, 2] rfl)

abbrev rm_X2_squares : Room := { frames := 0, cells := 0, slots := 0, locals := 0 }
theorem iw_X2_squares_X2 : ∀ w ∈ wsX20, w ∈ wsX2_squares := by decide +kernel
set_option maxRecDepth 100000 in
set_option maxHeartbeats 4000000 in
theorem c_X2_squares (l : Launch) (D : va_G) (cA cZ cR : ClassId) (h : Nat) (as : Nat → Nat) (g im kp : Fn) (r : Nat) (hr5 : r ≤ 500) : BMi l D cA cZ cR yX2_squares wsX2_squares rm_X2_squares [.ref h, .int (nI r)] (MW cA cZ h as g im kp) (MW cA cZ h as g im kp) (mf_sq g r) := by
  refine bm_open (maxL := 4) (by decide) rfl rfl rfl (Nat.le_of_ble_eq_true rfl) ?_
  intro p e s m args below meth c A Q hx hb hml hts hown hE hP hD hA hS hret ls hl
  have hown : s.vm.findClass RX2 = some m.cls := hown
  have hl : lv_has ls 4 [(0, .ref h), (1, .int (nI r))] := hl
  obtain ⟨H, locs, eH, eL⟩ : ∃ (H : Heap) (locs : List Loc), H = s.heap ∧ locs = [] := ⟨_, _, rfl, rfl⟩
  rw [← eH, ← eL]
  rw [← eH] at hP
  have hS : va_S A s.heap H locs := by rw [eH, eL]; exact hS
  clear eH eL
  refine lv_iconst (v := 0) hx hb dX2_squares_0 (by decide) ?_
  refine lv_istore_n (lv' := [(2, .int 0), (0, .ref h), (1, .int (nI r))]) hx hb dX2_squares_1 rfl hl (by decide) rfl (fun ls hl => ?_)
  refine lv_iconst (v := 0) hx hb dX2_squares_2 (by decide) ?_
  refine lv_istore_n (lv' := [(3, .int 0), (2, .int 0), (0, .ref h), (1, .int (nI r))]) hx hb dX2_squares_3 rfl hl (by decide) rfl (fun ls hl => ?_)
  have loop : ∀ (n : Nat) (k : Nat) (a : Int32) (hk : k + n = 32) (ha : a = l_sum (fun i => g (r + i) * g (r + i)) k), ∀ (H : Heap) (locs : List Loc), va_P D vwCl (MW cA cZ h as g im kp) H → va_D A (MW cA cZ h as g im kp) → va_S A s.heap H locs → ∀ ls : Array Slot, lv_has ls 4 [(2, .int a), (3, .int (nI k)), (1, .int (nI r)), (0, .ref h)] → W p l e rm_X2_squares s m args below meth c H locs 0 0 Q (F0 m 4 ls []) := by
    intro n
    induction n with
    | zero =>
      intro k a hk ha H locs hP hD hS ls hl
      obtain rfl : k = 32 := by omega
      refine lv_iload_n hx hb dX2_squares_4 rfl (lv_at hl 1 rfl) ?_
      refine lv_bipush (v := 32) hx hb dX2_squares_5 (by decide) ?_
      refine lv_icmp_ge (tgt := 36) hx hb dX2_squares_7 (by decide) (fun c_1 => ?_) (fun c_1 => absurd (by decide) c_1)
      refine lv_iload_n hx hb dX2_squares_36 rfl (lv_at hl 0 rfl) ?_
      exact hret _ _ _ _ _ hP (by rw [ha]; rfl) hS dX2_squares_37
    | succ n ih =>
      intro k a hk ha H locs hP hD hS ls hl
      refine lv_iload_n hx hb dX2_squares_4 rfl (lv_at hl 1 rfl) ?_
      refine lv_bipush (v := 32) hx hb dX2_squares_5 (by decide) ?_
      refine lv_icmp_ge (tgt := 36) hx hb dX2_squares_7 (by decide) (fun c_2 => absurd c_2 (nI_ge (a := k) (b := 32) (by omega) (by decide))) (fun c_2 => ?_)
      refine lv_iload_n hx hb dX2_squares_10 rfl (lv_at hl 0 rfl) ?_
      refine lv_aload_n hx hb dX2_squares_11 rfl (lv_at hl 3 rfl) ?_
      refine va_get (D := D) (ci := 2) (v := .ref (as 0)) (C := RX2) (T := TX2) (N := 3) hx hb hts iw_X2_squares_X2 hown hE.1 hP 0 rfl rfl 0 (by decide) (hts (.fieldLink RX2 7 "EchoTapsModel" "state" "[I") (by decide +kernel)) (fun _ h9 => h9) rfl dX2_squares_12 ?_
      refine lv_iload_n hx hb dX2_squares_15 rfl (lv_at hl 2 rfl) ?_
      refine lv_iload_n hx hb dX2_squares_16 rfl (lv_at hl 1 rfl) ?_
      refine lv_iadd hx hb dX2_squares_17 ?_
      refine lv_ri (nI_add r k) ?_
      refine va_iald hx hb hE.1 hP 1 0 rfl rfl (vp_in_nI (by omega) (by decide)) dX2_squares_18 ?_
      refine lv_ri (congrArg g (nI_clamp (n := r + k) (by omega))) ?_
      refine lv_aload_n hx hb dX2_squares_19 rfl (lv_at hl 3 rfl) ?_
      refine va_get (D := D) (ci := 2) (v := .ref (as 0)) (C := RX2) (T := TX2) (N := 3) hx hb hts iw_X2_squares_X2 hown hE.1 hP 0 rfl rfl 0 (by decide) (hts (.fieldLink RX2 7 "EchoTapsModel" "state" "[I") (by decide +kernel)) (fun _ h9 => h9) rfl dX2_squares_20 ?_
      refine lv_iload_n hx hb dX2_squares_23 rfl (lv_at hl 2 rfl) ?_
      refine lv_iload_n hx hb dX2_squares_24 rfl (lv_at hl 1 rfl) ?_
      refine lv_iadd hx hb dX2_squares_25 ?_
      refine lv_ri (nI_add r k) ?_
      refine va_iald hx hb hE.1 hP 1 0 rfl rfl (vp_in_nI (by omega) (by decide)) dX2_squares_26 ?_
      refine lv_ri (congrArg g (nI_clamp (n := r + k) (by omega))) ?_
      refine lv_imul hx hb dX2_squares_27 ?_
      refine lv_iadd hx hb dX2_squares_28 ?_
      refine lv_istore_n (lv' := [(2, .int (a + ((g (r + k)) * (g (r + k))))), (3, .int (nI k)), (1, .int (nI r)), (0, .ref h)]) hx hb dX2_squares_29 rfl hl (by decide) rfl (fun ls hl => ?_)
      refine lv_iinc (v := nI (k + 1)) (lv' := [(3, .int (nI (k + 1))), (2, .int (a + ((g (r + k)) * (g (r + k))))), (1, .int (nI r)), (0, .ref h)]) hx hb dX2_squares_30 hl (k := 1) rfl (nI_1 k) (by decide) rfl (fun ls hl => ?_)
      refine lv_goto (tgt := 4) hx hb dX2_squares_33 (by decide) ?_
      exact ih (k + 1) _ (by omega) (by rw [ha]; rfl) H locs hP hD hS ls (lv_sub hl [1, 0, 2, 3] rfl)
  exact loop 32 0 0 rfl rfl H locs hP hD hS ls (lv_sub hl [1, 0, 3, 2] rfl)

abbrev rm_X2_tapSizes : Room := { frames := 1, cells := 0, slots := 0, locals := 20 }
theorem iw_X2_tapSizes_X2 : ∀ w ∈ wsX20, w ∈ wsX2_tapSizes := by decide +kernel
set_option maxRecDepth 100000 in
set_option maxHeartbeats 4000000 in
theorem c_X2_tapSizes (l : Launch) (D : va_G) (cA cZ cR : ClassId) (h : Nat) (as : Nat → Nat) (g im kp : Fn) : BMi l D cA cZ cR yX2_tapSizes wsX2_tapSizes rm_X2_tapSizes [.ref h] (MW cA cZ h as g im kp) (MW cA cZ h as g im kp) (mf_tsz g) := by
  refine bm_open (maxL := 3) (by decide) rfl rfl rfl (Nat.le_of_ble_eq_true rfl) ?_
  intro p e s m args below meth c A Q hx hb hml hts hown hE hP hD hA hS hret ls hl
  have hown : s.vm.findClass RX2 = some m.cls := hown
  have hl : lv_has ls 3 [(0, .ref h)] := hl
  obtain ⟨H, locs, eH, eL⟩ : ∃ (H : Heap) (locs : List Loc), H = s.heap ∧ locs = [] := ⟨_, _, rfl, rfl⟩
  rw [← eH, ← eL]
  rw [← eH] at hP
  have hS : va_S A s.heap H locs := by rw [eH, eL]; exact hS
  clear eH eL
  refine lv_iconst (v := 0) hx hb dX2_tapSizes_0 (by decide) ?_
  refine lv_istore_n (lv' := [(1, .int 0), (0, .ref h)]) hx hb dX2_tapSizes_1 rfl hl (by decide) rfl (fun ls hl => ?_)
  refine lv_iconst (v := 0) hx hb dX2_tapSizes_2 (by decide) ?_
  refine lv_istore_n (lv' := [(2, .int 0), (1, .int 0), (0, .ref h)]) hx hb dX2_tapSizes_3 rfl hl (by decide) rfl (fun ls hl => ?_)
  have loop : ∀ (n : Nat) (k : Nat) (a : Int32) (hk : k + n = 8) (ha : a = l_sum (fun k => pf_sz (g (5 + k))) k), ∀ (H : Heap) (locs : List Loc), va_P D vwCl (MW cA cZ h as g im kp) H → va_D A (MW cA cZ h as g im kp) → va_S A s.heap H locs → ∀ ls : Array Slot, lv_has ls 3 [(1, .int a), (2, .int (nI k)), (0, .ref h)] → W p l e rm_X2_tapSizes s m args below meth c H locs 0 0 Q (F0 m 4 ls []) := by
    intro n
    induction n with
    | zero =>
      intro k a hk ha H locs hP hD hS ls hl
      obtain rfl : k = 8 := by omega
      refine lv_iload_n hx hb dX2_tapSizes_4 rfl (lv_at hl 1 rfl) ?_
      refine lv_bipush (v := 8) hx hb dX2_tapSizes_5 (by decide) ?_
      refine lv_icmp_ge (tgt := 30) hx hb dX2_tapSizes_7 (by decide) (fun c_1 => ?_) (fun c_1 => absurd (by decide) c_1)
      refine lv_iload_n hx hb dX2_tapSizes_30 rfl (lv_at hl 0 rfl) ?_
      exact hret _ _ _ _ _ hP (by rw [ha]; rfl) hS dX2_tapSizes_31
    | succ n ih =>
      intro k a hk ha H locs hP hD hS ls hl
      refine lv_iload_n hx hb dX2_tapSizes_4 rfl (lv_at hl 1 rfl) ?_
      refine lv_bipush (v := 8) hx hb dX2_tapSizes_5 (by decide) ?_
      refine lv_icmp_ge (tgt := 30) hx hb dX2_tapSizes_7 (by decide) (fun c_2 => absurd c_2 (nI_ge (a := k) (b := 8) (by omega) (by decide))) (fun c_2 => ?_)
      refine lv_iload_n hx hb dX2_tapSizes_10 rfl (lv_at hl 0 rfl) ?_
      refine lv_aload_n hx hb dX2_tapSizes_11 rfl (lv_at hl 2 rfl) ?_
      refine va_get (D := D) (ci := 2) (v := .ref (as 0)) (C := RX2) (T := TX2) (N := 3) hx hb hts iw_X2_tapSizes_X2 hown hE.1 hP 0 rfl rfl 0 (by decide) (hts (.fieldLink RX2 7 "EchoTapsModel" "state" "[I") (by decide +kernel)) (fun _ h9 => h9) rfl dX2_tapSizes_12 ?_
      refine lv_iconst (v := 5) hx hb dX2_tapSizes_15 (by decide) ?_
      refine lv_iload_n hx hb dX2_tapSizes_16 rfl (lv_at hl 1 rfl) ?_
      refine lv_iadd hx hb dX2_tapSizes_17 ?_
      refine lv_ri (nI_add 5 k) ?_
      refine va_iald hx hb hE.1 hP 1 0 rfl rfl (vp_in_nI (by omega) (by decide)) dX2_tapSizes_18 ?_
      refine lv_ri (congrArg g (nI_clamp (n := 5 + k) (by omega))) ?_
      refine sm_i [.int (g (5 + k))] [.int a] ⟨hx, hb, hml, hown, hts⟩ (c_X2_size l (g (5 + k))) (va_cwS 1 hts gX2_tapSizes_X2_size rfl rfl rfl (by decide +kernel) ⟨Nat.le_of_ble_eq_true rfl, Nat.le_of_ble_eq_true rfl⟩) rfl hl.1 rfl (Nat.le_of_ble_eq_true rfl) dX2_tapSizes_19 ⟨Nat.zero_le _, Nat.zero_le _⟩ ?_
      refine lv_iadd hx hb dX2_tapSizes_22 ?_
      refine lv_istore_n (lv' := [(1, .int (a + (pf_sz (g (5 + k))))), (2, .int (nI k)), (0, .ref h)]) hx hb dX2_tapSizes_23 rfl hl (by decide) rfl (fun ls hl => ?_)
      refine lv_iinc (v := nI (k + 1)) (lv' := [(2, .int (nI (k + 1))), (1, .int (a + (pf_sz (g (5 + k))))), (0, .ref h)]) hx hb dX2_tapSizes_24 hl (k := 1) rfl (nI_1 k) (by decide) rfl (fun ls hl => ?_)
      refine lv_goto (tgt := 4) hx hb dX2_tapSizes_27 (by decide) ?_
      exact ih (k + 1) _ (by omega) (by rw [ha]; rfl) H locs hP hD hS ls (lv_sub hl [1, 0, 2] rfl)
  exact loop 8 0 0 rfl rfl H locs hP hD hS ls (lv_sub hl [1, 0, 2] rfl)

abbrev rm_X2_comesRound : Room := { frames := 0, cells := 0, slots := 0, locals := 0 }
theorem iw_X2_comesRound_X2 : ∀ w ∈ wsX20, w ∈ wsX2_comesRound := by decide +kernel
set_option maxRecDepth 100000 in
set_option maxHeartbeats 4000000 in
theorem c_X2_comesRound (l : Launch) (D : va_G) (cA cZ cR : ClassId) (h : Nat) (as : Nat → Nat) (g im kp : Fn) (pp : Nat) (hpp : pp ≤ 8) : BMi l D cA cZ cR yX2_comesRound wsX2_comesRound rm_X2_comesRound [.ref h, .int (nI pp)] (MW cA cZ h as g im kp) (MW cA cZ h as g im kp) (pf_b (mf_cr g pp)) := by
  refine bm_openZ (maxL := 4) (by decide) rfl rfl rfl (Nat.le_of_ble_eq_true rfl) (pf_b_z _) ?_
  intro p e s m args below meth c A Q hx hb hml hts hown hE hP hD hA hS hret ls hl
  have hown : s.vm.findClass RX2 = some m.cls := hown
  have hl : lv_has ls 4 [(0, .ref h), (1, .int (nI pp))] := hl
  obtain ⟨H, locs, eH, eL⟩ : ∃ (H : Heap) (locs : List Loc), H = s.heap ∧ locs = [] := ⟨_, _, rfl, rfl⟩
  rw [← eH, ← eL]
  rw [← eH] at hP
  have hS : va_S A s.heap H locs := by rw [eH, eL]; exact hS
  clear eH eL
  refine lv_iconst (v := 1) hx hb dX2_comesRound_0 (by decide) ?_
  refine lv_istore_n (lv' := [(2, .int 1), (0, .ref h), (1, .int (nI pp))]) hx hb dX2_comesRound_1 rfl hl (by decide) rfl (fun ls hl => ?_)
  refine lv_iconst (v := 0) hx hb dX2_comesRound_2 (by decide) ?_
  refine lv_istore_n (lv' := [(3, .int 0), (2, .int 1), (0, .ref h), (1, .int (nI pp))]) hx hb dX2_comesRound_3 rfl hl (by decide) rfl (fun ls hl => ?_)
  have loop : ∀ (n : Nat) (k : Nat) (a : Int32) (hk : k + n = 16 - pp) (ha : a = pf_b (pf_al (fun i => decide (g (33 + i) = g (33 + i + pp))) k)), ∀ (H : Heap) (locs : List Loc), va_P D vwCl (MW cA cZ h as g im kp) H → va_D A (MW cA cZ h as g im kp) → va_S A s.heap H locs → ∀ ls : Array Slot, lv_has ls 4 [(3, .int (nI k)), (2, .int a), (1, .int (nI pp)), (0, .ref h)] → W p l e rm_X2_comesRound s m args below meth c H locs 0 0 Q (F0 m 4 ls []) := by
    intro n
    induction n with
    | zero =>
      intro k a hk ha H locs hP hD hS ls hl
      obtain rfl : k = 16 - pp := by omega
      refine lv_iload_n hx hb dX2_comesRound_4 rfl (lv_at hl 0 rfl) ?_
      refine lv_iload_n hx hb dX2_comesRound_5 rfl (lv_at hl 2 rfl) ?_
      refine lv_iadd hx hb dX2_comesRound_6 ?_
      refine lv_ri (nI_add (16 - pp) pp) ?_
      refine lv_bipush (v := 16) hx hb dX2_comesRound_7 (by decide) ?_
      refine lv_icmp_ge (tgt := 51) hx hb dX2_comesRound_9 (by decide) (fun c_1 => ?_) (fun c_1 => absurd (by rw [show 16 - pp + pp = 16 by omega]; decide) c_1)
      refine lv_iload_n hx hb dX2_comesRound_51 rfl (lv_at hl 1 rfl) ?_
      exact hret _ _ _ _ _ hP ha hS dX2_comesRound_52
    | succ n ih =>
      intro k a hk ha H locs hP hD hS ls hl
      refine lv_iload_n hx hb dX2_comesRound_4 rfl (lv_at hl 0 rfl) ?_
      refine lv_iload_n hx hb dX2_comesRound_5 rfl (lv_at hl 2 rfl) ?_
      refine lv_iadd hx hb dX2_comesRound_6 ?_
      refine lv_ri (nI_add k pp) ?_
      refine lv_bipush (v := 16) hx hb dX2_comesRound_7 (by decide) ?_
      refine lv_icmp_ge (tgt := 51) hx hb dX2_comesRound_9 (by decide) (fun c_2 => absurd c_2 (nI_ge (a := k + pp) (b := 16) (by omega) (by decide))) (fun c_2 => ?_)
      refine lv_iload_n hx hb dX2_comesRound_12 rfl (lv_at hl 1 rfl) ?_
      have j44 : ∀ (v : Int32) (ev : v = pf_b (pf_al (fun i => decide (g (33 + i) = g (33 + i + pp))) (k + 1))), W p l e rm_X2_comesRound s m args below meth c H locs 0 0 Q (F0 m 44 ls [.int v]) := by
        intro v ev
        refine lv_istore_n (lv' := [(2, .int v), (3, .int (nI k)), (1, .int (nI pp)), (0, .ref h)]) hx hb dX2_comesRound_44 rfl hl (by decide) rfl (fun ls hl => ?_)
        refine lv_iinc (v := nI (k + 1)) (lv' := [(3, .int (nI (k + 1))), (2, .int v), (1, .int (nI pp)), (0, .ref h)]) hx hb dX2_comesRound_45 hl (k := 1) rfl (nI_1 k) (by decide) rfl (fun ls hl => ?_)
        refine lv_goto (tgt := 4) hx hb dX2_comesRound_48 (by decide) ?_
        exact ih (k + 1) _ (by omega) ev H locs hP hD hS ls (lv_sub hl [0, 1, 2, 3] rfl)
      refine lv_if_eq (tgt := 43) hx hb dX2_comesRound_13 (by decide) (fun c_3 => ?_) (fun c_3 => ?_)
      · have c_3 : a = 0 := c_3
        refine lv_iconst (v := 0) hx hb dX2_comesRound_43 (by decide) ?_
        have q : pf_al (fun i => decide (g (33 + i) = g (33 + i + pp))) k = false := pf_b0.mp (by rw [← ha]; exact c_3)
        exact j44 _ (by rw [pf_al, q]; rfl)
      · have c_3 : ¬ a = 0 := c_3
        refine lv_aload_n hx hb dX2_comesRound_16 rfl (lv_at hl 3 rfl) ?_
        refine va_get (D := D) (ci := 2) (v := .ref (as 0)) (C := RX2) (T := TX2) (N := 3) hx hb hts iw_X2_comesRound_X2 hown hE.1 hP 0 rfl rfl 0 (by decide) (hts (.fieldLink RX2 7 "EchoTapsModel" "state" "[I") (by decide +kernel)) (fun _ h9 => h9) rfl dX2_comesRound_17 ?_
        refine lv_bipush (v := 33) hx hb dX2_comesRound_20 (by decide) ?_
        refine lv_iload_n hx hb dX2_comesRound_22 rfl (lv_at hl 0 rfl) ?_
        refine lv_iadd hx hb dX2_comesRound_23 ?_
        refine lv_ri (nI_add 33 k) ?_
        refine va_iald hx hb hE.1 hP 1 0 rfl rfl (vp_in_nI (by omega) (by decide)) dX2_comesRound_24 ?_
        refine lv_ri (congrArg g (nI_clamp (n := 33 + k) (by omega))) ?_
        refine lv_aload_n hx hb dX2_comesRound_25 rfl (lv_at hl 3 rfl) ?_
        refine va_get (D := D) (ci := 2) (v := .ref (as 0)) (C := RX2) (T := TX2) (N := 3) hx hb hts iw_X2_comesRound_X2 hown hE.1 hP 0 rfl rfl 0 (by decide) (hts (.fieldLink RX2 7 "EchoTapsModel" "state" "[I") (by decide +kernel)) (fun _ h9 => h9) rfl dX2_comesRound_26 ?_
        refine lv_bipush (v := 33) hx hb dX2_comesRound_29 (by decide) ?_
        refine lv_iload_n hx hb dX2_comesRound_31 rfl (lv_at hl 0 rfl) ?_
        refine lv_iadd hx hb dX2_comesRound_32 ?_
        refine lv_ri (nI_add 33 k) ?_
        refine lv_iload_n hx hb dX2_comesRound_33 rfl (lv_at hl 2 rfl) ?_
        refine lv_iadd hx hb dX2_comesRound_34 ?_
        refine lv_ri (nI_add (33 + k) pp) ?_
        refine va_iald hx hb hE.1 hP 1 0 rfl rfl (vp_in_nI (by omega) (by decide)) dX2_comesRound_35 ?_
        refine lv_ri (congrArg g (nI_clamp (n := 33 + k + pp) (by omega))) ?_
        refine lv_icmp_ne (tgt := 43) hx hb dX2_comesRound_36 (by decide) (fun c_4 => ?_) (fun c_4 => ?_)
        · have c_4 : ¬ (g (33 + k)) = (g (33 + k + pp)) := c_4
          refine lv_iconst (v := 0) hx hb dX2_comesRound_43 (by decide) ?_
          exact j44 _ (by rw [pf_al, decide_eq_false c_4, Bool.and_false]; rfl)
        · have c_4 : (g (33 + k)) = (g (33 + k + pp)) := c_4
          refine lv_iconst (v := 1) hx hb dX2_comesRound_39 (by decide) ?_
          refine lv_goto (tgt := 44) hx hb dX2_comesRound_40 (by decide) ?_
          have q : pf_al (fun i => decide (g (33 + i) = g (33 + i + pp))) k = true := pf_bn (by rw [← ha]; exact c_3)
          exact j44 _ (by rw [pf_al, decide_eq_true c_4, q]; rfl)
  exact loop (16 - pp) 0 1 (Nat.zero_add _) rfl H locs hP hD hS ls (lv_sub hl [0, 1, 3, 2] rfl)

abbrev rm_X2_tone : Room := { frames := 1, cells := 0, slots := 0, locals := 23 }
theorem iw_X2_tone_X2 : ∀ w ∈ wsX20, w ∈ wsX2_tone := by decide +kernel
set_option maxRecDepth 100000 in
set_option maxHeartbeats 4000000 in
theorem c_X2_tone (l : Launch) (D : va_G) (cA cZ cR : ClassId) (h : Nat) (as : Nat → Nat) (g im kp : Fn) : BMi l D cA cZ cR yX2_tone wsX2_tone rm_X2_tone [.ref h] (MW cA cZ h as g im kp) (MW cA cZ h as g im kp) (nI (mf_tone g)) := by
  refine bm_open (maxL := 3) (by decide) rfl rfl rfl (Nat.le_of_ble_eq_true rfl) ?_
  intro p e s m args below meth c A Q hx hb hml hts hown hE hP hD hA hS hret ls hl
  have hown : s.vm.findClass RX2 = some m.cls := hown
  have hl : lv_has ls 3 [(0, .ref h)] := hl
  obtain ⟨H, locs, eH, eL⟩ : ∃ (H : Heap) (locs : List Loc), H = s.heap ∧ locs = [] := ⟨_, _, rfl, rfl⟩
  rw [← eH, ← eL]
  rw [← eH] at hP
  have hS : va_S A s.heap H locs := by rw [eH, eL]; exact hS
  clear eH eL
  refine lv_iconst (v := 0) hx hb dX2_tone_0 (by decide) ?_
  refine lv_istore_n (lv' := [(1, .int 0), (0, .ref h)]) hx hb dX2_tone_1 rfl hl (by decide) rfl (fun ls hl => ?_)
  refine lv_iconst (v := 0) hx hb dX2_tone_2 (by decide) ?_
  refine lv_istore_n (lv' := [(2, .int 0), (1, .int 0), (0, .ref h)]) hx hb dX2_tone_3 rfl hl (by decide) rfl (fun ls hl => ?_)
  have loop : ∀ (n : Nat) (k : Nat) (a : Int32) (hk : k + n = 16) (ha : a = pf_b (!(pf_al (fun i => decide (g (33 + i) = 0)) k))), ∀ (H : Heap) (locs : List Loc), va_P D vwCl (MW cA cZ h as g im kp) H → va_D A (MW cA cZ h as g im kp) → va_S A s.heap H locs → ∀ ls : Array Slot, lv_has ls 3 [(2, .int (nI k)), (1, .int a), (0, .ref h)] → W p l e rm_X2_tone s m args below meth c H locs 0 0 Q (F0 m 4 ls []) := by
    intro n
    induction n with
    | zero =>
      intro k a hk ha H locs hP hD hS ls hl
      obtain rfl : k = 16 := by omega
      refine lv_iload_n hx hb dX2_tone_4 rfl (lv_at hl 0 rfl) ?_
      refine lv_bipush (v := 16) hx hb dX2_tone_5 (by decide) ?_
      refine lv_icmp_ge (tgt := 38) hx hb dX2_tone_7 (by decide) (fun c_1 => ?_) (fun c_1 => absurd (by decide) c_1)
      refine lv_iload_n hx hb dX2_tone_38 rfl (lv_at hl 1 rfl) ?_
      refine lv_if_eq (tgt := 66) hx hb dX2_tone_39 (by decide) (fun c_2 => ?_) (fun c_2 => ?_)
      · have c_2 : a = 0 := c_2
        have hs : mf_sil g = true := by have q := pf_b0.mp (ha ▸ c_2); rw [Bool.not_eq_false'] at q; exact q
        refine lv_iconst (v := 0) hx hb dX2_tone_66 (by decide) ?_
        exact hret _ _ _ _ _ hP (by rw [mf_tone, hs]; rfl) hS dX2_tone_67
      · have c_2 : ¬ a = 0 := c_2
        have hs : mf_sil g = false := by have q := pf_bn (ha ▸ c_2); rw [Bool.not_eq_true'] at q; exact q
        refine lv_iconst (v := 1) hx hb dX2_tone_42 (by decide) ?_
        refine lv_istore_n (lv' := [(2, .int 1), (1, .int a), (0, .ref h)]) hx hb dX2_tone_43 rfl hl (by decide) rfl (fun ls hl => ?_)
        have loop2 : ∀ (n : Nat) (k : Nat) (hk2 : k + n = 9) (hb2 : pf_ft (mf_cr g) n k = pf_ft (mf_cr g) 8 1), ∀ (H : Heap) (locs : List Loc), va_P D vwCl (MW cA cZ h as g im kp) H → va_D A (MW cA cZ h as g im kp) → va_S A s.heap H locs → ∀ ls : Array Slot, lv_has ls 3 [(2, .int (nI k)), (0, .ref h)] → W p l e rm_X2_tone s m args below meth c H locs 0 0 Q (F0 m 44 ls []) := by
          intro n
          induction n with
          | zero =>
            intro k hk2 hb2 H locs hP hD hS ls hl
            obtain rfl : k = 9 := by omega
            refine lv_iload_n hx hb dX2_tone_44 rfl (lv_at hl 0 rfl) ?_
            refine lv_bipush (v := 8) hx hb dX2_tone_45 (by decide) ?_
            refine lv_icmp_gt (tgt := 66) hx hb dX2_tone_47 (by decide) (fun c_3 => ?_) (fun c_3 => absurd (by decide) c_3)
            refine lv_iconst (v := 0) hx hb dX2_tone_66 (by decide) ?_
            exact hret _ _ _ _ _ hP (by rw [mf_tone, hs, ← hb2]; rfl) hS dX2_tone_67
          | succ n ih =>
            intro k hk2 hb2 H locs hP hD hS ls hl
            refine lv_iload_n hx hb dX2_tone_44 rfl (lv_at hl 0 rfl) ?_
            refine lv_bipush (v := 8) hx hb dX2_tone_45 (by decide) ?_
            refine lv_icmp_gt (tgt := 66) hx hb dX2_tone_47 (by decide) (fun c_4 => absurd c_4 (nI_nlt (a := 8) (b := k) (by omega) (by decide))) (fun c_4 => ?_)
            refine lv_aload_n hx hb dX2_tone_50 rfl (lv_at hl 1 rfl) ?_
            refine lv_iload_n hx hb dX2_tone_51 rfl (lv_at hl 0 rfl) ?_
            refine bm_i [] (MW cA cZ h as g im kp) [] [.int (nI k)] [] ⟨hx, hb, hml, hown, hts⟩ (c_X2_comesRound l D cA cZ cR h as g im kp k (by omega)) (cwV 1 hts gX2_tone_X2_comesRound rfl rfl rfl (by decide +kernel) ⟨Nat.le_of_ble_eq_true rfl, Nat.le_of_ble_eq_true rfl⟩) hE hP hD hS hA MW_adr 0 2 rfl rfl rfl hl.1 rfl (Nat.le_of_ble_eq_true rfl) dX2_tone_52 ⟨Nat.zero_le _, Nat.zero_le _⟩ (fun H locs hP hD hS => ?_)
            have hP : va_P D vwCl (MW cA cZ h as g im kp) H := hP
            have hD : va_D A (MW cA cZ h as g im kp) := hD
            refine lv_if_eq (tgt := 60) hx hb dX2_tone_55 (by decide) (fun c_5 => ?_) (fun c_5 => ?_)
            · have c_5 : (pf_b (mf_cr g k)) = 0 := c_5
              refine lv_iinc (v := nI (k + 1)) (lv' := [(2, .int (nI (k + 1))), (0, .ref h)]) hx hb dX2_tone_60 hl (k := 0) rfl (nI_1 k) (by decide) rfl (fun ls hl => ?_)
              refine lv_goto (tgt := 44) hx hb dX2_tone_63 (by decide) ?_
              exact ih (k + 1) (by omega) (by rw [← hb2, pf_ft, pf_b0.mp c_5]; rfl) H locs hP hD hS ls (lv_sub hl [0, 1] rfl)
            · have c_5 : ¬ (pf_b (mf_cr g k)) = 0 := c_5
              refine lv_iload_n hx hb dX2_tone_58 rfl (lv_at hl 0 rfl) ?_
              exact hret _ _ _ _ _ hP (by rw [mf_tone, hs, ← hb2, pf_ft, pf_bn c_5]; rfl) hS dX2_tone_59
        exact loop2 8 1 rfl rfl H locs hP hD hS ls (lv_sub hl [0, 2] rfl)
    | succ n ih =>
      intro k a hk ha H locs hP hD hS ls hl
      refine lv_iload_n hx hb dX2_tone_4 rfl (lv_at hl 0 rfl) ?_
      refine lv_bipush (v := 16) hx hb dX2_tone_5 (by decide) ?_
      refine lv_icmp_ge (tgt := 38) hx hb dX2_tone_7 (by decide) (fun c_6 => absurd c_6 (nI_ge (a := k) (b := 16) (by omega) (by decide))) (fun c_6 => ?_)
      refine lv_iload_n hx hb dX2_tone_10 rfl (lv_at hl 1 rfl) ?_
      have j31 : ∀ (v : Int32) (ev : v = pf_b (!(pf_al (fun i => decide (g (33 + i) = 0)) (k + 1)))), W p l e rm_X2_tone s m args below meth c H locs 0 0 Q (F0 m 31 ls [.int v]) := by
        intro v ev
        refine lv_istore_n (lv' := [(1, .int v), (2, .int (nI k)), (0, .ref h)]) hx hb dX2_tone_31 rfl hl (by decide) rfl (fun ls hl => ?_)
        refine lv_iinc (v := nI (k + 1)) (lv' := [(2, .int (nI (k + 1))), (1, .int v), (0, .ref h)]) hx hb dX2_tone_32 hl (k := 1) rfl (nI_1 k) (by decide) rfl (fun ls hl => ?_)
        refine lv_goto (tgt := 4) hx hb dX2_tone_35 (by decide) ?_
        exact ih (k + 1) _ (by omega) ev H locs hP hD hS ls (lv_sub hl [0, 1, 2] rfl)
      refine lv_if_ne (tgt := 26) hx hb dX2_tone_11 (by decide) (fun c_7 => ?_) (fun c_7 => ?_)
      · have c_7 : ¬ a = 0 := c_7
        refine lv_iconst (v := 1) hx hb dX2_tone_26 (by decide) ?_
        refine lv_goto (tgt := 31) hx hb dX2_tone_27 (by decide) ?_
        exact j31 _ (by have q := pf_bn (ha ▸ c_7); rw [Bool.not_eq_true'] at q; rw [pf_al, q]; rfl)
      · have c_7 : a = 0 := c_7
        refine lv_aload_n hx hb dX2_tone_14 rfl (lv_at hl 2 rfl) ?_
        refine va_get (D := D) (ci := 2) (v := .ref (as 0)) (C := RX2) (T := TX2) (N := 3) hx hb hts iw_X2_tone_X2 hown hE.1 hP 0 rfl rfl 0 (by decide) (hts (.fieldLink RX2 7 "EchoTapsModel" "state" "[I") (by decide +kernel)) (fun _ h9 => h9) rfl dX2_tone_15 ?_
        refine lv_bipush (v := 33) hx hb dX2_tone_18 (by decide) ?_
        refine lv_iload_n hx hb dX2_tone_20 rfl (lv_at hl 0 rfl) ?_
        refine lv_iadd hx hb dX2_tone_21 ?_
        refine lv_ri (nI_add 33 k) ?_
        refine va_iald hx hb hE.1 hP 1 0 rfl rfl (vp_in_nI (by omega) (by decide)) dX2_tone_22 ?_
        refine lv_ri (congrArg g (nI_clamp (n := 33 + k) (by omega))) ?_
        have q : pf_al (fun i => decide (g (33 + i) = 0)) k = true := by have q := pf_b0.mp (ha ▸ c_7); rw [Bool.not_eq_false'] at q; exact q
        refine lv_if_eq (tgt := 30) hx hb dX2_tone_23 (by decide) (fun c_8 => ?_) (fun c_8 => ?_)
        · have c_8 : (g (33 + k)) = 0 := c_8
          refine lv_iconst (v := 0) hx hb dX2_tone_30 (by decide) ?_
          exact j31 _ (by rw [pf_al, decide_eq_true c_8, q]; rfl)
        · have c_8 : ¬ (g (33 + k)) = 0 := c_8
          refine lv_iconst (v := 1) hx hb dX2_tone_26 (by decide) ?_
          refine lv_goto (tgt := 31) hx hb dX2_tone_27 (by decide) ?_
          exact j31 _ (by rw [pf_al, decide_eq_false c_8, Bool.and_false]; rfl)
  exact loop 16 0 0 rfl rfl H locs hP hD hS ls (lv_sub hl [0, 1, 2] rfl)

abbrev rm_X2_hold : Room := { frames := 0, cells := 0, slots := 0, locals := 0 }
theorem iw_X2_hold_X2 : ∀ w ∈ wsX20, w ∈ wsX2_hold := by decide +kernel
set_option maxRecDepth 100000 in
set_option maxHeartbeats 4000000 in
theorem c_X2_hold (l : Launch) (D : va_G) (cA cZ cR : ClassId) (h : Nat) (as : Nat → Nat) (g im kp : Fn) : BMv l D cA cZ cR yX2_hold wsX2_hold rm_X2_hold [.ref h] (MW cA cZ h as g im kp) (MW cA cZ h as (mf_hold g) im kp) := by
  refine bm_openV (maxL := 1) (by decide) rfl rfl rfl (Nat.le_of_ble_eq_true rfl) ?_
  intro p e s m args below meth c A Q hx hb hml hts hown hE hP hD hA hS hret ls hl
  have hown : s.vm.findClass RX2 = some m.cls := hown
  have hl : lv_has ls 1 [(0, .ref h)] := hl
  obtain ⟨H, locs, eH, eL⟩ : ∃ (H : Heap) (locs : List Loc), H = s.heap ∧ locs = [] := ⟨_, _, rfl, rfl⟩
  rw [← eH, ← eL]
  rw [← eH] at hP
  have hS : va_S A s.heap H locs := by rw [eH, eL]; exact hS
  clear eH eL
  refine lv_aload_n hx hb dX2_hold_0 rfl (lv_at hl 0 rfl) ?_
  refine va_get (D := D) (ci := 2) (v := .ref (as 0)) (C := RX2) (T := TX2) (N := 3) hx hb hts iw_X2_hold_X2 hown hE.1 hP 0 rfl rfl 0 (by decide) (hts (.fieldLink RX2 7 "EchoTapsModel" "state" "[I") (by decide +kernel)) (fun _ h9 => h9) rfl dX2_hold_1 ?_
  refine lv_bipush (v := 30) hx hb dX2_hold_4 (by decide) ?_
  refine va_iald hx hb hE.1 hP 1 0 rfl rfl (vp_in_nI (n := 30) (N := 555) (by decide) (by decide)) dX2_hold_6 ?_
  refine lv_iconst (v := 1) hx hb dX2_hold_7 (by decide) ?_
  refine lv_icmp_ne (tgt := 27) hx hb dX2_hold_8 (by decide) (fun c_1 => ?_) (fun c_1 => ?_)
  · have c_1 : ¬ (g 30) = 1 := c_1
    refine lv_aload_n hx hb dX2_hold_27 rfl (lv_at hl 0 rfl) ?_
    refine va_get (D := D) (ci := 2) (v := .ref (as 0)) (C := RX2) (T := TX2) (N := 3) hx hb hts iw_X2_hold_X2 hown hE.1 hP 0 rfl rfl 0 (by decide) (hts (.fieldLink RX2 7 "EchoTapsModel" "state" "[I") (by decide +kernel)) (fun _ h9 => h9) rfl dX2_hold_28 ?_
    refine lv_bipush (v := 22) hx hb dX2_hold_31 (by decide) ?_
    refine va_iald hx hb hE.1 hP 1 0 rfl rfl (vp_in_nI (n := 22) (N := 555) (by decide) (by decide)) dX2_hold_33 ?_
    refine lv_if_le (tgt := 48) hx hb dX2_hold_34 (by decide) (fun c_2 => ?_) (fun c_2 => ?_)
    · have c_2 : (g 22) ≤ 0 := c_2
      have e1 : mf_hold g = g := by rw [mf_hold, if_pos c_1, if_pos c_2]
      exact hret _ _ _ _ (by rw [e1]; exact hP) hS dX2_hold_48
    · have c_2 : ¬ (g 22) ≤ 0 := c_2
      have e1 : mf_hold g = upd g 22 (g 22 - 1) := by rw [mf_hold, if_pos c_1, if_neg c_2]
      refine lv_aload_n hx hb dX2_hold_37 rfl (lv_at hl 0 rfl) ?_
      refine va_get (D := D) (ci := 2) (v := .ref (as 0)) (C := RX2) (T := TX2) (N := 3) hx hb hts iw_X2_hold_X2 hown hE.1 hP 0 rfl rfl 0 (by decide) (hts (.fieldLink RX2 7 "EchoTapsModel" "state" "[I") (by decide +kernel)) (fun _ h9 => h9) rfl dX2_hold_38 ?_
      refine lv_bipush (v := 22) hx hb dX2_hold_41 (by decide) ?_
      refine lv_dup2_11 hx hb dX2_hold_43 rfl rfl ?_
      refine va_iald hx hb hE.1 hP 1 0 rfl rfl (vp_in_nI (n := 22) (N := 555) (by decide) (by decide)) dX2_hold_44 ?_
      refine lv_iconst (v := 1) hx hb dX2_hold_45 (by decide) ?_
      refine lv_isub hx hb dX2_hold_46 ?_
      refine va_iast hx hb hE.1 hP hD hS 1 0 rfl rfl (vp_in_nI (n := 22) (N := 555) (by decide) (by decide)) dX2_hold_47 (fun H locs hP hD hS => ?_)
      have hP : va_P D vwCl (MW cA cZ h as (upd g 22 ((g 22) - 1)) im kp) H := hP
      have hD : va_D A (MW cA cZ h as (upd g 22 ((g 22) - 1)) im kp) := hD
      exact hret _ _ _ _ (by rw [e1]; exact hP) hS dX2_hold_48
  · have c_1 : (g 30) = 1 := c_1
    have e1 : mf_hold g = upd g 22 (g 1) := by rw [mf_hold, if_neg (not_not_intro c_1)]
    refine lv_aload_n hx hb dX2_hold_11 rfl (lv_at hl 0 rfl) ?_
    refine va_get (D := D) (ci := 2) (v := .ref (as 0)) (C := RX2) (T := TX2) (N := 3) hx hb hts iw_X2_hold_X2 hown hE.1 hP 0 rfl rfl 0 (by decide) (hts (.fieldLink RX2 7 "EchoTapsModel" "state" "[I") (by decide +kernel)) (fun _ h9 => h9) rfl dX2_hold_12 ?_
    refine lv_bipush (v := 22) hx hb dX2_hold_15 (by decide) ?_
    refine lv_aload_n hx hb dX2_hold_17 rfl (lv_at hl 0 rfl) ?_
    refine va_get (D := D) (ci := 2) (v := .ref (as 0)) (C := RX2) (T := TX2) (N := 3) hx hb hts iw_X2_hold_X2 hown hE.1 hP 0 rfl rfl 0 (by decide) (hts (.fieldLink RX2 7 "EchoTapsModel" "state" "[I") (by decide +kernel)) (fun _ h9 => h9) rfl dX2_hold_18 ?_
    refine lv_iconst (v := 1) hx hb dX2_hold_21 (by decide) ?_
    refine va_iald hx hb hE.1 hP 1 0 rfl rfl (vp_in_nI (n := 1) (N := 555) (by decide) (by decide)) dX2_hold_22 ?_
    refine va_iast hx hb hE.1 hP hD hS 1 0 rfl rfl (vp_in_nI (n := 22) (N := 555) (by decide) (by decide)) dX2_hold_23 (fun H locs hP hD hS => ?_)
    have hP : va_P D vwCl (MW cA cZ h as (upd g 22 (g 1)) im kp) H := hP
    have hD : va_D A (MW cA cZ h as (upd g 22 (g 1)) im kp) := hD
    refine lv_goto (tgt := 48) hx hb dX2_hold_24 (by decide) ?_
    exact hret _ _ _ _ (by rw [e1]; exact hP) hS dX2_hold_48

abbrev rm_X2_learn : Room := { frames := 1, cells := 0, slots := 0, locals := 22 }
theorem iw_X2_learn_X2 : ∀ w ∈ wsX20, w ∈ wsX2_learn := by decide +kernel
set_option maxRecDepth 100000 in
set_option maxHeartbeats 4000000 in
theorem c_X2_learn (l : Launch) (D : va_G) (cA cZ cR : ClassId) (h : Nat) (as : Nat → Nat) (g im kp : Fn) (hd : DL g) (hp29 : 0 < g 29) : BMv l D cA cZ cR yX2_learn wsX2_learn rm_X2_learn [.ref h] (MW cA cZ h as g im kp) (MW cA cZ h as (mf_learn g) im kp) := by
  refine bm_openV (maxL := 4) (by decide) rfl rfl rfl (Nat.le_of_ble_eq_true rfl) ?_
  intro p e s m args below meth c A Q hx hb hml hts hown hE hP hD hA hS hret ls hl
  have hown : s.vm.findClass RX2 = some m.cls := hown
  have hl : lv_has ls 4 [(0, .ref h)] := hl
  obtain ⟨H, locs, eH, eL⟩ : ∃ (H : Heap) (locs : List Loc), H = s.heap ∧ locs = [] := ⟨_, _, rfl, rfl⟩
  rw [← eH, ← eL]
  rw [← eH] at hP
  have hS : va_S A s.heap H locs := by rw [eH, eL]; exact hS
  clear eH eL
  refine lv_iconst (v := 0) hx hb dX2_learn_0 (by decide) ?_
  refine lv_istore_n (lv' := [(1, .int 0), (0, .ref h)]) hx hb dX2_learn_1 rfl hl (by decide) rfl (fun ls hl => ?_)
  have hz : ¬ (g 29).toInt64 = 0 := pf_l0 hp29
  have hP : va_P D vwCl (MW cA cZ h as (mf_ln g 0) im kp) H := hP
  have hD : va_D A (MW cA cZ h as (mf_ln g 0) im kp) := hD
  have loop : ∀ (n : Nat) (k : Nat) (hk : k + n = 8), ∀ (H : Heap) (locs : List Loc), va_P D vwCl (MW cA cZ h as (mf_ln g k) im kp) H → va_D A (MW cA cZ h as (mf_ln g k) im kp) → va_S A s.heap H locs → ∀ ls : Array Slot, lv_has ls 4 [(1, .int (nI k)), (0, .ref h)] → W p l e rm_X2_learn s m args below meth c H locs 0 0 Q (F0 m 2 ls []) := by
    intro n
    induction n with
    | zero =>
      intro k hk H locs hP hD hS ls hl
      obtain rfl : k = 8 := by omega
      refine lv_iload_n hx hb dX2_learn_2 rfl (lv_at hl 0 rfl) ?_
      refine lv_bipush (v := 8) hx hb dX2_learn_3 (by decide) ?_
      refine lv_icmp_ge (tgt := 75) hx hb dX2_learn_5 (by decide) (fun c_1 => ?_) (fun c_1 => absurd (by decide) c_1)
      exact hret _ _ _ _ hP hS dX2_learn_75
    | succ n ih =>
      intro k hk H locs hP hD hS ls hl
      have e29 : mf_ln g k 29 = g 29 := mf_ln_out g k (by omega) 29 (by omega)
      have e4 : mf_ln g k 4 = g 4 := mf_ln_out g k (by omega) 4 (by omega)
      have hd : DL (mf_ln g k) := by unfold DL; rw [e4]; exact hd
      obtain ⟨gk, egk⟩ : ∃ z : Fn, z = mf_ln g k := ⟨_, rfl⟩
      rw [← egk] at hP hD e29 hd
      refine lv_iload_n hx hb dX2_learn_2 rfl (lv_at hl 0 rfl) ?_
      refine lv_bipush (v := 8) hx hb dX2_learn_3 (by decide) ?_
      refine lv_icmp_ge (tgt := 75) hx hb dX2_learn_5 (by decide) (fun c_2 => absurd c_2 (nI_ge (a := k) (b := 8) (by omega) (by decide))) (fun c_2 => ?_)
      refine lv_aload_n hx hb dX2_learn_8 rfl (lv_at hl 1 rfl) ?_
      refine va_get (D := D) (ci := 2) (v := .ref (as 0)) (C := RX2) (T := TX2) (N := 3) hx hb hts iw_X2_learn_X2 hown hE.1 hP 0 rfl rfl 0 (by decide) (hts (.fieldLink RX2 7 "EchoTapsModel" "state" "[I") (by decide +kernel)) (fun _ h9 => h9) rfl dX2_learn_9 ?_
      refine lv_iconst (v := 0) hx hb dX2_learn_12 (by decide) ?_
      refine va_iald hx hb hE.1 hP 1 0 rfl rfl (vp_in_nI (n := 0) (N := 555) (by decide) (by decide)) dX2_learn_13 ?_
      refine lv_i2l hx hb dX2_learn_14 rfl ?_
      refine lv_aload_n hx hb dX2_learn_15 rfl (lv_at hl 1 rfl) ?_
      refine va_get (D := D) (ci := 2) (v := .ref (as 0)) (C := RX2) (T := TX2) (N := 3) hx hb hts iw_X2_learn_X2 hown hE.1 hP 0 rfl rfl 0 (by decide) (hts (.fieldLink RX2 7 "EchoTapsModel" "state" "[I") (by decide +kernel)) (fun _ h9 => h9) rfl dX2_learn_16 ?_
      refine lv_bipush (v := 26) hx hb dX2_learn_19 (by decide) ?_
      refine va_iald hx hb hE.1 hP 1 0 rfl rfl (vp_in_nI (n := 26) (N := 555) (by decide) (by decide)) dX2_learn_21 ?_
      refine lv_i2l hx hb dX2_learn_22 rfl ?_
      refine lv_lmul hx hb dX2_learn_23 ?_
      refine lv_aload_n hx hb dX2_learn_24 rfl (lv_at hl 1 rfl) ?_
      refine lv_iload_n hx hb dX2_learn_25 rfl (lv_at hl 0 rfl) ?_
      refine bm_i [] (MW cA cZ h as gk im kp) [] [.int (nI k)] [.long (((gk 0).toInt64) * ((gk 26).toInt64))] ⟨hx, hb, hml, hown, hts⟩ (c_X2_seen l D cA cZ cR h as gk im kp k (by omega) hd) (cwV 1 hts gX2_learn_X2_seen rfl rfl rfl (by decide +kernel) ⟨Nat.le_of_ble_eq_true rfl, Nat.le_of_ble_eq_true rfl⟩) hE hP hD hS hA MW_adr 0 2 rfl rfl rfl hl.1 rfl (Nat.le_of_ble_eq_true rfl) dX2_learn_26 ⟨Nat.zero_le _, Nat.zero_le _⟩ (fun H locs hP hD hS => ?_)
      have hP : va_P D vwCl (MW cA cZ h as gk im kp) H := hP
      have hD : va_D A (MW cA cZ h as gk im kp) := hD
      refine lv_i2l hx hb dX2_learn_29 rfl ?_
      refine lv_lmul hx hb dX2_learn_30 ?_
      refine lv_aload_n hx hb dX2_learn_31 rfl (lv_at hl 1 rfl) ?_
      refine va_get (D := D) (ci := 2) (v := .ref (as 0)) (C := RX2) (T := TX2) (N := 3) hx hb hts iw_X2_learn_X2 hown hE.1 hP 0 rfl rfl 0 (by decide) (hts (.fieldLink RX2 7 "EchoTapsModel" "state" "[I") (by decide +kernel)) (fun _ h9 => h9) rfl dX2_learn_32 ?_
      refine lv_bipush (v := 29) hx hb dX2_learn_35 (by decide) ?_
      refine va_iald hx hb hE.1 hP 1 0 rfl rfl (vp_in_nI (n := 29) (N := 555) (by decide) (by decide)) dX2_learn_37 ?_
      refine lv_i2l hx hb dX2_learn_38 rfl ?_
      refine lv_ldiv hx hb dX2_learn_39 (show ¬ (gk 29).toInt64 = 0 by rw [e29]; exact hz) ?_
      refine lv_lstore_n (lv' := [(2, .long (((((gk 0).toInt64) * ((gk 26).toInt64)) * ((mf_seen gk k).toInt64)) / ((gk 29).toInt64))), (1, .int (nI k)), (0, .ref h)]) hx hb dX2_learn_40 rfl hl (by decide) rfl (fun ls hl => ?_)
      refine lv_aload_n hx hb dX2_learn_41 rfl (lv_at hl 2 rfl) ?_
      refine va_get (D := D) (ci := 2) (v := .ref (as 0)) (C := RX2) (T := TX2) (N := 3) hx hb hts iw_X2_learn_X2 hown hE.1 hP 0 rfl rfl 0 (by decide) (hts (.fieldLink RX2 7 "EchoTapsModel" "state" "[I") (by decide +kernel)) (fun _ h9 => h9) rfl dX2_learn_42 ?_
      refine lv_iconst (v := 5) hx hb dX2_learn_45 (by decide) ?_
      refine lv_iload_n hx hb dX2_learn_46 rfl (lv_at hl 1 rfl) ?_
      refine lv_iadd hx hb dX2_learn_47 ?_
      refine lv_ri (nI_add 5 k) ?_
      refine lv_aload_n hx hb dX2_learn_48 rfl (lv_at hl 2 rfl) ?_
      refine va_get (D := D) (ci := 2) (v := .ref (as 0)) (C := RX2) (T := TX2) (N := 3) hx hb hts iw_X2_learn_X2 hown hE.1 hP 0 rfl rfl 0 (by decide) (hts (.fieldLink RX2 7 "EchoTapsModel" "state" "[I") (by decide +kernel)) (fun _ h9 => h9) rfl dX2_learn_49 ?_
      refine lv_iconst (v := 5) hx hb dX2_learn_52 (by decide) ?_
      refine lv_iload_n hx hb dX2_learn_53 rfl (lv_at hl 1 rfl) ?_
      refine lv_iadd hx hb dX2_learn_54 ?_
      refine lv_ri (nI_add 5 k) ?_
      refine va_iald hx hb hE.1 hP 1 0 rfl rfl (vp_in_nI (by omega) (by decide)) dX2_learn_55 ?_
      refine lv_ri (congrArg gk (nI_clamp (n := 5 + k) (by omega))) ?_
      refine lv_lload_n hx hb dX2_learn_56 rfl (lv_at hl 0 rfl) ?_
      refine lv_l2i hx hb dX2_learn_57 rfl ?_
      refine lv_iadd hx hb dX2_learn_58 ?_
      refine lv_sipush (v := (-4096)) hx hb dX2_learn_59 (by decide) ?_
      refine lv_sipush (v := 4095) hx hb dX2_learn_62 (by decide) ?_
      refine sm_i [.int ((gk (5 + k)) + ((((((gk 0).toInt64) * ((gk 26).toInt64)) * ((mf_seen gk k).toInt64)) / ((gk 29).toInt64)).toInt32)), .int (-4096), .int 4095] [.int (nI (5 + k)), .ref (as 0)] ⟨hx, hb, hml, hown, hts⟩ (c_X2_within l ((gk (5 + k)) + ((((((gk 0).toInt64) * ((gk 26).toInt64)) * ((mf_seen gk k).toInt64)) / ((gk 29).toInt64)).toInt32)) (-4096) 4095) (va_cwS 3 hts gX2_learn_X2_within rfl rfl rfl (by decide +kernel) ⟨Nat.le_of_ble_eq_true rfl, Nat.le_of_ble_eq_true rfl⟩) rfl hl.1 rfl (Nat.le_of_ble_eq_true rfl) dX2_learn_65 ⟨Nat.zero_le _, Nat.zero_le _⟩ ?_
      refine va_iast hx hb hE.1 hP hD hS 1 0 rfl rfl (vp_in_nI (by omega) (by decide)) dX2_learn_68 (fun H locs hP hD hS => ?_)
      rw [show (nI (5 + k)).toNatClampNeg = 5 + k from nI_clamp (by omega)] at hP hD
      have hP : va_P D vwCl (MW cA cZ h as (upd gk (5 + k) (pf_cl ((gk (5 + k)) + ((((((gk 0).toInt64) * ((gk 26).toInt64)) * ((mf_seen gk k).toInt64)) / ((gk 29).toInt64)).toInt32)) (-4096) 4095)) im kp) H := hP
      have hD : va_D A (MW cA cZ h as (upd gk (5 + k) (pf_cl ((gk (5 + k)) + ((((((gk 0).toInt64) * ((gk 26).toInt64)) * ((mf_seen gk k).toInt64)) / ((gk 29).toInt64)).toInt32)) (-4096) 4095)) im kp) := hD
      refine lv_iinc (v := nI (k + 1)) (lv' := [(1, .int (nI (k + 1))), (2, .long (((((gk 0).toInt64) * ((gk 26).toInt64)) * ((mf_seen gk k).toInt64)) / ((gk 29).toInt64))), (0, .ref h)]) hx hb dX2_learn_69 hl (k := 1) rfl (nI_1 k) (by decide) rfl (fun ls hl => ?_)
      refine lv_goto (tgt := 2) hx hb dX2_learn_72 (by decide) ?_
      rw [egk] at hP hD
      exact ih (k + 1) (by omega) H locs hP hD hS ls (lv_sub hl [0, 2] rfl)
  exact loop 8 0 rfl H locs hP hD hS ls (lv_sub hl [0, 1] rfl)

abbrev rm_X2_noise : Room := { frames := 1, cells := 0, slots := 0, locals := 20 }
theorem iw_X2_noise_X2 : ∀ w ∈ wsX20, w ∈ wsX2_noise := by decide +kernel
set_option maxRecDepth 100000 in
set_option maxHeartbeats 4000000 in
theorem c_X2_noise (l : Launch) (D : va_G) (cA cZ cR : ClassId) (h : Nat) (as : Nat → Nat) (g im kp : Fn) : BMi l D cA cZ cR yX2_noise wsX2_noise rm_X2_noise [.ref h] (MW cA cZ h as g im kp) (MW cA cZ h as (mf_nos g) im kp) (mf_nor g) := by
  refine bm_open (maxL := 1) (by decide) rfl rfl rfl (Nat.le_of_ble_eq_true rfl) ?_
  intro p e s m args below meth c A Q hx hb hml hts hown hE hP hD hA hS hret ls hl
  have hown : s.vm.findClass RX2 = some m.cls := hown
  have hl : lv_has ls 1 [(0, .ref h)] := hl
  obtain ⟨H, locs, eH, eL⟩ : ∃ (H : Heap) (locs : List Loc), H = s.heap ∧ locs = [] := ⟨_, _, rfl, rfl⟩
  rw [← eH, ← eL]
  rw [← eH] at hP
  have hS : va_S A s.heap H locs := by rw [eH, eL]; exact hS
  clear eH eL
  refine lv_aload_n hx hb dX2_noise_0 rfl (lv_at hl 0 rfl) ?_
  refine va_get (D := D) (ci := 2) (v := .ref (as 0)) (C := RX2) (T := TX2) (N := 3) hx hb hts iw_X2_noise_X2 hown hE.1 hP 0 rfl rfl 0 (by decide) (hts (.fieldLink RX2 7 "EchoTapsModel" "state" "[I") (by decide +kernel)) (fun _ h9 => h9) rfl dX2_noise_1 ?_
  refine lv_bipush (v := 23) hx hb dX2_noise_4 (by decide) ?_
  refine lv_aload_n hx hb dX2_noise_6 rfl (lv_at hl 0 rfl) ?_
  refine va_get (D := D) (ci := 2) (v := .ref (as 0)) (C := RX2) (T := TX2) (N := 3) hx hb hts iw_X2_noise_X2 hown hE.1 hP 0 rfl rfl 0 (by decide) (hts (.fieldLink RX2 7 "EchoTapsModel" "state" "[I") (by decide +kernel)) (fun _ h9 => h9) rfl dX2_noise_7 ?_
  refine lv_bipush (v := 23) hx hb dX2_noise_10 (by decide) ?_
  refine va_iald hx hb hE.1 hP 1 0 rfl rfl (vp_in_nI (n := 23) (N := 555) (by decide) (by decide)) dX2_noise_12 ?_
  refine sm_i [.int (g 23)] [.int 23, .ref (as 0)] ⟨hx, hb, hml, hown, hts⟩ (c_X2_next l (g 23)) (va_cwS 1 hts gX2_noise_X2_next rfl rfl rfl (by decide +kernel) ⟨Nat.le_of_ble_eq_true rfl, Nat.le_of_ble_eq_true rfl⟩) rfl hl.1 rfl (Nat.le_of_ble_eq_true rfl) dX2_noise_13 ⟨Nat.zero_le _, Nat.zero_le _⟩ ?_
  refine va_iast hx hb hE.1 hP hD hS 1 0 rfl rfl (vp_in_nI (n := 23) (N := 555) (by decide) (by decide)) dX2_noise_16 (fun H locs hP hD hS => ?_)
  have hP : va_P D vwCl (MW cA cZ h as (upd g 23 (pf_nx (g 23))) im kp) H := hP
  have hD : va_D A (MW cA cZ h as (upd g 23 (pf_nx (g 23))) im kp) := hD
  refine lv_aload_n hx hb dX2_noise_17 rfl (lv_at hl 0 rfl) ?_
  refine va_get (D := D) (ci := 2) (v := .ref (as 0)) (C := RX2) (T := TX2) (N := 3) hx hb hts iw_X2_noise_X2 hown hE.1 hP 0 rfl rfl 0 (by decide) (hts (.fieldLink RX2 7 "EchoTapsModel" "state" "[I") (by decide +kernel)) (fun _ h9 => h9) rfl dX2_noise_18 ?_
  refine lv_bipush (v := 23) hx hb dX2_noise_21 (by decide) ?_
  refine va_iald hx hb hE.1 hP 1 0 rfl rfl (vp_in_nI (n := 23) (N := 555) (by decide) (by decide)) dX2_noise_23 ?_
  refine lv_iconst (v := 2) hx hb dX2_noise_24 (by decide) ?_
  refine lv_aload_n hx hb dX2_noise_25 rfl (lv_at hl 0 rfl) ?_
  refine va_get (D := D) (ci := 2) (v := .ref (as 0)) (C := RX2) (T := TX2) (N := 3) hx hb hts iw_X2_noise_X2 hown hE.1 hP 0 rfl rfl 0 (by decide) (hts (.fieldLink RX2 7 "EchoTapsModel" "state" "[I") (by decide +kernel)) (fun _ h9 => h9) rfl dX2_noise_26 ?_
  refine lv_iconst (v := 3) hx hb dX2_noise_29 (by decide) ?_
  refine va_iald hx hb hE.1 hP 1 0 rfl rfl (vp_in_nI (n := 3) (N := 555) (by decide) (by decide)) dX2_noise_30 ?_
  refine lv_imul hx hb dX2_noise_31 ?_
  refine lv_iconst (v := 1) hx hb dX2_noise_32 (by decide) ?_
  refine lv_iadd hx hb dX2_noise_33 ?_
  refine lv_irem hx hb dX2_noise_34 (pf_odd _) ?_
  refine lv_aload_n hx hb dX2_noise_35 rfl (lv_at hl 0 rfl) ?_
  refine va_get (D := D) (ci := 2) (v := .ref (as 0)) (C := RX2) (T := TX2) (N := 3) hx hb hts iw_X2_noise_X2 hown hE.1 hP 0 rfl rfl 0 (by decide) (hts (.fieldLink RX2 7 "EchoTapsModel" "state" "[I") (by decide +kernel)) (fun _ h9 => h9) rfl dX2_noise_36 ?_
  refine lv_iconst (v := 3) hx hb dX2_noise_39 (by decide) ?_
  refine va_iald hx hb hE.1 hP 1 0 rfl rfl (vp_in_nI (n := 3) (N := 555) (by decide) (by decide)) dX2_noise_40 ?_
  refine lv_isub hx hb dX2_noise_41 ?_
  exact hret _ _ _ _ _ hP rfl hS dX2_noise_42

abbrev rm_X2_outNow : Room := { frames := 2, cells := 0, slots := 0, locals := 40 }
theorem iw_X2_outNow_X2 : ∀ w ∈ wsX20, w ∈ wsX2_outNow := by decide +kernel
set_option maxRecDepth 100000 in
set_option maxHeartbeats 4000000 in
theorem c_X2_outNow (l : Launch) (D : va_G) (cA cZ cR : ClassId) (h : Nat) (as : Nat → Nat) (g im kp : Fn) : BMi l D cA cZ cR yX2_outNow wsX2_outNow rm_X2_outNow [.ref h] (MW cA cZ h as g im kp) (MW cA cZ h as (mf_os g) im kp) (mf_or g) := by
  refine bm_open (maxL := 1) (by decide) rfl rfl rfl (Nat.le_of_ble_eq_true rfl) ?_
  intro p e s m args below meth c A Q hx hb hml hts hown hE hP hD hA hS hret ls hl
  have hown : s.vm.findClass RX2 = some m.cls := hown
  have hl : lv_has ls 1 [(0, .ref h)] := hl
  obtain ⟨H, locs, eH, eL⟩ : ∃ (H : Heap) (locs : List Loc), H = s.heap ∧ locs = [] := ⟨_, _, rfl, rfl⟩
  rw [← eH, ← eL]
  rw [← eH] at hP
  have hS : va_S A s.heap H locs := by rw [eH, eL]; exact hS
  clear eH eL
  refine lv_aload_n hx hb dX2_outNow_0 rfl (lv_at hl 0 rfl) ?_
  refine va_get (D := D) (ci := 2) (v := .ref (as 0)) (C := RX2) (T := TX2) (N := 3) hx hb hts iw_X2_outNow_X2 hown hE.1 hP 0 rfl rfl 0 (by decide) (hts (.fieldLink RX2 7 "EchoTapsModel" "state" "[I") (by decide +kernel)) (fun _ h9 => h9) rfl dX2_outNow_1 ?_
  refine lv_bipush (v := 31) hx hb dX2_outNow_4 (by decide) ?_
  refine va_iald hx hb hE.1 hP 1 0 rfl rfl (vp_in_nI (n := 31) (N := 555) (by decide) (by decide)) dX2_outNow_6 ?_
  refine lv_if_le (tgt := 18) hx hb dX2_outNow_7 (by decide) (fun c_1 => ?_) (fun c_1 => ?_)
  · have c_1 : (g 31) ≤ 0 := c_1
    refine lv_aload_n hx hb dX2_outNow_18 rfl (lv_at hl 0 rfl) ?_
    refine va_get (D := D) (ci := 2) (v := .ref (as 0)) (C := RX2) (T := TX2) (N := 3) hx hb hts iw_X2_outNow_X2 hown hE.1 hP 0 rfl rfl 0 (by decide) (hts (.fieldLink RX2 7 "EchoTapsModel" "state" "[I") (by decide +kernel)) (fun _ h9 => h9) rfl dX2_outNow_19 ?_
    refine lv_bipush (v := 26) hx hb dX2_outNow_22 (by decide) ?_
    refine va_iald hx hb hE.1 hP 1 0 rfl rfl (vp_in_nI (n := 26) (N := 555) (by decide) (by decide)) dX2_outNow_24 ?_
    refine sm_i [.int (g 26)] [] ⟨hx, hb, hml, hown, hts⟩ (c_X2_size l (g 26)) (va_cwS 1 hts gX2_outNow_X2_size rfl rfl rfl (by decide +kernel) ⟨Nat.le_of_ble_eq_true rfl, Nat.le_of_ble_eq_true rfl⟩) rfl hl.1 rfl (Nat.le_of_ble_eq_true rfl) dX2_outNow_25 ⟨Nat.zero_le _, Nat.zero_le _⟩ ?_
    refine lv_aload_n hx hb dX2_outNow_28 rfl (lv_at hl 0 rfl) ?_
    refine va_get (D := D) (ci := 2) (v := .ref (as 0)) (C := RX2) (T := TX2) (N := 3) hx hb hts iw_X2_outNow_X2 hown hE.1 hP 0 rfl rfl 0 (by decide) (hts (.fieldLink RX2 7 "EchoTapsModel" "state" "[I") (by decide +kernel)) (fun _ h9 => h9) rfl dX2_outNow_29 ?_
    refine lv_iconst (v := 2) hx hb dX2_outNow_32 (by decide) ?_
    refine va_iald hx hb hE.1 hP 1 0 rfl rfl (vp_in_nI (n := 2) (N := 555) (by decide) (by decide)) dX2_outNow_33 ?_
    refine lv_icmp_ge (tgt := 44) hx hb dX2_outNow_34 (by decide) (fun c_2 => ?_) (fun c_2 => ?_)
    · have c_2 : (g 2) ≤ (pf_sz (g 26)) := c_2
      have e1 : mf_os g = g := by rw [mf_os, if_pos c_1, if_pos c_2]
      refine lv_aload_n hx hb dX2_outNow_44 rfl (lv_at hl 0 rfl) ?_
      refine va_get (D := D) (ci := 2) (v := .ref (as 0)) (C := RX2) (T := TX2) (N := 3) hx hb hts iw_X2_outNow_X2 hown hE.1 hP 0 rfl rfl 0 (by decide) (hts (.fieldLink RX2 7 "EchoTapsModel" "state" "[I") (by decide +kernel)) (fun _ h9 => h9) rfl dX2_outNow_45 ?_
      refine lv_bipush (v := 26) hx hb dX2_outNow_48 (by decide) ?_
      refine va_iald hx hb hE.1 hP 1 0 rfl rfl (vp_in_nI (n := 26) (N := 555) (by decide) (by decide)) dX2_outNow_50 ?_
      refine lv_sipush (v := (-2000)) hx hb dX2_outNow_51 (by decide) ?_
      refine lv_sipush (v := 2000) hx hb dX2_outNow_54 (by decide) ?_
      refine sm_i [.int (g 26), .int (-2000), .int 2000] [] ⟨hx, hb, hml, hown, hts⟩ (c_X2_within l (g 26) (-2000) 2000) (va_cwS 3 hts gX2_outNow_X2_within rfl rfl rfl (by decide +kernel) ⟨Nat.le_of_ble_eq_true rfl, Nat.le_of_ble_eq_true rfl⟩) rfl hl.1 rfl (Nat.le_of_ble_eq_true rfl) dX2_outNow_57 ⟨Nat.zero_le _, Nat.zero_le _⟩ ?_
      exact hret _ _ _ _ _ (by rw [e1]; exact hP) (by rw [mf_or, if_pos c_1, if_pos c_2]) hS dX2_outNow_60
    · have c_2 : ¬ (g 2) ≤ (pf_sz (g 26)) := c_2
      have e1 : mf_os g = mf_nos g := by rw [mf_os, if_pos c_1, if_neg c_2]
      refine lv_aload_n hx hb dX2_outNow_37 rfl (lv_at hl 0 rfl) ?_
      refine bm_i [] (MW cA cZ h as g im kp) [] [] [] ⟨hx, hb, hml, hown, hts⟩ (c_X2_noise l D cA cZ cR h as g im kp) (cwV 0 hts gX2_outNow_X2_noise rfl rfl rfl (by decide +kernel) ⟨Nat.le_of_ble_eq_true rfl, Nat.le_of_ble_eq_true rfl⟩) hE hP hD hS hA MW_adr 0 2 rfl rfl rfl hl.1 rfl (Nat.le_of_ble_eq_true rfl) dX2_outNow_38 ⟨Nat.zero_le _, Nat.zero_le _⟩ (fun H locs hP hD hS => ?_)
      have hP : va_P D vwCl (MW cA cZ h as (mf_nos g) im kp) H := hP
      have hD : va_D A (MW cA cZ h as (mf_nos g) im kp) := hD
      refine lv_goto (tgt := 60) hx hb dX2_outNow_41 (by decide) ?_
      exact hret _ _ _ _ _ (by rw [e1]; exact hP) (by rw [mf_or, if_pos c_1, if_neg c_2]) hS dX2_outNow_60
  · have c_1 : ¬ (g 31) ≤ 0 := c_1
    have e1 : mf_os g = g := by rw [mf_os, if_neg c_1]
    refine lv_aload_n hx hb dX2_outNow_10 rfl (lv_at hl 0 rfl) ?_
    refine va_get (D := D) (ci := 2) (v := .ref (as 0)) (C := RX2) (T := TX2) (N := 3) hx hb hts iw_X2_outNow_X2 hown hE.1 hP 0 rfl rfl 0 (by decide) (hts (.fieldLink RX2 7 "EchoTapsModel" "state" "[I") (by decide +kernel)) (fun _ h9 => h9) rfl dX2_outNow_11 ?_
    refine lv_bipush (v := 73) hx hb dX2_outNow_14 (by decide) ?_
    refine va_iald hx hb hE.1 hP 1 0 rfl rfl (vp_in_nI (n := 73) (N := 555) (by decide) (by decide)) dX2_outNow_16 ?_
    exact hret _ _ _ _ _ (by rw [e1]; exact hP) (by rw [mf_or, if_neg c_1] <;> rfl) hS dX2_outNow_17

abbrev rm_X2_shift : Room := { frames := 0, cells := 0, slots := 0, locals := 0 }
theorem iw_X2_shift_X2 : ∀ w ∈ wsX20, w ∈ wsX2_shift := by decide +kernel
set_option maxRecDepth 100000 in
set_option maxHeartbeats 4000000 in
theorem c_X2_shift (l : Launch) (D : va_G) (cA cZ cR : ClassId) (h : Nat) (as : Nat → Nat) (g im kp : Fn) (R M : Nat) (v : Int32) (h1 : 1 ≤ M) (h5 : R + M ≤ 555) : BMv l D cA cZ cR yX2_shift wsX2_shift rm_X2_shift [.ref h, .int (nI R), .int (nI M), .int v] (MW cA cZ h as g im kp) (MW cA cZ h as (mf_sh g R M v) im kp) := by
  refine bm_openV (maxL := 5) (by decide) rfl rfl rfl (Nat.le_of_ble_eq_true rfl) ?_
  intro p e s m args below meth c A Q hx hb hml hts hown hE hP hD hA hS hret ls hl
  have hown : s.vm.findClass RX2 = some m.cls := hown
  have hl : lv_has ls 5 [(0, .ref h), (1, .int (nI R)), (2, .int (nI M)), (3, .int v)] := hl
  obtain ⟨H, locs, eH, eL⟩ : ∃ (H : Heap) (locs : List Loc), H = s.heap ∧ locs = [] := ⟨_, _, rfl, rfl⟩
  rw [← eH, ← eL]
  rw [← eH] at hP
  have hS : va_S A s.heap H locs := by rw [eH, eL]; exact hS
  clear eH eL
  refine lv_iload_n hx hb dX2_shift_0 rfl (lv_at hl 2 rfl) ?_
  refine lv_iconst (v := 1) hx hb dX2_shift_1 (by decide) ?_
  refine lv_isub hx hb dX2_shift_2 ?_
  refine lv_ri (pk_sub (a := M) (b := 1) (by omega)) ?_
  refine lv_istore (lv' := [(4, .int (nI (M - 1))), (0, .ref h), (1, .int (nI R)), (2, .int (nI M)), (3, .int v)]) hx hb dX2_shift_3 hl (by decide) rfl (fun ls hl => ?_)
  have hP : va_P D vwCl (MW cA cZ h as (mf_sk g R M (M - 1)) im kp) H := by rw [mf_sk0 g R M h1]; exact hP
  have hD : va_D A (MW cA cZ h as (mf_sk g R M (M - 1)) im kp) := by rw [mf_sk0 g R M h1]; exact hD
  have loop : ∀ (n : Nat) (i : Nat) (hi : i = n ∧ i < M), ∀ (H : Heap) (locs : List Loc), va_P D vwCl (MW cA cZ h as (mf_sk g R M i) im kp) H → va_D A (MW cA cZ h as (mf_sk g R M i) im kp) → va_S A s.heap H locs → ∀ ls : Array Slot, lv_has ls 5 [(4, .int (nI i)), (3, .int v), (2, .int (nI M)), (1, .int (nI R)), (0, .ref h)] → W p l e rm_X2_shift s m args below meth c H locs 0 0 Q (F0 m 5 ls []) := by
    intro n
    induction n with
    | zero =>
      intro i hi H locs hP hD hS ls hl
      obtain rfl : i = 0 := by omega
      refine lv_iload hx hb dX2_shift_5 (lv_at hl 0 rfl) ?_
      refine lv_if_le (tgt := 36) hx hb dX2_shift_7 (by decide) (fun c_1 => ?_) (fun c_1 => absurd (by decide) c_1)
      refine lv_aload_n hx hb dX2_shift_36 rfl (lv_at hl 4 rfl) ?_
      refine va_get (D := D) (ci := 2) (v := .ref (as 0)) (C := RX2) (T := TX2) (N := 3) hx hb hts iw_X2_shift_X2 hown hE.1 hP 0 rfl rfl 0 (by decide) (hts (.fieldLink RX2 7 "EchoTapsModel" "state" "[I") (by decide +kernel)) (fun _ h9 => h9) rfl dX2_shift_37 ?_
      refine lv_iload_n hx hb dX2_shift_40 rfl (lv_at hl 3 rfl) ?_
      refine lv_iload_n hx hb dX2_shift_41 rfl (lv_at hl 1 rfl) ?_
      refine va_iast hx hb hE.1 hP hD hS 1 0 rfl rfl (vp_in_nI (by omega) (by decide)) dX2_shift_42 (fun H locs hP hD hS => ?_)
      rw [show (nI (R)).toNatClampNeg = R from nI_clamp (by omega)] at hP hD
      have hP : va_P D vwCl (MW cA cZ h as (upd (mf_sk g R M 0) R v) im kp) H := hP
      have hD : va_D A (MW cA cZ h as (upd (mf_sk g R M 0) R v) im kp) := hD
      exact hret _ _ _ _ hP hS dX2_shift_43
    | succ n ih =>
      intro i hi H locs hP hD hS ls hl
      obtain ⟨gi, egi⟩ : ∃ z : Fn, z = mf_sk g R M i := ⟨_, rfl⟩
      rw [← egi] at hP hD
      refine lv_iload hx hb dX2_shift_5 (lv_at hl 0 rfl) ?_
      refine lv_if_le (tgt := 36) hx hb dX2_shift_7 (by decide) (fun c_2 => absurd c_2 (nI_nle (n := i) (by omega) (by omega))) (fun c_2 => ?_)
      refine lv_aload_n hx hb dX2_shift_10 rfl (lv_at hl 4 rfl) ?_
      refine va_get (D := D) (ci := 2) (v := .ref (as 0)) (C := RX2) (T := TX2) (N := 3) hx hb hts iw_X2_shift_X2 hown hE.1 hP 0 rfl rfl 0 (by decide) (hts (.fieldLink RX2 7 "EchoTapsModel" "state" "[I") (by decide +kernel)) (fun _ h9 => h9) rfl dX2_shift_11 ?_
      refine lv_iload_n hx hb dX2_shift_14 rfl (lv_at hl 3 rfl) ?_
      refine lv_iload hx hb dX2_shift_15 (lv_at hl 0 rfl) ?_
      refine lv_iadd hx hb dX2_shift_17 ?_
      refine lv_ri (nI_add R i) ?_
      refine lv_aload_n hx hb dX2_shift_18 rfl (lv_at hl 4 rfl) ?_
      refine va_get (D := D) (ci := 2) (v := .ref (as 0)) (C := RX2) (T := TX2) (N := 3) hx hb hts iw_X2_shift_X2 hown hE.1 hP 0 rfl rfl 0 (by decide) (hts (.fieldLink RX2 7 "EchoTapsModel" "state" "[I") (by decide +kernel)) (fun _ h9 => h9) rfl dX2_shift_19 ?_
      refine lv_iload_n hx hb dX2_shift_22 rfl (lv_at hl 3 rfl) ?_
      refine lv_iload hx hb dX2_shift_23 (lv_at hl 0 rfl) ?_
      refine lv_iadd hx hb dX2_shift_25 ?_
      refine lv_ri (nI_add R i) ?_
      refine lv_iconst (v := 1) hx hb dX2_shift_26 (by decide) ?_
      refine lv_isub hx hb dX2_shift_27 ?_
      refine lv_ri (pk_sub (a := R + i) (b := 1) (by omega)) ?_
      refine va_iald hx hb hE.1 hP 1 0 rfl rfl (vp_in_nI (by omega) (by decide)) dX2_shift_28 ?_
      refine lv_ri (congrArg gi (nI_clamp (n := (R + i) - 1) (by omega))) ?_
      refine va_iast hx hb hE.1 hP hD hS 1 0 rfl rfl (vp_in_nI (by omega) (by decide)) dX2_shift_29 (fun H locs hP hD hS => ?_)
      rw [show (nI (R + i)).toNatClampNeg = R + i from nI_clamp (by omega)] at hP hD
      have hP : va_P D vwCl (MW cA cZ h as (upd gi (R + i) (gi ((R + i) - 1))) im kp) H := hP
      have hD : va_D A (MW cA cZ h as (upd gi (R + i) (gi ((R + i) - 1))) im kp) := hD
      refine lv_iinc (v := nI (i - 1)) (lv' := [(4, .int (nI (i - 1))), (3, .int v), (2, .int (nI M)), (1, .int (nI R)), (0, .ref h)]) hx hb dX2_shift_30 hl (k := 0) rfl (by rw [show i = (i - 1) + 1 by omega]; exact pk_m1 (i - 1)) (by decide) rfl (fun ls hl => ?_)
      refine lv_goto (tgt := 5) hx hb dX2_shift_33 (by decide) ?_
      rw [egi, mf_sk1 g R M i (by omega) (by omega)] at hP hD
      exact ih (i - 1) (by omega) H locs hP hD hS ls (lv_sub hl [0, 1, 2, 3, 4] rfl)
  exact loop (M - 1) (M - 1) (by omega) H locs hP hD hS ls (lv_sub hl [0, 4, 3, 2, 1] rfl)

abbrev rm_X2_echo : Room := { frames := 0, cells := 0, slots := 0, locals := 0 }
theorem iw_X2_echo_X2 : ∀ w ∈ wsX20, w ∈ wsX2_echo := by decide +kernel
set_option maxRecDepth 100000 in
set_option maxHeartbeats 4000000 in
theorem c_X2_echo (l : Launch) (D : va_G) (cA cZ cR : ClassId) (h : Nat) (as : Nat → Nat) (g im kp : Fn) (far : Int32) (hg : LG g) : BMi l D cA cZ cR yX2_echo wsX2_echo rm_X2_echo [.ref h, .int far] (MW cA cZ h as g im kp) (MW cA cZ h as g im kp) (mf_echo g far) := by
  refine bm_open (maxL := 5) (by decide) rfl rfl rfl (Nat.le_of_ble_eq_true rfl) ?_
  intro p e s m args below meth c A Q hx hb hml hts hown hE hP hD hA hS hret ls hl
  have hown : s.vm.findClass RX2 = some m.cls := hown
  have hl : lv_has ls 5 [(0, .ref h), (1, .int far)] := hl
  obtain ⟨H, locs, eH, eL⟩ : ∃ (H : Heap) (locs : List Loc), H = s.heap ∧ locs = [] := ⟨_, _, rfl, rfl⟩
  rw [← eH, ← eL]
  rw [← eH] at hP
  have hS : va_S A s.heap H locs := by rw [eH, eL]; exact hS
  clear eH eL
  obtain ⟨d, hd15, ed⟩ := hg
  refine lv_iconst (v := 0) hx hb dX2_echo_0 (by decide) ?_
  refine lv_istore_n (lv' := [(2, .int 0), (0, .ref h), (1, .int far)]) hx hb dX2_echo_1 rfl hl (by decide) rfl (fun ls hl => ?_)
  refine lv_iconst (v := 0) hx hb dX2_echo_2 (by decide) ?_
  refine lv_istore_n (lv' := [(3, .int 0), (2, .int 0), (0, .ref h), (1, .int far)]) hx hb dX2_echo_3 rfl hl (by decide) rfl (fun ls hl => ?_)
  have loop : ∀ (n : Nat) (k : Nat) (a : Int32) (hk : k + n = 8) (ha : a = l_sum (fun k => g (13 + k) * mf_ee g far k) k), ∀ (H : Heap) (locs : List Loc), va_P D vwCl (MW cA cZ h as g im kp) H → va_D A (MW cA cZ h as g im kp) → va_S A s.heap H locs → ∀ ls : Array Slot, lv_has ls 5 [(2, .int a), (3, .int (nI k)), (1, .int far), (0, .ref h)] → W p l e rm_X2_echo s m args below meth c H locs 0 0 Q (F0 m 4 ls []) := by
    intro n
    induction n with
    | zero =>
      intro k a hk ha H locs hP hD hS ls hl
      obtain rfl : k = 8 := by omega
      refine lv_iload_n hx hb dX2_echo_4 rfl (lv_at hl 1 rfl) ?_
      refine lv_bipush (v := 8) hx hb dX2_echo_5 (by decide) ?_
      refine lv_icmp_ge (tgt := 61) hx hb dX2_echo_7 (by decide) (fun c_1 => ?_) (fun c_1 => absurd (by decide) c_1)
      refine lv_iload_n hx hb dX2_echo_61 rfl (lv_at hl 0 rfl) ?_
      refine lv_sipush (v := 1024) hx hb dX2_echo_62 (by decide) ?_
      refine lv_idiv hx hb dX2_echo_65 (by decide) ?_
      exact hret _ _ _ _ _ hP (by rw [ha]; rfl) hS dX2_echo_66
    | succ n ih =>
      intro k a hk ha H locs hP hD hS ls hl
      refine lv_iload_n hx hb dX2_echo_4 rfl (lv_at hl 1 rfl) ?_
      refine lv_bipush (v := 8) hx hb dX2_echo_5 (by decide) ?_
      refine lv_icmp_ge (tgt := 61) hx hb dX2_echo_7 (by decide) (fun c_2 => absurd c_2 (nI_ge (a := k) (b := 8) (by omega) (by decide))) (fun c_2 => ?_)
      refine lv_iload_n hx hb dX2_echo_10 rfl (lv_at hl 1 rfl) ?_
      refine lv_aload_n hx hb dX2_echo_11 rfl (lv_at hl 3 rfl) ?_
      refine va_get (D := D) (ci := 2) (v := .ref (as 0)) (C := RX2) (T := TX2) (N := 3) hx hb hts iw_X2_echo_X2 hown hE.1 hP 0 rfl rfl 0 (by decide) (hts (.fieldLink RX2 7 "EchoTapsModel" "state" "[I") (by decide +kernel)) (fun _ h9 => h9) rfl dX2_echo_12 ?_
      refine lv_bipush (v := 21) hx hb dX2_echo_15 (by decide) ?_
      refine va_iald hx hb hE.1 hP 1 0 rfl rfl (vp_in_nI (n := 21) (N := 555) (by decide) (by decide)) dX2_echo_17 ?_
      refine lv_ri ed ?_
      refine lv_iadd hx hb dX2_echo_18 ?_
      refine lv_ri (nI_add k d) ?_
      refine lv_istore (lv' := [(4, .int (nI (k + d))), (2, .int a), (3, .int (nI k)), (1, .int far), (0, .ref h)]) hx hb dX2_echo_19 hl (by decide) rfl (fun ls hl => ?_)
      refine lv_iload_n hx hb dX2_echo_21 rfl (lv_at hl 1 rfl) ?_
      refine lv_aload_n hx hb dX2_echo_22 rfl (lv_at hl 4 rfl) ?_
      refine va_get (D := D) (ci := 2) (v := .ref (as 0)) (C := RX2) (T := TX2) (N := 3) hx hb hts iw_X2_echo_X2 hown hE.1 hP 0 rfl rfl 0 (by decide) (hts (.fieldLink RX2 7 "EchoTapsModel" "state" "[I") (by decide +kernel)) (fun _ h9 => h9) rfl dX2_echo_23 ?_
      refine lv_bipush (v := 13) hx hb dX2_echo_26 (by decide) ?_
      refine lv_iload_n hx hb dX2_echo_28 rfl (lv_at hl 2 rfl) ?_
      refine lv_iadd hx hb dX2_echo_29 ?_
      refine lv_ri (nI_add 13 k) ?_
      refine va_iald hx hb hE.1 hP 1 0 rfl rfl (vp_in_nI (by omega) (by decide)) dX2_echo_30 ?_
      refine lv_ri (congrArg g (nI_clamp (n := 13 + k) (by omega))) ?_
      refine lv_iload hx hb dX2_echo_31 (lv_at hl 0 rfl) ?_
      have j52 : ∀ (v : Int32) (ev : v = mf_ee g far k), W p l e rm_X2_echo s m args below meth c H locs 0 0 Q (F0 m 52 ls [.int v, .int (g (13 + k)), .int a]) := by
        intro v ev
        refine lv_imul hx hb dX2_echo_52 ?_
        refine lv_iadd hx hb dX2_echo_53 ?_
        refine lv_istore_n (lv' := [(2, .int (a + ((g (13 + k)) * v))), (4, .int (nI (k + d))), (3, .int (nI k)), (1, .int far), (0, .ref h)]) hx hb dX2_echo_54 rfl hl (by decide) rfl (fun ls hl => ?_)
        refine lv_iinc (v := nI (k + 1)) (lv' := [(3, .int (nI (k + 1))), (2, .int (a + ((g (13 + k)) * v))), (4, .int (nI (k + d))), (1, .int far), (0, .ref h)]) hx hb dX2_echo_55 hl (k := 2) rfl (nI_1 k) (by decide) rfl (fun ls hl => ?_)
        refine lv_goto (tgt := 4) hx hb dX2_echo_58 (by decide) ?_
        exact ih (k + 1) _ (by omega) (by rw [ha, l_sum, ev]) H locs hP hD hS ls (lv_sub hl [1, 0, 3, 4] rfl)
      refine lv_if_ne (tgt := 40) hx hb dX2_echo_33 (by decide) (fun c_3 => ?_) (fun c_3 => ?_)
      · have c_3 : ¬ (nI (k + d)) = 0 := c_3
        have hkd : ¬ k + d = 0 := fun q => c_3 (by rw [q]; rfl)
        refine lv_aload_n hx hb dX2_echo_40 rfl (lv_at hl 4 rfl) ?_
        refine va_get (D := D) (ci := 2) (v := .ref (as 0)) (C := RX2) (T := TX2) (N := 3) hx hb hts iw_X2_echo_X2 hown hE.1 hP 0 rfl rfl 0 (by decide) (hts (.fieldLink RX2 7 "EchoTapsModel" "state" "[I") (by decide +kernel)) (fun _ h9 => h9) rfl dX2_echo_41 ?_
        refine lv_bipush (v := 33) hx hb dX2_echo_44 (by decide) ?_
        refine lv_iload hx hb dX2_echo_46 (lv_at hl 0 rfl) ?_
        refine lv_iadd hx hb dX2_echo_48 ?_
        refine lv_ri (nI_add 33 (k + d)) ?_
        refine lv_iconst (v := 1) hx hb dX2_echo_49 (by decide) ?_
        refine lv_isub hx hb dX2_echo_50 ?_
        refine lv_ri (pk_sub (a := 33 + (k + d)) (b := 1) (by omega)) ?_
        refine va_iald hx hb hE.1 hP 1 0 rfl rfl (vp_in_nI (by omega) (by decide)) dX2_echo_51 ?_
        refine lv_ri (congrArg g (nI_clamp (n := (33 + (k + d)) - 1) (by omega))) ?_
        exact j52 _ (by rw [mf_ee, ed, nI_clamp (by omega), if_neg hkd])
      · have c_3 : (nI (k + d)) = 0 := c_3
        have hkd : k + d = 0 := (nI_eq (by omega) (by decide)).mp c_3
        refine lv_iload_n hx hb dX2_echo_36 rfl (lv_at hl 3 rfl) ?_
        refine lv_goto (tgt := 52) hx hb dX2_echo_37 (by decide) ?_
        exact j52 _ (by rw [mf_ee, ed, nI_clamp (by omega), if_pos hkd])
  exact loop 8 0 0 rfl rfl H locs hP hD hS ls (lv_sub hl [1, 0, 3, 2] rfl)
