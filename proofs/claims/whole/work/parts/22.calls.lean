noncomputable def yf_tick (g : Fn) (far near : Int32) : Int32 := if pf_in far (-1000) 1000 = 0 ∨ pf_in near (-2000) 2000 = 0 then -1000000002 else mf_tick g far near 27
noncomputable def ys_tick (g : Fn) (far near : Int32) : Fn := if pf_in far (-1000) 1000 = 0 ∨ pf_in near (-2000) 2000 = 0 then g else mf_tick g far near
noncomputable def yf_speak (g : Fn) (far v : Int32) : Int32 := if pf_in far (-1000) 1000 = 0 ∨ pf_in v (-2000) 2000 = 0 then -1000000002 else mf_spk g far v 27
noncomputable def ys_speak (g : Fn) (far v : Int32) : Fn := if pf_in far (-1000) 1000 = 0 ∨ pf_in v (-2000) 2000 = 0 then g else mf_spk g far v
def yf_tap (g : Fn) (k : Int32) : Int32 := if pf_in k 0 7 = 0 then -1000000002 else g (5 + k.toNatClampNeg)
def yf_last (g : Fn) (k : Int32) : Int32 := if pf_in k 0 7 = 0 then -1000000002 else if g 24 = 0 then -1000000003 else g (25 + k.toNatClampNeg)
def yf_ago (g : Fn) (i k : Int32) : Int32 := if pf_in i 0 31 = 0 ∨ pf_in k 0 2 = 0 then -1000000002 else if i < g 24 then g (33 + 40 * k.toNatClampNeg + i.toNatClampNeg) else -1000000006
def yf_part (g : Fn) (k v : Int32) : Int32 := if pf_in k 0 8 = 0 ∨ xo_part k v = 0 then -1000000002 else g (13 + k.toNatClampNeg)
def ys_part (g : Fn) (k v : Int32) : Fn := if pf_in k 0 8 = 0 ∨ xo_part k v = 0 then g else upd g (13 + k.toNatClampNeg) v
def yf_rule (g : Fn) (k v : Int32) : Int32 := if pf_in k 0 4 = 0 ∨ pf_in v 0 (pf_most k) = 0 then -2 else g k.toNatClampNeg
def ys_rule (g : Fn) (k v : Int32) : Fn := if pf_in k 0 4 = 0 ∨ pf_in v 0 (pf_most k) = 0 then g else upd g k.toNatClampNeg v
def yf_like (g : Fn) (d : Int32) : Int32 := if pf_in d 0 15 = 0 then -1000000002 else mf_like g d.toNatClampNeg
def mk_b (g : Fn) : Nat → Nat
  | 0 => 0
  | k + 1 => if pf_sz (mf_like g (k + 1)) ≤ pf_sz (mf_like g (mk_b g k)) then mk_b g k else k + 1
theorem mk_b_le (g : Fn) : ∀ k, mk_b g k ≤ k := by
  intro k
  induction k with
  | zero => exact Nat.le_refl 0
  | succ k ih =>
    rw [mk_b]
    split <;> omega
def mf_zr (g : Fn) : Nat → Fn
  | 0 => g
  | k + 1 => upd (mf_zr g k) (5 + k) 0
def yf_seek (g : Fn) : Int32 := if mf_like g (mk_b g 15) = 0 then -3 else nI (mk_b g 15)
def ys_seek (g : Fn) : Fn := if mf_like g (mk_b g 15) = 0 then g else mf_zr (upd g 4 (nI (mk_b g 15))) 8
def yf_gain (g : Fn) (n : Nat) (k : Int32) : Int32 := if pf_in k 0 1 = 0 then -2 else if mf_sq g 113 = 0 then -3 else (if k = 0 then mf_sq g 73 else mf_sq g 113) / pf_gd n (mf_sq g 113) (mf_sq g 73)
def mf_bg (g : Fn) (r : Nat) (i : Int32) : Nat → Int32 → Int32
  | 0, f => if i = -1 then f else -6
  | n + 1, f => if g (r + n) = 1 ∧ g (r + n + 1) = 0 then (if f = i then g 24 - nI n else mf_bg g r i n (f + 1)) else mf_bg g r i n f
def yf_began (g : Fn) (T : Nat) (i k : Int32) : Int32 := if pf_in k 0 1 = 0 then -2 else mf_bg g (if k = 0 then 153 else 354) i (if 200 ≤ T then 200 else T) 0
def mf_sv (im g : Fn) (t k : Nat) : Fn := fun j => if 555 * t ≤ j ∧ j < 555 * t + k then g (j - 555 * t) else im j
def mf_ld (g im : Fn) (t k : Nat) : Fn := fun j => if j < k then im (555 * t + j) else g j
theorem mf_sv0 (im g : Fn) (t : Nat) : mf_sv im g t 0 = im := by funext j; unfold mf_sv; rw [if_neg (by omega)]
theorem mf_sv1 (im g : Fn) (t k : Nat) : upd (mf_sv im g t k) (555 * t + k) (g k) = mf_sv im g t (k + 1) := by
  funext j
  by_cases e : j = 555 * t + k
  · subst e; rw [pk_us, mf_sv, if_pos (by omega), show 555 * t + k - 555 * t = k by omega]
  · rw [pk_un e, mf_sv, mf_sv]
    by_cases h : 555 * t ≤ j ∧ j < 555 * t + k
    · rw [if_pos h, if_pos (by omega)]
    · rw [if_neg h, if_neg (by omega)]
theorem mf_ld0 (g im : Fn) (t : Nat) : mf_ld g im t 0 = g := by funext j; unfold mf_ld; rw [if_neg (by omega)]
theorem mf_ld1 (g im : Fn) (t k : Nat) : upd (mf_ld g im t k) k (im (555 * t + k)) = mf_ld g im t (k + 1) := by
  funext j
  by_cases e : j = k
  · subst e; rw [pk_us, mf_ld, if_pos (by omega)]
  · rw [pk_un e, mf_ld, mf_ld]
    by_cases h : j < k
    · rw [if_pos h, if_pos (by omega)]
    · rw [if_neg h, if_neg (by omega)]
theorem MW_cg {D : va_G} {cA cZ : ClassId} {h : Nat} {as : Nat → Nat} {g g' im kp : Fn} {H : Heap} (e : ∀ j, j < 555 → g j = g' j) (hP : va_P D vwCl (MW cA cZ h as g im kp) H) : va_P D vwCl (MW cA cZ h as g' im kp) H := by
  intro k q hk
  match k, hk with
  | 0, hk => cases hk; exact hP 0 _ rfl
  | 1, hk => cases hk; exact va_at_cg e (hP 1 _ rfl)
  | 2, hk => cases hk; exact hP 2 _ rfl
  | 3, hk => cases hk; exact hP 3 _ rfl
  | k + 4, hk => simp at hk
noncomputable def yr_g (loud : Int32) : Nat → Int32 → Fn → Fn
  | 0, _, g => g
  | n + 1, z, g => yr_g loud n (pf_nx z) (mf_spk g (pf_ce (pf_nx z) loud) 0)
noncomputable def yr_sum (loud : Int32) : Nat → Int32 → Fn → Int32 → Int32
  | 0, _, _, a => a
  | n + 1, z, g, a => yr_sum loud n (pf_nx z) (mf_spk g (pf_ce (pf_nx z) loud) 0) (a + pf_sz (mf_spk g (pf_ce (pf_nx z) loud) 0 26))
noncomputable def yf_run (g : Fn) (z n loud : Int32) : Int32 := if pf_in z 0 65536 = 0 ∨ pf_in n 1 60 = 0 ∨ pf_in loud 0 1000 = 0 then -2 else yr_sum loud n.toNatClampNeg z g 0
noncomputable def ys_run (g : Fn) (z n loud : Int32) : Fn := if pf_in z 0 65536 = 0 ∨ pf_in n 1 60 = 0 ∨ pf_in loud 0 1000 = 0 then g else yr_g loud n.toNatClampNeg z g
def yl_c (limit : Int32) (g : Fn) (a : Int32) : Int32 := if limit < pf_sz (g 26) then 0 else a + 1
def yl_e (k : Nat) (a : Int32) : Int32 := if ¬ a = 8 then -6 else nI k
noncomputable def yl_r (loud limit : Int32) : Nat → Nat → Int32 → Fn → Int32 → Int32
  | 0, k, _, _, a => yl_e k a
  | n + 1, k, z, g, a => if 8 ≤ a then yl_e k a else yl_r loud limit n (k + 1) (pf_nx z) (mf_spk g (pf_ce (pf_nx z) loud) 0) (yl_c limit (mf_spk g (pf_ce (pf_nx z) loud) 0) a)
noncomputable def yf_learnt (g : Fn) (z loud limit : Int32) : Int32 := if pf_in z 0 65536 = 0 ∨ pf_in loud 0 1000 = 0 ∨ pf_in limit 0 999 = 0 then -2 else yl_r loud limit 200 0 z g 0
noncomputable def ym_learnt (g im : Fn) (z loud limit : Int32) : Fn := if pf_in z 0 65536 = 0 ∨ pf_in loud 0 1000 = 0 ∨ pf_in limit 0 999 = 0 then im else mf_sv im g 2 555
def ym_image (g im : Fn) (k : Int32) : Fn := if pf_in k 0 1 = 0 then im else mf_sv im g k.toNatClampNeg 555
def yk_image (kp : Fn) (k : Int32) : Fn := if pf_in k 0 1 = 0 then kp else upd kp k.toNatClampNeg 1
def yf_rest (kp : Fn) (k : Int32) : Int32 := if pf_in k 0 1 = 0 then -2 else if kp k.toNatClampNeg = 0 then -3 else 1
def yg_rest (g im kp : Fn) (k : Int32) : Fn := if pf_in k 0 1 = 0 then g else if kp k.toNatClampNeg = 0 then g else mf_ld g im k.toNatClampNeg 555
def yk2 (x y : Int32) : Int32 := if x = 0 then 0 else y
def yf_count (g kp : Fn) (k : Int32) : Int32 := if ¬ pf_in k 10 14 = 0 then g (k - 10).toNatClampNeg else if k = 0 then g 24 else if k = 1 then g 22 else if k = 2 then g 23 else if k = 3 then mf_tsz g else if k = 4 then g 21 else if k = 5 then yk2 (kp 0) 1 + yk2 (kp 1) 2 else -2
theorem mf_spk_out (g : Fn) (far v : Int32) {j : Nat} (h : j < 5 ∨ (13 ≤ j ∧ j < 22)) : mf_spk g far v j = g j := mf_tick_out g far _ h
theorem sw3 {k : Int32} (h0 : ¬ k = 0) (h1 : ¬ k = 1) (h2 : ¬ k = 2) (h3 : ¬ k = 3) : k.toInt < 0 ∨ 3 < k.toInt := by
  have g0 := lv_neT h0 (a := 0) rfl
  have g1 := lv_neT h1 (a := 1) rfl
  have g2 := lv_neT h2 (a := 2) rfl
  have g3 := lv_neT h3 (a := 3) rfl
  omega
abbrev rm_X2_most : Room := { frames := 0, cells := 0, slots := 0, locals := 0 }
set_option maxRecDepth 100000 in
set_option maxHeartbeats 4000000 in
theorem c_X2_most (l : Launch) (r : Int32) : SMi l yX2_most wsX2_most rm_X2_most [.int r] (pf_most r) := by
  refine sm_open (maxL := 1) (by decide) rfl (Nat.le_of_ble_eq_true rfl) ?_
  intro p e s m args below meth c Q H locs hx hb hml hts hown hret ls hl
  have hown : s.vm.findClass RX2 = some m.cls := hown
  have hl : lv_has ls 1 [(0, .int r)] := hl
  refine lv_iload_n hx hb dX2_most_0 rfl (lv_at hl 0 rfl) ?_
  by_cases h0 : r = 0
  · refine lv_tableIn (tgt := 32) hx hb dX2_most_1 (by rw [h0]; decide) (by rw [h0]; decide) (by rw [h0]; rfl) (by decide) ?_
    refine lv_sipush (v := 1024) hx hb dX2_most_32 (by decide) ?_
    exact hret _ _ _ (by rw [pf_most, if_pos h0]) dX2_most_35
  by_cases h1 : r = 1
  · refine lv_tableIn (tgt := 36) hx hb dX2_most_1 (by rw [h1]; decide) (by rw [h1]; decide) (by rw [h1]; rfl) (by decide) ?_
    refine lv_bipush (v := 20) hx hb dX2_most_36 (by decide) ?_
    exact hret _ _ _ (by rw [pf_most, if_neg h0, if_pos h1]) dX2_most_38
  by_cases h2 : r = 2
  · refine lv_tableIn (tgt := 39) hx hb dX2_most_1 (by rw [h2]; decide) (by rw [h2]; decide) (by rw [h2]; rfl) (by decide) ?_
    refine lv_sipush (v := 500) hx hb dX2_most_39 (by decide) ?_
    exact hret _ _ _ (by rw [pf_most, if_neg h0, if_neg h1, if_pos h2]) dX2_most_42
  by_cases h3 : r = 3
  · refine lv_tableIn (tgt := 43) hx hb dX2_most_1 (by rw [h3]; decide) (by rw [h3]; decide) (by rw [h3]; rfl) (by decide) ?_
    refine lv_bipush (v := 50) hx hb dX2_most_43 (by decide) ?_
    exact hret _ _ _ (by rw [pf_most, if_neg h0, if_neg h1, if_neg h2, if_pos h3]) dX2_most_45
  refine lv_tableOut (tgt := 46) hx hb dX2_most_1 (sw3 h0 h1 h2 h3) (by decide) ?_
  refine lv_bipush (v := 15) hx hb dX2_most_46 (by decide) ?_
  exact hret _ _ _ (by rw [pf_most, if_neg h0, if_neg h1, if_neg h2, if_neg h3]) dX2_most_48

abbrev rm_X2_common : Room := { frames := 0, cells := 0, slots := 0, locals := 0 }
set_option maxRecDepth 100000 in
set_option maxHeartbeats 4000000 in
theorem c_X2_common (l : Launch) (N : Nat) (a b : Int32) (hN : pf_ge N a b) : SMi l yX2_common wsX2_common rm_X2_common [.int a, .int b] (pf_gd N a b) := by
  refine sm_open (maxL := 5) (by decide) rfl (Nat.le_of_ble_eq_true rfl) ?_
  intro p e s m args below meth c Q H locs hx hb hml hts hown hret ls hl
  have hown : s.vm.findClass RX2 = some m.cls := hown
  have hl : lv_has ls 5 [(0, .int a), (1, .int b)] := hl
  refine lv_iload_n hx hb dX2_common_0 rfl (lv_at hl 0 rfl) ?_
  refine lv_istore_n (lv' := [(2, .int a), (0, .int a), (1, .int b)]) hx hb dX2_common_1 rfl hl (by decide) rfl (fun ls hl => ?_)
  refine lv_iload_n hx hb dX2_common_2 rfl (lv_at hl 2 rfl) ?_
  refine lv_istore_n (lv' := [(3, .int b), (2, .int a), (0, .int a), (1, .int b)]) hx hb dX2_common_3 rfl hl (by decide) rfl (fun ls hl => ?_)
  have loop : ∀ (n : Nat) (x y : Int32) (he : pf_ge n x y) (hg : pf_gd n x y = pf_gd N a b), ∀ ls : Array Slot, lv_has ls 5 [(3, .int y), (2, .int x), (1, .int b), (0, .int a)] → W p l e rm_X2_common s m args below meth c H locs 0 0 Q (F0 m 4 ls []) := by
    intro n
    induction n with
    | zero =>
      intro x y he hg ls hl
      refine lv_iload_n hx hb dX2_common_4 rfl (lv_at hl 0 rfl) ?_
      refine lv_if_eq (tgt := 21) hx hb dX2_common_5 (by decide) (fun c_1 => ?_) (fun c_1 => absurd he c_1)
      refine lv_iload_n hx hb dX2_common_21 rfl (lv_at hl 1 rfl) ?_
      exact hret _ _ _ hg dX2_common_22
    | succ n ih =>
      intro x y he hg ls hl
      refine lv_iload_n hx hb dX2_common_4 rfl (lv_at hl 0 rfl) ?_
      refine lv_if_eq (tgt := 21) hx hb dX2_common_5 (by decide) (fun c_2 => ?_) (fun c_2 => ?_)
      · have c_2 : y = 0 := c_2
        rw [pf_gd, if_pos c_2] at hg
        refine lv_iload_n hx hb dX2_common_21 rfl (lv_at hl 1 rfl) ?_
        exact hret _ _ _ hg dX2_common_22
      · have c_2 : ¬ y = 0 := c_2
        rw [pf_gd, if_neg c_2] at hg
        have he := he.resolve_left c_2
        refine lv_iload_n hx hb dX2_common_8 rfl (lv_at hl 1 rfl) ?_
        refine lv_iload_n hx hb dX2_common_9 rfl (lv_at hl 0 rfl) ?_
        refine lv_irem hx hb dX2_common_10 c_2 ?_
        refine lv_istore (lv' := [(4, .int (pf_rm x y)), (3, .int y), (2, .int x), (1, .int b), (0, .int a)]) hx hb dX2_common_11 hl (by decide) rfl (fun ls hl => ?_)
        refine lv_iload_n hx hb dX2_common_13 rfl (lv_at hl 1 rfl) ?_
        refine lv_istore_n (lv' := [(2, .int y), (4, .int (pf_rm x y)), (3, .int y), (1, .int b), (0, .int a)]) hx hb dX2_common_14 rfl hl (by decide) rfl (fun ls hl => ?_)
        refine lv_iload hx hb dX2_common_15 (lv_at hl 1 rfl) ?_
        refine lv_istore_n (lv' := [(3, .int (pf_rm x y)), (2, .int y), (4, .int (pf_rm x y)), (1, .int b), (0, .int a)]) hx hb dX2_common_17 rfl hl (by decide) rfl (fun ls hl => ?_)
        refine lv_goto (tgt := 4) hx hb dX2_common_18 (by decide) ?_
        exact ih _ _ he hg ls (lv_sub hl [0, 1, 3, 4] rfl)
  exact loop N a b hN rfl ls (lv_sub hl [0, 1, 3, 2] rfl)

abbrev rm_X2_tick : Room := { frames := 4, cells := 0, slots := 0, locals := 83 }
set_option maxRecDepth 100000 in
set_option maxHeartbeats 4000000 in
theorem c_X2_tick (l : Launch) (D : va_G) (cA cZ cR : ClassId) (h : Nat) (as : Nat → Nat) (g im kp : Fn) (far near : Int32) (hd : DL g) : BMi l D cA cZ cR yX2_tick wsX2_tick rm_X2_tick [.ref h, .int far, .int near] (MW cA cZ h as g im kp) (MW cA cZ h as (ys_tick g far near) im kp) (yf_tick g far near) := by
  refine bm_open (maxL := 3) (by decide) rfl rfl rfl (Nat.le_of_ble_eq_true rfl) ?_
  intro p e s m args below meth c A Q hx hb hml hts hown hE hP hD hA hS hret ls hl
  have hown : s.vm.findClass RX2 = some m.cls := hown
  have hl : lv_has ls 3 [(0, .ref h), (1, .int far), (2, .int near)] := hl
  obtain ⟨H, locs, eH, eL⟩ : ∃ (H : Heap) (locs : List Loc), H = s.heap ∧ locs = [] := ⟨_, _, rfl, rfl⟩
  rw [← eH, ← eL]
  rw [← eH] at hP
  have hS : va_S A s.heap H locs := by rw [eH, eL]; exact hS
  clear eH eL
  refine lv_iload_n hx hb dX2_tick_0 rfl (lv_at hl 1 rfl) ?_
  refine lv_sipush (v := (-1000)) hx hb dX2_tick_1 (by decide) ?_
  refine lv_sipush (v := 1000) hx hb dX2_tick_4 (by decide) ?_
  refine sm_i [.int far, .int (-1000), .int 1000] [] ⟨hx, hb, hml, hown, hts⟩ (c_X2_in l far (-1000) 1000) (va_cwS 3 hts gX2_tick_X2_in rfl rfl rfl (by decide +kernel) ⟨Nat.le_of_ble_eq_true rfl, Nat.le_of_ble_eq_true rfl⟩) rfl hl.1 rfl (Nat.le_of_ble_eq_true rfl) dX2_tick_7 ⟨Nat.zero_le _, Nat.zero_le _⟩ ?_
  refine lv_if_eq (tgt := 35) hx hb dX2_tick_10 (by decide) (fun c_1 => ?_) (fun c_1 => ?_)
  · have c_1 : (pf_in far (-1000) 1000) = 0 := c_1
    have e1 : ys_tick g far near = g := if_pos (Or.inl c_1)
    refine lv_ldc (v := (-1000000002)) hx hb hown (hts (.constant RX2 79 (-1000000002)) (by decide +kernel)) dX2_tick_35 ?_
    exact hret _ _ _ _ _ (by rw [e1]; exact hP) ((if_pos (Or.inl c_1)).symm) hS dX2_tick_37
  · have c_1 : ¬ (pf_in far (-1000) 1000) = 0 := c_1
    refine lv_iload_n hx hb dX2_tick_13 rfl (lv_at hl 2 rfl) ?_
    refine lv_sipush (v := (-2000)) hx hb dX2_tick_14 (by decide) ?_
    refine lv_sipush (v := 2000) hx hb dX2_tick_17 (by decide) ?_
    refine sm_i [.int near, .int (-2000), .int 2000] [] ⟨hx, hb, hml, hown, hts⟩ (c_X2_in l near (-2000) 2000) (va_cwS 3 hts gX2_tick_X2_in rfl rfl rfl (by decide +kernel) ⟨Nat.le_of_ble_eq_true rfl, Nat.le_of_ble_eq_true rfl⟩) rfl hl.1 rfl (Nat.le_of_ble_eq_true rfl) dX2_tick_20 ⟨Nat.zero_le _, Nat.zero_le _⟩ ?_
    refine lv_if_eq (tgt := 35) hx hb dX2_tick_23 (by decide) (fun c_2 => ?_) (fun c_2 => ?_)
    · have c_2 : (pf_in near (-2000) 2000) = 0 := c_2
      have e1 : ys_tick g far near = g := if_pos (Or.inr c_2)
      refine lv_ldc (v := (-1000000002)) hx hb hown (hts (.constant RX2 79 (-1000000002)) (by decide +kernel)) dX2_tick_35 ?_
      exact hret _ _ _ _ _ (by rw [e1]; exact hP) ((if_pos (Or.inr c_2)).symm) hS dX2_tick_37
    · have c_2 : ¬ (pf_in near (-2000) 2000) = 0 := c_2
      have e1 : ys_tick g far near = mf_tick g far near := if_neg (fun q => q.elim c_1 c_2)
      refine lv_aload_n hx hb dX2_tick_26 rfl (lv_at hl 0 rfl) ?_
      refine lv_iload_n hx hb dX2_tick_27 rfl (lv_at hl 1 rfl) ?_
      refine lv_iload_n hx hb dX2_tick_28 rfl (lv_at hl 2 rfl) ?_
      refine bm_i [] (MW cA cZ h as g im kp) [] [.int far, .int near] [] ⟨hx, hb, hml, hown, hts⟩ (c_X2_tickOf l D cA cZ cR h as g im kp far near hd) (cwV 2 hts gX2_tick_X2_tickOf rfl rfl rfl (by decide +kernel) ⟨Nat.le_of_ble_eq_true rfl, Nat.le_of_ble_eq_true rfl⟩) hE hP hD hS hA MW_adr 0 2 rfl rfl rfl hl.1 rfl (Nat.le_of_ble_eq_true rfl) dX2_tick_29 ⟨Nat.zero_le _, Nat.zero_le _⟩ (fun H locs hP hD hS => ?_)
      have hP : va_P D vwCl (MW cA cZ h as (mf_tick g far near) im kp) H := hP
      have hD : va_D A (MW cA cZ h as (mf_tick g far near) im kp) := hD
      refine lv_goto (tgt := 37) hx hb dX2_tick_32 (by decide) ?_
      exact hret _ _ _ _ _ (by rw [e1]; exact hP) ((if_neg (fun q => q.elim c_1 c_2)).symm) hS dX2_tick_37

abbrev rm_X2_speak : Room := { frames := 5, cells := 0, slots := 0, locals := 105 }
set_option maxRecDepth 100000 in
set_option maxHeartbeats 4000000 in
theorem c_X2_speak (l : Launch) (D : va_G) (cA cZ cR : ClassId) (h : Nat) (as : Nat → Nat) (g im kp : Fn) (far v : Int32) (hd : DL g) (hg : LG g) : BMi l D cA cZ cR yX2_speak wsX2_speak rm_X2_speak [.ref h, .int far, .int v] (MW cA cZ h as g im kp) (MW cA cZ h as (ys_speak g far v) im kp) (yf_speak g far v) := by
  refine bm_open (maxL := 3) (by decide) rfl rfl rfl (Nat.le_of_ble_eq_true rfl) ?_
  intro p e s m args below meth c A Q hx hb hml hts hown hE hP hD hA hS hret ls hl
  have hown : s.vm.findClass RX2 = some m.cls := hown
  have hl : lv_has ls 3 [(0, .ref h), (1, .int far), (2, .int v)] := hl
  obtain ⟨H, locs, eH, eL⟩ : ∃ (H : Heap) (locs : List Loc), H = s.heap ∧ locs = [] := ⟨_, _, rfl, rfl⟩
  rw [← eH, ← eL]
  rw [← eH] at hP
  have hS : va_S A s.heap H locs := by rw [eH, eL]; exact hS
  clear eH eL
  refine lv_iload_n hx hb dX2_speak_0 rfl (lv_at hl 1 rfl) ?_
  refine lv_sipush (v := (-1000)) hx hb dX2_speak_1 (by decide) ?_
  refine lv_sipush (v := 1000) hx hb dX2_speak_4 (by decide) ?_
  refine sm_i [.int far, .int (-1000), .int 1000] [] ⟨hx, hb, hml, hown, hts⟩ (c_X2_in l far (-1000) 1000) (va_cwS 3 hts gX2_speak_X2_in rfl rfl rfl (by decide +kernel) ⟨Nat.le_of_ble_eq_true rfl, Nat.le_of_ble_eq_true rfl⟩) rfl hl.1 rfl (Nat.le_of_ble_eq_true rfl) dX2_speak_7 ⟨Nat.zero_le _, Nat.zero_le _⟩ ?_
  refine lv_if_eq (tgt := 35) hx hb dX2_speak_10 (by decide) (fun c_1 => ?_) (fun c_1 => ?_)
  · have c_1 : (pf_in far (-1000) 1000) = 0 := c_1
    have e1 : ys_speak g far v = g := if_pos (Or.inl c_1)
    refine lv_ldc (v := (-1000000002)) hx hb hown (hts (.constant RX2 79 (-1000000002)) (by decide +kernel)) dX2_speak_35 ?_
    exact hret _ _ _ _ _ (by rw [e1]; exact hP) ((if_pos (Or.inl c_1)).symm) hS dX2_speak_37
  · have c_1 : ¬ (pf_in far (-1000) 1000) = 0 := c_1
    refine lv_iload_n hx hb dX2_speak_13 rfl (lv_at hl 2 rfl) ?_
    refine lv_sipush (v := (-2000)) hx hb dX2_speak_14 (by decide) ?_
    refine lv_sipush (v := 2000) hx hb dX2_speak_17 (by decide) ?_
    refine sm_i [.int v, .int (-2000), .int 2000] [] ⟨hx, hb, hml, hown, hts⟩ (c_X2_in l v (-2000) 2000) (va_cwS 3 hts gX2_speak_X2_in rfl rfl rfl (by decide +kernel) ⟨Nat.le_of_ble_eq_true rfl, Nat.le_of_ble_eq_true rfl⟩) rfl hl.1 rfl (Nat.le_of_ble_eq_true rfl) dX2_speak_20 ⟨Nat.zero_le _, Nat.zero_le _⟩ ?_
    refine lv_if_eq (tgt := 35) hx hb dX2_speak_23 (by decide) (fun c_2 => ?_) (fun c_2 => ?_)
    · have c_2 : (pf_in v (-2000) 2000) = 0 := c_2
      have e1 : ys_speak g far v = g := if_pos (Or.inr c_2)
      refine lv_ldc (v := (-1000000002)) hx hb hown (hts (.constant RX2 79 (-1000000002)) (by decide +kernel)) dX2_speak_35 ?_
      exact hret _ _ _ _ _ (by rw [e1]; exact hP) ((if_pos (Or.inr c_2)).symm) hS dX2_speak_37
    · have c_2 : ¬ (pf_in v (-2000) 2000) = 0 := c_2
      have e1 : ys_speak g far v = mf_spk g far v := if_neg (fun q => q.elim c_1 c_2)
      refine lv_aload_n hx hb dX2_speak_26 rfl (lv_at hl 0 rfl) ?_
      refine lv_iload_n hx hb dX2_speak_27 rfl (lv_at hl 1 rfl) ?_
      refine lv_iload_n hx hb dX2_speak_28 rfl (lv_at hl 2 rfl) ?_
      refine bm_i [] (MW cA cZ h as g im kp) [] [.int far, .int v] [] ⟨hx, hb, hml, hown, hts⟩ (c_X2_speakOf l D cA cZ cR h as g im kp far v hd hg) (cwV 2 hts gX2_speak_X2_speakOf rfl rfl rfl (by decide +kernel) ⟨Nat.le_of_ble_eq_true rfl, Nat.le_of_ble_eq_true rfl⟩) hE hP hD hS hA MW_adr 0 2 rfl rfl rfl hl.1 rfl (Nat.le_of_ble_eq_true rfl) dX2_speak_29 ⟨Nat.zero_le _, Nat.zero_le _⟩ (fun H locs hP hD hS => ?_)
      have hP : va_P D vwCl (MW cA cZ h as (mf_spk g far v) im kp) H := hP
      have hD : va_D A (MW cA cZ h as (mf_spk g far v) im kp) := hD
      refine lv_goto (tgt := 37) hx hb dX2_speak_32 (by decide) ?_
      exact hret _ _ _ _ _ (by rw [e1]; exact hP) ((if_neg (fun q => q.elim c_1 c_2)).symm) hS dX2_speak_37

abbrev rm_X2_tap : Room := { frames := 1, cells := 0, slots := 0, locals := 22 }
theorem iw_X2_tap_X2 : ∀ w ∈ wsX20, w ∈ wsX2_tap := by decide +kernel
set_option maxRecDepth 100000 in
set_option maxHeartbeats 4000000 in
theorem c_X2_tap (l : Launch) (D : va_G) (cA cZ cR : ClassId) (h : Nat) (as : Nat → Nat) (g im kp : Fn) (k : Int32) : BMi l D cA cZ cR yX2_tap wsX2_tap rm_X2_tap [.ref h, .int k] (MW cA cZ h as g im kp) (MW cA cZ h as g im kp) (yf_tap g k) := by
  refine bm_open (maxL := 2) (by decide) rfl rfl rfl (Nat.le_of_ble_eq_true rfl) ?_
  intro p e s m args below meth c A Q hx hb hml hts hown hE hP hD hA hS hret ls hl
  have hown : s.vm.findClass RX2 = some m.cls := hown
  have hl : lv_has ls 2 [(0, .ref h), (1, .int k)] := hl
  obtain ⟨H, locs, eH, eL⟩ : ∃ (H : Heap) (locs : List Loc), H = s.heap ∧ locs = [] := ⟨_, _, rfl, rfl⟩
  rw [← eH, ← eL]
  rw [← eH] at hP
  have hS : va_S A s.heap H locs := by rw [eH, eL]; exact hS
  clear eH eL
  refine lv_iload_n hx hb dX2_tap_0 rfl (lv_at hl 1 rfl) ?_
  refine lv_iconst (v := 0) hx hb dX2_tap_1 (by decide) ?_
  refine lv_bipush (v := 7) hx hb dX2_tap_2 (by decide) ?_
  refine sm_i [.int k, .int 0, .int 7] [] ⟨hx, hb, hml, hown, hts⟩ (c_X2_in l k 0 7) (va_cwS 3 hts gX2_tap_X2_in rfl rfl rfl (by decide +kernel) ⟨Nat.le_of_ble_eq_true rfl, Nat.le_of_ble_eq_true rfl⟩) rfl hl.1 rfl (Nat.le_of_ble_eq_true rfl) dX2_tap_4 ⟨Nat.zero_le _, Nat.zero_le _⟩ ?_
  refine lv_if_eq (tgt := 21) hx hb dX2_tap_7 (by decide) (fun c_1 => ?_) (fun c_1 => ?_)
  · have c_1 : (pf_in k 0 7) = 0 := c_1
    refine lv_ldc (v := (-1000000002)) hx hb hown (hts (.constant RX2 79 (-1000000002)) (by decide +kernel)) dX2_tap_21 ?_
    exact hret _ _ _ _ _ hP ((if_pos c_1).symm) hS dX2_tap_23
  · have c_1 : ¬ (pf_in k 0 7) = 0 := c_1
    obtain ⟨j, hj, rfl⟩ := in_nI (b := 7) (by decide) c_1
    refine lv_aload_n hx hb dX2_tap_10 rfl (lv_at hl 0 rfl) ?_
    refine va_get (D := D) (ci := 2) (v := .ref (as 0)) (C := RX2) (T := TX2) (N := 3) hx hb hts iw_X2_tap_X2 hown hE.1 hP 0 rfl rfl 0 (by decide) (hts (.fieldLink RX2 7 "EchoTapsModel" "state" "[I") (by decide +kernel)) (fun _ h9 => h9) rfl dX2_tap_11 ?_
    refine lv_iconst (v := 5) hx hb dX2_tap_14 (by decide) ?_
    refine lv_iload_n hx hb dX2_tap_15 rfl (lv_at hl 1 rfl) ?_
    refine lv_iadd hx hb dX2_tap_16 ?_
    refine lv_ri (nI_add 5 j) ?_
    refine va_iald hx hb hE.1 hP 1 0 rfl rfl (vp_in_nI (by omega) (by decide)) dX2_tap_17 ?_
    refine lv_ri (congrArg g (nI_clamp (n := 5 + j) (by omega))) ?_
    refine lv_goto (tgt := 23) hx hb dX2_tap_18 (by decide) ?_
    exact hret _ _ _ _ _ hP (by rw [yf_tap, if_neg c_1, nI_clamp (by omega)]) hS dX2_tap_23

abbrev rm_X2_last : Room := { frames := 1, cells := 0, slots := 0, locals := 22 }
theorem iw_X2_last_X2 : ∀ w ∈ wsX20, w ∈ wsX2_last := by decide +kernel
set_option maxRecDepth 100000 in
set_option maxHeartbeats 4000000 in
theorem c_X2_last (l : Launch) (D : va_G) (cA cZ cR : ClassId) (h : Nat) (as : Nat → Nat) (g im kp : Fn) (k : Int32) : BMi l D cA cZ cR yX2_last wsX2_last rm_X2_last [.ref h, .int k] (MW cA cZ h as g im kp) (MW cA cZ h as g im kp) (yf_last g k) := by
  refine bm_open (maxL := 2) (by decide) rfl rfl rfl (Nat.le_of_ble_eq_true rfl) ?_
  intro p e s m args below meth c A Q hx hb hml hts hown hE hP hD hA hS hret ls hl
  have hown : s.vm.findClass RX2 = some m.cls := hown
  have hl : lv_has ls 2 [(0, .ref h), (1, .int k)] := hl
  obtain ⟨H, locs, eH, eL⟩ : ∃ (H : Heap) (locs : List Loc), H = s.heap ∧ locs = [] := ⟨_, _, rfl, rfl⟩
  rw [← eH, ← eL]
  rw [← eH] at hP
  have hS : va_S A s.heap H locs := by rw [eH, eL]; exact hS
  clear eH eL
  refine lv_iload_n hx hb dX2_last_0 rfl (lv_at hl 1 rfl) ?_
  refine lv_iconst (v := 0) hx hb dX2_last_1 (by decide) ?_
  refine lv_bipush (v := 7) hx hb dX2_last_2 (by decide) ?_
  refine sm_i [.int k, .int 0, .int 7] [] ⟨hx, hb, hml, hown, hts⟩ (c_X2_in l k 0 7) (va_cwS 3 hts gX2_last_X2_in rfl rfl rfl (by decide +kernel) ⟨Nat.le_of_ble_eq_true rfl, Nat.le_of_ble_eq_true rfl⟩) rfl hl.1 rfl (Nat.le_of_ble_eq_true rfl) dX2_last_4 ⟨Nat.zero_le _, Nat.zero_le _⟩ ?_
  refine lv_if_ne (tgt := 13) hx hb dX2_last_7 (by decide) (fun c_1 => ?_) (fun c_1 => ?_)
  · have c_1 : ¬ (pf_in k 0 7) = 0 := c_1
    obtain ⟨j, hj, rfl⟩ := in_nI (b := 7) (by decide) c_1
    refine lv_aload_n hx hb dX2_last_13 rfl (lv_at hl 0 rfl) ?_
    refine va_get (D := D) (ci := 2) (v := .ref (as 0)) (C := RX2) (T := TX2) (N := 3) hx hb hts iw_X2_last_X2 hown hE.1 hP 0 rfl rfl 0 (by decide) (hts (.fieldLink RX2 7 "EchoTapsModel" "state" "[I") (by decide +kernel)) (fun _ h9 => h9) rfl dX2_last_14 ?_
    refine lv_bipush (v := 24) hx hb dX2_last_17 (by decide) ?_
    refine va_iald hx hb hE.1 hP 1 0 rfl rfl (vp_in_nI (n := 24) (N := 555) (by decide) (by decide)) dX2_last_19 ?_
    refine lv_if_ne (tgt := 28) hx hb dX2_last_20 (by decide) (fun c_2 => ?_) (fun c_2 => ?_)
    · have c_2 : ¬ (g 24) = 0 := c_2
      refine lv_aload_n hx hb dX2_last_28 rfl (lv_at hl 0 rfl) ?_
      refine va_get (D := D) (ci := 2) (v := .ref (as 0)) (C := RX2) (T := TX2) (N := 3) hx hb hts iw_X2_last_X2 hown hE.1 hP 0 rfl rfl 0 (by decide) (hts (.fieldLink RX2 7 "EchoTapsModel" "state" "[I") (by decide +kernel)) (fun _ h9 => h9) rfl dX2_last_29 ?_
      refine lv_bipush (v := 25) hx hb dX2_last_32 (by decide) ?_
      refine lv_iload_n hx hb dX2_last_34 rfl (lv_at hl 1 rfl) ?_
      refine lv_iadd hx hb dX2_last_35 ?_
      refine lv_ri (nI_add 25 j) ?_
      refine va_iald hx hb hE.1 hP 1 0 rfl rfl (vp_in_nI (by omega) (by decide)) dX2_last_36 ?_
      refine lv_ri (congrArg g (nI_clamp (n := 25 + j) (by omega))) ?_
      exact hret _ _ _ _ _ hP (by rw [yf_last, if_neg c_1, if_neg c_2, nI_clamp (by omega)]) hS dX2_last_37
    · have c_2 : (g 24) = 0 := c_2
      refine lv_ldc (v := (-1000000003)) hx hb hown (hts (.constant RX2 80 (-1000000003)) (by decide +kernel)) dX2_last_23 ?_
      refine lv_goto (tgt := 37) hx hb dX2_last_25 (by decide) ?_
      exact hret _ _ _ _ _ hP (by rw [yf_last, if_neg c_1, if_pos c_2]) hS dX2_last_37
  · have c_1 : (pf_in k 0 7) = 0 := c_1
    refine lv_ldc (v := (-1000000002)) hx hb hown (hts (.constant RX2 79 (-1000000002)) (by decide +kernel)) dX2_last_10 ?_
    exact hret _ _ _ _ _ hP ((if_pos c_1).symm) hS dX2_last_12

abbrev rm_X2_ago : Room := { frames := 1, cells := 0, slots := 0, locals := 22 }
theorem iw_X2_ago_X2 : ∀ w ∈ wsX20, w ∈ wsX2_ago := by decide +kernel
set_option maxRecDepth 100000 in
set_option maxHeartbeats 4000000 in
theorem c_X2_ago (l : Launch) (D : va_G) (cA cZ cR : ClassId) (h : Nat) (as : Nat → Nat) (g im kp : Fn) (i k : Int32) : BMi l D cA cZ cR yX2_ago wsX2_ago rm_X2_ago [.ref h, .int i, .int k] (MW cA cZ h as g im kp) (MW cA cZ h as g im kp) (yf_ago g i k) := by
  refine bm_open (maxL := 3) (by decide) rfl rfl rfl (Nat.le_of_ble_eq_true rfl) ?_
  intro p e s m args below meth c A Q hx hb hml hts hown hE hP hD hA hS hret ls hl
  have hown : s.vm.findClass RX2 = some m.cls := hown
  have hl : lv_has ls 3 [(0, .ref h), (1, .int i), (2, .int k)] := hl
  obtain ⟨H, locs, eH, eL⟩ : ∃ (H : Heap) (locs : List Loc), H = s.heap ∧ locs = [] := ⟨_, _, rfl, rfl⟩
  rw [← eH, ← eL]
  rw [← eH] at hP
  have hS : va_S A s.heap H locs := by rw [eH, eL]; exact hS
  clear eH eL
  refine lv_iload_n hx hb dX2_ago_0 rfl (lv_at hl 1 rfl) ?_
  refine lv_iconst (v := 0) hx hb dX2_ago_1 (by decide) ?_
  refine lv_bipush (v := 31) hx hb dX2_ago_2 (by decide) ?_
  refine sm_i [.int i, .int 0, .int 31] [] ⟨hx, hb, hml, hown, hts⟩ (c_X2_in l i 0 31) (va_cwS 3 hts gX2_ago_X2_in rfl rfl rfl (by decide +kernel) ⟨Nat.le_of_ble_eq_true rfl, Nat.le_of_ble_eq_true rfl⟩) rfl hl.1 rfl (Nat.le_of_ble_eq_true rfl) dX2_ago_4 ⟨Nat.zero_le _, Nat.zero_le _⟩ ?_
  refine lv_if_eq (tgt := 19) hx hb dX2_ago_7 (by decide) (fun c_1 => ?_) (fun c_1 => ?_)
  · have c_1 : (pf_in i 0 31) = 0 := c_1
    refine lv_ldc (v := (-1000000002)) hx hb hown (hts (.constant RX2 79 (-1000000002)) (by decide +kernel)) dX2_ago_19 ?_
    exact hret _ _ _ _ _ hP ((if_pos (Or.inl c_1)).symm) hS dX2_ago_21
  · have c_1 : ¬ (pf_in i 0 31) = 0 := c_1
    refine lv_iload_n hx hb dX2_ago_10 rfl (lv_at hl 2 rfl) ?_
    refine lv_iconst (v := 0) hx hb dX2_ago_11 (by decide) ?_
    refine lv_iconst (v := 2) hx hb dX2_ago_12 (by decide) ?_
    refine sm_i [.int k, .int 0, .int 2] [] ⟨hx, hb, hml, hown, hts⟩ (c_X2_in l k 0 2) (va_cwS 3 hts gX2_ago_X2_in rfl rfl rfl (by decide +kernel) ⟨Nat.le_of_ble_eq_true rfl, Nat.le_of_ble_eq_true rfl⟩) rfl hl.1 rfl (Nat.le_of_ble_eq_true rfl) dX2_ago_13 ⟨Nat.zero_le _, Nat.zero_le _⟩ ?_
    refine lv_if_ne (tgt := 22) hx hb dX2_ago_16 (by decide) (fun c_2 => ?_) (fun c_2 => ?_)
    · have c_2 : ¬ (pf_in k 0 2) = 0 := c_2
      obtain ⟨j, hj, rfl⟩ := in_nI (b := 31) (by decide) c_1
      obtain ⟨q, hq, rfl⟩ := in_nI (b := 2) (by decide) c_2
      refine lv_iload_n hx hb dX2_ago_22 rfl (lv_at hl 1 rfl) ?_
      refine lv_aload_n hx hb dX2_ago_23 rfl (lv_at hl 0 rfl) ?_
      refine va_get (D := D) (ci := 2) (v := .ref (as 0)) (C := RX2) (T := TX2) (N := 3) hx hb hts iw_X2_ago_X2 hown hE.1 hP 0 rfl rfl 0 (by decide) (hts (.fieldLink RX2 7 "EchoTapsModel" "state" "[I") (by decide +kernel)) (fun _ h9 => h9) rfl dX2_ago_24 ?_
      refine lv_bipush (v := 24) hx hb dX2_ago_27 (by decide) ?_
      refine va_iald hx hb hE.1 hP 1 0 rfl rfl (vp_in_nI (n := 24) (N := 555) (by decide) (by decide)) dX2_ago_29 ?_
      refine lv_icmp_lt (tgt := 38) hx hb dX2_ago_30 (by decide) (fun c_3 => ?_) (fun c_3 => ?_)
      · have c_3 : (nI j) < (g 24) := c_3
        refine lv_aload_n hx hb dX2_ago_38 rfl (lv_at hl 0 rfl) ?_
        refine va_get (D := D) (ci := 2) (v := .ref (as 0)) (C := RX2) (T := TX2) (N := 3) hx hb hts iw_X2_ago_X2 hown hE.1 hP 0 rfl rfl 0 (by decide) (hts (.fieldLink RX2 7 "EchoTapsModel" "state" "[I") (by decide +kernel)) (fun _ h9 => h9) rfl dX2_ago_39 ?_
        refine lv_bipush (v := 33) hx hb dX2_ago_42 (by decide) ?_
        refine lv_bipush (v := 40) hx hb dX2_ago_44 (by decide) ?_
        refine lv_iload_n hx hb dX2_ago_46 rfl (lv_at hl 2 rfl) ?_
        refine lv_imul hx hb dX2_ago_47 ?_
        refine lv_ri (pk_mul 40 q) ?_
        refine lv_iadd hx hb dX2_ago_48 ?_
        refine lv_ri (nI_add 33 (40 * q)) ?_
        refine lv_iload_n hx hb dX2_ago_49 rfl (lv_at hl 1 rfl) ?_
        refine lv_iadd hx hb dX2_ago_50 ?_
        refine lv_ri (nI_add (33 + (40 * q)) j) ?_
        refine va_iald hx hb hE.1 hP 1 0 rfl rfl (vp_in_nI (by omega) (by decide)) dX2_ago_51 ?_
        refine lv_ri (congrArg g (nI_clamp (n := 33 + (40 * q) + j) (by omega))) ?_
        exact hret _ _ _ _ _ hP (by rw [yf_ago, if_neg (fun q => q.elim c_1 c_2), if_pos c_3, nI_clamp (by omega), nI_clamp (by omega)]) hS dX2_ago_52
      · have c_3 : ¬ (nI j) < (g 24) := c_3
        refine lv_ldc (v := (-1000000006)) hx hb hown (hts (.constant RX2 81 (-1000000006)) (by decide +kernel)) dX2_ago_33 ?_
        refine lv_goto (tgt := 52) hx hb dX2_ago_35 (by decide) ?_
        exact hret _ _ _ _ _ hP (by rw [yf_ago, if_neg (fun q => q.elim c_1 c_2), if_neg c_3]) hS dX2_ago_52
    · have c_2 : (pf_in k 0 2) = 0 := c_2
      refine lv_ldc (v := (-1000000002)) hx hb hown (hts (.constant RX2 79 (-1000000002)) (by decide +kernel)) dX2_ago_19 ?_
      exact hret _ _ _ _ _ hP ((if_pos (Or.inr c_2)).symm) hS dX2_ago_21

abbrev rm_X2_part : Room := { frames := 1, cells := 0, slots := 0, locals := 22 }
theorem iw_X2_part_X2 : ∀ w ∈ wsX20, w ∈ wsX2_part := by decide +kernel
set_option maxRecDepth 100000 in
set_option maxHeartbeats 4000000 in
theorem c_X2_part (l : Launch) (D : va_G) (cA cZ cR : ClassId) (h : Nat) (as : Nat → Nat) (g im kp : Fn) (k v : Int32) : BMi l D cA cZ cR yX2_part wsX2_part rm_X2_part [.ref h, .int k, .int v] (MW cA cZ h as g im kp) (MW cA cZ h as (ys_part g k v) im kp) (yf_part g k v) := by
  refine bm_open (maxL := 4) (by decide) rfl rfl rfl (Nat.le_of_ble_eq_true rfl) ?_
  intro p e s m args below meth c A Q hx hb hml hts hown hE hP hD hA hS hret ls hl
  have hown : s.vm.findClass RX2 = some m.cls := hown
  have hl : lv_has ls 4 [(0, .ref h), (1, .int k), (2, .int v)] := hl
  obtain ⟨H, locs, eH, eL⟩ : ∃ (H : Heap) (locs : List Loc), H = s.heap ∧ locs = [] := ⟨_, _, rfl, rfl⟩
  rw [← eH, ← eL]
  rw [← eH] at hP
  have hS : va_S A s.heap H locs := by rw [eH, eL]; exact hS
  clear eH eL
  refine lv_iload_n hx hb dX2_part_0 rfl (lv_at hl 1 rfl) ?_
  refine lv_iconst (v := 0) hx hb dX2_part_1 (by decide) ?_
  refine lv_bipush (v := 8) hx hb dX2_part_2 (by decide) ?_
  refine sm_i [.int k, .int 0, .int 8] [] ⟨hx, hb, hml, hown, hts⟩ (c_X2_in l k 0 8) (va_cwS 3 hts gX2_part_X2_in rfl rfl rfl (by decide +kernel) ⟨Nat.le_of_ble_eq_true rfl, Nat.le_of_ble_eq_true rfl⟩) rfl hl.1 rfl (Nat.le_of_ble_eq_true rfl) dX2_part_4 ⟨Nat.zero_le _, Nat.zero_le _⟩ ?_
  refine lv_if_eq (tgt := 44) hx hb dX2_part_7 (by decide) (fun c_1 => ?_) (fun c_1 => ?_)
  · have c_1 : (pf_in k 0 8) = 0 := c_1
    have e1 : ys_part g k v = g := if_pos (Or.inl c_1)
    refine lv_ldc (v := (-1000000002)) hx hb hown (hts (.constant RX2 79 (-1000000002)) (by decide +kernel)) dX2_part_44 ?_
    exact hret _ _ _ _ _ (by rw [e1]; exact hP) ((if_pos (Or.inl c_1)).symm) hS dX2_part_46
  · have c_1 : ¬ (pf_in k 0 8) = 0 := c_1
    obtain ⟨j, hj, rfl⟩ := in_nI (b := 8) (by decide) c_1
    refine lv_iload_n hx hb dX2_part_10 rfl (lv_at hl 2 rfl) ?_
    refine lv_iload_n hx hb dX2_part_11 rfl (lv_at hl 1 rfl) ?_
    refine lv_bipush (v := 8) hx hb dX2_part_12 (by decide) ?_
    have j24 : ∀ (lo : Int32) (elo : lo = if nI j = 8 then 0 else -1024), W p l e rm_X2_part s m args below meth c H locs 0 0 Q (F0 m 24 ls [.int lo, .int v]) := by
      intro lo elo
      refine lv_iload_n hx hb dX2_part_24 rfl (lv_at hl 1 rfl) ?_
      refine lv_bipush (v := 8) hx hb dX2_part_25 (by decide) ?_
      have j38 : ∀ (hi : Int32) (ehi : hi = if nI j = 8 then 15 else 1023), W p l e rm_X2_part s m args below meth c H locs 0 0 Q (F0 m 38 ls [.int hi, .int lo, .int v]) := by
        intro hi ehi
        refine sm_i [.int v, .int lo, .int hi] [] ⟨hx, hb, hml, hown, hts⟩ (c_X2_in l v lo hi) (va_cwS 3 hts gX2_part_X2_in rfl rfl rfl (by decide +kernel) ⟨Nat.le_of_ble_eq_true rfl, Nat.le_of_ble_eq_true rfl⟩) rfl hl.1 rfl (Nat.le_of_ble_eq_true rfl) dX2_part_38 ⟨Nat.zero_le _, Nat.zero_le _⟩ ?_
        have eo : xo_part (nI j) v = pf_in v lo hi := by rw [elo, ehi, xo_part]; split <;> rfl
        refine lv_if_ne (tgt := 47) hx hb dX2_part_41 (by decide) (fun c_2 => ?_) (fun c_2 => ?_)
        · have c_2 : ¬ (pf_in v lo hi) = 0 := c_2
          have cc : ¬ (pf_in (nI j) 0 8 = 0 ∨ xo_part (nI j) v = 0) := fun q => q.elim c_1 (by rw [eo]; exact c_2)
          have e1 : ys_part g (nI j) v = upd g (13 + j) v := by rw [ys_part, if_neg cc, nI_clamp (by omega)]
          refine lv_aload_n hx hb dX2_part_47 rfl (lv_at hl 0 rfl) ?_
          refine va_get (D := D) (ci := 2) (v := .ref (as 0)) (C := RX2) (T := TX2) (N := 3) hx hb hts iw_X2_part_X2 hown hE.1 hP 0 rfl rfl 0 (by decide) (hts (.fieldLink RX2 7 "EchoTapsModel" "state" "[I") (by decide +kernel)) (fun _ h9 => h9) rfl dX2_part_48 ?_
          refine lv_bipush (v := 13) hx hb dX2_part_51 (by decide) ?_
          refine lv_iload_n hx hb dX2_part_53 rfl (lv_at hl 1 rfl) ?_
          refine lv_iadd hx hb dX2_part_54 ?_
          refine lv_ri (nI_add 13 j) ?_
          refine va_iald hx hb hE.1 hP 1 0 rfl rfl (vp_in_nI (by omega) (by decide)) dX2_part_55 ?_
          refine lv_ri (congrArg g (nI_clamp (n := 13 + j) (by omega))) ?_
          refine lv_istore_n (lv' := [(3, .int (g (13 + j))), (0, .ref h), (1, .int (nI j)), (2, .int v)]) hx hb dX2_part_56 rfl hl (by decide) rfl (fun ls hl => ?_)
          refine lv_aload_n hx hb dX2_part_57 rfl (lv_at hl 1 rfl) ?_
          refine va_get (D := D) (ci := 2) (v := .ref (as 0)) (C := RX2) (T := TX2) (N := 3) hx hb hts iw_X2_part_X2 hown hE.1 hP 0 rfl rfl 0 (by decide) (hts (.fieldLink RX2 7 "EchoTapsModel" "state" "[I") (by decide +kernel)) (fun _ h9 => h9) rfl dX2_part_58 ?_
          refine lv_bipush (v := 13) hx hb dX2_part_61 (by decide) ?_
          refine lv_iload_n hx hb dX2_part_63 rfl (lv_at hl 2 rfl) ?_
          refine lv_iadd hx hb dX2_part_64 ?_
          refine lv_ri (nI_add 13 j) ?_
          refine lv_iload_n hx hb dX2_part_65 rfl (lv_at hl 3 rfl) ?_
          refine va_iast hx hb hE.1 hP hD hS 1 0 rfl rfl (vp_in_nI (by omega) (by decide)) dX2_part_66 (fun H locs hP hD hS => ?_)
          rw [show (nI (13 + j)).toNatClampNeg = 13 + j from nI_clamp (by omega)] at hP hD
          have hP : va_P D vwCl (MW cA cZ h as (upd g (13 + j) v) im kp) H := hP
          have hD : va_D A (MW cA cZ h as (upd g (13 + j) v) im kp) := hD
          refine lv_iload_n hx hb dX2_part_67 rfl (lv_at hl 0 rfl) ?_
          exact hret _ _ _ _ _ (by rw [e1]; exact hP) (by rw [yf_part, if_neg cc, nI_clamp (by omega)]) hS dX2_part_68
        · have c_2 : (pf_in v lo hi) = 0 := c_2
          have cc : pf_in (nI j) 0 8 = 0 ∨ xo_part (nI j) v = 0 := Or.inr (by rw [eo]; exact c_2)
          have e1 : ys_part g (nI j) v = g := if_pos cc
          refine lv_ldc (v := (-1000000002)) hx hb hown (hts (.constant RX2 79 (-1000000002)) (by decide +kernel)) dX2_part_44 ?_
          exact hret _ _ _ _ _ (by rw [e1]; exact hP) ((if_pos cc).symm) hS dX2_part_46
      refine lv_icmp_ne (tgt := 35) hx hb dX2_part_27 (by decide) (fun c_3 => ?_) (fun c_3 => ?_)
      · have c_3 : ¬ (nI j) = 8 := c_3
        refine lv_sipush (v := 1023) hx hb dX2_part_35 (by decide) ?_
        exact j38 _ (if_neg c_3).symm
      · have c_3 : (nI j) = 8 := c_3
        refine lv_bipush (v := 15) hx hb dX2_part_30 (by decide) ?_
        refine lv_goto (tgt := 38) hx hb dX2_part_32 (by decide) ?_
        exact j38 _ (if_pos c_3).symm
    refine lv_icmp_ne (tgt := 21) hx hb dX2_part_14 (by decide) (fun c_4 => ?_) (fun c_4 => ?_)
    · have c_4 : ¬ (nI j) = 8 := c_4
      refine lv_sipush (v := (-1024)) hx hb dX2_part_21 (by decide) ?_
      exact j24 _ (if_neg c_4).symm
    · have c_4 : (nI j) = 8 := c_4
      refine lv_iconst (v := 0) hx hb dX2_part_17 (by decide) ?_
      refine lv_goto (tgt := 24) hx hb dX2_part_18 (by decide) ?_
      exact j24 _ (if_pos c_4).symm

abbrev rm_X2_rule : Room := { frames := 1, cells := 0, slots := 0, locals := 22 }
theorem iw_X2_rule_X2 : ∀ w ∈ wsX20, w ∈ wsX2_rule := by decide +kernel
set_option maxRecDepth 100000 in
set_option maxHeartbeats 4000000 in
theorem c_X2_rule (l : Launch) (D : va_G) (cA cZ cR : ClassId) (h : Nat) (as : Nat → Nat) (g im kp : Fn) (k v : Int32) : BMi l D cA cZ cR yX2_rule wsX2_rule rm_X2_rule [.ref h, .int k, .int v] (MW cA cZ h as g im kp) (MW cA cZ h as (ys_rule g k v) im kp) (yf_rule g k v) := by
  refine bm_open (maxL := 4) (by decide) rfl rfl rfl (Nat.le_of_ble_eq_true rfl) ?_
  intro p e s m args below meth c A Q hx hb hml hts hown hE hP hD hA hS hret ls hl
  have hown : s.vm.findClass RX2 = some m.cls := hown
  have hl : lv_has ls 4 [(0, .ref h), (1, .int k), (2, .int v)] := hl
  obtain ⟨H, locs, eH, eL⟩ : ∃ (H : Heap) (locs : List Loc), H = s.heap ∧ locs = [] := ⟨_, _, rfl, rfl⟩
  rw [← eH, ← eL]
  rw [← eH] at hP
  have hS : va_S A s.heap H locs := by rw [eH, eL]; exact hS
  clear eH eL
  refine lv_iload_n hx hb dX2_rule_0 rfl (lv_at hl 1 rfl) ?_
  refine lv_iconst (v := 0) hx hb dX2_rule_1 (by decide) ?_
  refine lv_iconst (v := 4) hx hb dX2_rule_2 (by decide) ?_
  refine sm_i [.int k, .int 0, .int 4] [] ⟨hx, hb, hml, hown, hts⟩ (c_X2_in l k 0 4) (va_cwS 3 hts gX2_rule_X2_in rfl rfl rfl (by decide +kernel) ⟨Nat.le_of_ble_eq_true rfl, Nat.le_of_ble_eq_true rfl⟩) rfl hl.1 rfl (Nat.le_of_ble_eq_true rfl) dX2_rule_3 ⟨Nat.zero_le _, Nat.zero_le _⟩ ?_
  refine lv_if_eq (tgt := 21) hx hb dX2_rule_6 (by decide) (fun c_1 => ?_) (fun c_1 => ?_)
  · have c_1 : (pf_in k 0 4) = 0 := c_1
    refine lv_bipush (v := (-2)) hx hb dX2_rule_21 (by decide) ?_
    have e1 : ys_rule g k v = g := if_pos (Or.inl c_1)
    exact hret _ _ _ _ _ (by rw [e1]; exact hP) ((if_pos (Or.inl c_1)).symm) hS dX2_rule_23
  · have c_1 : ¬ (pf_in k 0 4) = 0 := c_1
    refine lv_iload_n hx hb dX2_rule_9 rfl (lv_at hl 2 rfl) ?_
    refine lv_iconst (v := 0) hx hb dX2_rule_10 (by decide) ?_
    refine lv_iload_n hx hb dX2_rule_11 rfl (lv_at hl 1 rfl) ?_
    refine sm_i [.int k] [.int 0, .int v] ⟨hx, hb, hml, hown, hts⟩ (c_X2_most l k) (va_cwS 1 hts gX2_rule_X2_most rfl rfl rfl (by decide +kernel) ⟨Nat.le_of_ble_eq_true rfl, Nat.le_of_ble_eq_true rfl⟩) rfl hl.1 rfl (Nat.le_of_ble_eq_true rfl) dX2_rule_12 ⟨Nat.zero_le _, Nat.zero_le _⟩ ?_
    refine sm_i [.int v, .int 0, .int (pf_most k)] [] ⟨hx, hb, hml, hown, hts⟩ (c_X2_in l v 0 (pf_most k)) (va_cwS 3 hts gX2_rule_X2_in rfl rfl rfl (by decide +kernel) ⟨Nat.le_of_ble_eq_true rfl, Nat.le_of_ble_eq_true rfl⟩) rfl hl.1 rfl (Nat.le_of_ble_eq_true rfl) dX2_rule_15 ⟨Nat.zero_le _, Nat.zero_le _⟩ ?_
    refine lv_if_ne (tgt := 24) hx hb dX2_rule_18 (by decide) (fun c_2 => ?_) (fun c_2 => ?_)
    · have c_2 : ¬ (pf_in v 0 (pf_most k)) = 0 := c_2
      obtain ⟨j, hj, rfl⟩ := in_nI (b := 4) (by decide) c_1
      have e1 : ys_rule g (nI j) v = upd g (0 + j) v := by rw [ys_rule, if_neg (fun q => q.elim c_1 c_2), nI_clamp (by omega), Nat.zero_add]
      refine lv_aload_n hx hb dX2_rule_24 rfl (lv_at hl 0 rfl) ?_
      refine va_get (D := D) (ci := 2) (v := .ref (as 0)) (C := RX2) (T := TX2) (N := 3) hx hb hts iw_X2_rule_X2 hown hE.1 hP 0 rfl rfl 0 (by decide) (hts (.fieldLink RX2 7 "EchoTapsModel" "state" "[I") (by decide +kernel)) (fun _ h9 => h9) rfl dX2_rule_25 ?_
      refine lv_iconst (v := 0) hx hb dX2_rule_28 (by decide) ?_
      refine lv_iload_n hx hb dX2_rule_29 rfl (lv_at hl 1 rfl) ?_
      refine lv_iadd hx hb dX2_rule_30 ?_
      refine lv_ri (nI_add 0 j) ?_
      refine va_iald hx hb hE.1 hP 1 0 rfl rfl (vp_in_nI (by omega) (by decide)) dX2_rule_31 ?_
      refine lv_ri (congrArg g (nI_clamp (n := 0 + j) (by omega))) ?_
      refine lv_istore_n (lv' := [(3, .int (g (0 + j))), (0, .ref h), (1, .int (nI j)), (2, .int v)]) hx hb dX2_rule_32 rfl hl (by decide) rfl (fun ls hl => ?_)
      refine lv_aload_n hx hb dX2_rule_33 rfl (lv_at hl 1 rfl) ?_
      refine va_get (D := D) (ci := 2) (v := .ref (as 0)) (C := RX2) (T := TX2) (N := 3) hx hb hts iw_X2_rule_X2 hown hE.1 hP 0 rfl rfl 0 (by decide) (hts (.fieldLink RX2 7 "EchoTapsModel" "state" "[I") (by decide +kernel)) (fun _ h9 => h9) rfl dX2_rule_34 ?_
      refine lv_iconst (v := 0) hx hb dX2_rule_37 (by decide) ?_
      refine lv_iload_n hx hb dX2_rule_38 rfl (lv_at hl 2 rfl) ?_
      refine lv_iadd hx hb dX2_rule_39 ?_
      refine lv_ri (nI_add 0 j) ?_
      refine lv_iload_n hx hb dX2_rule_40 rfl (lv_at hl 3 rfl) ?_
      refine va_iast hx hb hE.1 hP hD hS 1 0 rfl rfl (vp_in_nI (by omega) (by decide)) dX2_rule_41 (fun H locs hP hD hS => ?_)
      rw [show (nI (0 + j)).toNatClampNeg = 0 + j from nI_clamp (by omega)] at hP hD
      have hP : va_P D vwCl (MW cA cZ h as (upd g (0 + j) v) im kp) H := hP
      have hD : va_D A (MW cA cZ h as (upd g (0 + j) v) im kp) := hD
      refine lv_iload_n hx hb dX2_rule_42 rfl (lv_at hl 0 rfl) ?_
      exact hret _ _ _ _ _ (by rw [e1]; exact hP) (by rw [yf_rule, if_neg (fun q => q.elim c_1 c_2), nI_clamp (by omega), Nat.zero_add]) hS dX2_rule_43
    · have c_2 : (pf_in v 0 (pf_most k)) = 0 := c_2
      refine lv_bipush (v := (-2)) hx hb dX2_rule_21 (by decide) ?_
      have e1 : ys_rule g k v = g := if_pos (Or.inr c_2)
      exact hret _ _ _ _ _ (by rw [e1]; exact hP) ((if_pos (Or.inr c_2)).symm) hS dX2_rule_23

abbrev rm_X2_likeness : Room := { frames := 1, cells := 0, slots := 0, locals := 23 }
set_option maxRecDepth 100000 in
set_option maxHeartbeats 4000000 in
theorem c_X2_likeness (l : Launch) (D : va_G) (cA cZ cR : ClassId) (h : Nat) (as : Nat → Nat) (g im kp : Fn) (d : Int32) : BMi l D cA cZ cR yX2_likeness wsX2_likeness rm_X2_likeness [.ref h, .int d] (MW cA cZ h as g im kp) (MW cA cZ h as g im kp) (yf_like g d) := by
  refine bm_open (maxL := 2) (by decide) rfl rfl rfl (Nat.le_of_ble_eq_true rfl) ?_
  intro p e s m args below meth c A Q hx hb hml hts hown hE hP hD hA hS hret ls hl
  have hown : s.vm.findClass RX2 = some m.cls := hown
  have hl : lv_has ls 2 [(0, .ref h), (1, .int d)] := hl
  obtain ⟨H, locs, eH, eL⟩ : ∃ (H : Heap) (locs : List Loc), H = s.heap ∧ locs = [] := ⟨_, _, rfl, rfl⟩
  rw [← eH, ← eL]
  rw [← eH] at hP
  have hS : va_S A s.heap H locs := by rw [eH, eL]; exact hS
  clear eH eL
  refine lv_iload_n hx hb dX2_likeness_0 rfl (lv_at hl 1 rfl) ?_
  refine lv_iconst (v := 0) hx hb dX2_likeness_1 (by decide) ?_
  refine lv_bipush (v := 15) hx hb dX2_likeness_2 (by decide) ?_
  refine sm_i [.int d, .int 0, .int 15] [] ⟨hx, hb, hml, hown, hts⟩ (c_X2_in l d 0 15) (va_cwS 3 hts gX2_likeness_X2_in rfl rfl rfl (by decide +kernel) ⟨Nat.le_of_ble_eq_true rfl, Nat.le_of_ble_eq_true rfl⟩) rfl hl.1 rfl (Nat.le_of_ble_eq_true rfl) dX2_likeness_4 ⟨Nat.zero_le _, Nat.zero_le _⟩ ?_
  refine lv_if_eq (tgt := 18) hx hb dX2_likeness_7 (by decide) (fun c_1 => ?_) (fun c_1 => ?_)
  · have c_1 : (pf_in d 0 15) = 0 := c_1
    refine lv_ldc (v := (-1000000002)) hx hb hown (hts (.constant RX2 79 (-1000000002)) (by decide +kernel)) dX2_likeness_18 ?_
    exact hret _ _ _ _ _ hP ((if_pos c_1).symm) hS dX2_likeness_20
  · have c_1 : ¬ (pf_in d 0 15) = 0 := c_1
    obtain ⟨j, hj, rfl⟩ := in_nI (b := 15) (by decide) c_1
    refine lv_aload_n hx hb dX2_likeness_10 rfl (lv_at hl 0 rfl) ?_
    refine lv_iload_n hx hb dX2_likeness_11 rfl (lv_at hl 1 rfl) ?_
    refine bm_i [] (MW cA cZ h as g im kp) [] [.int (nI j)] [] ⟨hx, hb, hml, hown, hts⟩ (c_X2_likenessOf l D cA cZ cR h as g im kp j (by omega)) (cwV 1 hts gX2_likeness_X2_likenessOf rfl rfl rfl (by decide +kernel) ⟨Nat.le_of_ble_eq_true rfl, Nat.le_of_ble_eq_true rfl⟩) hE hP hD hS hA MW_adr 0 2 rfl rfl rfl hl.1 rfl (Nat.le_of_ble_eq_true rfl) dX2_likeness_12 ⟨Nat.zero_le _, Nat.zero_le _⟩ (fun H locs hP hD hS => ?_)
    have hP : va_P D vwCl (MW cA cZ h as g im kp) H := hP
    have hD : va_D A (MW cA cZ h as g im kp) := hD
    refine lv_goto (tgt := 20) hx hb dX2_likeness_15 (by decide) ?_
    exact hret _ _ _ _ _ hP (by rw [yf_like, if_neg c_1, nI_clamp (by omega)]) hS dX2_likeness_20

abbrev rm_X2_seek : Room := { frames := 1, cells := 0, slots := 0, locals := 23 }
theorem iw_X2_seek_X2 : ∀ w ∈ wsX20, w ∈ wsX2_seek := by decide +kernel
set_option maxRecDepth 100000 in
set_option maxHeartbeats 4000000 in
theorem c_X2_seek (l : Launch) (D : va_G) (cA cZ cR : ClassId) (h : Nat) (as : Nat → Nat) (g im kp : Fn) : BMi l D cA cZ cR yX2_seek wsX2_seek rm_X2_seek [.ref h] (MW cA cZ h as g im kp) (MW cA cZ h as (ys_seek g) im kp) (yf_seek g) := by
  refine bm_open (maxL := 3) (by decide) rfl rfl rfl (Nat.le_of_ble_eq_true rfl) ?_
  intro p e s m args below meth c A Q hx hb hml hts hown hE hP hD hA hS hret ls hl
  have hown : s.vm.findClass RX2 = some m.cls := hown
  have hl : lv_has ls 3 [(0, .ref h)] := hl
  obtain ⟨H, locs, eH, eL⟩ : ∃ (H : Heap) (locs : List Loc), H = s.heap ∧ locs = [] := ⟨_, _, rfl, rfl⟩
  rw [← eH, ← eL]
  rw [← eH] at hP
  have hS : va_S A s.heap H locs := by rw [eH, eL]; exact hS
  clear eH eL
  refine lv_iconst (v := 0) hx hb dX2_seek_0 (by decide) ?_
  refine lv_istore_n (lv' := [(1, .int 0), (0, .ref h)]) hx hb dX2_seek_1 rfl hl (by decide) rfl (fun ls hl => ?_)
  refine lv_iconst (v := 1) hx hb dX2_seek_2 (by decide) ?_
  refine lv_istore_n (lv' := [(2, .int 1), (1, .int 0), (0, .ref h)]) hx hb dX2_seek_3 rfl hl (by decide) rfl (fun ls hl => ?_)
  have loop : ∀ (n : Nat) (k b : Nat) (hk : k + n = 16) (hk1 : 1 ≤ k) (hbb : b = mk_b g (k - 1)), ∀ (H : Heap) (locs : List Loc), va_P D vwCl (MW cA cZ h as g im kp) H → va_D A (MW cA cZ h as g im kp) → va_S A s.heap H locs → ∀ ls : Array Slot, lv_has ls 3 [(2, .int (nI k)), (1, .int (nI b)), (0, .ref h)] → W p l e rm_X2_seek s m args below meth c H locs 0 0 Q (F0 m 4 ls []) := by
    intro n
    induction n with
    | zero =>
      intro k b hk hk1 hbb H locs hP hD hS ls hl
      obtain rfl : k = 16 := by omega
      have hb15 : b ≤ 15 := by rw [hbb]; exact mk_b_le g 15
      have ebb : mk_b g 15 = b := hbb.symm
      refine lv_iload_n hx hb dX2_seek_4 rfl (lv_at hl 0 rfl) ?_
      refine lv_bipush (v := 15) hx hb dX2_seek_5 (by decide) ?_
      refine lv_icmp_gt (tgt := 41) hx hb dX2_seek_7 (by decide) (fun c_1 => ?_) (fun c_1 => absurd (by decide) c_1)
      refine lv_aload_n hx hb dX2_seek_41 rfl (lv_at hl 2 rfl) ?_
      refine lv_iload_n hx hb dX2_seek_42 rfl (lv_at hl 1 rfl) ?_
      refine bm_i [] (MW cA cZ h as g im kp) [] [.int (nI b)] [] ⟨hx, hb, hml, hown, hts⟩ (c_X2_likenessOf l D cA cZ cR h as g im kp b (by omega)) (cwV 1 hts gX2_seek_X2_likenessOf rfl rfl rfl (by decide +kernel) ⟨Nat.le_of_ble_eq_true rfl, Nat.le_of_ble_eq_true rfl⟩) hE hP hD hS hA MW_adr 0 2 rfl rfl rfl hl.1 rfl (Nat.le_of_ble_eq_true rfl) dX2_seek_43 ⟨Nat.zero_le _, Nat.zero_le _⟩ (fun H locs hP hD hS => ?_)
      have hP : va_P D vwCl (MW cA cZ h as g im kp) H := hP
      have hD : va_D A (MW cA cZ h as g im kp) := hD
      refine lv_if_ne (tgt := 52) hx hb dX2_seek_46 (by decide) (fun c_2 => ?_) (fun c_2 => ?_)
      · have c_2 : ¬ (mf_like g b) = 0 := c_2
        have e1 : ys_seek g = mf_zr (upd g 4 (nI b)) 8 := by rw [ys_seek, ebb, if_neg c_2]
        have e2 : yf_seek g = nI b := by rw [yf_seek, ebb, if_neg c_2]
        rw [e1, e2] at hret
        refine lv_aload_n hx hb dX2_seek_52 rfl (lv_at hl 2 rfl) ?_
        refine va_get (D := D) (ci := 2) (v := .ref (as 0)) (C := RX2) (T := TX2) (N := 3) hx hb hts iw_X2_seek_X2 hown hE.1 hP 0 rfl rfl 0 (by decide) (hts (.fieldLink RX2 7 "EchoTapsModel" "state" "[I") (by decide +kernel)) (fun _ h9 => h9) rfl dX2_seek_53 ?_
        refine lv_iconst (v := 4) hx hb dX2_seek_56 (by decide) ?_
        refine lv_iload_n hx hb dX2_seek_57 rfl (lv_at hl 1 rfl) ?_
        refine va_iast hx hb hE.1 hP hD hS 1 0 rfl rfl (vp_in_nI (n := 4) (N := 555) (by decide) (by decide)) dX2_seek_58 (fun H locs hP hD hS => ?_)
        have hP : va_P D vwCl (MW cA cZ h as (upd g 4 (nI b)) im kp) H := hP
        have hD : va_D A (MW cA cZ h as (upd g 4 (nI b)) im kp) := hD
        refine lv_iconst (v := 0) hx hb dX2_seek_59 (by decide) ?_
        refine lv_istore_n (lv' := [(2, .int 0), (1, .int (nI b)), (0, .ref h)]) hx hb dX2_seek_60 rfl hl (by decide) rfl (fun ls hl => ?_)
        obtain ⟨g4, eg4⟩ : ∃ z : Fn, z = upd g 4 (nI b) := ⟨_, rfl⟩
        rw [← eg4] at hP hD hret
        have hP : va_P D vwCl (MW cA cZ h as (mf_zr g4 0) im kp) H := hP
        have hD : va_D A (MW cA cZ h as (mf_zr g4 0) im kp) := hD
        have loop2 : ∀ (n : Nat) (k : Nat) (hk2 : k + n = 8), ∀ (H : Heap) (locs : List Loc), va_P D vwCl (MW cA cZ h as (mf_zr g4 k) im kp) H → va_D A (MW cA cZ h as (mf_zr g4 k) im kp) → va_S A s.heap H locs → ∀ ls : Array Slot, lv_has ls 3 [(2, .int (nI k)), (1, .int (nI b)), (0, .ref h)] → W p l e rm_X2_seek s m args below meth c H locs 0 0 Q (F0 m 61 ls []) := by
          intro n
          induction n with
          | zero =>
            intro k hk2 H locs hP hD hS ls hl
            obtain rfl : k = 8 := by omega
            refine lv_iload_n hx hb dX2_seek_61 rfl (lv_at hl 0 rfl) ?_
            refine lv_bipush (v := 8) hx hb dX2_seek_62 (by decide) ?_
            refine lv_icmp_ge (tgt := 82) hx hb dX2_seek_64 (by decide) (fun c_3 => ?_) (fun c_3 => absurd (by decide) c_3)
            refine lv_iload_n hx hb dX2_seek_82 rfl (lv_at hl 1 rfl) ?_
            exact hret _ _ _ _ _ hP rfl hS dX2_seek_83
          | succ n ih =>
            intro k hk2 H locs hP hD hS ls hl
            obtain ⟨gk, egk⟩ : ∃ z : Fn, z = mf_zr g4 k := ⟨_, rfl⟩
            rw [← egk] at hP hD
            refine lv_iload_n hx hb dX2_seek_61 rfl (lv_at hl 0 rfl) ?_
            refine lv_bipush (v := 8) hx hb dX2_seek_62 (by decide) ?_
            refine lv_icmp_ge (tgt := 82) hx hb dX2_seek_64 (by decide) (fun c_4 => absurd c_4 (nI_ge (a := k) (b := 8) (by omega) (by decide))) (fun c_4 => ?_)
            refine lv_aload_n hx hb dX2_seek_67 rfl (lv_at hl 2 rfl) ?_
            refine va_get (D := D) (ci := 2) (v := .ref (as 0)) (C := RX2) (T := TX2) (N := 3) hx hb hts iw_X2_seek_X2 hown hE.1 hP 0 rfl rfl 0 (by decide) (hts (.fieldLink RX2 7 "EchoTapsModel" "state" "[I") (by decide +kernel)) (fun _ h9 => h9) rfl dX2_seek_68 ?_
            refine lv_iconst (v := 5) hx hb dX2_seek_71 (by decide) ?_
            refine lv_iload_n hx hb dX2_seek_72 rfl (lv_at hl 0 rfl) ?_
            refine lv_iadd hx hb dX2_seek_73 ?_
            refine lv_ri (nI_add 5 k) ?_
            refine lv_iconst (v := 0) hx hb dX2_seek_74 (by decide) ?_
            refine va_iast hx hb hE.1 hP hD hS 1 0 rfl rfl (vp_in_nI (by omega) (by decide)) dX2_seek_75 (fun H locs hP hD hS => ?_)
            rw [show (nI (5 + k)).toNatClampNeg = 5 + k from nI_clamp (by omega)] at hP hD
            have hP : va_P D vwCl (MW cA cZ h as (upd gk (5 + k) 0) im kp) H := hP
            have hD : va_D A (MW cA cZ h as (upd gk (5 + k) 0) im kp) := hD
            refine lv_iinc (v := nI (k + 1)) (lv' := [(2, .int (nI (k + 1))), (1, .int (nI b)), (0, .ref h)]) hx hb dX2_seek_76 hl (k := 0) rfl (nI_1 k) (by decide) rfl (fun ls hl => ?_)
            refine lv_goto (tgt := 61) hx hb dX2_seek_79 (by decide) ?_
            rw [egk] at hP hD
            exact ih (k + 1) (by omega) H locs hP hD hS ls (lv_sub hl [0, 1, 2] rfl)
        exact loop2 8 0 rfl H locs hP hD hS ls (lv_sub hl [0, 1, 2] rfl)
      · have c_2 : (mf_like g b) = 0 := c_2
        have e1 : ys_seek g = g := by rw [ys_seek, ebb, if_pos c_2]
        have e2 : yf_seek g = -3 := by rw [yf_seek, ebb, if_pos c_2]
        refine lv_bipush (v := (-3)) hx hb dX2_seek_49 (by decide) ?_
        exact hret _ _ _ _ _ (by rw [e1]; exact hP) e2.symm hS dX2_seek_51
    | succ n ih =>
      intro k b hk hk1 hbb H locs hP hD hS ls hl
      obtain ⟨k0, rfl⟩ : ∃ k0, k = k0 + 1 := ⟨k - 1, by omega⟩
      have hb15 : b ≤ 15 := by have := mk_b_le g k0; rw [Nat.add_sub_cancel] at hbb; omega
      refine lv_iload_n hx hb dX2_seek_4 rfl (lv_at hl 0 rfl) ?_
      refine lv_bipush (v := 15) hx hb dX2_seek_5 (by decide) ?_
      refine lv_icmp_gt (tgt := 41) hx hb dX2_seek_7 (by decide) (fun c_5 => absurd c_5 (nI_nlt (a := 15) (b := k0 + 1) (by omega) (by decide))) (fun c_5 => ?_)
      refine lv_aload_n hx hb dX2_seek_10 rfl (lv_at hl 2 rfl) ?_
      refine lv_iload_n hx hb dX2_seek_11 rfl (lv_at hl 0 rfl) ?_
      refine bm_i [] (MW cA cZ h as g im kp) [] [.int (nI (k0 + 1))] [] ⟨hx, hb, hml, hown, hts⟩ (c_X2_likenessOf l D cA cZ cR h as g im kp (k0 + 1) (by omega)) (cwV 1 hts gX2_seek_X2_likenessOf rfl rfl rfl (by decide +kernel) ⟨Nat.le_of_ble_eq_true rfl, Nat.le_of_ble_eq_true rfl⟩) hE hP hD hS hA MW_adr 0 2 rfl rfl rfl hl.1 rfl (Nat.le_of_ble_eq_true rfl) dX2_seek_12 ⟨Nat.zero_le _, Nat.zero_le _⟩ (fun H locs hP hD hS => ?_)
      have hP : va_P D vwCl (MW cA cZ h as g im kp) H := hP
      have hD : va_D A (MW cA cZ h as g im kp) := hD
      refine sm_i [.int (mf_like g (k0 + 1))] [] ⟨hx, hb, hml, hown, hts⟩ (c_X2_size l (mf_like g (k0 + 1))) (va_cwS 1 hts gX2_seek_X2_size rfl rfl rfl (by decide +kernel) ⟨Nat.le_of_ble_eq_true rfl, Nat.le_of_ble_eq_true rfl⟩) rfl hl.1 rfl (Nat.le_of_ble_eq_true rfl) dX2_seek_15 ⟨Nat.zero_le _, Nat.zero_le _⟩ ?_
      refine lv_aload_n hx hb dX2_seek_18 rfl (lv_at hl 2 rfl) ?_
      refine lv_iload_n hx hb dX2_seek_19 rfl (lv_at hl 1 rfl) ?_
      refine bm_i [] (MW cA cZ h as g im kp) [] [.int (nI b)] [.int (pf_sz (mf_like g (k0 + 1)))] ⟨hx, hb, hml, hown, hts⟩ (c_X2_likenessOf l D cA cZ cR h as g im kp b (by omega)) (cwV 1 hts gX2_seek_X2_likenessOf rfl rfl rfl (by decide +kernel) ⟨Nat.le_of_ble_eq_true rfl, Nat.le_of_ble_eq_true rfl⟩) hE hP hD hS hA MW_adr 0 2 rfl rfl rfl hl.1 rfl (Nat.le_of_ble_eq_true rfl) dX2_seek_20 ⟨Nat.zero_le _, Nat.zero_le _⟩ (fun H locs hP hD hS => ?_)
      have hP : va_P D vwCl (MW cA cZ h as g im kp) H := hP
      have hD : va_D A (MW cA cZ h as g im kp) := hD
      refine sm_i [.int (mf_like g b)] [.int (pf_sz (mf_like g (k0 + 1)))] ⟨hx, hb, hml, hown, hts⟩ (c_X2_size l (mf_like g b)) (va_cwS 1 hts gX2_seek_X2_size rfl rfl rfl (by decide +kernel) ⟨Nat.le_of_ble_eq_true rfl, Nat.le_of_ble_eq_true rfl⟩) rfl hl.1 rfl (Nat.le_of_ble_eq_true rfl) dX2_seek_23 ⟨Nat.zero_le _, Nat.zero_le _⟩ ?_
      rw [Nat.add_sub_cancel] at hbb
      have j34 : ∀ (b2 : Nat) (eb2 : b2 = if pf_sz (mf_like g (k0 + 1)) ≤ pf_sz (mf_like g b) then b else k0 + 1), W p l e rm_X2_seek s m args below meth c H locs 0 0 Q (F0 m 34 ls [.int (nI b2)]) := by
        intro b2 eb2
        refine lv_istore_n (lv' := [(1, .int (nI b2)), (2, .int (nI (k0 + 1))), (0, .ref h)]) hx hb dX2_seek_34 rfl hl (by decide) rfl (fun ls hl => ?_)
        refine lv_iinc (v := nI ((k0 + 1) + 1)) (lv' := [(2, .int (nI ((k0 + 1) + 1))), (1, .int (nI b2)), (0, .ref h)]) hx hb dX2_seek_35 hl (k := 1) rfl (nI_1 (k0 + 1)) (by decide) rfl (fun ls hl => ?_)
        refine lv_goto (tgt := 4) hx hb dX2_seek_38 (by decide) ?_
        exact ih (k0 + 1 + 1) b2 (by omega) (by omega) (by rw [Nat.add_sub_cancel, eb2, mk_b, ← hbb]) H locs hP hD hS ls (lv_sub hl [0, 1, 2] rfl)
      refine lv_icmp_le (tgt := 33) hx hb dX2_seek_26 (by decide) (fun c_6 => ?_) (fun c_6 => ?_)
      · have c_6 : (pf_sz (mf_like g (k0 + 1))) ≤ (pf_sz (mf_like g b)) := c_6
        refine lv_iload_n hx hb dX2_seek_33 rfl (lv_at hl 1 rfl) ?_
        exact j34 _ (if_pos c_6).symm
      · have c_6 : ¬ (pf_sz (mf_like g (k0 + 1))) ≤ (pf_sz (mf_like g b)) := c_6
        refine lv_iload_n hx hb dX2_seek_29 rfl (lv_at hl 0 rfl) ?_
        refine lv_goto (tgt := 34) hx hb dX2_seek_30 (by decide) ?_
        exact j34 _ (if_neg c_6).symm
  exact loop 15 1 0 rfl (by decide) rfl H locs hP hD hS ls (lv_sub hl [0, 1, 2] rfl)

abbrev rm_X2_gain : Room := { frames := 1, cells := 0, slots := 0, locals := 24 }
set_option maxRecDepth 100000 in
set_option maxHeartbeats 4000000 in
theorem c_X2_gain (l : Launch) (D : va_G) (cA cZ cR : ClassId) (h : Nat) (as : Nat → Nat) (g im kp : Fn) (N : Nat) (k : Int32) (hN : pf_ge N (mf_sq g 113) (mf_sq g 73)) (hz : ¬ mf_sq g 113 = 0 → ¬ pf_gd N (mf_sq g 113) (mf_sq g 73) = 0) : BMi l D cA cZ cR yX2_gain wsX2_gain rm_X2_gain [.ref h, .int k] (MW cA cZ h as g im kp) (MW cA cZ h as g im kp) (yf_gain g N k) := by
  refine bm_open (maxL := 4) (by decide) rfl rfl rfl (Nat.le_of_ble_eq_true rfl) ?_
  intro p e s m args below meth c A Q hx hb hml hts hown hE hP hD hA hS hret ls hl
  have hown : s.vm.findClass RX2 = some m.cls := hown
  have hl : lv_has ls 4 [(0, .ref h), (1, .int k)] := hl
  obtain ⟨H, locs, eH, eL⟩ : ∃ (H : Heap) (locs : List Loc), H = s.heap ∧ locs = [] := ⟨_, _, rfl, rfl⟩
  rw [← eH, ← eL]
  rw [← eH] at hP
  have hS : va_S A s.heap H locs := by rw [eH, eL]; exact hS
  clear eH eL
  refine lv_iload_n hx hb dX2_gain_0 rfl (lv_at hl 1 rfl) ?_
  refine lv_iconst (v := 0) hx hb dX2_gain_1 (by decide) ?_
  refine lv_iconst (v := 1) hx hb dX2_gain_2 (by decide) ?_
  refine sm_i [.int k, .int 0, .int 1] [] ⟨hx, hb, hml, hown, hts⟩ (c_X2_in l k 0 1) (va_cwS 3 hts gX2_gain_X2_in rfl rfl rfl (by decide +kernel) ⟨Nat.le_of_ble_eq_true rfl, Nat.le_of_ble_eq_true rfl⟩) rfl hl.1 rfl (Nat.le_of_ble_eq_true rfl) dX2_gain_3 ⟨Nat.zero_le _, Nat.zero_le _⟩ ?_
  refine lv_if_ne (tgt := 12) hx hb dX2_gain_6 (by decide) (fun c_1 => ?_) (fun c_1 => ?_)
  · have c_1 : ¬ (pf_in k 0 1) = 0 := c_1
    refine lv_aload_n hx hb dX2_gain_12 rfl (lv_at hl 0 rfl) ?_
    refine lv_bipush (v := 73) hx hb dX2_gain_13 (by decide) ?_
    refine bm_i [] (MW cA cZ h as g im kp) [] [.int 73] [] ⟨hx, hb, hml, hown, hts⟩ (c_X2_squares l D cA cZ cR h as g im kp 73 (by omega)) (cwV 1 hts gX2_gain_X2_squares rfl rfl rfl (by decide +kernel) ⟨Nat.le_of_ble_eq_true rfl, Nat.le_of_ble_eq_true rfl⟩) hE hP hD hS hA MW_adr 0 2 rfl rfl rfl hl.1 rfl (Nat.le_of_ble_eq_true rfl) dX2_gain_15 ⟨Nat.zero_le _, Nat.zero_le _⟩ (fun H locs hP hD hS => ?_)
    have hP : va_P D vwCl (MW cA cZ h as g im kp) H := hP
    have hD : va_D A (MW cA cZ h as g im kp) := hD
    refine lv_istore_n (lv' := [(2, .int (mf_sq g 73)), (0, .ref h), (1, .int k)]) hx hb dX2_gain_18 rfl hl (by decide) rfl (fun ls hl => ?_)
    refine lv_aload_n hx hb dX2_gain_19 rfl (lv_at hl 1 rfl) ?_
    refine lv_bipush (v := 113) hx hb dX2_gain_20 (by decide) ?_
    refine bm_i [] (MW cA cZ h as g im kp) [] [.int 113] [] ⟨hx, hb, hml, hown, hts⟩ (c_X2_squares l D cA cZ cR h as g im kp 113 (by omega)) (cwV 1 hts gX2_gain_X2_squares rfl rfl rfl (by decide +kernel) ⟨Nat.le_of_ble_eq_true rfl, Nat.le_of_ble_eq_true rfl⟩) hE hP hD hS hA MW_adr 0 2 rfl rfl rfl hl.1 rfl (Nat.le_of_ble_eq_true rfl) dX2_gain_22 ⟨Nat.zero_le _, Nat.zero_le _⟩ (fun H locs hP hD hS => ?_)
    have hP : va_P D vwCl (MW cA cZ h as g im kp) H := hP
    have hD : va_D A (MW cA cZ h as g im kp) := hD
    refine lv_istore_n (lv' := [(3, .int (mf_sq g 113)), (2, .int (mf_sq g 73)), (0, .ref h), (1, .int k)]) hx hb dX2_gain_25 rfl hl (by decide) rfl (fun ls hl => ?_)
    refine lv_iload_n hx hb dX2_gain_26 rfl (lv_at hl 0 rfl) ?_
    refine lv_if_ne (tgt := 33) hx hb dX2_gain_27 (by decide) (fun c_2 => ?_) (fun c_2 => ?_)
    · have c_2 : ¬ (mf_sq g 113) = 0 := c_2
      refine lv_iload_n hx hb dX2_gain_33 rfl (lv_at hl 3 rfl) ?_
      have j42 :  W p l e rm_X2_gain s m args below meth c H locs 0 0 Q (F0 m 42 ls [.int (if k = 0 then mf_sq g 73 else mf_sq g 113)]) := by
        refine lv_iload_n hx hb dX2_gain_42 rfl (lv_at hl 0 rfl) ?_
        refine lv_iload_n hx hb dX2_gain_43 rfl (lv_at hl 1 rfl) ?_
        refine sm_i [.int (mf_sq g 113), .int (mf_sq g 73)] [.int (if k = 0 then mf_sq g 73 else mf_sq g 113)] ⟨hx, hb, hml, hown, hts⟩ (c_X2_common l N (mf_sq g 113) (mf_sq g 73) hN) (va_cwS 2 hts gX2_gain_X2_common rfl rfl rfl (by decide +kernel) ⟨Nat.le_of_ble_eq_true rfl, Nat.le_of_ble_eq_true rfl⟩) rfl hl.1 rfl (Nat.le_of_ble_eq_true rfl) dX2_gain_44 ⟨Nat.zero_le _, Nat.zero_le _⟩ ?_
        refine lv_idiv hx hb dX2_gain_47 (hz c_2) ?_
        exact hret _ _ _ _ _ hP (by rw [yf_gain, if_neg c_1, if_neg c_2]) hS dX2_gain_48
      refine lv_if_ne (tgt := 41) hx hb dX2_gain_34 (by decide) (fun c_3 => ?_) (fun c_3 => ?_)
      · have c_3 : ¬ k = 0 := c_3
        refine lv_iload_n hx hb dX2_gain_41 rfl (lv_at hl 0 rfl) ?_
        rw [if_neg c_3] at j42
        exact j42
      · have c_3 : k = 0 := c_3
        refine lv_iload_n hx hb dX2_gain_37 rfl (lv_at hl 1 rfl) ?_
        refine lv_goto (tgt := 42) hx hb dX2_gain_38 (by decide) ?_
        rw [if_pos c_3] at j42
        exact j42
    · have c_2 : (mf_sq g 113) = 0 := c_2
      refine lv_bipush (v := (-3)) hx hb dX2_gain_30 (by decide) ?_
      exact hret _ _ _ _ _ hP (by rw [yf_gain, if_neg c_1, if_pos c_2]) hS dX2_gain_32
  · have c_1 : (pf_in k 0 1) = 0 := c_1
    refine lv_bipush (v := (-2)) hx hb dX2_gain_9 (by decide) ?_
    exact hret _ _ _ _ _ hP ((if_pos c_1).symm) hS dX2_gain_11

abbrev rm_X2_began : Room := { frames := 1, cells := 0, slots := 0, locals := 22 }
theorem iw_X2_began_X2 : ∀ w ∈ wsX20, w ∈ wsX2_began := by decide +kernel
set_option maxRecDepth 100000 in
set_option maxHeartbeats 4000000 in
theorem c_X2_began (l : Launch) (D : va_G) (cA cZ cR : ClassId) (h : Nat) (as : Nat → Nat) (g im kp : Fn) (T : Nat) (i k : Int32) (hT : T < 2 ^ 30) (eT : g 24 = nI T) : BMi l D cA cZ cR yX2_began wsX2_began rm_X2_began [.ref h, .int i, .int k] (MW cA cZ h as g im kp) (MW cA cZ h as g im kp) (yf_began g T i k) := by
  refine bm_open (maxL := 7) (by decide) rfl rfl rfl (Nat.le_of_ble_eq_true rfl) ?_
  intro p e s m args below meth c A Q hx hb hml hts hown hE hP hD hA hS hret ls hl
  have hown : s.vm.findClass RX2 = some m.cls := hown
  have hl : lv_has ls 7 [(0, .ref h), (1, .int i), (2, .int k)] := hl
  obtain ⟨H, locs, eH, eL⟩ : ∃ (H : Heap) (locs : List Loc), H = s.heap ∧ locs = [] := ⟨_, _, rfl, rfl⟩
  rw [← eH, ← eL]
  rw [← eH] at hP
  have hS : va_S A s.heap H locs := by rw [eH, eL]; exact hS
  clear eH eL
  refine lv_iload_n hx hb dX2_began_0 rfl (lv_at hl 2 rfl) ?_
  refine lv_iconst (v := 0) hx hb dX2_began_1 (by decide) ?_
  refine lv_iconst (v := 1) hx hb dX2_began_2 (by decide) ?_
  refine sm_i [.int k, .int 0, .int 1] [] ⟨hx, hb, hml, hown, hts⟩ (c_X2_in l k 0 1) (va_cwS 3 hts gX2_began_X2_in rfl rfl rfl (by decide +kernel) ⟨Nat.le_of_ble_eq_true rfl, Nat.le_of_ble_eq_true rfl⟩) rfl hl.1 rfl (Nat.le_of_ble_eq_true rfl) dX2_began_3 ⟨Nat.zero_le _, Nat.zero_le _⟩ ?_
  refine lv_if_ne (tgt := 12) hx hb dX2_began_6 (by decide) (fun c_1 => ?_) (fun c_1 => ?_)
  · have c_1 : ¬ (pf_in k 0 1) = 0 := c_1
    refine lv_iload_n hx hb dX2_began_12 rfl (lv_at hl 2 rfl) ?_
    have j25 : ∀ (r : Nat) (er : r = if k = 0 then 153 else 354), W p l e rm_X2_began s m args below meth c H locs 0 0 Q (F0 m 25 ls [.int (nI r)]) := by
      intro r er
      have hr : r ≤ 354 := by rw [er]; split <;> omega
      refine lv_istore_n (lv' := [(3, .int (nI r)), (0, .ref h), (1, .int i), (2, .int k)]) hx hb dX2_began_25 rfl hl (by decide) rfl (fun ls hl => ?_)
      refine lv_aload_n hx hb dX2_began_26 rfl (lv_at hl 1 rfl) ?_
      refine va_get (D := D) (ci := 2) (v := .ref (as 0)) (C := RX2) (T := TX2) (N := 3) hx hb hts iw_X2_began_X2 hown hE.1 hP 0 rfl rfl 0 (by decide) (hts (.fieldLink RX2 7 "EchoTapsModel" "state" "[I") (by decide +kernel)) (fun _ h9 => h9) rfl dX2_began_27 ?_
      refine lv_bipush (v := 24) hx hb dX2_began_30 (by decide) ?_
      refine va_iald hx hb hE.1 hP 1 0 rfl rfl (vp_in_nI (n := 24) (N := 555) (by decide) (by decide)) dX2_began_32 ?_
      refine lv_sipush (v := 200) hx hb dX2_began_33 (by decide) ?_
      have j52 : ∀ (F : Nat) (eF : F = if 200 ≤ T then 200 else T), W p l e rm_X2_began s m args below meth c H locs 0 0 Q (F0 m 52 ls [.int (nI F)]) := by
        intro F eF
        have hF : F ≤ 200 := by rw [eF]; split <;> omega
        refine lv_istore (lv' := [(4, .int (nI F)), (3, .int (nI r)), (0, .ref h), (1, .int i), (2, .int k)]) hx hb dX2_began_52 hl (by decide) rfl (fun ls hl => ?_)
        refine lv_iconst (v := 0) hx hb dX2_began_54 (by decide) ?_
        refine lv_istore (lv' := [(5, .int 0), (4, .int (nI F)), (3, .int (nI r)), (0, .ref h), (1, .int i), (2, .int k)]) hx hb dX2_began_55 hl (by decide) rfl (fun ls hl => ?_)
        refine lv_iload hx hb dX2_began_57 (lv_at hl 1 rfl) ?_
        refine lv_iconst (v := 1) hx hb dX2_began_59 (by decide) ?_
        refine lv_isub hx hb dX2_began_60 ?_
        refine lv_ri (show nI F - 1 = nI F + (-1) from Int32.sub_eq_add_neg _ _) ?_
        refine lv_istore (lv' := [(6, .int (nI F + (-1))), (5, .int 0), (4, .int (nI F)), (3, .int (nI r)), (0, .ref h), (1, .int i), (2, .int k)]) hx hb dX2_began_61 hl (by decide) rfl (fun ls hl => ?_)
        have e2 : yf_began g T i k = mf_bg g r i F 0 := by rw [yf_began, if_neg c_1, er, eF]
        rw [e2] at hret
        have loop : ∀ (n : Nat) (f : Int32) (hn : n ≤ 200) (hg : mf_bg g r i n f = mf_bg g r i F 0), ∀ (H : Heap) (locs : List Loc), va_P D vwCl (MW cA cZ h as g im kp) H → va_D A (MW cA cZ h as g im kp) → va_S A s.heap H locs → ∀ ls : Array Slot, lv_has ls 7 [(6, .int (nI n + (-1))), (5, .int f), (3, .int (nI r)), (2, .int k), (1, .int i), (0, .ref h)] → W p l e rm_X2_began s m args below meth c H locs 0 0 Q (F0 m 63 ls []) := by
          intro n
          induction n with
          | zero =>
            intro f hn hg H locs hP hD hS ls hl
            refine lv_iload hx hb dX2_began_63 (lv_at hl 0 rfl) ?_
            refine lv_if_lt (tgt := 121) hx hb dX2_began_65 (by decide) (fun c_2 => ?_) (fun c_2 => absurd (by decide) c_2)
            refine lv_iload_n hx hb dX2_began_121 rfl (lv_at hl 4 rfl) ?_
            refine lv_iconst (v := (-1)) hx hb dX2_began_122 (by decide) ?_
            refine lv_icmp_ne (tgt := 131) hx hb dX2_began_123 (by decide) (fun c_3 => ?_) (fun c_3 => ?_)
            · have c_3 : ¬ i = (-1) := c_3
              refine lv_bipush (v := (-6)) hx hb dX2_began_131 (by decide) ?_
              exact hret _ _ _ _ _ hP (by rw [← hg, mf_bg, if_neg c_3]) hS dX2_began_133
            · have c_3 : i = (-1) := c_3
              refine lv_iload hx hb dX2_began_126 (lv_at hl 1 rfl) ?_
              refine lv_goto (tgt := 133) hx hb dX2_began_128 (by decide) ?_
              exact hret _ _ _ _ _ hP (by rw [← hg, mf_bg, if_pos c_3]) hS dX2_began_133
          | succ n ih =>
            intro f hn hg H locs hP hD hS ls hl
            rw [pk_m1] at hl
            refine lv_iload hx hb dX2_began_63 (lv_at hl 0 rfl) ?_
            refine lv_if_lt (tgt := 121) hx hb dX2_began_65 (by decide) (fun c_4 => absurd c_4 (nI_pos (n := n) (by omega))) (fun c_4 => ?_)
            refine lv_aload_n hx hb dX2_began_68 rfl (lv_at hl 5 rfl) ?_
            refine va_get (D := D) (ci := 2) (v := .ref (as 0)) (C := RX2) (T := TX2) (N := 3) hx hb hts iw_X2_began_X2 hown hE.1 hP 0 rfl rfl 0 (by decide) (hts (.fieldLink RX2 7 "EchoTapsModel" "state" "[I") (by decide +kernel)) (fun _ h9 => h9) rfl dX2_began_69 ?_
            refine lv_iload_n hx hb dX2_began_72 rfl (lv_at hl 2 rfl) ?_
            refine lv_iload hx hb dX2_began_73 (lv_at hl 0 rfl) ?_
            refine lv_iadd hx hb dX2_began_75 ?_
            refine lv_ri (nI_add r n) ?_
            refine va_iald hx hb hE.1 hP 1 0 rfl rfl (vp_in_nI (by omega) (by decide)) dX2_began_76 ?_
            refine lv_ri (congrArg g (nI_clamp (n := r + n) (by omega))) ?_
            refine lv_iconst (v := 1) hx hb dX2_began_77 (by decide) ?_
            refine lv_icmp_ne (tgt := 115) hx hb dX2_began_78 (by decide) (fun c_5 => ?_) (fun c_5 => ?_)
            · have c_5 : ¬ (g (r + n)) = 1 := c_5
              rw [mf_bg, if_neg (fun q => c_5 q.1)] at hg
              refine lv_iinc (v := nI n + (-1)) (lv' := [(6, .int (nI n + (-1))), (5, .int f), (3, .int (nI r)), (2, .int k), (1, .int i), (0, .ref h)]) hx hb dX2_began_115 hl (k := 0) rfl (rfl) (by decide) rfl (fun ls hl => ?_)
              refine lv_goto (tgt := 63) hx hb dX2_began_118 (by decide) ?_
              exact ih _ (by omega) hg H locs hP hD hS ls (lv_sub hl [0, 1, 2, 3, 4, 5] rfl)
            · have c_5 : (g (r + n)) = 1 := c_5
              refine lv_aload_n hx hb dX2_began_81 rfl (lv_at hl 5 rfl) ?_
              refine va_get (D := D) (ci := 2) (v := .ref (as 0)) (C := RX2) (T := TX2) (N := 3) hx hb hts iw_X2_began_X2 hown hE.1 hP 0 rfl rfl 0 (by decide) (hts (.fieldLink RX2 7 "EchoTapsModel" "state" "[I") (by decide +kernel)) (fun _ h9 => h9) rfl dX2_began_82 ?_
              refine lv_iload_n hx hb dX2_began_85 rfl (lv_at hl 2 rfl) ?_
              refine lv_iload hx hb dX2_began_86 (lv_at hl 0 rfl) ?_
              refine lv_iadd hx hb dX2_began_88 ?_
              refine lv_ri (nI_add r n) ?_
              refine lv_iconst (v := 1) hx hb dX2_began_89 (by decide) ?_
              refine lv_iadd hx hb dX2_began_90 ?_
              refine lv_ri (nI_add (r + n) 1) ?_
              refine va_iald hx hb hE.1 hP 1 0 rfl rfl (vp_in_nI (by omega) (by decide)) dX2_began_91 ?_
              refine lv_ri (congrArg g (nI_clamp (n := r + n + 1) (by omega))) ?_
              refine lv_if_ne (tgt := 115) hx hb dX2_began_92 (by decide) (fun c_6 => ?_) (fun c_6 => ?_)
              · have c_6 : ¬ (g (r + n + 1)) = 0 := c_6
                rw [mf_bg, if_neg (fun q => c_6 q.2)] at hg
                refine lv_iinc (v := nI n + (-1)) (lv' := [(6, .int (nI n + (-1))), (5, .int f), (3, .int (nI r)), (2, .int k), (1, .int i), (0, .ref h)]) hx hb dX2_began_115 hl (k := 0) rfl (rfl) (by decide) rfl (fun ls hl => ?_)
                refine lv_goto (tgt := 63) hx hb dX2_began_118 (by decide) ?_
                exact ih _ (by omega) hg H locs hP hD hS ls (lv_sub hl [0, 1, 2, 3, 4, 5] rfl)
              · have c_6 : (g (r + n + 1)) = 0 := c_6
                rw [mf_bg, if_pos ⟨c_5, c_6⟩] at hg
                refine lv_iload hx hb dX2_began_95 (lv_at hl 1 rfl) ?_
                refine lv_iload_n hx hb dX2_began_97 rfl (lv_at hl 4 rfl) ?_
                refine lv_icmp_ne (tgt := 112) hx hb dX2_began_98 (by decide) (fun c_7 => ?_) (fun c_7 => ?_)
                · have c_7 : ¬ f = i := c_7
                  rw [if_neg c_7] at hg
                  refine lv_iinc (v := f + 1) (lv' := [(5, .int (f + 1)), (6, .int (nI n)), (3, .int (nI r)), (2, .int k), (1, .int i), (0, .ref h)]) hx hb dX2_began_112 hl (k := 1) rfl (rfl) (by decide) rfl (fun ls hl => ?_)
                  refine lv_iinc (v := nI n + (-1)) (lv' := [(6, .int (nI n + (-1))), (5, .int (f + 1)), (3, .int (nI r)), (2, .int k), (1, .int i), (0, .ref h)]) hx hb dX2_began_115 hl (k := 1) rfl (rfl) (by decide) rfl (fun ls hl => ?_)
                  refine lv_goto (tgt := 63) hx hb dX2_began_118 (by decide) ?_
                  exact ih _ (by omega) hg H locs hP hD hS ls (lv_sub hl [0, 1, 2, 3, 4, 5] rfl)
                · have c_7 : f = i := c_7
                  rw [if_pos c_7] at hg
                  refine lv_aload_n hx hb dX2_began_101 rfl (lv_at hl 5 rfl) ?_
                  refine va_get (D := D) (ci := 2) (v := .ref (as 0)) (C := RX2) (T := TX2) (N := 3) hx hb hts iw_X2_began_X2 hown hE.1 hP 0 rfl rfl 0 (by decide) (hts (.fieldLink RX2 7 "EchoTapsModel" "state" "[I") (by decide +kernel)) (fun _ h9 => h9) rfl dX2_began_102 ?_
                  refine lv_bipush (v := 24) hx hb dX2_began_105 (by decide) ?_
                  refine va_iald hx hb hE.1 hP 1 0 rfl rfl (vp_in_nI (n := 24) (N := 555) (by decide) (by decide)) dX2_began_107 ?_
                  refine lv_iload hx hb dX2_began_108 (lv_at hl 0 rfl) ?_
                  refine lv_isub hx hb dX2_began_110 ?_
                  exact hret _ _ _ _ _ hP hg hS dX2_began_111
        exact loop F 0 hF rfl H locs hP hD hS ls (lv_sub hl [0, 1, 3, 6, 5, 4] rfl)
      refine lv_icmp_ge (tgt := 49) hx hb dX2_began_36 (by decide) (fun c_8 => ?_) (fun c_8 => ?_)
      · have c_8 : 200 ≤ (g 24) := c_8
        have h2 : 200 ≤ T := (nI_leI (a := 200) (by decide) (by omega)).mp (by rw [← eT]; exact c_8)
        refine lv_sipush (v := 200) hx hb dX2_began_49 (by decide) ?_
        exact j52 200 (if_pos h2).symm
      · have c_8 : ¬ 200 ≤ (g 24) := c_8
        have h2 : ¬ 200 ≤ T := fun q => c_8 (by rw [eT]; exact (nI_leI (a := 200) (by decide) (by omega)).mpr q)
        refine lv_aload_n hx hb dX2_began_39 rfl (lv_at hl 1 rfl) ?_
        refine va_get (D := D) (ci := 2) (v := .ref (as 0)) (C := RX2) (T := TX2) (N := 3) hx hb hts iw_X2_began_X2 hown hE.1 hP 0 rfl rfl 0 (by decide) (hts (.fieldLink RX2 7 "EchoTapsModel" "state" "[I") (by decide +kernel)) (fun _ h9 => h9) rfl dX2_began_40 ?_
        refine lv_bipush (v := 24) hx hb dX2_began_43 (by decide) ?_
        refine va_iald hx hb hE.1 hP 1 0 rfl rfl (vp_in_nI (n := 24) (N := 555) (by decide) (by decide)) dX2_began_45 ?_
        refine lv_ri eT ?_
        refine lv_goto (tgt := 52) hx hb dX2_began_46 (by decide) ?_
        exact j52 T (if_neg h2).symm
    refine lv_if_ne (tgt := 22) hx hb dX2_began_13 (by decide) (fun c_9 => ?_) (fun c_9 => ?_)
    · have c_9 : ¬ k = 0 := c_9
      refine lv_sipush (v := 354) hx hb dX2_began_22 (by decide) ?_
      exact j25 354 (if_neg c_9).symm
    · have c_9 : k = 0 := c_9
      refine lv_sipush (v := 153) hx hb dX2_began_16 (by decide) ?_
      refine lv_goto (tgt := 25) hx hb dX2_began_19 (by decide) ?_
      exact j25 153 (if_pos c_9).symm
  · have c_1 : (pf_in k 0 1) = 0 := c_1
    refine lv_bipush (v := (-2)) hx hb dX2_began_9 (by decide) ?_
    exact hret _ _ _ _ _ hP ((if_pos c_1).symm) hS dX2_began_11
