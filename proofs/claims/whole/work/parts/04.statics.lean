abbrev rm_X1_within : Room := { frames := 0, cells := 0, slots := 0, locals := 0 }
set_option maxRecDepth 100000 in
set_option maxHeartbeats 4000000 in
theorem c_X1_within (l : Launch) (v a b : Int32) : SMi l yX1_within wsX1_within rm_X1_within [.int v, .int a, .int b] (pf_in v a b) := by
  refine sm_openZ (maxL := 3) (by decide) rfl (Nat.le_of_ble_eq_true rfl) (pf_in_z v a b) ?_
  intro p e s m args below meth c Q H locs hx hb hml hts hown hret ls hl
  have hown : s.vm.findClass RX1 = some m.cls := hown
  have hl : lv_has ls 3 [(0, .int v), (1, .int a), (2, .int b)] := hl
  refine lv_iload_n hx hb dX1_within_0 rfl (lv_at hl 1 rfl) ?_
  refine lv_iload_n hx hb dX1_within_1 rfl (lv_at hl 0 rfl) ?_
  refine lv_icmp_gt (tgt := 14) hx hb dX1_within_2 (by decide) (fun c_1 => ?_) (fun c_1 => ?_)
  · have c_1 : v < a := c_1
    refine lv_iconst (v := 0) hx hb dX1_within_14 (by decide) ?_
    exact hret _ _ _ (pf_in0 (fun q => absurd (Int32.not_lt.mpr q.1) (not_not_intro c_1)) |>.symm) dX1_within_15
  · have c_1 : ¬ v < a := c_1
    refine lv_iload_n hx hb dX1_within_5 rfl (lv_at hl 0 rfl) ?_
    refine lv_iload_n hx hb dX1_within_6 rfl (lv_at hl 2 rfl) ?_
    refine lv_icmp_gt (tgt := 14) hx hb dX1_within_7 (by decide) (fun c_2 => ?_) (fun c_2 => ?_)
    · have c_2 : b < v := c_2
      refine lv_iconst (v := 0) hx hb dX1_within_14 (by decide) ?_
      exact hret _ _ _ (pf_in0 (fun q => absurd (Int32.not_lt.mpr q.2) (not_not_intro c_2)) |>.symm) dX1_within_15
    · have c_2 : ¬ b < v := c_2
      refine lv_iconst (v := 1) hx hb dX1_within_10 (by decide) ?_
      refine lv_goto (tgt := 15) hx hb dX1_within_11 (by decide) ?_
      exact hret _ _ _ (pf_in1 ⟨Int32.not_lt.mp c_1, Int32.not_lt.mp c_2⟩ |>.symm) dX1_within_15

abbrev rm_X2_in : Room := { frames := 0, cells := 0, slots := 0, locals := 0 }
set_option maxRecDepth 100000 in
set_option maxHeartbeats 4000000 in
theorem c_X2_in (l : Launch) (v a b : Int32) : SMi l yX2_in wsX2_in rm_X2_in [.int v, .int a, .int b] (pf_in v a b) := by
  refine sm_openZ (maxL := 3) (by decide) rfl (Nat.le_of_ble_eq_true rfl) (pf_in_z v a b) ?_
  intro p e s m args below meth c Q H locs hx hb hml hts hown hret ls hl
  have hown : s.vm.findClass RX2 = some m.cls := hown
  have hl : lv_has ls 3 [(0, .int v), (1, .int a), (2, .int b)] := hl
  refine lv_iload_n hx hb dX2_in_0 rfl (lv_at hl 0 rfl) ?_
  refine lv_iload_n hx hb dX2_in_1 rfl (lv_at hl 1 rfl) ?_
  refine lv_icmp_lt (tgt := 14) hx hb dX2_in_2 (by decide) (fun c_1 => ?_) (fun c_1 => ?_)
  · have c_1 : v < a := c_1
    refine lv_iconst (v := 0) hx hb dX2_in_14 (by decide) ?_
    exact hret _ _ _ (pf_in0 (fun q => absurd (Int32.not_lt.mpr q.1) (not_not_intro c_1)) |>.symm) dX2_in_15
  · have c_1 : ¬ v < a := c_1
    refine lv_iload_n hx hb dX2_in_5 rfl (lv_at hl 0 rfl) ?_
    refine lv_iload_n hx hb dX2_in_6 rfl (lv_at hl 2 rfl) ?_
    refine lv_icmp_gt (tgt := 14) hx hb dX2_in_7 (by decide) (fun c_2 => ?_) (fun c_2 => ?_)
    · have c_2 : b < v := c_2
      refine lv_iconst (v := 0) hx hb dX2_in_14 (by decide) ?_
      exact hret _ _ _ (pf_in0 (fun q => absurd (Int32.not_lt.mpr q.2) (not_not_intro c_2)) |>.symm) dX2_in_15
    · have c_2 : ¬ b < v := c_2
      refine lv_iconst (v := 1) hx hb dX2_in_10 (by decide) ?_
      refine lv_goto (tgt := 15) hx hb dX2_in_11 (by decide) ?_
      exact hret _ _ _ (pf_in1 ⟨Int32.not_lt.mp c_1, Int32.not_lt.mp c_2⟩ |>.symm) dX2_in_15

abbrev rm_X1_limited : Room := { frames := 1, cells := 0, slots := 0, locals := 14 }
set_option maxRecDepth 100000 in
set_option maxHeartbeats 4000000 in
theorem c_X1_limited (l : Launch) (v a b : Int32) : SMi l yX1_limited wsX1_limited rm_X1_limited [.int v, .int a, .int b] (pf_lm v a b) := by
  refine sm_open (maxL := 3) (by decide) rfl (Nat.le_of_ble_eq_true rfl) ?_
  intro p e s m args below meth c Q H locs hx hb hml hts hown hret ls hl
  have hown : s.vm.findClass RX1 = some m.cls := hown
  have hl : lv_has ls 3 [(0, .int v), (1, .int a), (2, .int b)] := hl
  refine lv_iload_n hx hb dX1_limited_0 rfl (lv_at hl 1 rfl) ?_
  refine lv_iload_n hx hb dX1_limited_1 rfl (lv_at hl 2 rfl) ?_
  refine lv_iload_n hx hb dX1_limited_2 rfl (lv_at hl 0 rfl) ?_
  refine va_mmin hx hb (hml.trans hl.1.symm) hown (hts (.methodLink RX1 121 Lib.Math.min.name) (by decide +kernel)) (hts (.static Lib.Math.min.name) (by decide +kernel)) (hts (.initialized "java/lang/Math") (by decide +kernel)) (hts (.code Lib.Math.min.name Lib.Math.min.code 2 (some .int)) (by decide +kernel)) (Nat.le_of_ble_eq_true rfl) (Nat.le_of_ble_eq_true rfl) (Nat.zero_le _) (Nat.zero_le _) dX1_limited_3 ?_
  refine va_mmax hx hb (hml.trans hl.1.symm) hown (hts (.methodLink RX1 124 Lib.Math.max.name) (by decide +kernel)) (hts (.static Lib.Math.max.name) (by decide +kernel)) (hts (.initialized "java/lang/Math") (by decide +kernel)) (hts (.code Lib.Math.max.name Lib.Math.max.code 2 (some .int)) (by decide +kernel)) (Nat.le_of_ble_eq_true rfl) (Nat.le_of_ble_eq_true rfl) (Nat.zero_le _) (Nat.zero_le _) dX1_limited_6 ?_
  exact hret _ _ _ rfl dX1_limited_9

abbrev rm_X1_nextSeed : Room := { frames := 0, cells := 0, slots := 0, locals := 0 }
set_option maxRecDepth 100000 in
set_option maxHeartbeats 4000000 in
theorem c_X1_nextSeed (l : Launch) (z : Int32) : SMi l yX1_nextSeed wsX1_nextSeed rm_X1_nextSeed [.int z] (pf_nx z) := by
  refine sm_open (maxL := 1) (by decide) rfl (Nat.le_of_ble_eq_true rfl) ?_
  intro p e s m args below meth c Q H locs hx hb hml hts hown hret ls hl
  have hown : s.vm.findClass RX1 = some m.cls := hown
  have hl : lv_has ls 1 [(0, .int z)] := hl
  refine lv_bipush (v := 75) hx hb dX1_nextSeed_0 (by decide) ?_
  refine lv_iload_n hx hb dX1_nextSeed_2 rfl (lv_at hl 0 rfl) ?_
  refine lv_imul hx hb dX1_nextSeed_3 ?_
  refine lv_bipush (v := 74) hx hb dX1_nextSeed_4 (by decide) ?_
  refine lv_iadd hx hb dX1_nextSeed_6 ?_
  refine lv_ldc (v := 65537) hx hb hown (hts (.constant RX1 128 (65537)) (by decide +kernel)) dX1_nextSeed_7 ?_
  refine lv_irem hx hb dX1_nextSeed_9 (by decide) ?_
  exact hret _ _ _ rfl dX1_nextSeed_10

abbrev rm_X2_next : Room := { frames := 0, cells := 0, slots := 0, locals := 0 }
set_option maxRecDepth 100000 in
set_option maxHeartbeats 4000000 in
theorem c_X2_next (l : Launch) (z : Int32) : SMi l yX2_next wsX2_next rm_X2_next [.int z] (pf_nx z) := by
  refine sm_open (maxL := 1) (by decide) rfl (Nat.le_of_ble_eq_true rfl) ?_
  intro p e s m args below meth c Q H locs hx hb hml hts hown hret ls hl
  have hown : s.vm.findClass RX2 = some m.cls := hown
  have hl : lv_has ls 1 [(0, .int z)] := hl
  refine lv_bipush (v := 75) hx hb dX2_next_0 (by decide) ?_
  refine lv_iload_n hx hb dX2_next_2 rfl (lv_at hl 0 rfl) ?_
  refine lv_imul hx hb dX2_next_3 ?_
  refine lv_bipush (v := 74) hx hb dX2_next_4 (by decide) ?_
  refine lv_iadd hx hb dX2_next_6 ?_
  refine lv_ldc (v := 65537) hx hb hown (hts (.constant RX2 42 (65537)) (by decide +kernel)) dX2_next_7 ?_
  refine lv_irem hx hb dX2_next_9 (by decide) ?_
  exact hret _ _ _ rfl dX2_next_10

abbrev rm_X1_centred : Room := { frames := 0, cells := 0, slots := 0, locals := 0 }
set_option maxRecDepth 100000 in
set_option maxHeartbeats 4000000 in
theorem c_X1_centred (l : Launch) (z t : Int32) : SMi l yX1_centred wsX1_centred rm_X1_centred [.int z, .int t] (pf_ce z t) := by
  refine sm_open (maxL := 2) (by decide) rfl (Nat.le_of_ble_eq_true rfl) ?_
  intro p e s m args below meth c Q H locs hx hb hml hts hown hret ls hl
  have hown : s.vm.findClass RX1 = some m.cls := hown
  have hl : lv_has ls 2 [(0, .int z), (1, .int t)] := hl
  refine lv_iload_n hx hb dX1_centred_0 rfl (lv_at hl 0 rfl) ?_
  refine lv_iconst (v := 2) hx hb dX1_centred_1 (by decide) ?_
  refine lv_iload_n hx hb dX1_centred_2 rfl (lv_at hl 1 rfl) ?_
  refine lv_imul hx hb dX1_centred_3 ?_
  refine lv_iconst (v := 1) hx hb dX1_centred_4 (by decide) ?_
  refine lv_iadd hx hb dX1_centred_5 ?_
  refine lv_irem hx hb dX1_centred_6 (pf_odd _) ?_
  refine lv_iload_n hx hb dX1_centred_7 rfl (lv_at hl 1 rfl) ?_
  refine lv_isub hx hb dX1_centred_8 ?_
  exact hret _ _ _ rfl dX1_centred_9

abbrev rm_X1_startsRun : Room := { frames := 1, cells := 0, slots := 0, locals := 22 }
set_option maxRecDepth 100000 in
set_option maxHeartbeats 4000000 in
theorem c_X1_startsRun (l : Launch) (z t : Int32) : SMi l yX1_startsRun wsX1_startsRun rm_X1_startsRun [.int z, .int t] (pf_sr z t) := by
  refine sm_openZ (maxL := 2) (by decide) rfl (Nat.le_of_ble_eq_true rfl) (pf_sr_z z t) ?_
  intro p e s m args below meth c Q H locs hx hb hml hts hown hret ls hl
  have hown : s.vm.findClass RX1 = some m.cls := hown
  have hl : lv_has ls 2 [(0, .int z), (1, .int t)] := hl
  refine lv_iload_n hx hb dX1_startsRun_0 rfl (lv_at hl 0 rfl) ?_
  refine lv_iconst (v := 0) hx hb dX1_startsRun_1 (by decide) ?_
  refine lv_ldc (v := 65536) hx hb hown (hts (.constant RX1 127 (65536)) (by decide +kernel)) dX1_startsRun_2 ?_
  refine sm_i [.int z, .int 0, .int 65536] [] ⟨hx, hb, hml, hown, hts⟩ (c_X1_within l z 0 65536) (va_cwS 3 hts gX1_startsRun_X1_within rfl rfl rfl (by decide +kernel) ⟨Nat.le_of_ble_eq_true rfl, Nat.le_of_ble_eq_true rfl⟩) rfl hl.1 rfl (Nat.le_of_ble_eq_true rfl) dX1_startsRun_4 ⟨Nat.zero_le _, Nat.zero_le _⟩ ?_
  refine lv_if_eq (tgt := 25) hx hb dX1_startsRun_7 (by decide) (fun c_1 => ?_) (fun c_1 => ?_)
  · have c_1 : (pf_in z 0 65536) = 0 := c_1
    refine lv_iconst (v := 0) hx hb dX1_startsRun_25 (by decide) ?_
    exact hret _ _ _ (by rw [pf_sr, if_neg]; rintro ⟨q1, q2⟩; exact absurd q1 ((pf_inE _ _ _).mp c_1)) dX1_startsRun_26
  · have c_1 : ¬ (pf_in z 0 65536) = 0 := c_1
    refine lv_iload_n hx hb dX1_startsRun_10 rfl (lv_at hl 1 rfl) ?_
    refine lv_iconst (v := 0) hx hb dX1_startsRun_11 (by decide) ?_
    refine lv_sipush (v := 1000) hx hb dX1_startsRun_12 (by decide) ?_
    refine sm_i [.int t, .int 0, .int 1000] [] ⟨hx, hb, hml, hown, hts⟩ (c_X1_within l t 0 1000) (va_cwS 3 hts gX1_startsRun_X1_within rfl rfl rfl (by decide +kernel) ⟨Nat.le_of_ble_eq_true rfl, Nat.le_of_ble_eq_true rfl⟩) rfl hl.1 rfl (Nat.le_of_ble_eq_true rfl) dX1_startsRun_15 ⟨Nat.zero_le _, Nat.zero_le _⟩ ?_
    refine lv_if_eq (tgt := 25) hx hb dX1_startsRun_18 (by decide) (fun c_2 => ?_) (fun c_2 => ?_)
    · have c_2 : (pf_in t 0 1000) = 0 := c_2
      refine lv_iconst (v := 0) hx hb dX1_startsRun_25 (by decide) ?_
      exact hret _ _ _ (by rw [pf_sr, if_neg]; rintro ⟨q1, q2⟩; exact absurd q2 ((pf_inE _ _ _).mp c_2)) dX1_startsRun_26
    · have c_2 : ¬ (pf_in t 0 1000) = 0 := c_2
      refine lv_iconst (v := 1) hx hb dX1_startsRun_21 (by decide) ?_
      refine lv_goto (tgt := 26) hx hb dX1_startsRun_22 (by decide) ?_
      exact hret _ _ _ (by rw [pf_sr, if_pos]; exact ⟨Decidable.not_not.mp (fun q => c_1 ((pf_inE _ _ _).mpr q)), Decidable.not_not.mp (fun q => c_2 ((pf_inE _ _ _).mpr q))⟩) dX1_startsRun_26

abbrev rm_X2_size : Room := { frames := 0, cells := 0, slots := 0, locals := 0 }
set_option maxRecDepth 100000 in
set_option maxHeartbeats 4000000 in
theorem c_X2_size (l : Launch) (x : Int32) : SMi l yX2_size wsX2_size rm_X2_size [.int x] (pf_sz x) := by
  refine sm_open (maxL := 1) (by decide) rfl (Nat.le_of_ble_eq_true rfl) ?_
  intro p e s m args below meth c Q H locs hx hb hml hts hown hret ls hl
  have hown : s.vm.findClass RX2 = some m.cls := hown
  have hl : lv_has ls 1 [(0, .int x)] := hl
  refine lv_iload_n hx hb dX2_size_0 rfl (lv_at hl 0 rfl) ?_
  refine lv_if_ge (tgt := 9) hx hb dX2_size_1 (by decide) (fun c_1 => ?_) (fun c_1 => ?_)
  · have c_1 : 0 ≤ x := c_1
    refine lv_iload_n hx hb dX2_size_9 rfl (lv_at hl 0 rfl) ?_
    exact hret _ _ _ (by rw [pf_sz, if_neg (Int32.not_lt.mpr c_1)]) dX2_size_10
  · have c_1 : ¬ 0 ≤ x := c_1
    refine lv_iload_n hx hb dX2_size_4 rfl (lv_at hl 0 rfl) ?_
    refine lv_ineg hx hb dX2_size_5 ?_
    refine lv_goto (tgt := 10) hx hb dX2_size_6 (by decide) ?_
    exact hret _ _ _ (by rw [pf_sz, if_pos (Int32.not_le.mp c_1)]) dX2_size_10

abbrev rm_X2_within : Room := { frames := 0, cells := 0, slots := 0, locals := 0 }
set_option maxRecDepth 100000 in
set_option maxHeartbeats 4000000 in
theorem c_X2_within (l : Launch) (v a b : Int32) : SMi l yX2_within wsX2_within rm_X2_within [.int v, .int a, .int b] (pf_cl v a b) := by
  refine sm_open (maxL := 3) (by decide) rfl (Nat.le_of_ble_eq_true rfl) ?_
  intro p e s m args below meth c Q H locs hx hb hml hts hown hret ls hl
  have hown : s.vm.findClass RX2 = some m.cls := hown
  have hl : lv_has ls 3 [(0, .int v), (1, .int a), (2, .int b)] := hl
  refine lv_iload_n hx hb dX2_within_0 rfl (lv_at hl 0 rfl) ?_
  refine lv_iload_n hx hb dX2_within_1 rfl (lv_at hl 1 rfl) ?_
  refine lv_icmp_ge (tgt := 9) hx hb dX2_within_2 (by decide) (fun c_1 => ?_) (fun c_1 => ?_)
  · have c_1 : a ≤ v := c_1
    refine lv_iload_n hx hb dX2_within_9 rfl (lv_at hl 0 rfl) ?_
    refine lv_iload_n hx hb dX2_within_10 rfl (lv_at hl 2 rfl) ?_
    refine lv_icmp_le (tgt := 18) hx hb dX2_within_11 (by decide) (fun c_2 => ?_) (fun c_2 => ?_)
    · have c_2 : v ≤ b := c_2
      refine lv_iload_n hx hb dX2_within_18 rfl (lv_at hl 0 rfl) ?_
      exact hret _ _ _ (by rw [pf_cl, if_neg (Int32.not_lt.mpr c_1), if_neg (Int32.not_lt.mpr c_2)]) dX2_within_19
    · have c_2 : ¬ v ≤ b := c_2
      refine lv_iload_n hx hb dX2_within_14 rfl (lv_at hl 2 rfl) ?_
      refine lv_goto (tgt := 19) hx hb dX2_within_15 (by decide) ?_
      exact hret _ _ _ (by rw [pf_cl, if_neg (Int32.not_lt.mpr c_1), if_pos (Int32.not_le.mp c_2)]) dX2_within_19
  · have c_1 : ¬ a ≤ v := c_1
    refine lv_iload_n hx hb dX2_within_5 rfl (lv_at hl 1 rfl) ?_
    refine lv_goto (tgt := 19) hx hb dX2_within_6 (by decide) ?_
    exact hret _ _ _ (by rw [pf_cl, if_pos (Int32.not_le.mp c_1)]) dX2_within_19

abbrev rm_X1_greatestDivisor : Room := { frames := 0, cells := 0, slots := 0, locals := 0 }
set_option maxRecDepth 100000 in
set_option maxHeartbeats 4000000 in
theorem c_X1_greatestDivisor (l : Launch) (a b : Int32) : SMi l yX1_greatestDivisor wsX1_greatestDivisor rm_X1_greatestDivisor [.int a, .int b] (pf_gd 64 a b) := by
  refine sm_open (maxL := 6) (by decide) rfl (Nat.le_of_ble_eq_true rfl) ?_
  intro p e s m args below meth c Q H locs hx hb hml hts hown hret ls hl
  have hown : s.vm.findClass RX1 = some m.cls := hown
  have hl : lv_has ls 6 [(0, .int a), (1, .int b)] := hl
  refine lv_iload_n hx hb dX1_greatestDivisor_0 rfl (lv_at hl 0 rfl) ?_
  refine lv_istore_n (lv' := [(2, .int a), (0, .int a), (1, .int b)]) hx hb dX1_greatestDivisor_1 rfl hl (by decide) rfl (fun ls hl => ?_)
  refine lv_iload_n hx hb dX1_greatestDivisor_2 rfl (lv_at hl 2 rfl) ?_
  refine lv_istore_n (lv' := [(3, .int b), (2, .int a), (0, .int a), (1, .int b)]) hx hb dX1_greatestDivisor_3 rfl hl (by decide) rfl (fun ls hl => ?_)
  refine lv_iconst (v := 0) hx hb dX1_greatestDivisor_4 (by decide) ?_
  refine lv_istore (lv' := [(4, .int 0), (3, .int b), (2, .int a), (0, .int a), (1, .int b)]) hx hb dX1_greatestDivisor_5 hl (by decide) rfl (fun ls hl => ?_)
  have loop : ∀ (n : Nat) (k : Nat) (x y : Int32) (hk : k + n = 64) (hg : pf_gd n x y = pf_gd 64 a b), ∀ ls : Array Slot, lv_has ls 6 [(4, .int (nI k)), (3, .int y), (2, .int x), (1, .int b), (0, .int a)] → W p l e rm_X1_greatestDivisor s m args below meth c H locs 0 0 Q (F0 m 7 ls []) := by
    intro n
    induction n with
    | zero =>
      intro k x y hk hg ls hl
      obtain rfl : k = 64 := by omega
      refine lv_iload hx hb dX1_greatestDivisor_7 (lv_at hl 0 rfl) ?_
      refine lv_bipush (v := 64) hx hb dX1_greatestDivisor_9 (by decide) ?_
      refine lv_icmp_ge (tgt := 34) hx hb dX1_greatestDivisor_11 (by decide) (fun c_1 => ?_) (fun c_1 => absurd (by decide) c_1)
      refine lv_iload_n hx hb dX1_greatestDivisor_34 rfl (lv_at hl 2 rfl) ?_
      exact hret _ _ _ hg dX1_greatestDivisor_35
    | succ n ih =>
      intro k x y hk hg ls hl
      refine lv_iload hx hb dX1_greatestDivisor_7 (lv_at hl 0 rfl) ?_
      refine lv_bipush (v := 64) hx hb dX1_greatestDivisor_9 (by decide) ?_
      refine lv_icmp_ge (tgt := 34) hx hb dX1_greatestDivisor_11 (by decide) (fun c_2 => absurd c_2 (nI_ge (a := k) (b := 64) (by omega) (by decide))) (fun c_2 => ?_)
      refine lv_iload_n hx hb dX1_greatestDivisor_14 rfl (lv_at hl 1 rfl) ?_
      refine lv_if_eq (tgt := 34) hx hb dX1_greatestDivisor_15 (by decide) (fun c_3 => ?_) (fun c_3 => ?_)
      · have c_3 : y = 0 := c_3
        refine lv_iload_n hx hb dX1_greatestDivisor_34 rfl (lv_at hl 2 rfl) ?_
        rw [pf_gd, if_pos c_3] at hg
        exact hret _ _ _ hg dX1_greatestDivisor_35
      · have c_3 : ¬ y = 0 := c_3
        refine lv_iload_n hx hb dX1_greatestDivisor_18 rfl (lv_at hl 2 rfl) ?_
        refine lv_iload_n hx hb dX1_greatestDivisor_19 rfl (lv_at hl 1 rfl) ?_
        refine lv_irem hx hb dX1_greatestDivisor_20 c_3 ?_
        refine lv_istore (lv' := [(5, .int (pf_rm x y)), (4, .int (nI k)), (3, .int y), (2, .int x), (1, .int b), (0, .int a)]) hx hb dX1_greatestDivisor_21 hl (by decide) rfl (fun ls hl => ?_)
        refine lv_iload_n hx hb dX1_greatestDivisor_23 rfl (lv_at hl 2 rfl) ?_
        refine lv_istore_n (lv' := [(2, .int y), (5, .int (pf_rm x y)), (4, .int (nI k)), (3, .int y), (1, .int b), (0, .int a)]) hx hb dX1_greatestDivisor_24 rfl hl (by decide) rfl (fun ls hl => ?_)
        refine lv_iload hx hb dX1_greatestDivisor_25 (lv_at hl 1 rfl) ?_
        refine lv_istore_n (lv' := [(3, .int (pf_rm x y)), (2, .int y), (5, .int (pf_rm x y)), (4, .int (nI k)), (1, .int b), (0, .int a)]) hx hb dX1_greatestDivisor_27 rfl hl (by decide) rfl (fun ls hl => ?_)
        refine lv_iinc (v := nI (k + 1)) (lv' := [(4, .int (nI (k + 1))), (3, .int (pf_rm x y)), (2, .int y), (5, .int (pf_rm x y)), (1, .int b), (0, .int a)]) hx hb dX1_greatestDivisor_28 hl (k := 3) rfl (nI_1 k) (by decide) rfl (fun ls hl => ?_)
        refine lv_goto (tgt := 7) hx hb dX1_greatestDivisor_31 (by decide) ?_
        rw [pf_gd, if_neg c_3] at hg
        exact ih (k + 1) _ _ (by omega) hg ls (lv_sub hl [0, 1, 2, 4, 5] rfl)
  exact loop 64 0 a b rfl rfl ls (lv_sub hl [0, 1, 2, 4, 3] rfl)
