theorem n8_k {s6 : St} {a b c d e f g h : Int32} {k : Nat} (hk : k ≠ 7) : lf_n8 s6 a b c d e f g h k = s6 k := by
  unfold lf_n8 lf_w
  rw [va_up, if_neg hk, va_up, if_neg hk, va_up, if_neg hk, va_up, if_neg hk, va_up, if_neg hk, va_up, if_neg hk, va_up, if_neg hk, va_up, if_neg hk]
theorem n6_k {s4 : St} {tk tn o : Int32} {k : Nat} (h5 : k ≠ 5) (h6 : k ≠ 6) : lf_n6 s4 tk tn o k = s4 k := by
  unfold lf_n6 lf_w
  rw [va_up, if_neg h6, va_up, if_neg h5]
theorem n8_7 {s6 : St} {a b c d e f g h : Int32} : lf_n8 s6 a b c d e f g h 7 0 = a ∧ lf_n8 s6 a b c d e f g h 7 1 = b ∧ lf_n8 s6 a b c d e f g h 7 2 = c ∧ lf_n8 s6 a b c d e f g h 7 3 = d ∧ lf_n8 s6 a b c d e f g h 7 4 = e ∧ lf_n8 s6 a b c d e f g h 7 5 = lf_b1 f ∧ lf_n8 s6 a b c d e f g h 7 6 = g ∧ lf_n8 s6 a b c d e f g h 7 7 = lf_b1 h := ⟨rfl, rfl, rfl, rfl, rfl, rfl, rfl, rfl⟩
theorem n6_5 {s4 : St} {tk tn o : Int32} : lf_n6 s4 tk tn o 5 = upd (s4 5) (s4 8 0 &&& 63).toNatClampNeg o := rfl
theorem n6_6 {s4 : St} {tk tn o : Int32} : lf_n6 s4 tk tn o 6 = upd (s4 6) (s4 8 0 &&& 255).toNatClampNeg (lf_b1 tk ||| lf_b2 tn) := rfl
theorem os_23 (g : Fn) : mf_os g 23 = g 23 ∨ mf_os g 23 = pf_nx (g 23) := by
  unfold mf_os mf_nos
  split
  · split
    · exact Or.inl rfl
    · exact Or.inr pk_us
  · exact Or.inl rfl
theorem or_nb {g : Fn} {z h : Nat} (hz : z ≤ 65536) (ez : g 23 = nI z) (hh : h ≤ 50) (eh : g 3 = nI h) (hn : nb (g 73) ≤ 2000) : nb (mf_or g) ≤ 2000 := by
  unfold mf_or mf_nor
  split
  · split
    · exact nb_cl _
    · rw [ez, eh, nx_nI hz]
      exact Nat.le_trans (ce_nb nx_le (by omega)) (by omega)
  · exact hn
theorem est_nb {g : Fn} {d : Nat} (g4 : g 4 = nI d) (hd : d ≤ 15) (ht : ∀ k, k < 8 → -4096 ≤ (g (5 + k)).toInt ∧ (g (5 + k)).toInt ≤ 4095) (hF : ∀ i, i < 40 → nb (g (33 + i)) ≤ 1000) : nb (mf_est g) ≤ 32000 := by
  have h1 : nb (l_sum (fun k => g (5 + k) * mf_seen g k) 8) ≤ 8 * 4096000 := by
    refine nb_sum 8 (fun k hk => ?_) (by decide)
    have a1 : nb (g (5 + k)) ≤ 4096 := by have := ht k hk; unfold nb; omega
    have a2 : nb (mf_seen g k) ≤ 1000 := by rw [mf_seen, g4, nI_clamp (by omega), Nat.add_assoc]; exact hF _ (by omega)
    exact (i_mul a1 a2 (by decide)).2
  unfold mf_est
  unfold nb at h1 ⊢
  rw [Int32.toInt_div_of_ne_right _ _ (by decide), Int.natAbs_tdiv]
  have e : (1024 : Int32).toInt.natAbs = 1024 := rfl
  rw [e]
  exact Nat.div_le_of_le_mul (by omega)
set_option maxHeartbeats 4000000 in
/-- a TICK: the class and the reference answer alike, and say the same behind it -/
theorem tick_ok {st : St} {g : Fn} {T : Nat} {far near : Int32} (hR : Rep st g T) (hI : Inv g) (hT : T + 1 < 2 ^ 30) (hf : nb far ≤ 1000) (hn : nb near ≤ 2000) :
    Rep (lf_near (lf_tf st far) near) (mf_tick g far near) (T + 1) ∧ Inv (mf_tick g far near) ∧ lf_out (lf_tf st far) near = mf_tick g far near 27 := by
  obtain ⟨r1, r2, r3, r4, r5, r6, r7, r8, r9, r10, r11, r12⟩ := hR
  obtain ⟨i1, ⟨hh, ih1, ih2⟩, ⟨d, hd, ed⟩, ⟨lg, hlg, elg⟩, ⟨z, hz, ez⟩, i6, i7, i8, i9, i10⟩ := hI
  obtain ⟨g1, g2, g3, g4, g5, g6, g7, g8, g9, ga, gb, gc, gd, ge, gf, q1, q2, q3, q4, q5, q6, q7, q8, q9, qa, qb, qc, qd, qe, qf, qt⟩ := mf_tick_spec g far near
  have L3 : ∀ j, j < 33 → j ≠ 24 → g3 j = g j := fun j h1 h2 => by rw [q3, pk_un h2, q2, mf_sh_out (Or.inl (by omega)) (by decide), q1, mf_sh_out (Or.inl (by omega)) (by decide)]
  have U4 : ∀ j, j ≠ 25 → g4 j = g3 j := fun j h => by rw [q4]; exact pk_un h
  have U5 : ∀ j, j ≠ 26 → g5 j = g4 j := fun j h => by rw [q5]; exact pk_un h
  have U6 : ∀ j, j ≠ 28 → g6 j = g5 j := fun j h => by rw [q6]; exact pk_un h
  have U7 : ∀ j, j ≠ 29 → g7 j = g6 j := fun j h => by rw [q7]; exact pk_un h
  have U8 : ∀ j, j ≠ 30 → g8 j = g7 j := fun j h => by rw [q8]; exact pk_un h
  have U9 : ∀ j, j ≠ 22 → g9 j = g8 j := fun j h => by rw [q9]; exact mf_hold_out h
  have Ua : ∀ j, j ≠ 31 → ga j = g9 j := fun j h => by rw [qa]; exact pk_un h
  have Ub : ∀ j, j ≠ 32 → gb j = ga j := fun j h => by rw [qb]; exact pk_un h
  have Uc : ∀ j, (j < 5 ∨ 13 ≤ j) → gc j = gb j := fun j h => by rw [qc]; exact mf_lq_out h
  have Ud : ∀ j, j ≠ 27 → j ≠ 23 → gd j = gc j := fun j h h2 => by rw [qd, pk_un h]; exact mf_os_out h2
  have H4 : ∀ j, 33 ≤ j → g4 j = g3 j := fun j h => U4 j (by omega)
  have H5 : ∀ j, 33 ≤ j → g5 j = g3 j := fun j h => by rw [U5 j (by omega), H4 j h]
  have H6 : ∀ j, 33 ≤ j → g6 j = g3 j := fun j h => by rw [U6 j (by omega), H5 j h]
  have H7 : ∀ j, 33 ≤ j → g7 j = g3 j := fun j h => by rw [U7 j (by omega), H6 j h]
  have H8 : ∀ j, 33 ≤ j → g8 j = g3 j := fun j h => by rw [U8 j (by omega), H7 j h]
  have H9 : ∀ j, 33 ≤ j → g9 j = g3 j := fun j h => by rw [U9 j (by omega), H8 j h]
  have Ha : ∀ j, 33 ≤ j → ga j = g3 j := fun j h => by rw [Ua j (by omega), H9 j h]
  have Hb : ∀ j, 33 ≤ j → gb j = g3 j := fun j h => by rw [Ub j (by omega), Ha j h]
  have Hd : ∀ j, 33 ≤ j → gd j = g3 j := fun j h => by rw [Ud j (by omega) (by omega), Uc j (by omega), Hb j h]
  have K3 : ∀ j, 113 ≤ j → g3 j = g j := fun j h => by rw [q3, pk_un (by omega), q2, mf_sh_out (Or.inr (by omega)) (by decide), q1, mf_sh_out (Or.inr (by omega)) (by decide)]
  -- the class: FAR and NEAR have come
  have w0 : st 8 0 + 1 = nI (T + 1) := by rw [r1]; exact nI_1 T
  obtain ⟨s0, es0⟩ : ∃ s : St, s = lf_tf st far := ⟨_, rfl⟩
  have c08 : s0 8 0 = nI (T + 1) := by rw [es0]; exact w0
  have c0k : ∀ k, k ≠ 3 → k ≠ 8 → s0 k = st k := fun k h1 h2 => by rw [es0]; exact (if_neg h1).trans (if_neg h2)
  have c03 : s0 3 = upd (st 3) (rx (T + 1) 0) far := by
    rw [es0]
    show upd (st 3) ((st 8 0 + 1) &&& 63).toNatClampNeg far = _
    rw [w0, ms_m63 hT]
  have c081 : s0 8 1 = st 8 1 := by rw [es0]; rfl
  have c082 : s0 8 2 = st 8 2 := by rw [es0]; rfl
  obtain ⟨s1, es1⟩ : ∃ s : St, s = lf_n1 s0 near := ⟨_, rfl⟩
  have c1k : ∀ k, k ≠ 4 → s1 k = s0 k := fun k h => by rw [es1]; exact if_neg h
  have c18 : s1 8 = s0 8 := c1k 8 (by decide)
  have c14 : s1 4 = upd (st 4) (rx (T + 1) 0) near := by
    rw [es1]
    show upd (s0 4) (s0 8 0 &&& 63).toNatClampNeg near = _
    rw [c08, ms_m63 hT, c0k 4 (by decide) (by decide)]
  have c10 : s1 0 = st 0 := by rw [c1k 0 (by decide), c0k 0 (by decide) (by decide)]
  have c11 : s1 1 = st 1 := by rw [c1k 1 (by decide), c0k 1 (by decide) (by decide)]
  have F3 : ∀ i, i < 40 → s1 3 (rx (T + 1) i) = g3 (33 + i) := by
    intro i hi
    have e3 : g3 (33 + i) = mf_sh g 33 40 far (33 + i) := by rw [q3, pk_un (by omega), q2, mf_sh_out (Or.inl (by omega)) (by decide), q1]
    rw [e3, c1k 3 (by decide), c03]
    exact ring_sh r9 i hi
  have hFx : ∀ (s : St) (gx : Fn), s 8 0 = nI (T + 1) → s 3 = s1 3 → (∀ j, 33 ≤ j → gx j = g3 j) → FA s gx := fun s gx h1 h2 h3 i hi => by
    rw [fa_eq h1 hT (by omega), h2, h3 _ (by omega)]; exact F3 i hi
  have c180 : s1 8 0 = nI (T + 1) := by rw [c18]; exact c08
  have d0 : st 0 4 = nI d := by rw [r3 4 (by decide)]; exact ed
  have hest : lf_est s1 = mf_est g3 := est_eq (hFx s1 g3 c180 rfl (fun _ _ => rfl)) (by rw [c10]; exact d0) (by rw [L3 4 (by decide) (by decide)]; exact ed) hd (fun j hj => by rw [c11, r4 j hj, L3 (5 + j) (by omega) (by omega)])
  have hloud : lf_loud s1 = mf_loud g5 := loud_eq (hFx s1 g5 c180 rfl H5)
  have v28 : g7 28 = lf_loud s1 := by rw [U7 28 (by decide), q6, pk_us, hloud]
  obtain ⟨tk, etk⟩ : ∃ x : Int32, x = lf_tlk s1 near := ⟨_, rfl⟩
  have htk : mf_tk near (g7 28) = tk := by rw [etk, v28]; unfold mf_tk lf_tlk; rw [pf_abz]
  have tk01 : tk = 0 ∨ tk = 1 := by
    rw [etk]; unfold lf_tlk
    split
    · exact Or.inl rfl
    · exact Or.inr rfl
  have v30 : g8 30 = tk := by rw [q8, pk_us, htk]
  have L8 : ∀ j, j < 24 → g8 j = g j := fun j h => by rw [U8 j (by omega), U7 j (by omega), U6 j (by omega), U5 j (by omega), U4 j (by omega), L3 j (by omega) (by omega)]
  obtain ⟨s2, es2⟩ : ∃ s : St, s = lf_hold s1 tk := ⟨_, rfl⟩
  have c2k : ∀ k, k ≠ 8 → s2 k = s1 k := fun k h => by rw [es2]; exact hold_k h
  have c280 : s2 8 0 = nI (T + 1) := by rw [es2, hold_j (by decide)]; exact c180
  have c282 : s2 8 2 = g 23 := by rw [es2, hold_j (by decide), c18, c082]; exact r7
  have v22 : s2 8 1 = g9 22 := by
    rw [es2, q9]
    exact hold_eq tk01 v30 (by rw [c18, c081, L8 22 (by decide)]; exact r6) (by rw [c10, L8 1 (by decide)]; exact r3 1 (by decide))
  have c20 : s2 0 = st 0 := by rw [c2k 0 (by decide), c10]
  obtain ⟨tn, etn⟩ : ∃ x : Int32, x = nI (lf_tone s2) := ⟨_, rfl⟩
  have va31 : ga 31 = tn := by rw [qa, pk_us, etn, tone_eq (hFx s2 g9 c280 (c2k 3 (by decide)) H9)]
  have L6 : ∀ j, j < 24 → g6 j = g j := fun j h => by rw [U6 j (by omega), U5 j (by omega), U4 j (by omega), L3 j (by omega) (by omega)]
  have hpw : lf_pow s2 = mf_pow g6 := pow_eq (hFx s2 g6 c280 (c2k 3 (by decide)) H6) (by rw [c20]; exact d0) (by rw [L6 4 (by decide)]; exact ed) hd
  obtain ⟨pw, epw⟩ : ∃ x : Int32, x = lf_pow s2 := ⟨_, rfl⟩
  have v29 : ga 29 = pw := by rw [Ua 29 (by decide), U9 29 (by decide), U8 29 (by decide), q7, pk_us, epw, hpw]
  have v22a : ga 22 = s2 8 1 := by rw [Ua 22 (by decide), v22]
  obtain ⟨lr, elr⟩ : ∃ x : Int32, x = lf_lr s2 tn pw := ⟨_, rfl⟩
  have hlr : mf_lr ga = lr := by rw [elr]; unfold mf_lr lf_lr; rw [v22a, va31, v29]
  obtain ⟨lft, elft⟩ : ∃ x : Int32, x = near - lf_est s1 := ⟨_, rfl⟩
  have v25 : g4 25 = lf_est s1 := by rw [q4, pk_us, hest]
  have v26 : g5 26 = lft := by rw [q5, pk_us, v25, elft]
  have w26 : gb 26 = lft := by rw [Ub 26 (by decide), Ua 26 (by decide), U9 26 (by decide), U8 26 (by decide), U7 26 (by decide), U6 26 (by decide)]; exact v26
  have w29 : gb 29 = pw := by rw [Ub 29 (by decide)]; exact v29
  have w31 : gb 31 = tn := by rw [Ub 31 (by decide)]; exact va31
  have Lb : ∀ j, j < 22 → gb j = g j := fun j h => by rw [Ub j (by omega), Ua j (by omega), U9 j (by omega), L8 j (by omega)]
  have t2 : ∀ j, j < 8 → s2 1 j = gb (5 + j) := fun j hj => by rw [c2k 1 (by decide), c11, r4 j hj, Lb (5 + j) (by omega)]
  have bF3 : ∀ i, i < 40 → nb (g3 (33 + i)) ≤ 1000 := by
    intro i hi
    rw [q3, pk_un (by omega), q2, mf_sh_out (Or.inl (by omega)) (by decide), q1, sh_at g 33 40 far hi]
    split
    · exact hf
    · rw [show 33 + i - 1 = 33 + (i - 1) by omega]; exact i7 (i - 1) (by omega)
  have bE : nb (mf_est g3) ≤ 32000 := est_nb (by rw [L3 4 (by decide) (by decide)]; exact ed) hd (fun k hk => by rw [L3 (5 + k) (by omega) (by omega)]; exact i6 k hk) bF3
  have b26 : nb (gb 26) ≤ 34000 := by
    rw [w26, elft, hest]
    unfold nb at bE hn ⊢
    rw [i_sub (by omega) (by omega)]
    omega
  obtain ⟨s3, es3⟩ : ∃ s : St, s = lf_n3 s2 lr lft pw := ⟨_, rfl⟩
  have c3k : ∀ k, k ≠ 1 → s3 k = s2 k := fun k h => by rw [es3]; exact n3_k h
  have t3 : ∀ j, j < 8 → s3 1 j = gc (5 + j) ∧ -4096 ≤ (gc (5 + j)).toInt ∧ (gc (5 + j)).toInt ≤ 4095 := by
    intro j hj
    rw [es3, qc, hlr]
    unfold lf_n3 mf_lq
    by_cases c : lr = 0
    · rw [if_pos c, if_pos c]
      exact ⟨t2 j hj, by rw [Lb (5 + j) (by omega)]; exact i6 j hj⟩
    · rw [if_neg c, if_neg c]
      have hp0 : 0 < pw := by
        have q := mf_lr_p (g := ga) (by rw [hlr]; exact c)
        rw [v29] at q
        exact q
      have hp : 0 < pw.toInt := Int32.lt_iff_toInt_lt.mp hp0
      have hsq : pw.toInt = (nsum (mf_seen g6) 8 : Int) := by
        rw [epw, hpw]
        refine sq_sum (b := 1000) 8 (fun k hk => ?_) (by decide)
        rw [mf_seen, L6 4 (by decide), ed, nI_clamp (by omega), H6 _ (by omega), Nat.add_assoc]
        exact bF3 _ (by omega)
      have hbP : ∀ k, k < 8 → nb (mf_seen gb k) * nb (mf_seen gb k) ≤ nb pw := by
        intro k hk
        have e1 : mf_seen gb k = mf_seen g6 k := by
          unfold mf_seen
          rw [Lb 4 (by decide), L6 4 (by decide), Hb _ (by omega), H6 _ (by omega)]
        rw [e1]
        have q := nsum_term (f := mf_seen g6) 8 k hk
        have e2 : nb pw = nsum (mf_seen g6) 8 := by unfold nb; rw [hsq]; omega
        rw [e2]
        exact q
      have a1 : lf_learn s2 lft pw = va_up s2 1 (lf_ln s2 lft pw 8) := if_pos hp0
      rw [a1]
      exact learn_eq (hFx s2 gb c280 (c2k 3 (by decide)) Hb) (by rw [c20]; exact d0) (by rw [Lb 4 (by decide)]; exact ed) hd (by rw [c20, Lb 0 (by decide)]; exact r3 0 (by decide)) w26 w29 hp (by rw [Lb 0 (by decide)]; exact i1) b26 (fun i hi => by rw [Hb _ (by omega)]; exact bF3 i hi) hbP t2 (fun k hk => by rw [Lb (5 + k) (by omega)]; exact i6 k hk) 8 (Nat.le_refl 8) j hj
  have c30 : s3 0 = st 0 := by rw [c3k 0 (by decide), c20]
  have x73 : gc 73 = near := by rw [Uc 73 (by decide), Hb 73 (by decide), q3, pk_un (by decide), q2]; exact pk_us
  have x23 : gc 23 = g 23 := by rw [Uc 23 (by decide), Ub 23 (by decide), Ua 23 (by decide), U9 23 (by decide), L8 23 (by decide)]
  have x3 : gc 3 = g 3 := by rw [Uc 3 (by decide), Lb 3 (by decide)]
  have o := out_eq (s := s3) (g := gc) (near := near) (tn := tn) (lft := lft) (by rw [Uc 31 (by decide)]; exact w31) (by rw [Uc 26 (by decide)]; exact w26) (by rw [c30, Uc 2 (by decide), Lb 2 (by decide)]; exact r3 2 (by decide)) (by rw [c3k 8 (by decide), x23]; exact c282) (by rw [c30, x3]; exact r3 3 (by decide)) x73
  obtain ⟨s4, es4⟩ : ∃ s : St, s = lf_n4 s3 tn lft := ⟨_, rfl⟩
  have c4k : ∀ k, k ≠ 8 → s4 k = s3 k := fun k h => by rw [es4]; exact n4_k h
  have c480 : s4 8 0 = nI (T + 1) := by rw [es4, n4_j (by decide), c3k 8 (by decide)]; exact c280
  have c481 : s4 8 1 = ga 22 := by rw [es4, n4_j (by decide), c3k 8 (by decide), v22a]
  have c482 : s4 8 2 = mf_os gc 23 := by rw [es4]; exact o.2
  obtain ⟨ou, eou⟩ : ∃ x : Int32, x = lf_o s3 near tn lft := ⟨_, rfl⟩
  have hou : ou = mf_or gc := by rw [eou]; exact o.1
  have hN : lf_near s0 near = lf_n8 (lf_n6 s4 tk tn ou) (lf_est s1) lft ou (lf_loud s1) pw tk tn lr := by
    rw [eou, es4, es3, elft, elr, epw, etn, es2, etk, es1]; rfl
  have hO : lf_out s0 near = ou := by
    rw [eou, es3, elft, elr, epw, etn, es2, etk, es1]; rfl
  -- the reference's end
  have G1 : ∀ j, j < 113 → mf_tick g far near j = gd j := fun j h => by rw [qt, mf_sh_out (Or.inl (by omega)) (by decide), qf, mf_sh_out (Or.inl (by omega)) (by decide), qe, mf_sh_out (Or.inl (by omega)) (by decide)]
  have G2 : ∀ j, j < 113 → j ≠ 27 → j ≠ 23 → (j < 5 ∨ 13 ≤ j) → mf_tick g far near j = gb j := fun j h h1 h2 h3 => by rw [G1 j h, Ud j h1 h2, Uc j h3]
  have gd27 : gd 27 = ou := by rw [qd, pk_us, hou]
  have y30 : gb 30 = tk := by rw [Ub 30 (by decide), Ua 30 (by decide), U9 30 (by decide)]; exact v30
  have ge30 : ge 30 = tk := by rw [qe, mf_sh_out (Or.inl (by decide)) (by decide), Ud 30 (by decide) (by decide), Uc 30 (by decide), y30]
  have gf31 : gf 31 = tn := by rw [qf, mf_sh_out (Or.inl (by decide)) (by decide), qe, mf_sh_out (Or.inl (by decide)) (by decide), Ud 31 (by decide) (by decide), Uc 31 (by decide), w31]
  have GO : ∀ i, i < 40 → mf_tick g far near (113 + i) = if i = 0 then ou else g (113 + i - 1) := by
    intro i hi
    rw [qt, mf_sh_out (Or.inl (by omega)) (by decide), qf, mf_sh_out (Or.inl (by omega)) (by decide), qe, sh_at gd 113 40 _ hi, gd27]
    by_cases e : i = 0
    · rw [if_pos e, if_pos e]
    · rw [if_neg e, if_neg e, Hd _ (by omega), K3 _ (by omega)]
  have GT : ∀ i, i < 201 → mf_tick g far near (153 + i) = if i = 0 then tk else g (153 + i - 1) := by
    intro i hi
    rw [qt, mf_sh_out (Or.inl (by omega)) (by decide), qf, sh_at ge 153 201 _ hi, ge30]
    by_cases e : i = 0
    · rw [if_pos e, if_pos e]
    · rw [if_neg e, if_neg e, qe, mf_sh_out (Or.inr (by omega)) (by decide), Hd _ (by omega), K3 _ (by omega)]
  have GZ : ∀ i, i < 201 → mf_tick g far near (354 + i) = if i = 0 then mf_bt tn else g (354 + i - 1) := by
    intro i hi
    rw [qt, sh_at gf 354 201 _ hi, gf31]
    by_cases e : i = 0
    · rw [if_pos e, if_pos e]
    · rw [if_neg e, if_neg e, qf, mf_sh_out (Or.inr (by omega)) (by decide), qe, mf_sh_out (Or.inr (by omega)) (by decide), Hd _ (by omega), K3 _ (by omega)]
  have GN : ∀ i, i < 40 → mf_tick g far near (73 + i) = if i = 0 then near else g (73 + i - 1) := by
    intro i hi
    rw [G2 _ (by omega) (by omega) (by omega) (by omega), Hb _ (by omega), q3, pk_un (by omega), q2, sh_at g1 73 40 near hi]
    by_cases e : i = 0
    · rw [if_pos e, if_pos e]
    · rw [if_neg e, if_neg e, q1, mf_sh_out (Or.inr (by omega)) (by decide)]
  have b01 : lf_b1 tk = tk := by rcases tk01 with h | h <;> rw [h] <;> rfl
  have hmk : lf_b1 tk ||| lf_b2 tn = mk2 tk (mf_bt tn) := by
    unfold mk2 lf_b2 mf_bt
    by_cases c : tn ≤ 0
    · rw [if_pos c, if_pos c, if_pos rfl]
    · rw [if_neg c, if_neg c, if_neg (by decide)]
  rw [← es0]
  refine ⟨?_, ?_, ?_⟩
  · rw [hN]
    refine ⟨?_, ?_, ?_, ?_, ?_, ?_, ?_, ?_, ?_, ?_, ?_, ?_⟩
    · rw [n8_k (by decide), n6_k (by decide) (by decide)]; exact c480
    · rw [G2 24 (by decide) (by decide) (by decide) (by decide), Ub 24 (by decide), Ua 24 (by decide), U9 24 (by decide), U8 24 (by decide), U7 24 (by decide), U6 24 (by decide), U5 24 (by decide), U4 24 (by decide), q3, pk_us, q2, mf_sh_out (Or.inl (by decide)) (by decide), q1, mf_sh_out (Or.inl (by decide)) (by decide), r2]
      exact nI_1 T
    · intro j hj
      rw [n8_k (by decide), n6_k (by decide) (by decide), c4k 0 (by decide), c30, G2 j (by omega) (by omega) (by omega) (by omega), Lb j (by omega)]
      exact r3 j hj
    · intro j hj
      rw [n8_k (by decide), n6_k (by decide) (by decide), c4k 1 (by decide), (t3 j hj).1, G1 (5 + j) (by omega), Ud (5 + j) (by omega) (by omega)]
    · intro j hj
      rw [n8_k (by decide), n6_k (by decide) (by decide), c4k 2 (by decide), c3k 2 (by decide), c2k 2 (by decide), c1k 2 (by decide), c0k 2 (by decide) (by decide), G2 (13 + j) (by omega) (by omega) (by omega) (by omega), Lb (13 + j) (by omega)]
      exact r5 j hj
    · rw [n8_k (by decide), n6_k (by decide) (by decide), c481, G2 22 (by decide) (by decide) (by decide) (by decide), Ub 22 (by decide)]
    · rw [n8_k (by decide), n6_k (by decide) (by decide), c482, G1 23 (by decide), qd, pk_un (by decide)]
    · intro j hj
      obtain ⟨a0, a1, a2, a3, a4, a5, a6, a7⟩ := n8_7 (s6 := lf_n6 s4 tk tn ou) (a := lf_est s1) (b := lft) (c := ou) (d := lf_loud s1) (e := pw) (f := tk) (g := tn) (h := lr)
      match j, hj with
      | 0, _ => rw [a0, G2 25 (by decide) (by decide) (by decide) (by decide), Ub 25 (by decide), Ua 25 (by decide), U9 25 (by decide), U8 25 (by decide), U7 25 (by decide), U6 25 (by decide), U5 25 (by decide)]; exact v25.symm
      | 1, _ => rw [a1, G2 26 (by decide) (by decide) (by decide) (by decide)]; exact w26.symm
      | 2, _ => rw [a2, G1 27 (by decide)]; exact gd27.symm
      | 3, _ => rw [a3, G2 28 (by decide) (by decide) (by decide) (by decide), Ub 28 (by decide), Ua 28 (by decide), U9 28 (by decide), U8 28 (by decide)]; exact v28.symm
      | 4, _ => rw [a4, G2 29 (by decide) (by decide) (by decide) (by decide)]; exact w29.symm
      | 5, _ => rw [a5, G2 30 (by decide) (by decide) (by decide) (by decide), b01]; exact y30.symm
      | 6, _ => rw [a6, G2 31 (by decide) (by decide) (by decide) (by decide)]; exact w31.symm
      | 7, _ => rw [a7, G2 32 (by decide) (by decide) (by decide) (by decide), qb, pk_us, hlr]
      | j + 8, hj => omega
    · intro i hi
      rw [n8_k (by decide), n6_k (by decide) (by decide), c4k 3 (by decide), c3k 3 (by decide), c2k 3 (by decide), G2 (33 + i) (by omega) (by omega) (by omega) (by omega), Hb _ (by omega)]
      exact F3 i hi
    · intro i hi
      rw [n8_k (by decide), n6_k (by decide) (by decide), c4k 4 (by decide), c3k 4 (by decide), c2k 4 (by decide), c14, ring_sh r10 i hi, sh_at g 73 40 near hi, GN i hi]
    · intro i hi
      rw [n8_k (by decide), n6_5, c480, ms_m63 hT, c4k 5 (by decide), c3k 5 (by decide), c2k 5 (by decide), c1k 5 (by decide), c0k 5 (by decide) (by decide), ring_sh r11 i hi, sh_at g 113 40 ou hi, GO i hi]
    · intro i hi
      rw [n8_k (by decide), n6_6, c480, ms_m255 hT, c4k 6 (by decide), c3k 6 (by decide), c2k 6 (by decide), c1k 6 (by decide), c0k 6 (by decide) (by decide), GT i hi, GZ i hi]
      by_cases e : i = 0
      · subst e
        rw [pk_us, if_pos rfl, if_pos rfl]; exact hmk
      · have q := ry_succ (T := T) (i := i) (by omega) (by omega)
        rw [pk_un q.2, q.1, if_neg e, if_neg e, r12 (i - 1) (by omega), show 153 + i - 1 = 153 + (i - 1) by omega, show 354 + i - 1 = 354 + (i - 1) by omega]
  · refine ⟨?_, ?_, ?_, ?_, ?_, ?_, ?_, ?_, ?_, ?_⟩
    · rw [mf_tick_out g far near (by decide)]; exact i1
    · exact ⟨hh, ih1, by rw [mf_tick_out g far near (by decide)]; exact ih2⟩
    · exact ⟨d, hd, by rw [mf_tick_out g far near (by decide)]; exact ed⟩
    · exact ⟨lg, hlg, by rw [mf_tick_out g far near (by decide)]; exact elg⟩
    · rw [G1 23 (by decide), qd, pk_un (by decide)]
      rcases os_23 gc with h | h
      · exact ⟨z, hz, by rw [h, x23]; exact ez⟩
      · exact ⟨_, nx_le (z := z), by rw [h, x23, ez, nx_nI hz]⟩
    · intro k hk
      rw [G1 (5 + k) (by omega), Ud (5 + k) (by omega) (by omega)]
      exact (t3 k hk).2
    · intro i hi
      rw [G2 (33 + i) (by omega) (by omega) (by omega) (by omega), Hb _ (by omega)]
      exact bF3 i hi
    · intro i hi
      rw [GN i hi]
      split
      · exact hn
      · rw [show 73 + i - 1 = 73 + (i - 1) by omega]; exact i8 (i - 1) (by omega)
    · intro i hi
      rw [GO i hi]
      split
      · rw [hou]
        exact or_nb hz (by rw [x23]; exact ez) ih1 (by rw [x3]; exact ih2) (by rw [x73]; exact hn)
      · rw [show 113 + i - 1 = 113 + (i - 1) by omega]; exact i9 (i - 1) (by omega)
    · intro i hi
      rw [GT i hi, GZ i hi]
      by_cases e : i = 0
      · rw [if_pos e, if_pos e]
        refine ⟨tk01, ?_⟩
        unfold mf_bt
        split
        · exact Or.inl rfl
        · exact Or.inr rfl
      · rw [if_neg e, if_neg e, show 153 + i - 1 = 153 + (i - 1) by omega, show 354 + i - 1 = 354 + (i - 1) by omega]
        exact i10 (i - 1) (by omega)
  · rw [hO, G1 27 (by decide)]
    exact gd27.symm
