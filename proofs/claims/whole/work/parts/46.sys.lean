/-! call by call: both answer alike, and say the same behind it -/
theorem Rep.cg {st : St} {g g' : Fn} {T : Nat} (e : ∀ j, j < 555 → g j = g' j) (h : Rep st g T) : Rep st g' T := by
  obtain ⟨r1, r2, r3, r4, r5, r6, r7, r8, r9, r10, r11, r12⟩ := h
  exact ⟨r1, by rw [← e 24 (by decide)]; exact r2, fun j hj => by rw [← e j (by omega)]; exact r3 j hj, fun j hj => by rw [← e _ (by omega)]; exact r4 j hj, fun j hj => by rw [← e _ (by omega)]; exact r5 j hj, by rw [← e 22 (by decide)]; exact r6, by rw [← e 23 (by decide)]; exact r7, fun j hj => by rw [← e _ (by omega)]; exact r8 j hj, fun j hj => by rw [← e _ (by omega)]; exact r9 j hj, fun j hj => by rw [← e _ (by omega)]; exact r10 j hj, fun j hj => by rw [← e _ (by omega)]; exact r11 j hj, fun j hj => by rw [← e (153 + j) (by omega), ← e (354 + j) (by omega)]; exact r12 j hj⟩
theorem Inv.cg {g g' : Fn} (e : ∀ j, j < 555 → g j = g' j) (h : Inv g) : Inv g' := by
  obtain ⟨i1, i2, i3, i4, i5, i6, i7, i8, i9, i10⟩ := h
  exact ⟨by rw [← e 0 (by decide)]; exact i1, by rw [← e 3 (by decide)]; exact i2, i3.of (e 4 (by decide)).symm, i4.of (e 21 (by decide)).symm, by rw [← e 23 (by decide)]; exact i5, fun j hj => by rw [← e _ (by omega)]; exact i6 j hj, fun j hj => by rw [← e _ (by omega)]; exact i7 j hj, fun j hj => by rw [← e _ (by omega)]; exact i8 j hj, fun j hj => by rw [← e _ (by omega)]; exact i9 j hj, fun j hj => by rw [← e (153 + j) (by omega), ← e (354 + j) (by omega)]; exact i10 j hj⟩
def xf_rule (st : St) (k v : Int32) : Int32 := if pf_in k 0 4 = 0 ∨ pf_in v 0 (pf_most k) = 0 then -2 else st 0 k.toNatClampNeg
def xs_rule (st : St) (k v : Int32) : St := if pf_in k 0 4 = 0 ∨ pf_in v 0 (pf_most k) = 0 then st else va_up st 0 (upd (st 0) k.toNatClampNeg v)
theorem most_nI : ∀ j, j ≤ 4 → pf_most (nI j) = nI (match j with | 0 => 1024 | 1 => 20 | 2 => 500 | 3 => 50 | _ => 15) := by decide
theorem rule_ok {st : St} {g : Fn} {T : Nat} (hR : Rep st g T) (hI : Inv g) (k v : Int32) : xf_rule st k v = yf_rule g k v ∧ Rep (xs_rule st k v) (ys_rule g k v) T ∧ Inv (ys_rule g k v) := by
  unfold xf_rule yf_rule xs_rule ys_rule
  by_cases c : pf_in k 0 4 = 0 ∨ pf_in v 0 (pf_most k) = 0
  · rw [if_pos c, if_pos c, if_pos c, if_pos c]; exact ⟨rfl, hR, hI⟩
  · rw [if_neg c, if_neg c, if_neg c, if_neg c]
    obtain ⟨j, hj, rfl⟩ := in_nI (b := 4) (by decide) (fun q => c (Or.inl q))
    have c2 : ¬ pf_in v 0 (pf_most (nI j)) = 0 := fun q => c (Or.inr q)
    rw [nI_clamp (by omega)]
    rw [most_nI j hj] at c2
    obtain ⟨r1, r2, r3, r4, r5, r6, r7, r8, r9, r10, r11, r12⟩ := hR
    obtain ⟨i1, i2, i3, i4, i5, i6, i7, i8, i9, i10⟩ := hI
    have m : ∀ q, 5 ≤ q → upd g j v q = g q := fun q h => pk_un (by omega)
    refine ⟨r3 j (by omega), ⟨r1, by rw [m 24 (by decide)]; exact r2, fun q hq => ?_, fun q hq => by rw [m _ (by omega)]; exact r4 q hq, fun q hq => by rw [m _ (by omega)]; exact r5 q hq, by rw [m 22 (by decide)]; exact r6, by rw [m 23 (by decide)]; exact r7, fun q hq => by rw [m _ (by omega)]; exact r8 q hq, fun q hq => by rw [m _ (by omega)]; exact r9 q hq, fun q hq => by rw [m _ (by omega)]; exact r10 q hq, fun q hq => by rw [m _ (by omega)]; exact r11 q hq, fun q hq => by rw [m (153 + q) (by omega), m (354 + q) (by omega)]; exact r12 q hq⟩, ?_⟩
    · show upd (st 0) j v q = upd g j v q
      by_cases e : q = j
      · subst e; rw [pk_us, pk_us]
      · rw [pk_un e, pk_un e]; exact r3 q hq
    · refine ⟨?_, ?_, ?_, i4.of (m 21 (by decide)), by rw [m 23 (by decide)]; exact i5, fun q hq => by rw [m _ (by omega)]; exact i6 q hq, fun q hq => by rw [m _ (by omega)]; exact i7 q hq, fun q hq => by rw [m _ (by omega)]; exact i8 q hq, fun q hq => by rw [m _ (by omega)]; exact i9 q hq, fun q hq => by rw [m (153 + q) (by omega), m (354 + q) (by omega)]; exact i10 q hq⟩
      · by_cases e : j = 0
        · subst e
          obtain ⟨x, hx, ex⟩ := in_nI (b := 1024) (by decide) c2
          rw [pk_us, ex]; unfold nb; rw [nI_toInt (by omega)]; omega
        · rw [pk_un (by omega)]; exact i1
      · by_cases e : j = 3
        · subst e
          obtain ⟨x, hx, ex⟩ := in_nI (b := 50) (by decide) c2
          exact ⟨x, hx, by rw [pk_us]; exact ex⟩
        · rw [pk_un (by omega)]; exact i2
      · by_cases e : j = 4
        · subst e
          obtain ⟨x, hx, ex⟩ := in_nI (b := 15) (by decide) c2
          exact ⟨x, hx, by rw [pk_us]; exact ex⟩
        · exact i3.of (pk_un (by omega))
theorem tick_c {st : St} {g : Fn} {T : Nat} (hR : Rep st g T) (hI : Inv g) (hT : T + 1 < 2 ^ 30) (far near : Int32) : xf_tick st far near = yf_tick g far near ∧ ∃ T', T' ≤ T + 60 ∧ Rep (xs_tick st far near) (ys_tick g far near) T' ∧ Inv (ys_tick g far near) := by
  unfold xf_tick yf_tick xs_tick ys_tick
  by_cases c : pf_in far (-1000) 1000 = 0 ∨ pf_in near (-2000) 2000 = 0
  · rw [if_pos c, if_pos c, if_pos c, if_pos c]; exact ⟨rfl, T, by omega, hR, hI⟩
  · rw [if_neg c, if_neg c, if_neg c, if_neg c]
    have h := tick_ok hR hI hT (nb_in (n := 1000) rfl rfl (fun q => c (Or.inl q))) (nb_in (n := 2000) rfl rfl (fun q => c (Or.inr q)))
    exact ⟨h.2.2, T + 1, by omega, h.1, h.2.1⟩
theorem speak_c {st : St} {g : Fn} {T : Nat} (hR : Rep st g T) (hI : Inv g) (hT : T + 1 < 2 ^ 30) (far v : Int32) : xf_speak st far v = yf_speak g far v ∧ ∃ T', T' ≤ T + 60 ∧ Rep (xs_speak st far v) (ys_speak g far v) T' ∧ Inv (ys_speak g far v) := by
  unfold xf_speak yf_speak xs_speak ys_speak
  by_cases c : pf_in far (-1000) 1000 = 0 ∨ pf_in v (-2000) 2000 = 0
  · rw [if_pos c, if_pos c, if_pos c, if_pos c]; exact ⟨rfl, T, by omega, hR, hI⟩
  · rw [if_neg c, if_neg c, if_neg c, if_neg c]
    have h := speak_ok (v := v) hR hI hT (nb_in (n := 1000) rfl rfl (fun q => c (Or.inl q)))
    exact ⟨h.2.2.1, T + 1, by omega, h.1, h.2.1⟩
theorem tap_c {st : St} {g : Fn} {T : Nat} (hR : Rep st g T) (k : Int32) : xf_tap st k = yf_tap g k := by
  unfold xf_tap yf_tap
  by_cases c : pf_in k 0 7 = 0
  · rw [if_pos c, if_pos c]
  · rw [if_neg c, if_neg c]
    obtain ⟨j, hj, rfl⟩ := in_nI (b := 7) (by decide) c
    rw [nI_clamp (by omega)]
    exact hR.2.2.2.1 j (by omega)
theorem last_c {st : St} {g : Fn} {T : Nat} (hR : Rep st g T) (k : Int32) : xf_last st k = yf_last g k := by
  unfold xf_last yf_last
  by_cases c : pf_in k 0 7 = 0
  · rw [if_pos c, if_pos c]
  · rw [if_neg c, if_neg c, hR.1, hR.2.1]
    obtain ⟨j, hj, rfl⟩ := in_nI (b := 7) (by decide) c
    rw [nI_clamp (by omega), hR.2.2.2.2.2.2.2.1 j (by omega)]
theorem ago_c {st : St} {g : Fn} {T : Nat} (hR : Rep st g T) (hT : T < 2 ^ 30) (i k : Int32) : xf_ago st i k = yf_ago g i k := by
  unfold xf_ago yf_ago
  by_cases c : pf_in i 0 31 = 0 ∨ pf_in k 0 2 = 0
  · rw [if_pos c, if_pos c]
  · rw [if_neg c, if_neg c, hR.1, hR.2.1]
    obtain ⟨j, hj, rfl⟩ := in_nI (b := 31) (by decide) (fun q => c (Or.inl q))
    obtain ⟨q, hq, rfl⟩ := in_nI (b := 2) (by decide) (fun q => c (Or.inr q))
    rw [nI_clamp (by omega), nI_clamp (by omega), hR.fa hT j (by omega), hR.na hT j (by omega), hR.oa hT j (by omega)]
    by_cases d : nI j < nI T
    · rw [if_pos d, if_pos d]
      match q, hq with
      | 0, _ => rw [if_pos nI_0, Nat.mul_zero, Nat.add_zero]
      | 1, _ => rw [if_neg (show ¬ nI 1 = 0 by decide), if_pos (show nI 1 = 1 by decide)]
      | 2, _ => rw [if_neg (show ¬ nI 2 = 0 by decide), if_neg (show ¬ nI 2 = 1 by decide)]
      | q + 3, hq => omega
    · rw [if_neg d, if_neg d]
theorem part_c {st : St} {g : Fn} {T : Nat} (hR : Rep st g T) (hI : Inv g) (k v : Int32) : xf_part st k v = yf_part g k v ∧ Rep (xs_part st k v) (ys_part g k v) T ∧ Inv (ys_part g k v) := by
  unfold xf_part yf_part xs_part ys_part
  by_cases c : pf_in k 0 8 = 0 ∨ xo_part k v = 0
  · rw [if_pos c, if_pos c, if_pos c, if_pos c]; exact ⟨rfl, hR, hI⟩
  · rw [if_neg c, if_neg c, if_neg c, if_neg c]
    obtain ⟨j, hj, rfl⟩ := in_nI (b := 8) (by decide) (fun q => c (Or.inl q))
    have c2 : ¬ xo_part (nI j) v = 0 := fun q => c (Or.inr q)
    rw [nI_clamp (by omega)]
    obtain ⟨r1, r2, r3, r4, r5, r6, r7, r8, r9, r10, r11, r12⟩ := hR
    obtain ⟨i1, i2, i3, i4, i5, i6, i7, i8, i9, i10⟩ := hI
    have m : ∀ q, (q < 13 ∨ 22 ≤ q) → upd g (13 + j) v q = g q := fun q h => pk_un (by omega)
    refine ⟨r5 j (by omega), ⟨r1, by rw [m 24 (by decide)]; exact r2, fun q hq => by rw [m q (by omega)]; exact r3 q hq, fun q hq => by rw [m _ (by omega)]; exact r4 q hq, fun q hq => ?_, by rw [m 22 (by decide)]; exact r6, by rw [m 23 (by decide)]; exact r7, fun q hq => by rw [m _ (by omega)]; exact r8 q hq, fun q hq => by rw [m _ (by omega)]; exact r9 q hq, fun q hq => by rw [m _ (by omega)]; exact r10 q hq, fun q hq => by rw [m _ (by omega)]; exact r11 q hq, fun q hq => by rw [m (153 + q) (by omega), m (354 + q) (by omega)]; exact r12 q hq⟩, ?_⟩
    · show upd (st 2) j v q = upd g (13 + j) v (13 + q)
      by_cases e : q = j
      · subst e; rw [pk_us, pk_us]
      · rw [pk_un e, pk_un (by omega)]; exact r5 q hq
    · refine ⟨by rw [m 0 (by decide)]; exact i1, by rw [m 3 (by decide)]; exact i2, i3.of (m 4 (by decide)), ?_, by rw [m 23 (by decide)]; exact i5, fun q hq => by rw [m _ (by omega)]; exact i6 q hq, fun q hq => by rw [m _ (by omega)]; exact i7 q hq, fun q hq => by rw [m _ (by omega)]; exact i8 q hq, fun q hq => by rw [m _ (by omega)]; exact i9 q hq, fun q hq => by rw [m (153 + q) (by omega), m (354 + q) (by omega)]; exact i10 q hq⟩
      by_cases e : j = 8
      · subst e
        rw [show xo_part (nI 8) v = pf_in v 0 15 from if_pos (show nI 8 = 8 by decide)] at c2
        obtain ⟨x, hx, ex⟩ := in_nI (b := 15) (by decide) c2
        exact ⟨x, hx, by rw [show (21 : Nat) = 13 + 8 from rfl, pk_us]; exact ex⟩
      · exact i4.of (pk_un (by omega))
theorem like_c {st : St} {g : Fn} {T : Nat} (hR : Rep st g T) (hT : T < 2 ^ 30) (d : Int32) : xf_like st d = yf_like g d := by
  unfold xf_like yf_like
  by_cases c : pf_in d 0 15 = 0
  · rw [if_pos c, if_pos c]
  · rw [if_neg c, if_neg c]
    obtain ⟨j, hj, rfl⟩ := in_nI (b := 15) (by decide) c
    rw [nI_clamp (by omega)]
    exact like_eq (hR.fa hT) (hR.na hT) hj
theorem run_c {st : St} {g : Fn} {T : Nat} (hR : Rep st g T) (hI : Inv g) (hT : T + 60 < 2 ^ 30) (z n loud : Int32) : xf_run st z n loud = yf_run g z n loud ∧ ∃ T', T' ≤ T + 60 ∧ Rep (xs_run st z n loud) (ys_run g z n loud) T' ∧ Inv (ys_run g z n loud) := by
  unfold xf_run yf_run xs_run ys_run
  have q := sr_iff z loud
  by_cases c : pf_in z 0 65536 = 0 ∨ pf_in n 1 60 = 0 ∨ pf_in loud 0 1000 = 0
  · have c1 : pf_sr z loud = 0 ∨ pf_in n 1 60 = 0 := by
      rcases c with h | h | h
      · exact Or.inl (q.mpr (Or.inl h))
      · exact Or.inr h
      · exact Or.inl (q.mpr (Or.inr h))
    rw [if_pos c, if_pos c, if_pos c1, if_pos c1]; exact ⟨rfl, T, by omega, hR, hI⟩
  · have c1 : ¬ (pf_sr z loud = 0 ∨ pf_in n 1 60 = 0) := by
      rintro (h | h)
      · rcases q.mp h with h | h
        · exact c (Or.inl h)
        · exact c (Or.inr (Or.inr h))
      · exact c (Or.inr (Or.inl h))
    rw [if_neg c, if_neg c, if_neg c1, if_neg c1]
    obtain ⟨zz, hz, rfl⟩ := in_nI (b := 65536) (by decide) (fun h => c (Or.inl h))
    obtain ⟨N, hN, rfl⟩ := in_nI60 (fun h => c (Or.inr (Or.inl h)))
    obtain ⟨t, ht, rfl⟩ := in_nI (b := 1000) (by decide) (fun h => c (Or.inr (Or.inr h)))
    rw [nI_clamp (by omega)]
    have h := run_ok ht N zz st g T 0 hz hR hI (by omega)
    exact ⟨h.1, T + N, by omega, h.2.1, h.2.2⟩
theorem learnt_c {st : St} {g : Fn} {T : Nat} (hR : Rep st g T) (hI : Inv g) (hT : T + 200 < 2 ^ 30) (z loud limit : Int32) : xf_learnt st z loud limit = yf_learnt g z loud limit := by
  unfold xf_learnt yf_learnt
  have q := sr_iff z loud
  by_cases c : pf_in z 0 65536 = 0 ∨ pf_in loud 0 1000 = 0 ∨ pf_in limit 0 999 = 0
  · have c1 : pf_sr z loud = 0 ∨ pf_in limit 0 999 = 0 := by
      rcases c with h | h | h
      · exact Or.inl (q.mpr (Or.inl h))
      · exact Or.inl (q.mpr (Or.inr h))
      · exact Or.inr h
    rw [if_pos c, if_pos c1]
  · have c1 : ¬ (pf_sr z loud = 0 ∨ pf_in limit 0 999 = 0) := by
      rintro (h | h)
      · rcases q.mp h with h | h
        · exact c (Or.inl h)
        · exact c (Or.inr (Or.inl h))
      · exact c (Or.inr (Or.inr h))
    rw [if_neg c, if_neg c1]
    obtain ⟨zz, hz, rfl⟩ := in_nI (b := 65536) (by decide) (fun h => c (Or.inl h))
    obtain ⟨t, ht, rfl⟩ := in_nI (b := 1000) (by decide) (fun h => c (Or.inr (Or.inl h)))
    exact learnt_ok ht 200 0 zz st g T 0 (by decide) hz hR hI (by omega)
theorem began_c {st : St} {g : Fn} {T : Nat} (hR : Rep st g T) (hI : Inv g) (hT : T < 2 ^ 30) (i k : Int32) : xf_began st i k = yf_began g T i k := by
  unfold xf_began yf_began
  by_cases c : pf_in k 0 1 = 0
  · rw [if_pos c, if_pos c]
  · rw [if_neg c, if_neg c]
    by_cases d : k = 0
    · rw [if_pos d, if_pos d]
      exact began_eq hR hI hT (Or.inl ⟨rfl, rfl⟩) 200 (Nat.le_refl 200) 0
    · rw [if_neg d, if_neg d]
      exact began_eq hR hI hT (Or.inr ⟨rfl, rfl⟩) 200 (Nat.le_refl 200) 0
theorem count_c {st : St} {g : Fn} {T : Nat} {kp : Int32} {kpm : Fn} (hR : Rep st g T) (hk : kp = yk2 (kpm 0) 1 + yk2 (kpm 1) 2) (k : Int32) : xf_count st kp k = yf_count g kpm k := by
  obtain ⟨r1, r2, r3, r4, r5, r6, r7, r8, r9, r10, r11, r12⟩ := hR
  have e3 : lf_tsz st = mf_tsz g := by
    unfold lf_tsz mf_tsz
    refine ls_cg 8 (fun j hj => ?_)
    show pf_ab (st 1 (nI j).toNatClampNeg) = pf_sz (g (5 + j))
    rw [nI_clamp (by omega), r4 j hj, pf_abz]
  unfold xf_count yf_count
  rw [r1, r2, r6, r7, e3, r5 8 (by decide), hk]
  by_cases c : pf_in k 10 14 = 0
  · rw [if_neg (not_not_intro c), if_neg (not_not_intro c)]
  · rw [if_pos c, if_pos c]
    obtain ⟨j, hj, e⟩ := vp_in_of (in_cnt c) (by decide)
    rw [e, nI_clamp (by omega)]
    exact r3 j hj
