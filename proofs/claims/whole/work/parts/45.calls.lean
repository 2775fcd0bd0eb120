/-! seek, gain, began -/
theorem like_nb {g : Fn} (hI : Inv g) {d : Nat} (hd : d ≤ 15) : nb (mf_like g d) ≤ 48000000 := by
  obtain ⟨-, -, -, -, -, -, i7, i8, -, -⟩ := hI
  unfold mf_like
  refine Nat.le_trans (nb_sum (b := 2000000) 24 (fun k hk => ?_) (by decide)) (by decide)
  show nb (g (73 + k) * g (33 + k + d)) ≤ 2000000
  rw [Nat.add_assoc 33 k d]
  exact (i_mul (i8 k (by omega)) (i7 (k + d) (by omega)) (by decide)).2
theorem sz0 {x : Int32} (h : nb x ≤ 48000000) : (0 ≤ pf_sz x) ∧ (pf_sz x = 0 ↔ x = 0) := by
  have e := nb_sz x (by omega)
  have e0 : (0 : Int32).toInt = 0 := rfl
  refine ⟨Int32.le_iff_toInt_le.mpr (by omega), fun q => ?_, fun q => by rw [q]; rfl⟩
  have q1 : (pf_sz x).toInt = 0 := by rw [q]; rfl
  rw [q1] at e
  unfold nb at e
  exact Int32.toInt_inj.mp (by omega)
theorem seek_eq {st : St} {g : Fn} {T : Nat} (hR : Rep st g T) (hI : Inv g) (hT : T < 2 ^ 30) : ∀ k, k ≤ 15 → sk_m st (k + 1) = pf_sz (mf_like g (mk_b g k)) ∧ sk_b st (k + 1) = nI (mk_b g k) := by
  have hl : ∀ d, d ≤ 15 → pf_ab (lf_like st (nI d)) = pf_sz (mf_like g d) := fun d hd => by rw [like_eq (hR.fa hT) (hR.na hT) hd, pf_abz]
  intro k
  induction k with
  | zero =>
    intro _
    have z := sz0 (like_nb hI (show 0 ≤ 15 by decide))
    show (if pf_ab (lf_like st (nI 0)) ≤ 0 then 0 else pf_ab (lf_like st (nI 0))) = pf_sz (mf_like g 0) ∧ (if pf_ab (lf_like st (nI 0)) ≤ 0 then 0 else nI 0) = nI 0
    rw [hl 0 (by decide)]
    by_cases c : pf_sz (mf_like g 0) ≤ 0
    · rw [if_pos c, if_pos c]
      exact ⟨Int32.le_antisymm z.1 c, rfl⟩
    · rw [if_neg c, if_neg c]
      exact ⟨rfl, rfl⟩
  | succ k ih =>
    intro hk
    obtain ⟨a1, a2⟩ := ih (by omega)
    rw [sk_m, sk_b, mk_b, a1, a2, hl (k + 1) hk]
    by_cases c : pf_sz (mf_like g (k + 1)) ≤ pf_sz (mf_like g (mk_b g k))
    · rw [if_pos c, if_pos c, if_pos c]
      exact ⟨rfl, rfl⟩
    · rw [if_neg c, if_neg c, if_neg c]
      exact ⟨rfl, rfl⟩
theorem zr_l (f : Fn) : ∀ k, k ≤ 8 → ∀ j, lf_zr f k j = if j < k then 0 else f j := by
  intro k
  induction k with
  | zero => intro _ j; rw [if_neg (by omega)]; rfl
  | succ k ih =>
    intro hk j
    rw [lf_zr, nI_clamp (by omega)]
    by_cases e : j = k
    · subst e; rw [pk_us, if_pos (by omega)]
    · rw [pk_un e, ih (by omega) j]
      by_cases c : j < k
      · rw [if_pos c, if_pos (by omega)]
      · rw [if_neg c, if_neg (by omega)]
theorem zr_m (f : Fn) : ∀ k, ∀ j, mf_zr f k j = if 5 ≤ j ∧ j < 5 + k then 0 else f j := by
  intro k
  induction k with
  | zero => intro j; rw [if_neg (by omega)]; rfl
  | succ k ih =>
    intro j
    rw [mf_zr]
    by_cases e : j = 5 + k
    · subst e; rw [pk_us, if_pos (by omega)]
    · rw [pk_un e, ih j]
      by_cases c : 5 ≤ j ∧ j < 5 + k
      · rw [if_pos c, if_pos (by omega)]
      · rw [if_neg c, if_neg (by omega)]
theorem seek_ok {st : St} {g : Fn} {T : Nat} (hR : Rep st g T) (hI : Inv g) (hT : T < 2 ^ 30) : xf_seek st = yf_seek g ∧ Rep (xs_seek st) (ys_seek g) T ∧ Inv (ys_seek g) := by
  obtain ⟨e1, e2⟩ := seek_eq hR hI hT 15 (Nat.le_refl 15)
  have hb := mk_b_le g 15
  have z := sz0 (like_nb hI hb)
  unfold xf_seek yf_seek xs_seek ys_seek
  rw [e1, e2]
  by_cases c : mf_like g (mk_b g 15) = 0
  · have c2 := z.2.mpr c
    rw [if_pos c2, if_pos c2, if_pos c, if_pos c]
    exact ⟨rfl, hR, hI⟩
  · have c2 : ¬ pf_sz (mf_like g (mk_b g 15)) = 0 := fun q => c (z.2.mp q)
    rw [if_neg c2, if_neg c2, if_neg c, if_neg c]
    generalize mk_b g 15 = b at *
    obtain ⟨r1, r2, r3, r4, r5, r6, r7, r8, r9, r10, r11, r12⟩ := hR
    obtain ⟨i1, i2, i3, i4, i5, i6, i7, i8, i9, i10⟩ := hI
    have m : ∀ j, (j < 4 ∨ 13 ≤ j) → mf_zr (upd g 4 (nI b)) 8 j = g j := fun j h => by rw [zr_m, if_neg (by omega), pk_un (by omega)]
    have m4 : mf_zr (upd g 4 (nI b)) 8 4 = nI b := by rw [zr_m, if_neg (by omega), pk_us]
    have mt : ∀ j, j < 8 → mf_zr (upd g 4 (nI b)) 8 (5 + j) = 0 := fun j h => by rw [zr_m, if_pos (by omega)]
    refine ⟨rfl, ⟨?_, ?_, ?_, ?_, ?_, ?_, ?_, ?_, ?_, ?_, ?_, ?_⟩, ⟨?_, ?_, ?_, ?_, ?_, ?_, ?_, ?_, ?_, ?_⟩⟩
    · exact r1
    · rw [m 24 (by omega)]; exact r2
    · intro j hj
      show upd (st 0) 4 (nI b) j = _
      by_cases e : j = 4
      · subst e; rw [pk_us, m4]
      · rw [pk_un e, m j (by omega)]; exact r3 j hj
    · intro j hj
      show lf_zr (st 1) 8 j = _
      rw [zr_l _ 8 (Nat.le_refl 8), if_pos hj, mt j hj]
    · intro j hj; rw [m (13 + j) (by omega)]; exact r5 j hj
    · rw [m 22 (by omega)]; exact r6
    · rw [m 23 (by omega)]; exact r7
    · intro j hj; rw [m (25 + j) (by omega)]; exact r8 j hj
    · intro i hi; rw [m (33 + i) (by omega)]; exact r9 i hi
    · intro i hi; rw [m (73 + i) (by omega)]; exact r10 i hi
    · intro i hi; rw [m (113 + i) (by omega)]; exact r11 i hi
    · intro i hi; rw [m (153 + i) (by omega), m (354 + i) (by omega)]; exact r12 i hi
    · rw [m 0 (by omega)]; exact i1
    · rw [m 3 (by omega)]; exact i2
    · exact ⟨b, hb, m4⟩
    · obtain ⟨x, hx, ex⟩ := i4
      exact ⟨x, hx, by rw [m 21 (by omega)]; exact ex⟩
    · rw [m 23 (by omega)]; exact i5
    · intro k hk; rw [mt k hk]; exact ⟨by decide, by decide⟩
    · intro i hi; rw [m (33 + i) (by omega)]; exact i7 i hi
    · intro i hi; rw [m (73 + i) (by omega)]; exact i8 i hi
    · intro i hi; rw [m (113 + i) (by omega)]; exact i9 i hi
    · intro i hi; rw [m (153 + i) (by omega), m (354 + i) (by omega)]; exact i10 i hi
theorem sq_nI {g : Fn} {r : Nat} (h : ∀ i, i < 40 → nb (g (r + i)) ≤ 2000) : ∃ u : Nat, u < 2 ^ 27 ∧ mf_sq g r = nI u := by
  have h1 := sq_sum (f := fun i => g (r + i)) (b := 2000) 32 (fun k hk => h k (by omega)) (by decide)
  have h2 := nsum_le (f := fun i => g (r + i)) (b := 2000) 32 (fun k hk => h k (by omega))
  refine ⟨nsum (fun i => g (r + i)) 32, by omega, Int32.toInt_inj.mp ?_⟩
  rw [nI_toInt (by omega)]
  exact h1
theorem gain_ok {st : St} {g : Fn} {T : Nat} (hR : Rep st g T) (hI : Inv g) (hT : T < 2 ^ 30) (k : Int32) :
    xf_gain st k = yf_gain g 64 k ∧ pf_ge 64 (mf_sq g 113) (mf_sq g 73) ∧ (¬ mf_sq g 113 = 0 → ¬ pf_gd 64 (mf_sq g 113) (mf_sq g 73) = 0) := by
  obtain ⟨-, -, -, -, -, -, -, i8, i9, -⟩ := hI
  obtain ⟨u, hu, eu⟩ := sq_nI i8
  obtain ⟨w, hw, ew⟩ := sq_nI i9
  obtain ⟨a1, a2, a3⟩ := gain_eq hu hw
  have hz : ¬ nI w = 0 → ¬ nI (Nat.gcd u w) = 0 := by
    intro h
    have hw0 : 0 < w := Nat.pos_of_ne_zero (fun q => h (by rw [q]; rfl))
    have h1 := Nat.gcd_le_right u hw0
    have h2 : 0 < Nat.gcd u w := Nat.pos_of_ne_zero (fun q => by have := (Nat.gcd_eq_zero_iff.mp q).2; omega)
    exact nI_ne0 h2 (by omega)
  unfold xf_gain yf_gain
  rw [nsq_eq (hR.na hT), osq_eq (hR.oa hT), eu, ew, a1, a2]
  refine ⟨?_, a3, hz⟩
  by_cases c : pf_in k 0 1 = 0
  · rw [if_pos c, if_pos c]
  · rw [if_neg c, if_neg c]
    by_cases c2 : nI w = 0
    · rw [if_pos (Or.inl c2), if_pos c2]
    · rw [if_neg (show ¬ (nI w = 0 ∨ nI (Nat.gcd u w) = 0) from fun q => q.elim c2 (hz c2)), if_neg c2]
theorem mk_bit {a b : Int32} (ha : a = 0 ∨ a = 1) (hb : b = 0 ∨ b = 1) : (mk2 a b &&& 1 = 0 ↔ a = 0) ∧ (mk2 a b &&& 2 = 0 ↔ b = 0) ∧ (¬ a = 0 ↔ a = 1) ∧ (¬ b = 0 ↔ b = 1) := by
  rcases ha with rfl | rfl <;> rcases hb with rfl | rfl <;> decide
theorem began_eq {st : St} {g : Fn} {T r : Nat} {mk i : Int32} (hR : Rep st g T) (hI : Inv g) (hT : T < 2 ^ 30) (hr : (mk = 1 ∧ r = 153) ∨ (mk = 2 ∧ r = 354)) :
    ∀ n, n ≤ 200 → ∀ f, lf_bg st i mk n f = mf_bg g r i (if n ≤ T then n else T) f := by
  have r1 := hR.1
  have r2 := hR.2.1
  have r12 := hR.2.2.2.2.2.2.2.2.2.2.2
  have i10 := hI.2.2.2.2.2.2.2.2.2
  have key : ∀ n, n < 200 → (lf_ba st (st 8 0 - nI n) mk = true ↔ g (r + n) = 1 ∧ g (r + n + 1) = 0) := by
    intro n hn
    have b1 := mk_bit (i10 n (by omega)).1 (i10 n (by omega)).2
    have b2 := mk_bit (i10 (n + 1) (by omega)).1 (i10 (n + 1) (by omega)).2
    have e2 : nI T - nI n - 1 = nI T - nI (n + 1) := by
      rw [← nI_1, Int32.sub_eq_add_neg (nI T) (nI n + 1), Int32.neg_add, Int32.sub_eq_add_neg (nI T - nI n) 1, Int32.sub_eq_add_neg (nI T) (nI n), Int32.add_assoc, Int32.sub_eq_add_neg (-nI n) 1]
    unfold lf_ba
    rw [decide_eq_true_iff, r1, ms_ringM hT (by omega), e2, ms_ringM hT (by omega), nI_clamp (Nat.lt_of_lt_of_le (ry_lt T n) (by decide)), nI_clamp (Nat.lt_of_lt_of_le (ry_lt T (n + 1)) (by decide)), r12 n (by omega), r12 (n + 1) (by omega)]
    rcases hr with ⟨rfl, rfl⟩ | ⟨rfl, rfl⟩
    · rw [b1.1, b2.1, b1.2.2.1]; exact Iff.rfl
    · rw [b1.2.1, b2.2.1, b1.2.2.2]; exact Iff.rfl
  intro n
  induction n with
  | zero => intro _ f; rw [if_pos (Nat.zero_le T)]; rfl
  | succ n ih =>
    intro hn f
    have h1 := ih (by omega)
    rw [lf_bg]
    by_cases c : n < T
    · have c1 : nI n < st 8 0 := by rw [r1]; exact nI_lt c (by omega)
      have k := key n (by omega)
      rw [if_pos (show n + 1 ≤ T by omega), mf_bg, h1, h1, if_pos (show n ≤ T by omega), r1, r2]
      by_cases d : g (r + n) = 1 ∧ g (r + n + 1) = 0
      · rw [if_pos (show nI n < nI T ∧ lf_ba st (nI T - nI n) mk = true from ⟨nI_lt c (by omega), by have := k.mpr d; rw [r1] at this; exact this⟩), if_pos d]
      · rw [if_neg (show ¬ (nI n < nI T ∧ lf_ba st (nI T - nI n) mk = true) from fun q => d (k.mp (by rw [r1]; exact q.2))), if_neg d]
    · have c1 : ¬ nI n < st 8 0 := by rw [r1]; exact nI_nlt (a := n) (b := T) (by omega) (by omega)
      rw [if_neg (fun q => c1 q.1), h1, if_neg (show ¬ n + 1 ≤ T by omega)]
      by_cases d : n ≤ T
      · obtain rfl : n = T := by omega
        rw [if_pos (Nat.le_refl n)]
      · rw [if_neg d]
