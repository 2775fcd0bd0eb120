/-! both sides' sums over one row of FARS; learning; squares; the greatest divisor -/
def FA (st : St) (g : Fn) : Prop := ∀ i, i < 40 → fa st (nI i) = g (33 + i)
def NA (st : St) (g : Fn) : Prop := ∀ i, i < 40 → na st (nI i) = g (73 + i)
def OA (st : St) (g : Fn) : Prop := ∀ i, i < 40 → oa st (nI i) = g (113 + i)
theorem est_eq {st : St} {g : Fn} {d : Nat} (hF : FA st g) (h4 : st 0 4 = nI d) (g4 : g 4 = nI d) (hd : d ≤ 15) (ht : ∀ j, j < 8 → st 1 j = g (5 + j)) : lf_est st = mf_est g := by
  have h : l_sum (fun k => st 1 (nI k).toNatClampNeg * fa st (nI k + st 0 4)) 8 = l_sum (fun k => g (5 + k) * mf_seen g k) 8 := by
    refine ls_cg 8 (fun k hk => ?_)
    show st 1 (nI k).toNatClampNeg * fa st (nI k + st 0 4) = g (5 + k) * mf_seen g k
    rw [nI_clamp (by omega), ht k hk, h4, nI_add, hF _ (by omega), mf_seen, g4, nI_clamp (by omega), Nat.add_assoc 33 k d]
  unfold lf_est mf_est
  rw [h]
theorem pow_eq {st : St} {g : Fn} {d : Nat} (hF : FA st g) (h4 : st 0 4 = nI d) (g4 : g 4 = nI d) (hd : d ≤ 15) : lf_pow st = mf_pow g := by
  unfold lf_pow mf_pow
  refine ls_cg 8 (fun k hk => ?_)
  show fa st (nI k + st 0 4) * fa st (nI k + st 0 4) = mf_seen g k * mf_seen g k
  rw [h4, nI_add, hF _ (by omega), mf_seen, g4, nI_clamp (by omega), Nat.add_assoc 33 k d]
theorem loud_eq {st : St} {g : Fn} (hF : FA st g) : lf_loud st = mf_loud g := by
  unfold lf_loud mf_loud
  exact mx_cg 24 (fun k hk => hF k (by omega))
theorem tone_eq {st : St} {g : Fn} (hF : FA st g) : lf_tone st = mf_tone g := by
  have hs : lf_sil st = mf_sil g := al_cg 16 (fun i hi => by
    show decide (fa st (nI i) = 0) = decide (g (33 + i) = 0)
    rw [hF i (by omega)])
  have hr : pf_ft (lf_rep st) 8 1 = pf_ft (mf_cr g) 8 1 := ft_cg 8 1 (fun p h1 h2 => al_cg (16 - p) (fun i hi => by
    show decide (fa st (nI i) = fa st (nI i + nI p)) = decide (g (33 + i) = g (33 + i + p))
    rw [nI_add, hF i (by omega), hF (i + p) (by omega), Nat.add_assoc 33 i p]))
  unfold lf_tone mf_tone
  rw [hs, hr]
theorem like_eq {st : St} {g : Fn} {d : Nat} (hF : FA st g) (hN : NA st g) (hd : d ≤ 15) : lf_like st (nI d) = mf_like g d := by
  unfold lf_like mf_like
  refine ls_cg 24 (fun i hi => ?_)
  show na st (nI i) * fa st (nI i + nI d) = g (73 + i) * g (33 + i + d)
  rw [nI_add, hN i (by omega), hF (i + d) (by omega), Nat.add_assoc 33 i d]
theorem nsq_eq {st : St} {g : Fn} (hN : NA st g) : lf_nsq st = mf_sq g 73 := by
  unfold lf_nsq mf_sq
  refine ls_cg 32 (fun i hi => ?_)
  show na st (nI i) * na st (nI i) = g (73 + i) * g (73 + i)
  rw [hN i (by omega)]
theorem osq_eq {st : St} {g : Fn} (hN : OA st g) : lf_osq st = mf_sq g 113 := by
  unfold lf_osq mf_sq
  refine ls_cg 32 (fun i hi => ?_)
  show oa st (nI i) * oa st (nI i) = g (113 + i) * g (113 + i)
  rw [hN i (by omega)]
/-! squares -/
def nsum (f : Fn) : Nat → Nat
  | 0 => 0
  | n + 1 => nsum f n + nb (f n) * nb (f n)
theorem nsum_le {f : Fn} {b : Nat} : ∀ n, (∀ k, k < n → nb (f k) ≤ b) → nsum f n ≤ n * (b * b) := by
  intro n
  induction n with
  | zero => intro _; exact Nat.zero_le _
  | succ n ih =>
    intro h
    have e : (n + 1) * (b * b) = n * (b * b) + b * b := Nat.succ_mul n (b * b)
    have h1 := ih (fun k hk => h k (by omega))
    have h2 : nb (f n) * nb (f n) ≤ b * b := Nat.mul_le_mul (h n (by omega)) (h n (by omega))
    rw [nsum, e]
    omega
theorem nsum_term {f : Fn} : ∀ n k, k < n → nb (f k) * nb (f k) ≤ nsum f n := by
  intro n
  induction n with
  | zero => intro k hk; omega
  | succ n ih =>
    intro k hk
    rw [nsum]
    by_cases e : k = n
    · subst e; omega
    · have := ih k (by omega); omega
theorem sq_sum {f : Fn} {b : Nat} : ∀ n, (∀ k, k < n → nb (f k) ≤ b) → n * (b * b) < 2147483648 → (l_sum (fun k => f k * f k) n).toInt = (nsum f n : Int) := by
  intro n
  induction n with
  | zero => intro _ _; rfl
  | succ n ih =>
    intro h hb
    have e : (n + 1) * (b * b) = n * (b * b) + b * b := Nat.succ_mul n (b * b)
    have h1 := ih (fun k hk => h k (by omega)) (by omega)
    have h2 := i_mul (h n (by omega)) (h n (by omega)) (show b * b < 2147483648 by omega)
    have h3 : (f n * f n).toInt = ((nb (f n) * nb (f n) : Nat) : Int) := by
      rw [h2.1]
      exact (Int.natAbs_mul_self).symm
    have h4 := nsum_le (f := f) (b := b) n (fun k hk => h k (by omega))
    have h5 : nb (f n) * nb (f n) ≤ b * b := Nat.mul_le_mul (h n (by omega)) (h n (by omega))
    show (l_sum (fun k => f k * f k) n + f n * f n).toInt = ((nsum f n + nb (f n) * nb (f n) : Nat) : Int)
    rw [i_add (by rw [h1, h3]; omega) (by rw [h1, h3]; omega), h1, h3]
    omega
/-! learning -/
theorem ln_M {a b c p : Int32} (ha : nb a ≤ 1024) (hb : nb b ≤ 34000) (hc : nb c ≤ 1000) (hp : 0 < p.toInt) (hcp : nb c * nb c ≤ nb p) : ((a.toInt64 * b.toInt64) * c.toInt64 / p.toInt64).toInt.natAbs ≤ 34816000 := by
  have h1 : (a.toInt * b.toInt).natAbs ≤ 1024 * 34000 := by
    rw [Int.natAbs_mul]
    exact Nat.mul_le_mul ha hb
  have e1 : (a.toInt64 * b.toInt64).toInt = a.toInt * b.toInt := by
    rw [Int64.toInt_mul, Int32.toInt_toInt64, Int32.toInt_toInt64]
    exact Int.bmod_eq_of_le (by omega) (by omega)
  have h2 : (a.toInt * b.toInt * c.toInt).natAbs ≤ 1024 * 34000 * 1000 := by
    rw [Int.natAbs_mul]
    exact Nat.mul_le_mul h1 hc
  have e2 : (a.toInt64 * b.toInt64 * c.toInt64).toInt = a.toInt * b.toInt * c.toInt := by
    rw [Int64.toInt_mul, e1, Int32.toInt_toInt64]
    exact Int.bmod_eq_of_le (by omega) (by omega)
  have hne : p.toInt64 ≠ -1 := by
    intro q
    have q2 : p.toInt64.toInt = (-1 : Int64).toInt := by rw [q]
    rw [Int32.toInt_toInt64] at q2
    have q3 : (-1 : Int64).toInt = -1 := rfl
    omega
  rw [Int64.toInt_div_of_ne_right _ _ hne, e2, Int32.toInt_toInt64, Int.natAbs_tdiv, Int.natAbs_mul]
  refine Nat.le_trans (Nat.div_le_of_le_mul (n := (a.toInt * b.toInt).natAbs) ?_) h1
  rw [Nat.mul_comm p.toInt.natAbs]
  refine Nat.mul_le_mul (Nat.le_refl _) ?_
  show nb c ≤ nb p
  refine Nat.le_trans ?_ hcp
  exact Nat.le_mul_self (nb c)
theorem ln_step {tap : Int32} {M : Int64} (h1 : -4096 ≤ tap.toInt) (h2 : tap.toInt ≤ 4095) (hM : M.toInt.natAbs ≤ 34816000) :
    (pf_mxl (-4096) (pf_mnl 4095 (tap.toInt64 + M))).toInt32 = pf_cl (tap + M.toInt32) (-4096) 4095 ∧ -4096 ≤ (pf_cl (tap + M.toInt32) (-4096) 4095).toInt ∧ (pf_cl (tap + M.toInt32) (-4096) 4095).toInt ≤ 4095 := by
  have ex : (tap.toInt64 + M).toInt = tap.toInt + M.toInt := by
    rw [Int64.toInt_add, Int32.toInt_toInt64]
    exact Int.bmod_eq_of_le (by omega) (by omega)
  have em : M.toInt32.toInt = M.toInt := by
    rw [Int64.toInt_toInt32]
    exact Int.bmod_eq_of_le (by omega) (by omega)
  have ey : (tap + M.toInt32).toInt = tap.toInt + M.toInt := by
    rw [i_add (by rw [em]; omega) (by rw [em]; omega), em]
  have l1 : (4095 : Int64).toInt = 4095 := rfl
  have l2 : (-4096 : Int64).toInt = -4096 := rfl
  have k1 : (4095 : Int32).toInt = 4095 := rfl
  have k2 : (-4096 : Int32).toInt = -4096 := rfl
  have exl : (tap.toInt64 + M).toInt32.toInt = (tap.toInt + M.toInt).bmod (2 ^ 32) := by rw [Int64.toInt_toInt32, ex]
  generalize tap.toInt64 + M = x at *
  generalize tap + M.toInt32 = y at *
  generalize tap.toInt + M.toInt = S at *
  unfold pf_mxl pf_mnl pf_cl
  by_cases c1 : S < -4096
  · have q1 : x < 4095 := Int64.lt_iff_toInt_lt.mpr (by omega)
    have q2 : x < -4096 := Int64.lt_iff_toInt_lt.mpr (by omega)
    have q3 : y < -4096 := Int32.lt_iff_toInt_lt.mpr (by omega)
    rw [if_pos q1, if_pos q2, if_pos q3]
    exact ⟨by decide, by decide, by decide⟩
  · have q3 : ¬ y < -4096 := fun q => by have := Int32.lt_iff_toInt_lt.mp q; omega
    rw [if_neg q3]
    by_cases c2 : 4095 < S
    · have q1 : ¬ x < 4095 := fun q => by have := Int64.lt_iff_toInt_lt.mp q; omega
      have q2 : (4095 : Int32) < y := Int32.lt_iff_toInt_lt.mpr (by omega)
      rw [if_neg q1, if_pos q2]
      exact ⟨by decide, by decide, by decide⟩
    · have q2 : ¬ (4095 : Int32) < y := fun q => by have := Int32.lt_iff_toInt_lt.mp q; omega
      rw [if_neg q2]
      have es : S.bmod (2 ^ 32) = S := Int.bmod_eq_of_le (by omega) (by omega)
      rw [es] at exl
      refine ⟨?_, by omega, by omega⟩
      by_cases c3 : x < 4095
      · have q4 : ¬ x < -4096 := fun q => by have := Int64.lt_iff_toInt_lt.mp q; omega
        rw [if_pos c3, if_neg q4]
        exact Int32.toInt_inj.mp (by omega)
      · have q5 : ¬ x.toInt < (4095 : Int64).toInt := fun q => c3 (Int64.lt_iff_toInt_lt.mpr q)
        rw [if_neg c3, if_neg (by decide)]
        refine Int32.toInt_inj.mp ?_
        have : ((4095 : Int64).toInt32).toInt = 4095 := rfl
        omega
/-! the greatest divisor -/
def ngd : Nat → Nat → Nat → Nat
  | 0, x, _ => x
  | n + 1, x, y => if y = 0 then x else ngd n y (x % y)
def nge : Nat → Nat → Nat → Prop
  | 0, _, y => y = 0
  | n + 1, x, y => y = 0 ∨ nge n y (x % y)
theorem gd_nI : ∀ n x y, x < 2147483648 → y < 2147483648 → pf_gd n (nI x) (nI y) = nI (ngd n x y) ∧ (nge n x y → pf_ge n (nI x) (nI y)) := by
  intro n
  induction n with
  | zero =>
    intro x y hx hy
    exact ⟨rfl, fun h => by
      have h : y = 0 := h
      subst h
      rfl⟩
  | succ n ih =>
    intro x y hx hy
    by_cases e : y = 0
    · subst e
      refine ⟨?_, fun _ => Or.inl rfl⟩
      show (if nI 0 = 0 then nI x else _) = nI (if (0 : Nat) = 0 then x else _)
      exact if_pos nI_0
    · have h0 : ¬ nI y = 0 := nI_ne0 (by omega) (by omega)
      have hr : pf_rm (nI x) (nI y) = nI (x % y) := pk_rem (by omega) (by omega) (by omega)
      have hm : x % y < y := Nat.mod_lt _ (by omega)
      have i2 := ih y (x % y) hy (by omega)
      refine ⟨?_, fun h => Or.inr ?_⟩
      · rw [pf_gd, if_neg h0, hr, i2.1, ngd, if_neg e]
      · rw [hr]
        exact i2.2 (h.resolve_left e)
theorem ngd_gcd : ∀ n x y, nge n x y → ngd n x y = Nat.gcd x y := by
  intro n
  induction n with
  | zero =>
    intro x y h
    have h : y = 0 := h
    subst h
    show x = Nat.gcd x 0
    rw [Nat.gcd_zero_right]
  | succ n ih =>
    intro x y h
    by_cases e : y = 0
    · subst e
      rw [ngd, if_pos rfl, Nat.gcd_zero_right]
    · rw [ngd, if_neg e, ih y (x % y) (h.resolve_left e), Nat.gcd_comm x y, Nat.gcd_rec y x, Nat.gcd_comm]
theorem nge_of : ∀ m n x y, y < 2 ^ m → 2 * m ≤ n → nge n x y := by
  intro m
  induction m with
  | zero =>
    intro n x y hy _
    have hy : y = 0 := by omega
    subst hy
    cases n with
    | zero => rfl
    | succ n => exact Or.inl rfl
  | succ m ih =>
    intro n x y hy hn
    obtain ⟨k, rfl⟩ : ∃ k, n = k + 2 := ⟨n - 2, by omega⟩
    by_cases e : y = 0
    · exact Or.inl e
    · refine Or.inr ?_
      by_cases e2 : x % y = 0
      · exact Or.inl e2
      · refine Or.inr (ih k (x % y) (y % (x % y)) ?_ (by omega))
        have h1 : x % y < y := Nat.mod_lt _ (by omega)
        generalize x % y = r at *
        have h2 : y % r < r := Nat.mod_lt _ (by omega)
        have h3 := Nat.mod_add_div y r
        have h4 : 0 < y / r := Nat.div_pos (by omega) (by omega)
        have h5 : r ≤ r * (y / r) := Nat.le_mul_of_pos_right r h4
        have h6 : 2 ^ (m + 1) = 2 * 2 ^ m := by rw [Nat.pow_succ, Nat.mul_comm]
        omega
theorem gain_eq {u w : Nat} (hu : u < 2 ^ 27) (hw : w < 2 ^ 27) : pf_gd 64 (nI u) (nI w) = nI (Nat.gcd u w) ∧ pf_gd 64 (nI w) (nI u) = nI (Nat.gcd u w) ∧ pf_ge 64 (nI w) (nI u) := by
  have a1 := gd_nI 64 u w (by omega) (by omega)
  have a2 := gd_nI 64 w u (by omega) (by omega)
  have n1 := nge_of 27 64 u w hw (by decide)
  have n2 := nge_of 27 64 w u hu (by decide)
  refine ⟨?_, ?_, a2.2 n2⟩
  · rw [a1.1, ngd_gcd 64 u w n1]
  · rw [a2.1, ngd_gcd 64 w u n2, Nat.gcd_comm]
