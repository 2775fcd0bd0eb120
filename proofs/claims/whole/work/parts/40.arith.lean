/-! numbers: rings, sums, bounds -/
def rx (T i : Nat) : Nat := (T + 64 - i) % 64
def ry (T i : Nat) : Nat := (T + 256 - i) % 256
theorem ms_ring {T i : Nat} (hT : T < 2 ^ 30) (hi : i ≤ 64) : (nI T - nI i) &&& 63 = nI (rx T i) := by
  rw [pk_and _ 6 rfl]
  congr 1
  rw [Int32.toBitVec_sub, BitVec.toNat_sub, pk_tn (by omega), pk_tn (by omega)]
  unfold rx
  omega
theorem ms_ringM {T i : Nat} (hT : T < 2 ^ 30) (hi : i ≤ 256) : (nI T - nI i) &&& 255 = nI (ry T i) := by
  rw [pk_and _ 8 rfl]
  congr 1
  rw [Int32.toBitVec_sub, BitVec.toNat_sub, pk_tn (by omega), pk_tn (by omega)]
  unfold ry
  omega
theorem rx_lt (T i : Nat) : rx T i < 64 := Nat.mod_lt _ (by decide)
theorem ry_lt (T i : Nat) : ry T i < 256 := Nat.mod_lt _ (by decide)
theorem ms_m63 {T : Nat} (hT : T < 2 ^ 30) : (nI T &&& 63).toNatClampNeg = rx T 0 := by
  rw [pk_andN (by omega) 6 rfl, nI_clamp (by omega)]
  unfold rx
  omega
theorem ms_m255 {T : Nat} (hT : T < 2 ^ 30) : (nI T &&& 255).toNatClampNeg = ry T 0 := by
  rw [pk_andN (by omega) 8 rfl, nI_clamp (by omega)]
  unfold ry
  omega
theorem fa_eq {st : St} {T i : Nat} (h8 : st 8 0 = nI T) (hT : T < 2 ^ 30) (hi : i ≤ 64) : fa st (nI i) = st 3 (rx T i) := by
  unfold fa
  rw [h8, ms_ring hT hi, nI_clamp (Nat.lt_of_lt_of_le (rx_lt T i) (by decide))]
theorem na_eq {st : St} {T i : Nat} (h8 : st 8 0 = nI T) (hT : T < 2 ^ 30) (hi : i ≤ 64) : na st (nI i) = st 4 (rx T i) := by
  unfold na
  rw [h8, ms_ring hT hi, nI_clamp (Nat.lt_of_lt_of_le (rx_lt T i) (by decide))]
theorem oa_eq {st : St} {T i : Nat} (h8 : st 8 0 = nI T) (hT : T < 2 ^ 30) (hi : i ≤ 64) : oa st (nI i) = st 5 (rx T i) := by
  unfold oa
  rw [h8, ms_ring hT hi, nI_clamp (Nat.lt_of_lt_of_le (rx_lt T i) (by decide))]
theorem rx_succ {T i : Nat} (h1 : 1 ≤ i) (hi : i ≤ 63) : rx (T + 1) i = rx T (i - 1) ∧ rx (T + 1) i ≠ rx (T + 1) 0 := by
  unfold rx
  omega
theorem ry_succ {T i : Nat} (h1 : 1 ≤ i) (hi : i ≤ 255) : ry (T + 1) i = ry T (i - 1) ∧ ry (T + 1) i ≠ ry (T + 1) 0 := by
  unfold ry
  omega
theorem ls_cg {f g : Fn} : ∀ n, (∀ k, k < n → f k = g k) → l_sum f n = l_sum g n := by
  intro n
  induction n with
  | zero => intro _; rfl
  | succ n ih =>
    intro h
    rw [l_sum, l_sum, ih (fun k hk => h k (by omega)), h n (by omega)]
theorem al_cg {P Q : Nat → Bool} : ∀ n, (∀ k, k < n → P k = Q k) → pf_al P n = pf_al Q n := by
  intro n
  induction n with
  | zero => intro _; rfl
  | succ n ih =>
    intro h
    rw [pf_al, pf_al, ih (fun k hk => h k (by omega)), h n (by omega)]
theorem ft_cg {P Q : Nat → Bool} : ∀ n p, (∀ k, p ≤ k → k < p + n → P k = Q k) → pf_ft P n p = pf_ft Q n p := by
  intro n
  induction n with
  | zero => intro p _; rfl
  | succ n ih =>
    intro p h
    rw [pf_ft, pf_ft, h p (by omega) (by omega), ih (p + 1) (fun k h1 h2 => h k (by omega) (by omega))]
theorem pf_abz (x : Int32) : pf_ab x = pf_sz x := by
  unfold pf_ab pf_sz
  by_cases h : x < 0
  · rw [if_neg (Int32.not_le.mpr h), if_pos h, Int32.zero_sub]
  · rw [if_pos (Int32.not_lt.mp h), if_neg h]
theorem mx_cg {f g : Fn} : ∀ n, (∀ k, k < n → f k = g k) → pf_mxs f n = mf_mx g n := by
  intro n
  induction n with
  | zero => intro _; rfl
  | succ n ih =>
    intro h
    rw [pf_mxs, mf_mx, ih (fun k hk => h k (by omega)), h n (by omega), pf_abz]
    unfold pf_mx
    by_cases c : mf_mx g n < pf_sz (g n)
    · rw [if_pos c, if_neg (Int32.not_le.mpr c)]
    · rw [if_neg c, if_pos (Int32.not_lt.mp c)]
theorem pf_lmc (v : Int32) : pf_lm v (-2000) 2000 = pf_cl v (-2000) 2000 := by
  have e1 : (-2000 : Int32).toInt = -2000 := rfl
  have e2 : (2000 : Int32).toInt = 2000 := rfl
  unfold pf_lm pf_mx pf_mn pf_cl
  by_cases h1 : v < -2000
  · have q1 := Int32.lt_iff_toInt_lt.mp h1
    have h2 : v < 2000 := Int32.lt_iff_toInt_lt.mpr (by omega)
    have h3 : ¬ (-2000 : Int32) < v := fun q => by have := Int32.lt_iff_toInt_lt.mp q; omega
    rw [if_pos h2, if_neg h3, if_pos h1]
  · have q1 : ¬ v.toInt < (-2000 : Int32).toInt := fun q => h1 (Int32.lt_iff_toInt_lt.mpr q)
    rw [if_neg h1]
    by_cases h2 : (2000 : Int32) < v
    · have q2 := Int32.lt_iff_toInt_lt.mp h2
      have h3 : ¬ v < 2000 := fun q => by have := Int32.lt_iff_toInt_lt.mp q; omega
      rw [if_neg h3, if_pos (by decide), if_pos h2]
    · have q2 : ¬ (2000 : Int32).toInt < v.toInt := fun q => h2 (Int32.lt_iff_toInt_lt.mpr q)
      rw [if_neg h2]
      by_cases h3 : v < 2000
      · rw [if_pos h3]
        by_cases h4 : (-2000 : Int32) < v
        · rw [if_pos h4]
        · have q4 : ¬ (-2000 : Int32).toInt < v.toInt := fun q => h4 (Int32.lt_iff_toInt_lt.mpr q)
          rw [if_neg h4]
          exact Int32.toInt_inj.mp (by omega)
      · have q3 : ¬ v.toInt < (2000 : Int32).toInt := fun q => h3 (Int32.lt_iff_toInt_lt.mpr q)
        rw [if_neg h3, if_pos (by decide)]
        exact Int32.toInt_inj.mp (by omega)
/-- the size of a number, and what keeps it -/
def nb (x : Int32) : Nat := x.toInt.natAbs
theorem i_add {a b : Int32} (h1 : -2147483648 ≤ a.toInt + b.toInt) (h2 : a.toInt + b.toInt < 2147483648) : (a + b).toInt = a.toInt + b.toInt := by
  rw [Int32.toInt_add]
  exact Int.bmod_eq_of_le (by omega) (by omega)
theorem i_sub {a b : Int32} (h1 : -2147483648 ≤ a.toInt - b.toInt) (h2 : a.toInt - b.toInt < 2147483648) : (a - b).toInt = a.toInt - b.toInt := by
  rw [Int32.toInt_sub]
  exact Int.bmod_eq_of_le (by omega) (by omega)
theorem i_mul {a b : Int32} {m n : Nat} (ha : nb a ≤ m) (hb : nb b ≤ n) (h : m * n < 2147483648) : (a * b).toInt = a.toInt * b.toInt ∧ nb (a * b) ≤ m * n := by
  have h1 : (a.toInt * b.toInt).natAbs ≤ m * n := by
    rw [Int.natAbs_mul]
    exact Nat.mul_le_mul ha hb
  have e : (a * b).toInt = a.toInt * b.toInt := by
    rw [Int32.toInt_mul]
    exact Int.bmod_eq_of_le (by omega) (by omega)
  exact ⟨e, by unfold nb; rw [e]; exact h1⟩
theorem nb_sum {f : Fn} {b : Nat} : ∀ n, (∀ k, k < n → nb (f k) ≤ b) → n * b < 2147483648 → nb (l_sum f n) ≤ n * b := by
  intro n
  induction n with
  | zero => intro _ _; exact Nat.zero_le _
  | succ n ih =>
    intro h hb
    have e : (n + 1) * b = n * b + b := Nat.succ_mul n b
    have h1 := ih (fun k hk => h k (by omega)) (by omega)
    have h2 := h n (by omega)
    unfold nb at h1 h2 ⊢
    rw [l_sum, i_add (by omega) (by omega)]
    omega
theorem nb_sz (x : Int32) (h : nb x < 2147483648) : (pf_sz x).toInt = nb x := by
  unfold nb at h ⊢
  unfold pf_sz
  by_cases c : x < 0
  · have q := Int32.lt_iff_toInt_lt.mp c
    have e0 : (0 : Int32).toInt = 0 := rfl
    rw [if_pos c, Int32.toInt_neg, Int.bmod_eq_of_le (by omega) (by omega)]
    omega
  · have q : ¬ x.toInt < (0 : Int32).toInt := fun q => c (Int32.lt_iff_toInt_lt.mpr q)
    have e0 : (0 : Int32).toInt = 0 := rfl
    rw [if_neg c]
    omega
theorem nb_cl (x : Int32) : nb (pf_cl x (-2000) 2000) ≤ 2000 := by
  have e1 : (-2000 : Int32).toInt = -2000 := rfl
  have e2 : (2000 : Int32).toInt = 2000 := rfl
  unfold pf_cl nb
  by_cases h1 : x < -2000
  · rw [if_pos h1]; decide
  · rw [if_neg h1]
    have q1 : ¬ x.toInt < (-2000 : Int32).toInt := fun q => h1 (Int32.lt_iff_toInt_lt.mpr q)
    by_cases h2 : (2000 : Int32) < x
    · rw [if_pos h2]; decide
    · rw [if_neg h2]
      have q2 : ¬ (2000 : Int32).toInt < x.toInt := fun q => h2 (Int32.lt_iff_toInt_lt.mpr q)
      omega
theorem nb_in {v : Int32} {a b : Int32} {n : Nat} (ha : a.toInt = -(n : Int)) (hb : b.toInt = (n : Int)) (h : ¬ pf_in v a b = 0) : nb v ≤ n := by
  have h1 := Decidable.not_not.mp (fun q => h ((pf_inE v a b).mpr q))
  have h2 := Int32.le_iff_toInt_le.mp h1.1
  have h3 := Int32.le_iff_toInt_le.mp h1.2
  unfold nb
  omega
