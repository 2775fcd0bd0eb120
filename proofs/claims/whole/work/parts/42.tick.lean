/-! a Line and the reference's row that say the same; a TICK keeps it -/
def mk2 (a b : Int32) : Int32 := lf_b1 a ||| (if b = 0 then 0 else 2)
def Rep (st : St) (g : Fn) (T : Nat) : Prop :=
  st 8 0 = nI T ∧ g 24 = nI T ∧ (∀ j, j < 5 → st 0 j = g j) ∧ (∀ j, j < 8 → st 1 j = g (5 + j)) ∧ (∀ j, j < 9 → st 2 j = g (13 + j)) ∧ st 8 1 = g 22 ∧ st 8 2 = g 23 ∧ (∀ j, j < 8 → st 7 j = g (25 + j)) ∧
  (∀ i, i < 40 → st 3 (rx T i) = g (33 + i)) ∧ (∀ i, i < 40 → st 4 (rx T i) = g (73 + i)) ∧ (∀ i, i < 40 → st 5 (rx T i) = g (113 + i)) ∧ (∀ i, i < 201 → st 6 (ry T i) = mk2 (g (153 + i)) (g (354 + i)))
def Inv (g : Fn) : Prop :=
  nb (g 0) ≤ 1024 ∧ (∃ h : Nat, h ≤ 50 ∧ g 3 = nI h) ∧ DL g ∧ LG g ∧ (∃ z : Nat, z ≤ 65536 ∧ g 23 = nI z) ∧ (∀ k, k < 8 → -4096 ≤ (g (5 + k)).toInt ∧ (g (5 + k)).toInt ≤ 4095) ∧
  (∀ i, i < 40 → nb (g (33 + i)) ≤ 1000) ∧ (∀ i, i < 40 → nb (g (73 + i)) ≤ 2000) ∧ (∀ i, i < 40 → nb (g (113 + i)) ≤ 2000) ∧ (∀ i, i < 201 → (g (153 + i) = 0 ∨ g (153 + i) = 1) ∧ (g (354 + i) = 0 ∨ g (354 + i) = 1))
theorem sh_at (g : Fn) (R M : Nat) (v : Int32) {i : Nat} (hi : i < M) : mf_sh g R M v (R + i) = if i = 0 then v else g (R + i - 1) := by
  unfold mf_sh
  by_cases e : i = 0
  · subst e; rw [if_pos rfl, Nat.add_zero, pk_us]
  · rw [if_neg e, pk_un (by omega), mf_sk, if_pos (by omega)]
theorem ring_sh {f g : Fn} {R T : Nat} {v : Int32} (h : ∀ i, i < 40 → f (rx T i) = g (R + i)) : ∀ i, i < 40 → upd f (rx (T + 1) 0) v (rx (T + 1) i) = mf_sh g R 40 v (R + i) := by
  intro i hi
  rw [sh_at g R 40 v hi]
  by_cases e : i = 0
  · subst e; rw [pk_us, if_pos rfl]
  · have q := rx_succ (T := T) (i := i) (by omega) (by omega)
    rw [pk_un q.2, q.1, h (i - 1) (by omega), if_neg e, show R + i - 1 = R + (i - 1) by omega]
theorem nx_nI {z : Nat} (hz : z ≤ 65536) : pf_nx (nI z) = nI ((75 * z + 74) % 65537) := by
  unfold pf_nx
  rw [show (75 : Int32) * nI z = nI (75 * z) from pk_mul 75 z, show nI (75 * z) + 74 = nI (75 * z + 74) from nI_add (75 * z) 74]
  exact pk_rem (a := 75 * z + 74) (d := 65537) (by omega) (by decide) (by decide)
theorem nx_le {z : Nat} : (75 * z + 74) % 65537 ≤ 65536 := by have := Nat.mod_lt (75 * z + 74) (show 0 < 65537 by decide); omega
theorem ce_nb {z t : Nat} (hz : z ≤ 65536) (ht : t ≤ 1000) : nb (pf_ce (nI z) (nI t)) ≤ t := by
  have e1 : pf_rm (nI z) (2 * nI t + 1) = nI (z % (2 * t + 1)) := by
    rw [show (2 : Int32) * nI t = nI (2 * t) from pk_mul 2 t, nI_1]
    exact pk_rem (by omega) (by omega) (by omega)
  have h1 : z % (2 * t + 1) < 2 * t + 1 := Nat.mod_lt _ (by omega)
  unfold pf_ce nb
  rw [e1, pk_sub_toInt (by omega) (by omega)]
  omega
theorem hold_k {s : St} {t : Int32} {k : Nat} (h : k ≠ 8) : lf_hold s t k = s k := by
  unfold lf_hold
  split
  · split
    · rfl
    · exact if_neg h
  · exact if_neg h
theorem hold_j {s : St} {t : Int32} {j : Nat} (h : j ≠ 1) : lf_hold s t 8 j = s 8 j := by
  unfold lf_hold
  split
  · split
    · rfl
    · exact pk_un (f := s 8) h
  · exact pk_un (f := s 8) h
theorem hold_eq {s : St} {g : Fn} {tk : Int32} (h : tk = 0 ∨ tk = 1) (h30 : g 30 = tk) (h22 : s 8 1 = g 22) (h1 : s 0 1 = g 1) : lf_hold s tk 8 1 = mf_hold g 22 := by
  rcases h with rfl | rfl
  · have h31 : ¬ g 30 = 1 := by rw [h30]; decide
    have a1 : lf_hold s 0 = if s 8 1 ≤ 0 then s else up8 s 1 (s 8 1 - 1) := if_pos rfl
    have a2 : mf_hold g = if g 22 ≤ 0 then g else upd g 22 (g 22 - 1) := if_pos h31
    rw [a1, a2, h22]
    by_cases c : g 22 ≤ 0
    · rw [if_pos c, if_pos c]; exact h22
    · rw [if_neg c, if_neg c, pk_us]; rfl
  · have a1 : lf_hold s 1 = up8 s 1 (s 0 1) := if_neg (by decide)
    have a2 : mf_hold g = upd g 22 (g 1) := if_neg (not_not_intro h30)
    rw [a1, a2, pk_us, ← h1]; rfl
theorem n3_k {s : St} {lr lft pw : Int32} {k : Nat} (h : k ≠ 1) : lf_n3 s lr lft pw k = s k := by
  unfold lf_n3 lf_learn
  split
  · rfl
  · split
    · exact if_neg h
    · rfl
theorem n4_k {s : St} {tn lft : Int32} {k : Nat} (h : k ≠ 8) : lf_n4 s tn lft k = s k := by
  unfold lf_n4 lf_sos
  split
  · split
    · exact if_neg h
    · rfl
  · rfl
theorem n4_j {s : St} {tn lft : Int32} {j : Nat} (h : j ≠ 2) : lf_n4 s tn lft 8 j = s 8 j := by
  unfold lf_n4 lf_sos
  split
  · split
    · exact pk_un (f := s 8) h
    · rfl
  · rfl
theorem out_eq {s : St} {g : Fn} {near tn lft : Int32} (h31 : g 31 = tn) (h26 : g 26 = lft) (h2 : s 0 2 = g 2) (h23 : s 8 2 = g 23) (h3 : s 0 3 = g 3) (h73 : g 73 = near) : lf_o s near tn lft = mf_or g ∧ lf_n4 s tn lft 8 2 = mf_os g 23 := by
  unfold lf_o lf_n4 mf_or mf_os lf_sor lf_sos mf_nor mf_nos
  rw [h31, h26, h2, h23, h3, h73, pf_abz, pf_lmc]
  by_cases c : tn ≤ 0
  · rw [if_pos c, if_pos c, if_pos c, if_pos c]
    by_cases c2 : pf_sz lft < g 2
    · rw [if_pos c2, if_pos c2, if_neg (Int32.not_le.mpr c2), if_neg (Int32.not_le.mpr c2), pk_us]
      exact ⟨rfl, rfl⟩
    · rw [if_neg c2, if_neg c2, if_pos (Int32.not_lt.mp c2), if_pos (Int32.not_lt.mp c2)]
      exact ⟨rfl, h23⟩
  · rw [if_neg c, if_neg c, if_neg c, if_neg c]
    exact ⟨rfl, h23⟩
theorem learn_eq {s : St} {g : Fn} {d : Nat} {left pw : Int32} (hF : FA s g) (h4 : s 0 4 = nI d) (g4 : g 4 = nI d) (hd : d ≤ 15) (h0 : s 0 0 = g 0) (h26 : g 26 = left) (h29 : g 29 = pw) (hp : 0 < pw.toInt)
    (b0 : nb (g 0) ≤ 1024) (b26 : nb (g 26) ≤ 34000) (bF : ∀ i, i < 40 → nb (g (33 + i)) ≤ 1000) (bP : ∀ k, k < 8 → nb (mf_seen g k) * nb (mf_seen g k) ≤ nb pw)
    (ht : ∀ j, j < 8 → s 1 j = g (5 + j)) (bt : ∀ j, j < 8 → -4096 ≤ (g (5 + j)).toInt ∧ (g (5 + j)).toInt ≤ 4095) :
    ∀ k, k ≤ 8 → ∀ j, j < 8 → lf_ln s left pw k j = mf_ln g k (5 + j) ∧ -4096 ≤ (mf_ln g k (5 + j)).toInt ∧ (mf_ln g k (5 + j)).toInt ≤ 4095 := by
  intro k
  induction k with
  | zero => intro _ j hj; exact ⟨ht j hj, bt j hj⟩
  | succ k ih =>
    intro hk j hj
    have e0 : mf_ln g k 0 = g 0 := mf_ln_out g k (by omega) 0 (by omega)
    have e26 : mf_ln g k 26 = left := (mf_ln_out g k (by omega) 26 (by omega)).trans h26
    have e29 : mf_ln g k 29 = pw := (mf_ln_out g k (by omega) 29 (by omega)).trans h29
    have e4 : mf_ln g k 4 = nI d := (mf_ln_out g k (by omega) 4 (by omega)).trans g4
    have es0 : mf_seen g k = g (33 + (k + d)) := by rw [mf_seen, g4, nI_clamp (by omega), Nat.add_assoc]
    have es : mf_seen (mf_ln g k) k = mf_seen g k := by
      rw [mf_seen, e4, nI_clamp (by omega), mf_ln_out g k (by omega) _ (by omega), es0, Nat.add_assoc]
    have ef : fa s (nI k + s 0 4) = mf_seen g k := by rw [h4, nI_add, hF _ (by omega), es0]
    have ek : (nI k).toNatClampNeg = k := nI_clamp (by omega)
    have hM := ln_M (a := g 0) (b := left) (c := mf_seen g k) (p := pw) b0 (by rw [← h26]; exact b26) (by rw [es0]; exact bF _ (by omega)) hp (bP k (by omega))
    obtain ⟨q1, q2, q3⟩ := ih (by omega) k (by omega)
    have hS := ln_step (tap := mf_ln g k (5 + k)) q2 q3 hM
    rw [lf_ln, mf_ln, e0, e26, e29, es, ek, ef, h0]
    by_cases e : j = k
    · subst e
      rw [pk_us, pk_us, q1]
      exact hS
    · rw [pk_un e, pk_un (by omega)]
      exact ih (by omega) j hj
