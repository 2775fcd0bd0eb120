theorem Rep.fa {st : St} {g : Fn} {T : Nat} (h : Rep st g T) (hT : T < 2 ^ 30) : FA st g := fun i hi => by
  rw [fa_eq h.1 hT (by omega)]; exact h.2.2.2.2.2.2.2.2.1 i hi
theorem Rep.na {st : St} {g : Fn} {T : Nat} (h : Rep st g T) (hT : T < 2 ^ 30) : NA st g := fun i hi => by
  rw [na_eq h.1 hT (by omega)]; exact h.2.2.2.2.2.2.2.2.2.1 i hi
theorem Rep.oa {st : St} {g : Fn} {T : Nat} (h : Rep st g T) (hT : T < 2 ^ 30) : OA st g := fun i hi => by
  rw [oa_eq h.1 hT (by omega)]; exact h.2.2.2.2.2.2.2.2.2.2.1 i hi
theorem echo_eq {st : St} {g : Fn} {T : Nat} {far : Int32} (hR : Rep st g T) (hI : Inv g) (hT : T + 1 < 2 ^ 30) : lf_echo (lf_tf st far) = mf_echo g far := by
  obtain ⟨r1, r2, r3, r4, r5, r6, r7, r8, r9, r10, r11, r12⟩ := hR
  obtain ⟨lg, hlg, elg⟩ := hI.2.2.2.1
  have w0 : st 8 0 + 1 = nI (T + 1) := by rw [r1]; exact nI_1 T
  have c08 : lf_tf st far 8 0 = nI (T + 1) := w0
  have c02 : lf_tf st far 2 = st 2 := rfl
  have c03 : lf_tf st far 3 = upd (st 3) (rx (T + 1) 0) far := by
    show upd (st 3) ((st 8 0 + 1) &&& 63).toNatClampNeg far = _
    rw [w0, ms_m63 hT]
  have e8 : st 2 8 = nI lg := by rw [r5 8 (by decide)]; exact elg
  have h : l_sum (fun k => lf_tf st far 2 (nI k).toNatClampNeg * fa (lf_tf st far) (nI k + lf_tf st far 2 8)) 8 = l_sum (fun k => g (13 + k) * mf_ee g far k) 8 := by
    refine ls_cg 8 (fun k hk => ?_)
    show lf_tf st far 2 (nI k).toNatClampNeg * fa (lf_tf st far) (nI k + lf_tf st far 2 8) = g (13 + k) * mf_ee g far k
    rw [nI_clamp (by omega), c02, r5 k (by omega), e8, nI_add, fa_eq c08 hT (by omega), c03, ring_sh r9 _ (by omega), sh_at g 33 40 far (by omega), mf_ee, elg, nI_clamp (by omega)]
  unfold lf_echo mf_echo
  rw [h]
theorem speak_ok {st : St} {g : Fn} {T : Nat} {far v : Int32} (hR : Rep st g T) (hI : Inv g) (hT : T + 1 < 2 ^ 30) (hf : nb far ≤ 1000) :
    Rep (lf_hs st far v) (mf_spk g far v) (T + 1) ∧ Inv (mf_spk g far v) ∧ lf_hr st far v = mf_spk g far v 27 ∧ lf_hs st far v 7 1 = mf_spk g far v 26 := by
  have e : lf_hn st far v = pf_cl (mf_echo g far + v) (-2000) 2000 := by rw [lf_hn, echo_eq hR hI hT, pf_lmc]
  have h := tick_ok (near := pf_cl (mf_echo g far + v) (-2000) 2000) hR hI hT hf (nb_cl _)
  unfold lf_hs lf_hr mf_spk
  rw [e]
  exact ⟨h.1, h.2.1, h.2.2, h.1.2.2.2.2.2.2.2.1 1 (by decide)⟩
theorem run_ok {t : Nat} (ht : t ≤ 1000) : ∀ (n : Nat) (z : Nat) (st : St) (g : Fn) (T : Nat) (a : Int32), z ≤ 65536 → Rep st g T → Inv g → T + n < 2 ^ 30 →
    xr_sum (nI t) n (nI z) st a = yr_sum (nI t) n (nI z) g a ∧ Rep (xr_st (nI t) n (nI z) st) (yr_g (nI t) n (nI z) g) (T + n) ∧ Inv (yr_g (nI t) n (nI z) g) := by
  intro n
  induction n with
  | zero => intro z st g T a _ hR hI _; exact ⟨rfl, hR, hI⟩
  | succ n ih =>
    intro z st g T a hz hR hI hT
    have hf : nb (pf_ce (nI ((75 * z + 74) % 65537)) (nI t)) ≤ 1000 := Nat.le_trans (ce_nb nx_le ht) ht
    obtain ⟨h1, h2, h3, h4⟩ := speak_ok (v := 0) hR hI (by omega) hf
    rw [xr_sum, yr_sum, xr_st, yr_g, nx_nI hz, h4, pf_abz]
    have h5 := ih ((75 * z + 74) % 65537) _ _ (T + 1) (a + pf_sz (mf_spk g (pf_ce (nI ((75 * z + 74) % 65537)) (nI t)) 0 26)) nx_le h1 h2 (by omega)
    rw [show T + (n + 1) = T + 1 + n by omega]
    exact h5
theorem yl_8 {loud limit : Int32} {k : Nat} {z : Int32} {g : Fn} : ∀ n, yl_r loud limit n k z g 8 = nI k := by
  intro n
  have e : yl_e k 8 = nI k := if_neg (not_not_intro rfl)
  cases n with
  | zero => exact e
  | succ n => rw [yl_r, if_pos (by decide)]; exact e
theorem learnt_ok {t : Nat} {limit : Int32} (ht : t ≤ 1000) : ∀ (n k : Nat) (z : Nat) (st : St) (g : Fn) (T q : Nat), q < 8 → z ≤ 65536 → Rep st g T → Inv g → T + n < 2 ^ 30 →
    xl_r (nI t) limit n (k + 1) (nI z) st (nI q) = yl_r (nI t) limit n k (nI z) g (nI q) := by
  intro n
  induction n with
  | zero =>
    intro k z st g T q hq _ _ _ _
    have e : ¬ nI q = 8 := fun h => by have := (nI_eq (a := q) (b := 8) (by omega) (by decide)).mp h; omega
    exact (if_pos e).symm
  | succ n ih =>
    intro k z st g T q hq hz hR hI hT
    have hf : nb (pf_ce (nI ((75 * z + 74) % 65537)) (nI t)) ≤ 1000 := Nat.le_trans (ce_nb nx_le ht) ht
    obtain ⟨h1, h2, h3, h4⟩ := speak_ok (v := 0) hR hI (by omega) hf
    have e8 : ¬ 8 ≤ nI q := nI_ge (a := q) (b := 8) (by omega) (by decide)
    rw [xl_r, yl_r, if_neg e8, nx_nI hz]
    have ec : xl_c limit (lf_hs st (pf_ce (nI ((75 * z + 74) % 65537)) (nI t)) 0) (nI q) = yl_c limit (mf_spk g (pf_ce (nI ((75 * z + 74) % 65537)) (nI t)) 0) (nI q) := by
      unfold xl_c yl_c
      rw [h4, pf_abz]
    rw [ec]
    obtain ⟨q2, hq2, e2⟩ : ∃ q2 : Nat, q2 ≤ 8 ∧ yl_c limit (mf_spk g (pf_ce (nI ((75 * z + 74) % 65537)) (nI t)) 0) (nI q) = nI q2 := by
      unfold yl_c
      split
      · exact ⟨0, by omega, rfl⟩
      · exact ⟨q + 1, by omega, nI_1 q⟩
    rw [e2]
    by_cases c : q2 < 8
    · rw [if_pos (show nI q2 < 8 from nI_lt (a := q2) (b := 8) c (by decide))]
      exact ih (k + 1) _ _ _ (T + 1) q2 c nx_le h1 h2 (by omega)
    · obtain rfl : q2 = 8 := by omega
      rw [if_neg (show ¬ nI 8 < 8 from nI_nlt (a := 8) (b := 8) (Nat.le_refl 8) (by decide))]
      exact (yl_8 n).symm
theorem sr_iff (z t : Int32) : pf_sr z t = 0 ↔ (pf_in z 0 65536 = 0 ∨ pf_in t 0 1000 = 0) := by
  rw [pf_inE, pf_inE]
  unfold pf_sr
  by_cases a : 0 ≤ z ∧ z ≤ 65536
  · by_cases b : 0 ≤ t ∧ t ≤ 1000
    · rw [if_pos ⟨a, b⟩]
      constructor
      · intro h; exact absurd h (by decide)
      · rintro (h | h)
        · exact absurd a h
        · exact absurd b h
    · rw [if_neg (fun q => b q.2)]
      exact ⟨fun _ => Or.inr b, fun _ => rfl⟩
  · rw [if_neg (fun q => a q.1)]
    exact ⟨fun _ => Or.inl a, fun _ => rfl⟩
