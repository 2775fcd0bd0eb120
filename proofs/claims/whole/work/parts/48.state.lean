/-! the whole system's state, and the images -/
def sl (im : Fn) (t : Nat) : Fn := fun j => im (555 * t + j)
def Sys (st s0 s1 : St) (kp : Int32) (g im kpm : Fn) (B : Nat) : Prop :=
  ∃ T : Nat, T ≤ B ∧ Rep st g T ∧ Inv g ∧ kp = yk2 (kpm 0) 1 + yk2 (kpm 1) 2 ∧ (kpm 0 = 0 ∨ ∃ T0 : Nat, T0 ≤ B ∧ Rep s0 (sl im 0) T0 ∧ Inv (sl im 0)) ∧ (kpm 1 = 0 ∨ ∃ T1 : Nat, T1 ≤ B ∧ Rep s1 (sl im 1) T1 ∧ Inv (sl im 1))
theorem Sys.next {st s0 s1 st' : St} {kp : Int32} {g g' im im' kpm : Fn} {B B' T' : Nat} (h : Sys st s0 s1 kp g im kpm B) (hB : B ≤ B') (hT : T' ≤ B') (hR : Rep st' g' T') (hI : Inv g') (e0 : ∀ j, j < 555 → sl im 0 j = sl im' 0 j) (e1 : ∀ j, j < 555 → sl im 1 j = sl im' 1 j) : Sys st' s0 s1 kp g' im' kpm B' := by
  obtain ⟨T, hTB, -, -, hk, h0, h1⟩ := h
  refine ⟨T', hT, hR, hI, hk, h0.imp id ?_, h1.imp id ?_⟩
  · rintro ⟨T0, a, b, c⟩; exact ⟨T0, by omega, b.cg e0, c.cg e0⟩
  · rintro ⟨T1, a, b, c⟩; exact ⟨T1, by omega, b.cg e1, c.cg e1⟩
theorem sl_sv2 (im g : Fn) {t : Nat} (ht : t < 2) : ∀ j, j < 555 → sl im t j = sl (mf_sv im g 2 555) t j := by
  intro j hj
  unfold sl mf_sv
  rw [if_neg (by omega)]
theorem sl_same (im g : Fn) (t : Nat) : ∀ j, j < 555 → g j = sl (mf_sv im g t 555) t j := by
  intro j hj
  unfold sl mf_sv
  rw [if_pos (by omega), show 555 * t + j - 555 * t = j by omega]
theorem sl_diff (im g : Fn) {t u : Nat} (h : t ≠ u) : ∀ j, j < 555 → sl im u j = sl (mf_sv im g t 555) u j := by
  intro j hj
  unfold sl mf_sv
  rw [if_neg (by omega)]
theorem kp_or0 (a b : Int32) : (yk2 a 1 + yk2 b 2) ||| xb 0 = yk2 1 1 + yk2 b 2 := by
  unfold yk2
  by_cases ha : a = 0 <;> by_cases hb : b = 0 <;> simp only [ha, hb, if_true, if_false, if_pos, if_neg] <;> decide
theorem kp_or1 (a b : Int32) : (yk2 a 1 + yk2 b 2) ||| xb 1 = yk2 a 1 + yk2 1 2 := by
  unfold yk2
  by_cases ha : a = 0 <;> by_cases hb : b = 0 <;> simp only [ha, hb, if_true, if_false, if_pos, if_neg] <;> decide
theorem kp_and0 (a b : Int32) : (yk2 a 1 + yk2 b 2) &&& xb 0 = 0 ↔ a = 0 := by
  unfold yk2
  by_cases ha : a = 0 <;> by_cases hb : b = 0 <;> simp only [ha, hb, if_true, if_false, if_pos, if_neg] <;> decide
theorem kp_and1 (a b : Int32) : (yk2 a 1 + yk2 b 2) &&& xb 1 = 0 ↔ b = 0 := by
  unfold yk2
  by_cases ha : a = 0 <;> by_cases hb : b = 0 <;> simp only [ha, hb, if_true, if_false, if_pos, if_neg] <;> decide
theorem image_ok {st s0 s1 : St} {kp : Int32} {g im kpm : Fn} {B : Nat} (h : Sys st s0 s1 kp g im kpm B) (k : Int32) : Sys st (xs_im0 st s0 k) (xs_im1 st s1 k) (xk_image kp k) g (ym_image g im k) (yk_image kpm k) B := by
  obtain ⟨T, hTB, hR, hI, hk, h0, h1⟩ := h
  by_cases c : pf_in k 0 1 = 0
  · have q := pf_in01 c
    rw [show xs_im0 st s0 k = s0 from if_neg q.1, show xs_im1 st s1 k = s1 from if_neg q.2, show xk_image kp k = kp from if_pos c, show ym_image g im k = im from if_pos c, show yk_image kpm k = kpm from if_pos c]
    exact ⟨T, hTB, hR, hI, hk, h0, h1⟩
  · obtain ⟨j, hj, rfl⟩ := in_nI (b := 1) (by decide) c
    rw [show xk_image kp (nI j) = kp ||| xb (nI j) from if_neg c, show ym_image g im (nI j) = mf_sv im g j 555 by rw [ym_image, if_neg c, nI_clamp (by omega)], show yk_image kpm (nI j) = upd kpm j 1 by rw [yk_image, if_neg c, nI_clamp (by omega)]]
    match j, hj with
    | 0, _ =>
      rw [show xs_im0 st s0 (nI 0) = st from if_pos nI_0, show xs_im1 st s1 (nI 0) = s1 from if_neg (by decide)]
      refine ⟨T, hTB, hR, hI, ?_, Or.inr ⟨T, hTB, hR.cg (sl_same im g 0), hI.cg (sl_same im g 0)⟩, ?_⟩
      · rw [pk_us, pk_un (by decide), hk]
        exact kp_or0 (kpm 0) (kpm 1)
      · rw [pk_un (by decide)]
        refine h1.imp id ?_
        rintro ⟨T1, a, b, c⟩; exact ⟨T1, a, b.cg (sl_diff im g (by decide)), c.cg (sl_diff im g (by decide))⟩
    | 1, _ =>
      rw [show xs_im0 st s0 (nI 1) = s0 from if_neg (by decide), show xs_im1 st s1 (nI 1) = st from if_pos (by decide)]
      refine ⟨T, hTB, hR, hI, ?_, ?_, Or.inr ⟨T, hTB, hR.cg (sl_same im g 1), hI.cg (sl_same im g 1)⟩⟩
      · rw [pk_us, pk_un (by decide), hk]
        exact kp_or1 (kpm 0) (kpm 1)
      · rw [pk_un (by decide)]
        refine h0.imp id ?_
        rintro ⟨T1, a, b, c⟩; exact ⟨T1, a, b.cg (sl_diff im g (by decide)), c.cg (sl_diff im g (by decide))⟩
    | j + 2, hj => omega
theorem ld_sl (g im : Fn) (t : Nat) : ∀ j, j < 555 → sl im t j = mf_ld g im t 555 j := by
  intro j hj
  unfold sl mf_ld
  rw [if_pos hj]
theorem rest_ok {st s0 s1 : St} {kp : Int32} {g im kpm : Fn} {B : Nat} (h : Sys st s0 s1 kp g im kpm B) (k : Int32) : xf_rest kp k = yf_rest kpm k ∧ Sys (xs_rest st s0 s1 kp k) s0 s1 kp (yg_rest g im kpm k) im kpm B := by
  have hh := h
  obtain ⟨T, hTB, hR, hI, hk, h0, h1⟩ := h
  by_cases c : pf_in k 0 1 = 0
  · rw [show xs_rest st s0 s1 kp k = st from if_pos c, show yg_rest g im kpm k = g from if_pos c, show xf_rest kp k = -2 from if_pos c, show yf_rest kpm k = -2 from if_pos c]
    exact ⟨rfl, hh⟩
  · obtain ⟨j, hj, rfl⟩ := in_nI (b := 1) (by decide) c
    unfold xs_rest yg_rest xf_rest yf_rest
    rw [if_neg c, if_neg c, if_neg c, if_neg c, nI_clamp (by omega)]
    match j, hj with
    | 0, _ =>
      have q : kp &&& xb (nI 0) = 0 ↔ kpm 0 = 0 := by rw [hk]; exact kp_and0 _ _
      by_cases d : kpm 0 = 0
      · rw [if_pos (q.mpr d), if_pos (q.mpr d), if_pos d, if_pos d]; exact ⟨rfl, hh⟩
      · have d2 : ¬ kp &&& xb (nI 0) = 0 := fun z => d (q.mp z)
        rw [if_neg d2, if_neg d2, if_neg d, if_neg d, if_pos nI_0]
        obtain ⟨T0, a, b, e⟩ := h0.resolve_left d
        exact ⟨rfl, T0, a, b.cg (ld_sl g im 0), e.cg (ld_sl g im 0), hk, Or.inr ⟨T0, a, b, e⟩, h1⟩
    | 1, _ =>
      have q : kp &&& xb (nI 1) = 0 ↔ kpm 1 = 0 := by rw [hk]; exact kp_and1 _ _
      by_cases d : kpm 1 = 0
      · rw [if_pos (q.mpr d), if_pos (q.mpr d), if_pos d, if_pos d]; exact ⟨rfl, hh⟩
      · have d2 : ¬ kp &&& xb (nI 1) = 0 := fun z => d (q.mp z)
        rw [if_neg d2, if_neg d2, if_neg d, if_neg d, if_neg (show ¬ nI 1 = 0 by decide)]
        obtain ⟨T1, a, b, e⟩ := h1.resolve_left d
        exact ⟨rfl, T1, a, b.cg (ld_sl g im 1), e.cg (ld_sl g im 1), hk, h0, Or.inr ⟨T1, a, b, e⟩⟩
    | j + 2, hj => omega
/-- the beginning -/
theorem sys_0 : Sys st00 st00 st00 0 g00 (fun _ => 0) (fun _ => 0) 0 := by
  have z : ∀ j, 2 ≤ j → g00 j = 0 := fun j h => by unfold g00; rw [pk_un (by omega), pk_un (by omega)]
  have n0 : nb 0 = 0 := rfl
  refine ⟨0, Nat.le_refl 0, ⟨rfl, ?_, ?_, ?_, ?_, ?_, ?_, ?_, ?_, ?_, ?_, ?_⟩, ⟨?_, ?_, ?_, ?_, ?_, ?_, ?_, ?_, ?_, ?_⟩, by decide, Or.inl rfl, Or.inl rfl⟩
  · rw [z 24 (by decide)]; rfl
  · intro j hj
    match j, hj with
    | 0, _ => rfl
    | 1, _ => rfl
    | 2, _ => rfl
    | 3, _ => rfl
    | 4, _ => rfl
    | j + 5, hj => omega
  · intro j hj; rw [z _ (by omega)]; rfl
  · intro j hj; rw [z _ (by omega)]; rfl
  · rw [z 22 (by decide)]; rfl
  · rw [z 23 (by decide)]; rfl
  · intro j hj; rw [z _ (by omega)]; rfl
  · intro j hj; rw [z _ (by omega)]; rfl
  · intro j hj; rw [z _ (by omega)]; rfl
  · intro j hj; rw [z _ (by omega)]; rfl
  · intro j hj; rw [z (153 + j) (by omega), z (354 + j) (by omega)]; rfl
  · decide
  · exact ⟨0, by decide, by rw [z 3 (by decide)]; rfl⟩
  · exact ⟨0, by decide, by rw [z 4 (by decide)]; rfl⟩
  · exact ⟨0, by decide, by rw [z 21 (by decide)]; rfl⟩
  · exact ⟨0, by decide, by rw [z 23 (by decide)]; rfl⟩
  · intro k hk; rw [z _ (by omega)]; exact ⟨by decide, by decide⟩
  · intro j hj; rw [z _ (by omega), n0]; exact Nat.zero_le _
  · intro j hj; rw [z _ (by omega), n0]; exact Nat.zero_le _
  · intro j hj; rw [z _ (by omega), n0]; exact Nat.zero_le _
  · intro j hj; rw [z (153 + j) (by omega), z (354 + j) (by omega)]; exact ⟨Or.inl rfl, Or.inl rfl⟩
