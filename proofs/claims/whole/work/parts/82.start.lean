theorem tb_in {w : Cond} (i : Nat) (h : tables_1[i]? = some w) : w ∈ lw_tbl := List.mem_append_right _ (List.mem_of_getElem? h)
theorem ra_slots {cell : Cell} {cA : ClassId} {f : Fn} {n : Nat} (hz : cell.slots.size = n) (hv : ∀ j, j < n → cell.slots[j]? = some (.int (f j))) : cell.slots = (vp_cell cA (n, .inl f)).slots := by
  refine Array.ext_getElem? (fun j => ?_)
  by_cases hj : j < n
  · rw [hv j hj, vp_cell_i, arrV_read _ _ hj]
  · rw [Array.getElem?_eq_none (by omega), Array.getElem?_eq_none (by rw [vp_cell_i, arrV_size]; omega)]
theorem ra_size {args : Array Value} {s : State} {tm : Term} {n a : Nat} {cell : Cell} (hn : n < 2 ^ 31) (hlen : (Term.length tm).eval args s none [] s = some (.int (Int32.ofNat n))) (ht : tm.eval args s none [] s = some (.ref a)) (hc : s.heap[a]? = some cell) : cell.slots.size = n := by
  obtain ⟨a2, cell2, h1, h2, h3⟩ := Term.length_spec hlen
  cases ht.symm.trans h1
  obtain ⟨h4, -, -, -⟩ := State.arrayAt?_spec h2
  cases hc.symm.trans h4
  have hsz : cell.slots.size < 2 ^ 31 := by
    simp only [Term.eval, h1, h2, Option.bind_eq_bind, Option.bind_some] at hlen
    by_cases hlt : cell.slots.size < 2147483648
    · exact hlt
    · simp [hlt] at hlen
  have h5 : nI n = nI cell.slots.size := Value.int.inj h3
  exact ((nI_eq (by omega) (by omega)).mp h5).symm
set_option maxHeartbeats 8000000 in
set_option maxRecDepth 100000 in
/-- THE LAW, from its entry -/
theorem whole_start {p : Program} {e : Env} {s : State} {m : MethodId} {below : List Frame} {meth : Method} {c : Code} (l : Launch) (hflags : l.flags = flags0) {b L : Nat} {xs : Nat → Int32} (hL : L ≤ 2048) (C0 : lw_At p s m meth c b L xs) : W p l e room_1 s m #[Value.ref b] below meth c s.heap [] 0 0 (lw_Z below #[Value.ref b] s) (entryFrame m ([Value.ref b] : List Value).toArray 4) := by
  obtain ⟨hx, hb, hr, hml, hown, hts0, hX, hbl, hlocks, hgv⟩ := id C0
  have hts : ∀ w ∈ wsL_law, w.before #[Value.ref b] s = true := fun w h => hts0 w (wsL_law_in w h)
  have hown : s.vm.findClass RL = some m.cls := hown
  have hb : c.code = cL_law := hb
  have hA : ∀ q : Nat, s.heap.size ≤ q → (fun q : Nat => s.heap.size ≤ q) q := fun _ h => h
  have hAn : ∀ a : Nat, a < s.heap.size → ¬ (fun q : Nat => s.heap.size ≤ q) a := fun a h => Nat.not_le.mpr h
  have hs := flat_of_before _ hgv
  -- the classes
  obtain ⟨c0, i0, k0⟩ := u_known (C := RX0) (T := TX0) (N := 11) (n := 11) hts inlX0 (hts (.instantiable RX0 11) (by decide +kernel))
  obtain ⟨c1, i1, k1⟩ := u_known (C := RX1) (T := TX1) (N := 4) (n := 4) hts inlX1 (hts (.instantiable RX1 4) (by decide +kernel))
  obtain ⟨c2, i2, k2⟩ := u_known (C := RX2) (T := TX2) (N := 3) (n := 3) hts inlX2 (hts (.instantiable RX2 3) (by decide +kernel))
  obtain ⟨D, hKc⟩ : ∃ D : va_G, ∀ (k : Nat) (q : vw_C), vwCl[k]? = some q → u_Kn s q.1 q.2.1 q.2.2 (D.1 k) (D.2 k) := by
    refine ⟨(fun k => if k = 0 then c0 else if k = 1 then c1 else c2, fun k => if k = 0 then i0 else if k = 1 then i1 else i2), ?_⟩
    intro k q hq
    match k, hq with
    | 0, hq => cases hq; exact k0
    | 1, hq => cases hq; exact k1
    | 2, hq => cases hq; exact k2
    | k + 3, hq => simp [vwCl] at hq
  obtain ⟨cA, kA, compA, a1, a2, a3⟩ := Cond.arrayClass_spec (hts0 (.arrayClass .int) (tb_in 70 (by decide +kernel)))
  obtain ⟨cZ, kZ, compZ, z1, z2, z3⟩ := Cond.arrayClass_spec (hts0 (.arrayClass .boolean) (tb_in 319 (by decide +kernel)))
  obtain ⟨compR, cR, kR, x1, x2, x3, x4, x5⟩ := Cond.arrayOver_spec (hts0 (.arrayOver (.object RX0)) (tb_in 71 (by decide +kernel)))
  have hK : va_K D vwCl [(cA, .int), (cZ, .boolean), (cR, .object RX0)] s := by
    refine ⟨hKc, fun k q hq => ?_⟩
    match k, hq with
    | 0, hq => cases hq; exact ⟨fun n z => ⟨fun k h => (by cases h), kA, a2, compA, a3⟩, a1⟩
    | 1, hq => cases hq; exact ⟨fun n z => ⟨fun k h => (by cases h), kZ, z2, compZ, z3⟩, z1⟩
    | 2, hq => cases hq; exact ⟨fun n z => ⟨fun k h => (by cases h), kR, x3, compR, x4⟩, kR, compR, x3, x4, x1, x5⟩
    | k + 3, hq => simp at hq
  have hE : EK D cA cZ cR s := ⟨hK, va_Nw.of rfl (hts0 (.methodLinkNest RX0 97 yX1_limited "EchoTaps") (tb_in 165 (by decide +kernel))), va_Nw.of rfl (hts0 (.methodLinkNest RX0 132 yX1_nextSeed "EchoTaps") (tb_in 172 (by decide +kernel))), va_Nw.of rfl (hts0 (.methodLinkNest RX0 135 yX1_centred "EchoTaps") (tb_in 176 (by decide +kernel)))⟩
  have hC : CK D cA cZ cR s := ⟨hE, va_Nw.of rfl (hts0 (.castable "[I" "java/lang/Cloneable") (tb_in 27 (by decide +kernel))), va_Nw.of rfl (hts0 (.fieldLinkNest RX0 9 "EchoTaps" "RULES_AT_FIRST" "[I" "EchoTaps") (tb_in 20 (by decide +kernel))), va_AO.of (hts0 (.arrayOver (.object RX0)) (tb_in 71 (by decide +kernel)))⟩
  have ql : (Term.length (.static "EchoTaps" "RULES_MOST" "[I")).eval #[Value.ref b] s none [] s = some (.int (Int32.ofNat 5)) := va_eqt (hs (.eq (.length (.static "EchoTaps" "RULES_MOST" "[I")) (.int 5)) (by decide +kernel))
  have qe : ∀ j : Nat, j < 5 → (Term.elem (.static "EchoTaps" "RULES_MOST" "[I") (.int (Int32.ofNat j))).eval #[Value.ref b] s none [] s = some (.int (pf_most (nI j))) := by
    intro j hj
    match j, hj with
    | 0, _ => exact va_eqt (hs (.eq (.elem (.static "EchoTaps" "RULES_MOST" "[I") (.int 0)) (.int 1024)) (by decide +kernel))
    | 1, _ => exact va_eqt (hs (.eq (.elem (.static "EchoTaps" "RULES_MOST" "[I") (.int 1)) (.int 20)) (by decide +kernel))
    | 2, _ => exact va_eqt (hs (.eq (.elem (.static "EchoTaps" "RULES_MOST" "[I") (.int 2)) (.int 500)) (by decide +kernel))
    | 3, _ => exact va_eqt (hs (.eq (.elem (.static "EchoTaps" "RULES_MOST" "[I") (.int 3)) (.int 50)) (by decide +kernel))
    | 4, _ => exact va_eqt (hs (.eq (.elem (.static "EchoTaps" "RULES_MOST" "[I") (.int 4)) (.int 15)) (by decide +kernel))
    | j + 5, hj => omega
  obtain ⟨qt, qv, qT⟩ := va_Tof (N := 5) (f := fun j => .int (pf_most (nI j))) (A := fun q : Nat => s.heap.size ≤ q) (by decide) (hs (.arrayOf (.static "EchoTaps" "RULES_MOST" "[I") .int) (by decide +kernel)) ql qe hAn
  have qZ := va_Zof (hts0 (.laysStatic "EchoTaps" "RULES_MOST" "[I") (tb_in 93 (by decide +kernel))) (hts (.initialized RX1) (by decide +kernel)) qv hAn
  have rl : (Term.length (.static "EchoTaps" "RULES_AT_FIRST" "[I")).eval #[Value.ref b] s none [] s = some (.int (Int32.ofNat 5)) := va_eqt (hs (.eq (.length (.static "EchoTaps" "RULES_AT_FIRST" "[I")) (.int 5)) (by decide +kernel))
  have re : ∀ j : Nat, j < 5 → (Term.elem (.static "EchoTaps" "RULES_AT_FIRST" "[I") (.int (Int32.ofNat j))).eval #[Value.ref b] s none [] s = some (.int (rf0 j)) := by
    intro j hj
    match j, hj with
    | 0, _ => exact va_eqt (hs (.eq (.elem (.static "EchoTaps" "RULES_AT_FIRST" "[I") (.int 0)) (.int 512)) (by decide +kernel))
    | 1, _ => exact va_eqt (hs (.eq (.elem (.static "EchoTaps" "RULES_AT_FIRST" "[I") (.int 1)) (.int 5)) (by decide +kernel))
    | 2, _ => exact va_eqt (hs (.eq (.elem (.static "EchoTaps" "RULES_AT_FIRST" "[I") (.int 2)) (.int 0)) (by decide +kernel))
    | 3, _ => exact va_eqt (hs (.eq (.elem (.static "EchoTaps" "RULES_AT_FIRST" "[I") (.int 3)) (.int 0)) (by decide +kernel))
    | 4, _ => exact va_eqt (hs (.eq (.elem (.static "EchoTaps" "RULES_AT_FIRST" "[I") (.int 4)) (.int 0)) (by decide +kernel))
    | j + 5, hj => omega
  obtain ⟨rt, rv, rT⟩ := va_Tof (N := 5) (f := fun j => .int (rf0 j)) (A := fun q : Nat => s.heap.size ≤ q) (by decide) (hs (.arrayOf (.static "EchoTaps" "RULES_AT_FIRST" "[I") .int) (by decide +kernel)) rl re hAn
  have rZ := va_Zof (hts0 (.laysStatic "EchoTaps" "RULES_AT_FIRST" "[I") (tb_in 21 (by decide +kernel))) (hts (.initialized RX1) (by decide +kernel)) rv hAn
  have hQ : RQ qt (fun q : Nat => s.heap.size ≤ q) s s.heap := ⟨qZ, qT⟩
  have hRA : RA rt cA (fun q : Nat => s.heap.size ≤ q) s s.heap := by
    refine ⟨rZ, ?_⟩
    obtain ⟨cell, t1, t2, t3, t4, t5, t6, t7⟩ := rT
    obtain ⟨a, cx, cell2, kx, w1, w2, w3, w4, w5, w6, -⟩ := Cond.exactly_spec (hs (.exactly (.static "EchoTaps" "RULES_AT_FIRST" "[I") "[I") (by decide +kernel))
    cases rv.symm.trans w1
    cases t1.symm.trans w3
    have hnm : s.vm.findClass "[I" = some cA := a1
    cases hnm.symm.trans w2
    exact ⟨cell, t1, t2.1, t3, w6, ra_slots (ra_size (by decide) rl rv t1) t6, t7⟩
  have hS : va_S (fun q : Nat => s.heap.size ≤ q) s.heap s.heap [] := va_S.rf
  have hP : va_P D vwCl [] s.heap := fun k q h => by simp at h
  have hD : va_D (fun q : Nat => s.heap.size ≤ q) [] := ⟨fun i j p q h => by simp at h, fun k q h => by simp at h⟩
  have hl := lv_entry ([.ref b]) (n := 4) (Nat.le_of_ble_eq_true rfl)
  rw [lg_entry_eq]
  generalize (lg_sl ([.ref b]) ++ List.replicate (4 - (lg_sl ([.ref b])).length) Slot.unset).toArray = ls at hl ⊢
  have hl : lv_has ls 4 [(0, .ref b)] := hl
  refine va_new (ci := 1) (fs := X0v) (C := RX1) (T := TX1) (N := 4) hx hb hts inlX1 tyX1 tyX1_ok hown (hts (.classLink RL 7 RX1) (by decide +kernel)) (hts (.instantiable RX1 4) (by decide +kernel)) (hts (.initialized RX1) (by decide +kernel)) hK hP hD hS hA rfl (fun j hj => by rcases (show j = 0 ∨ j = 1 ∨ j = 2 ∨ j = 3 by omega) with rfl | rfl | rfl | rfl <;> rfl) (Nat.le_of_ble_eq_true rfl) (Nat.le_of_ble_eq_true rfl) dL_law_0 (fun ob H hP hD hS => ?_)
  have hP : va_P D vwCl [(ob, .inr (1, X0v))] H := hP
  have hD : va_D (fun q : Nat => s.heap.size ≤ q) [(ob, .inr (1, X0v))] := hD
  refine W.widen (k := 1) (n := 4) (Nat.le_of_ble_eq_true rfl) (Nat.le_of_ble_eq_true rfl) ?_
  refine lv_dup hx hb dL_law_3 rfl ?_
  have hFc := va_free (wc := [(ob, .inr (1, X0v))]) hD hS hA [0] rfl
  have hRc := (hRA.kept hS.2.1).narrow hFc
  have hPc := hP
  have hDc := hD
  refine va_callv (va_runI (As := []) (rest := [.ref ob]) ⟨hx, hb, hml, hown, hts⟩ (c_X1_init l D cA cZ cR rt ob H.size) (cwI 0 hts gL_law_X1_init rfl rfl rfl (hts (.initialized RX1) (by decide +kernel)) (hts (.methodLink RL 9 yX1_init) (by decide +kernel)) (hts (.instanceMethod yX1_init) (by decide +kernel)) rfl (by decide +kernel) ⟨(Nat.le_of_ble_eq_true rfl), (Nat.le_of_ble_eq_true rfl)⟩) ⟨PI.blind, fun U hU hW => ⟨rfl, by rw [hU], by rw [hU]; exact hPc, hC.warm hW, hDc.weaken (fun _ _ _ _ => trivial), by rw [hU]; exact hRc.moved hW.alike⟩⟩ rfl rfl hl.1 rfl (lv_room (Nat.le_of_ble_eq_true rfl)) dL_law_4 ⟨(Nat.le_of_ble_eq_true rfl), (Nat.le_of_ble_eq_true rfl)⟩) hS (fun q _ h => hFc q h) hFc (fun _ tt H1 locs ht hvm hw hB hz1 hk1 hS => ?_)
  obtain ⟨h, as, t, as2, ia, h0, a0, h1, a1v, hP1, hD1⟩ := hB
  rw [ht] at hP1
  obtain ⟨hP, hD⟩ := va_join (wr := []) (w1 := EW cA cR ob h as st00 t as2 st00 ia h0 a0 st00 h1 a1v st00 0) hP hD [0] [] rfl rfl (by decide) (by decide) hk1 hFc hP1 hD1
  generalize H1 = H at hP hS ⊢
  have hP : va_P D vwCl (EW cA cR ob h as st00 t as2 st00 ia h0 a0 st00 h1 a1v st00 0) H := hP
  have hD : va_D (fun q : Nat => s.heap.size ≤ q) (EW cA cR ob h as st00 t as2 st00 ia h0 a0 st00 h1 a1v st00 0) := hD
  refine W.widen (k := 38) (n := 1962) (Nat.le_of_ble_eq_true rfl) (Nat.le_of_ble_eq_true rfl) ?_
  refine lv_astore_n (lv' := [(1, .ref ob), (0, .ref b)]) hx hb dL_law_7 rfl hl (by decide) rfl (fun ls hl => ?_)
  refine va_new (ci := 2) (fs := M0) (C := RX2) (T := TX2) (N := 3) hx hb hts inlX2 tyX2 tyX2_ok hown (hts (.classLink RL 10 RX2) (by decide +kernel)) (hts (.instantiable RX2 3) (by decide +kernel)) (hts (.initialized RX2) (by decide +kernel)) hK hP hD hS hA rfl (fun j hj => by rcases (show j = 0 ∨ j = 1 ∨ j = 2 by omega) with rfl | rfl | rfl <;> rfl) (Nat.le_of_ble_eq_true rfl) (Nat.le_of_ble_eq_true rfl) dL_law_8 (fun hm H hP hD hS => ?_)
  refine W.widen (k := 39) (n := 1965) (Nat.le_of_ble_eq_true rfl) (Nat.le_of_ble_eq_true rfl) ?_
  refine lv_dup hx hb dL_law_11 rfl ?_
  have hPc : va_P D vwCl [(hm, .inr (2, M0))] H := hP.sub [38] rfl
  have hDc : va_D (fun q : Nat => s.heap.size ≤ q) [(hm, .inr (2, M0))] := hD.sub [38] (by decide) rfl
  have hFc := va_free (wc := [(hm, .inr (2, M0))]) hD hS hA [38] rfl
  refine va_callv (va_runI (As := []) (rest := [.ref hm]) ⟨hx, hb, hml, hown, hts⟩ (c_X2_init l D cA cZ cR hm H.size) (cwI 0 hts gL_law_X2_init rfl rfl rfl (hts (.initialized RX2) (by decide +kernel)) (hts (.methodLink RL 12 yX2_init) (by decide +kernel)) (hts (.instanceMethod yX2_init) (by decide +kernel)) rfl (by decide +kernel) ⟨(Nat.le_of_ble_eq_true rfl), (Nat.le_of_ble_eq_true rfl)⟩) ⟨PB.blind, fun U hU hW => ⟨rfl, by rw [hU], by rw [hU]; exact hPc, hE.warm hW, hDc.weaken (fun _ _ _ _ => trivial)⟩⟩ rfl rfl hl.1 rfl (lv_room (Nat.le_of_ble_eq_true rfl)) dL_law_12 ⟨(Nat.le_of_ble_eq_true rfl), (Nat.le_of_ble_eq_true rfl)⟩) hS (fun q _ h => hFc q h) hFc (fun am tt H1 locs ht hvm hw hB hz1 hk1 hS => ?_)
  obtain ⟨hP1, hD1⟩ := hB
  rw [ht] at hP1
  obtain ⟨hP, hD⟩ := va_join (wr := EW cA cR ob h as st00 t as2 st00 ia h0 a0 st00 h1 a1v st00 0) (w1 := MW cA cZ hm am g00 (fun _ => 0) (fun _ => 0)) hP hD [38] [0, 1, 2, 3, 4, 5, 6, 7, 8, 9, 10, 11, 12, 13, 14, 15, 16, 17, 18, 19, 20, 21, 22, 23, 24, 25, 26, 27, 28, 29, 30, 31, 32, 33, 34, 35, 36, 37] rfl rfl (by decide) (by decide) hk1 hFc hP1 hD1
  generalize H1 = H at hP hS ⊢
  have hP : va_P D vwCl (WL cA cZ cR ob h as st00 t as2 st00 ia h0 a0 st00 h1 a1v st00 0 hm am g00 (fun _ => 0) (fun _ => 0)) H := hP
  have hD : va_D (fun q : Nat => s.heap.size ≤ q) (WL cA cZ cR ob h as st00 t as2 st00 ia h0 a0 st00 h1 a1v st00 0 hm am g00 (fun _ => 0) (fun _ => 0)) := hD
  refine W.widen (k := 600000) (n := 7302250) (Nat.le_of_ble_eq_true rfl) (Nat.le_of_ble_eq_true rfl) ?_
  refine lv_astore_n (lv' := [(2, .ref hm), (1, .ref ob), (0, .ref b)]) hx hb dL_law_15 rfl hl (by decide) rfl (fun ls hl => ?_)
  refine lv_iconst (v := 0) hx hb dL_law_16 (by decide) ?_
  refine lv_istore_n (lv' := [(3, .int 0), (2, .ref hm), (1, .ref ob), (0, .ref b)]) hx hb dL_law_17 rfl hl (by decide) rfl (fun ls hl => ?_)
  exact law_loop hL C0 hE hQ L 0 (by omega) (by decide) st00 st00 st00 st00 0 g00 (fun _ => 0) (fun _ => 0) sys_0 H locs hP hD hS ls (lv_sub hl [3, 2, 1, 0] rfl)
set_option maxHeartbeats 4000000 in
theorem lw_walk (l : Launch) (hflags : l.flags = flags0) (b : Addr) (xs : List Int32) : MetFree l x (headSpec (Jvm.Cond.code x code maxLocals ret :: tables_1) room_1) (lw_P b xs) (fun _ _ _ _ _ => True) lw_Q := by
  refine MetFree.of_bodyS (code := code) (maxLocals := maxLocals) (ret := ret) (by decide) ?_ ?_
  · intro args s m h hn
    obtain ⟨meth, c, h1, h2, h3, h4, h5, h6, -, -⟩ := Cond.code_spec hn (atoms_spec (ws := Jvm.Cond.code x code maxLocals ret :: tables_1) h _ List.mem_cons_self)
    exact ⟨meth, c, h1, h2, h3, h4, h5, h6⟩
  · intro p e s m args below meth c s₁ B hml0 hP _
    obtain ⟨rfl, hx, hbd, hgv⟩ := hP
    obtain ⟨scr, harrAt, hlist, hof, hsmall⟩ := hx
    obtain ⟨hcb, hkn, -, -⟩ := State.arrayAt?_spec harrAt
    have hown : s.vm.findClass R_law = some m.cls := findClass_of_methodNamed B.named
    have hts0 : ∀ c ∈ (Jvm.Cond.code x code maxLocals ret :: tables_1), c.before #[Value.ref b] s = true := atoms_spec (ws := Jvm.Cond.code x code maxLocals ret :: tables_1) B.pre
    have hts : ∀ w ∈ lw_tbl, w.before #[Value.ref b] s = true := k2_hts_sels lw_privs (fun w hw => hts0 w (List.mem_cons_of_mem _ hw)) lw_privs_ok
    have hml : c.maxLocals = 4 := B.maxLocals_eq (hts0 _ List.mem_cons_self)
    have X₀ : Stand p l e room_1 s m #[Value.ref b] below meth c s₁ [] 0 0 := Stand.of_body B
    have hh0 : s₁.heap = s.heap := by rw [B.state]; rfl
    have hsz : scr.slots.size = xs.length := by rw [← Array.length_toList, hlist, List.length_map]
    have hval : ∀ j : Nat, j < xs.length → scr.slots[j]? = some (.int (xs.getD j 0)) := fun j hj => by
      rw [← Array.getElem?_toList, hlist]
      simp [hj]
    have hbl : b < s.heap.size := (Array.getElem?_eq_some_iff.mp hcb).1
    have hX : va_X b xs.length (fun j => xs.getD j 0) s s.heap := ⟨scr, hcb, hof, hkn, hsz, hval⟩
    have K : W p l e room_1 s m #[Value.ref b] below meth c s₁.heap [] 0 0 (lw_Z below #[Value.ref b] s) (entryFrame m ([Value.ref b] : List Value).toArray 4) := by
      rw [hh0]
      exact whole_start l hflags hbd ⟨B.exec, B.bytes, B.returns, hml, hown, hts, hX, hbl, B.notSynchronized, hgv⟩
    obtain ⟨t, a1, o, b1, b2, b3⟩ := K s₁ rfl X₀
    exact ⟨t, o, a1, b1, b2, b3⟩
theorem lw_pre_spec {args : Array Value} {s : State} (h : (Jvm.Cond.and given_1 narrow_1).before args s = true) (hr : rest_1_c.before args s = true) : ∃ (b : Addr) (xs : List Int32), lw_P b xs args s := by
  have hs := flat_of_before _ h
  have hq := flat_of_before _ hr
  have hc : (Cond.count 1).before args s = true := hs _ (by decide +kernel)
  have harr : (Cond.arrayOf (.arg 0) .int).before args s = true := hs _ (by decide +kernel)
  have hle : (Cond.le (.length (.arg 0)) (.int 2048)).before args s = true := hs _ (by decide +kernel)
  have hlen : (Cond.isInt (.length (.arg 0))).before args s = true := hq _ (by decide +kernel)
  have hall : (Cond.all (.arg 0) (.isInt (.elem (.arg 0) (.index 0)))).before args s = true := hq _ (by decide +kernel)
  obtain ⟨b, xs, hb, hx⟩ := State.ints_of_pre rfl harr hlen hall
  have hsm : xs.length < 2 ^ 31 := hx.choose_spec.2.2.2
  have hev : (Term.length (.arg 0)).eval args s none [] s = some (.int xs.length.toInt32) := hx.length_eval hb
  have hv := Cond.le_ints hev (show (Term.int 2048).eval args s none [] s = some (.int 2048) from rfl)
  have hd : xs.length.toInt32 ≤ 2048 := by
    simpa [Cond.before, Cond.holds, hv] using hle
  have hN : xs.length ≤ 2048 := (Int32.ofNat_le_ofNat hsm (by decide)).mp (show Int32.ofNat xs.length ≤ Int32.ofNat 2048 from hd)
  exact ⟨b, xs, Cond.one_arg hc (show args[0]? = some (.ref b) from hb), hx, hN, h⟩
theorem lw_comes (l : Launch) (hflags : l.flags = flags0) : Comes l x (Jvm.Cond.code x code maxLocals ret :: tables_1) room_1 (fun tb e args s => Calls_1 tb e args s ∧ rest_1 tb e args s ∧ Pre_1 tb e args s)
    (fun _ _ args s o t => lw_Q args s o t) := by
  intro p e ha hc hk s m args below hf hfit hheap happ hpre
  obtain ⟨b, xs, hP⟩ := lw_pre_spec hpre.2.2 hpre.2.1
  obtain ⟨k, o, h1, h2, h3, hQ⟩ := lw_walk l hflags b xs p e ha hc hk s m args below hf ((Spec.applies_iff_loose hf).mp happ).1 hP trivial
  exact ⟨k, o, h1, h2, h3, hQ⟩
theorem lw_frame {s t : State} {o : Outcome} {args : Array Value} (h : Framed s o t [] 600000 7302250) :
    Framed s o t (fieldLocs frame_1_writes args s ++ arrayLocs frame_1_arrays args s ++ staticLocs frame_1_statics s) 600000 7302250 := h
theorem lw_limb (L : Cond) (hL : ∀ (args : Array Value) (s t : State), L.after args s (.returned (some (.int 1))) t = true) :
    ArmFor flags0 classFile x code maxLocals ret World_1 tables_1 room_1 Calls_1 rest_1 Pre_1
      (fun tb e a s o t => postC L tb e a s o t ∧ Framed s o t (fieldLocs frame_1_writes a s ++ arrayLocs frame_1_arrays a s ++ staticLocs frame_1_statics s) 600000 7302250) := by
  intro l hflags _ _ p e ha hc hk s m args below hf hfit hheap happ hpre
  obtain ⟨k, o, h1, h2, h3, rfl, hF⟩ := lw_comes l hflags p e ha hc hk s m args below hf hfit hheap happ hpre
  exact ⟨k, _, h1, h2, h3, hL args s _, lw_frame hF⟩
theorem i_vc : Claimed_1_1 ∧ Claimed_1_2 := ⟨lw_limb limb_1_1 (fun args s t => by simp [limb_1_1, Cond.after, Cond.holds, Cond.value]), lw_limb limb_1_2 (fun args s t => Cond.after_iff.mpr (by
  first | (rw [show limb_1_2 = Cond.eq .result (.int 1) from rfl, Cond.eq_ints (x := 1) (y := 1) rfl rfl]; simp; done) | (simp [limb_1_2, Cond.value, Term.eval]; done)))⟩
