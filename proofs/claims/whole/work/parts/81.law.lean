def R_law : String := "EchoTapsLaw"
def lw_P (b : Addr) (xs : List Int32) (args : Array Value) (s : State) : Prop := args = #[.ref b] ∧ s.IntsAt b xs ∧ xs.length ≤ 2048 ∧ (Jvm.Cond.and given_1 narrow_1).before args s = true
def lw_Q (_ : Array Value) (s : State) (o : Outcome) (t : State) : Prop := o = .returned (some (.int 1)) ∧ Framed s o t [] 600000 7302250
def lw_Z (below : List Frame) (a : Array Value) (s : State) : State → Prop := fun t => ∃ o, t.status = .running ∧ Ended t below o ∧ lw_Q a s o t
/-- the law's own end, with 1 on the stack, nothing written that was there before, its room as the claim has it -/
theorem lw_ret {p : Program} {l : Launch} {e : Env} {s : State} {m : MethodId} {below : List Frame} {meth : Method} {c : Code} {b : Nat} (hx : p.tables.exec = Jvm.exec) (hb : c.code = code) (hr : meth.sig.returnType = ret) (hlocks : meth.locks = false) {pc : Nat} {H : Heap} {ls : Array Slot} (hdg : decode code pc = .ok (.ireturn, 1)) : W p l e room_1 s m #[Value.ref b] below meth c H [] 600000 7302250 (lw_Z below #[Value.ref b] s) (F0 m pc ls [.int 1]) := by
  intro T hT X
  obtain ⟨fs, hret, hrun, hended, hW, hframe⟩ := X.leave (v := some (.int 1)) (hlocks := hlocks) (fun h => by rw [hr] at h; cases h)
  have hmeth' : T.vm.method? m = some meth := X.method'
  refine ⟨T.setFrames fs, ?_, .returned (some (.int 1)), hrun, hended, rfl, ⟨_, rfl⟩, hW, hframe⟩
  jvm_step X.here [X.here.top, hx, hb, hdg, hmeth', hr, ret, narrow_b1]
  (try refine ⟨rfl, ?_⟩); (try refine ⟨rfl, ?_⟩)
  first | (intro acts; rw [hret _ acts rfl rfl rfl]) | rw [hret _ _ rfl rfl rfl]
  exact Steps.refl _
/-- what holds at the law's entry: the machine, the code, the tables' words (any of lw_tbl by 'hts w (by decide +kernel)'), the script of L ints xs at the cell b, what the Statement gives of the start (any of its parts by flat_of_before) -/
def lw_At (p : Program) (s : State) (m : MethodId) (meth : Method) (c : Code) (b L : Nat) (xs : Nat → Int32) : Prop :=
  p.tables.exec = Jvm.exec ∧ c.code = code ∧ meth.sig.returnType = ret ∧ c.maxLocals = 4 ∧ s.vm.findClass R_law = some m.cls ∧ (∀ w ∈ lw_tbl, w.before #[Value.ref b] s = true) ∧ va_X b L xs s s.heap ∧ b < s.heap.size ∧ meth.locks = false ∧ (Jvm.Cond.and given_1 narrow_1).before #[Value.ref b] s = true
theorem ELW_adr {cA : ClassId} {ob h t i : Nat} {kp kp' : Int32} {as : Nat → Nat} {st st' : St} : ([EO ob h t i kp'] ++ (LW cA h as st')).map Prod.fst = ([EO ob h t i kp] ++ (LW cA h as st)).map Prod.fst := rfl
theorem ELLW_adr {cA : ClassId} {ob h t i : Nat} {kp kp' : Int32} {as as2 : Nat → Nat} {st st' st2 st2' : St} : ([EO ob h t i kp'] ++ ((LW cA h as st') ++ (LW cA t as2 st2'))).map Prod.fst = ([EO ob h t i kp] ++ ((LW cA h as st) ++ (LW cA t as2 st2))).map Prod.fst := rfl
theorem W5_adr {cA cR : ClassId} {ob h t i : Nat} {kp kp' : Int32} {as : Nat → Nat} {st st' : St} {h0 : Nat} {a0 : Nat → Nat} {s0 s0' : St} {h1 : Nat} {a1 : Nat → Nat} {s1 s1' : St} : ([EO ob h t i kp'] ++ ([AO cR i h0 h1] ++ ((LW cA h as st') ++ ((LW cA h0 a0 s0') ++ (LW cA h1 a1 s1'))))).map Prod.fst = ([EO ob h t i kp] ++ ([AO cR i h0 h1] ++ ((LW cA h as st) ++ ((LW cA h0 a0 s0) ++ (LW cA h1 a1 s1))))).map Prod.fst := rfl
abbrev WL (cA cZ cR : ClassId) (ob h : Nat) (as : Nat → Nat) (st : St) (t : Nat) (as2 : Nat → Nat) (st2 : St) (i h0 : Nat) (a0 : Nat → Nat) (s0 : St) (h1 : Nat) (a1 : Nat → Nat) (s1 : St) (kp : Int32) (hm : Nat) (am : Nat → Nat) (g im km : Fn) : va_W :=
  [EO ob h t i kp] ++ ((LW cA h as st) ++ ((LW cA t as2 st2) ++ ([AO cR i h0 h1] ++ ((LW cA h0 a0 s0) ++ ((LW cA h1 a1 s1) ++ (MW cA cZ hm am g im km))))))
set_option maxHeartbeats 8000000 in
set_option maxRecDepth 100000 in
/-- THE LAW'S LOOP -/
theorem law_loop {p : Program} {l : Launch} {e : Env} {s : State} {m : MethodId} {below : List Frame} {meth : Method} {c : Code} {D : va_G} {cA cZ cR : ClassId} {tq b L : Nat} {xs : Nat → Int32} (hL : L ≤ 2048) (C0 : lw_At p s m meth c b L xs) (hE : EK D cA cZ cR s) (hQ : RQ tq (fun q : Nat => s.heap.size ≤ q) s s.heap) {ob h : Nat} {as : Nat → Nat} {t : Nat} {as2 : Nat → Nat} {ia h0 : Nat} {a0 : Nat → Nat} {h1 : Nat} {a1 : Nat → Nat} {hm : Nat} {am : Nat → Nat} :
    ∀ (n i : Nat), L < i + 4 * (n + 1) → i ≤ 4096 → ∀ (st st2 s0 s1 : St) (kp : Int32) (g im km : Fn), Sys st s0 s1 kp g im km (15 * i) → ∀ (H : Heap) (locs : List Loc), va_P D vwCl (WL cA cZ cR ob h as st t as2 st2 ia h0 a0 s0 h1 a1 s1 kp hm am g im km) H → va_D (fun q : Nat => s.heap.size ≤ q) (WL cA cZ cR ob h as st t as2 st2 ia h0 a0 s0 h1 a1 s1 kp hm am g im km) → va_S (fun q : Nat => s.heap.size ≤ q) s.heap H locs → ∀ (ls : Array Slot), lv_has ls 4 [(0, .ref b), (1, .ref ob), (2, .ref hm), (3, .int (nI i))] → W p l e room_1 s m #[Value.ref b] below meth c H locs 600000 7302250 (lw_Z below #[Value.ref b] s) (F0 m 18 ls []) := by
  obtain ⟨hx, hb, hr, hml, hown, hts0, hX, hbl, hlocks, hgv⟩ := C0
  have hts : ∀ w ∈ wsL_law, w.before #[Value.ref b] s = true := fun w h => hts0 w (wsL_law_in w h)
  have hown : s.vm.findClass RL = some m.cls := hown
  have hb : c.code = cL_law := hb
  have hA : ∀ q : Nat, s.heap.size ≤ q → (fun q : Nat => s.heap.size ≤ q) q := fun _ h => h
  have hbA : ¬ (fun q : Nat => s.heap.size ≤ q) b := Nat.not_le.mpr hbl
  have e4 : (nI L - 4).toInt = (L : Int) - 4 := pk_sub_toInt (a := L) (b := 4) (by omega) (by decide)
  intro n
  induction n with
  | zero =>
    intro i hi1 hi2 st st2 s0 s1 kp g im km hSys H locs hP hD hS ls hl
    refine lv_iload_n hx hb dL_law_18 rfl (lv_at hl 3 rfl) ?_
    refine lv_aload_n hx hb dL_law_19 rfl (lv_at hl 0 rfl) ?_
    refine va_slen hx hb hX hbl hbA hS dL_law_20 ?_
    refine lv_iconst (v := 4) hx hb dL_law_21 (by decide) ?_
    refine lv_isub hx hb dL_law_22 ?_
    have hc : nI L - 4 < nI i := Int32.lt_iff_toInt_lt.mpr (by rw [e4, nI_toInt (by omega)]; omega)
    refine lv_icmp_gt (tgt := 576) hx hb dL_law_23 (by decide) (fun _ => ?_) (fun q => absurd hc q)
    refine lv_iconst (v := 1) hx hb dL_law_576 (by decide) ?_
    refine va_forget (fun q hq => hS.2.2 q hq) ?_
    exact lw_ret hx hb hr hlocks dL_law_577
  | succ n ih =>
    intro i hi1 hi2 st st2 s0 s1 kp g im km hSys H locs hP hD hS ls hl
    refine lv_iload_n hx hb dL_law_18 rfl (lv_at hl 3 rfl) ?_
    refine lv_aload_n hx hb dL_law_19 rfl (lv_at hl 0 rfl) ?_
    refine va_slen hx hb hX hbl hbA hS dL_law_20 ?_
    refine lv_iconst (v := 4) hx hb dL_law_21 (by decide) ?_
    refine lv_isub hx hb dL_law_22 ?_
    refine lv_icmp_gt (tgt := 576) hx hb dL_law_23 (by decide) (fun _ => ?_) (fun q => ?_)
    · refine lv_iconst (v := 1) hx hb dL_law_576 (by decide) ?_
      refine va_forget (fun q hq => hS.2.2 q hq) ?_
      exact lw_ret hx hb hr hlocks dL_law_577
    · have hlt : i + 4 ≤ L := by
        have q2 : ¬ (nI L - 4).toInt < (nI i).toInt := fun z => q (Int32.lt_iff_toInt_lt.mpr z)
        rw [e4, nI_toInt (by omega)] at q2
        omega
      have fin : ∀ (st st2 s0 s1 : St) (kp : Int32) (g im km : Fn), Sys st s0 s1 kp g im km (15 * (i + 4)) → ∀ (H : Heap) (locs : List Loc), va_P D vwCl (WL cA cZ cR ob h as st t as2 st2 ia h0 a0 s0 h1 a1 s1 kp hm am g im km) H → va_D (fun q : Nat => s.heap.size ≤ q) (WL cA cZ cR ob h as st t as2 st2 ia h0 a0 s0 h1 a1 s1 kp hm am g im km) → va_S (fun q : Nat => s.heap.size ≤ q) s.heap H locs → W p l e room_1 s m #[Value.ref b] below meth c H locs 600000 7302250 (lw_Z below #[Value.ref b] s) (F0 m 570 ls []) := by
        intro st st2 s0 s1 kp g im km hSys H locs hP hD hS
        refine lv_iinc (v := nI (i + 4)) (lv' := [(3, .int (nI (i + 4))), (0, .ref b), (1, .ref ob), (2, .ref hm)]) hx hb dL_law_570 hl (k := 3) rfl (show nI i + 4 = nI (i + 4) from nI_add i 4) (by decide) rfl (fun ls hl => ?_)
        refine lv_goto (tgt := 18) hx hb dL_law_573 (by decide) ?_
        exact ih (i + 4) (by omega) (by omega) st st2 s0 s1 kp g im km hSys H locs hP hD hS ls (lv_sub hl [1, 2, 3, 0] rfl)
      refine lv_aload_n hx hb dL_law_26 rfl (lv_at hl 0 rfl) ?_
      refine lv_iload_n hx hb dL_law_27 rfl (lv_at hl 3 rfl) ?_
      refine va_sld hx hb hX hbl hbA hS (vp_in_nI (n := i) (N := L) (by omega) (by omega)) dL_law_28 ?_
      refine lv_bipush (v := 15) hx hb dL_law_29 (by decide) ?_
      refine lv_iand hx hb dL_law_31 ?_
      obtain ⟨j, hj, ej⟩ := pk_andE (xs (nI i).toNatClampNeg) (m := 15) 4 rfl
      refine lv_ri ej ?_
      have hj : j < 16 := hj
      have hS0 := hSys
      obtain ⟨T, hTB, hR, hI, hk, hi0, hi1'⟩ := hSys
      clear ej
      have hT : T < 100000 := by omega
      match j, hj with
      | 0, _ =>
        refine lv_tableIn (tgt := 112) hx hb dL_law_32 (by decide) (by decide) (off := 80) rfl (by decide) ?_
        obtain ⟨y1, ey1⟩ : ∃ z : Int32, xs (nI (i + 1)).toNatClampNeg = z := ⟨_, rfl⟩
        obtain ⟨y2, ey2⟩ : ∃ z : Int32, xs (nI (i + 2)).toNatClampNeg = z := ⟨_, rfl⟩
        refine lv_aload_n hx hb dL_law_112 rfl (lv_at hl 1 rfl) ?_
        refine lv_aload_n hx hb dL_law_113 rfl (lv_at hl 0 rfl) ?_
        refine lv_iload_n hx hb dL_law_114 rfl (lv_at hl 3 rfl) ?_
        refine lv_iconst (v := 1) hx hb dL_law_115 (by decide) ?_
        refine lv_iadd hx hb dL_law_116 ?_
        refine lv_ri (show nI i + 1 = nI (i + 1) from nI_add i 1) ?_
        refine va_sld hx hb hX hbl hbA hS (vp_in_nI (n := i + 1) (N := L) (by omega) (by omega)) dL_law_117 ?_
        refine lv_ri (ey1 : xs (nI (i + 1)).toNatClampNeg = y1) ?_
        refine lv_aload_n hx hb dL_law_118 rfl (lv_at hl 0 rfl) ?_
        refine lv_iload_n hx hb dL_law_119 rfl (lv_at hl 3 rfl) ?_
        refine lv_iconst (v := 2) hx hb dL_law_120 (by decide) ?_
        refine lv_iadd hx hb dL_law_121 ?_
        refine lv_ri (show nI i + 2 = nI (i + 2) from nI_add i 2) ?_
        refine va_sld hx hb hX hbl hbA hS (vp_in_nI (n := i + 2) (N := L) (by omega) (by omega)) dL_law_122 ?_
        refine lv_ri (ey2 : xs (nI (i + 2)).toNatClampNeg = y2) ?_
        refine bm_q [] ([EO ob h t ia kp] ++ (LW cA h as st)) ((LW cA t as2 st2) ++ ([AO cR ia h0 h1] ++ ((LW cA h0 a0 s0) ++ ((LW cA h1 a1 s1) ++ (MW cA cZ hm am g im km))))) [.int y1, .int y2] [] ⟨hx, hb, hml, hown, hts⟩ (c_X1_rule l D cA cZ cR tq ob h t ia kp as st y1 y2) (cwV 2 hts gL_law_X1_rule rfl rfl rfl (by decide +kernel) ⟨(Nat.le_of_ble_eq_true rfl), (Nat.le_of_ble_eq_true rfl)⟩) hE hP hD hS hA hQ ELW_adr 0 1 rfl rfl rfl hl.1 rfl (Nat.le_of_ble_eq_true rfl) dL_law_123 ⟨(Nat.le_of_ble_eq_true rfl), (Nat.le_of_ble_eq_true rfl)⟩ (fun H locs hP hD hS => ?_)
        obtain ⟨nst, enst⟩ : ∃ z : St, z = xs_rule st y1 y2 := ⟨_, rfl⟩
        rw [← enst] at hP hD
        have hP : va_P D vwCl (WL cA cZ cR ob h as nst t as2 st2 ia h0 a0 s0 h1 a1 s1 kp hm am g im km) H := hP
        have hD : va_D (fun q : Nat => s.heap.size ≤ q) (WL cA cZ cR ob h as nst t as2 st2 ia h0 a0 s0 h1 a1 s1 kp hm am g im km) := hD
        refine lv_topi (fun r1 er1 => ?_)
        refine lv_aload_n hx hb dL_law_126 rfl (lv_at hl 2 rfl) ?_
        refine lv_aload_n hx hb dL_law_127 rfl (lv_at hl 0 rfl) ?_
        refine lv_iload_n hx hb dL_law_128 rfl (lv_at hl 3 rfl) ?_
        refine lv_iconst (v := 1) hx hb dL_law_129 (by decide) ?_
        refine lv_iadd hx hb dL_law_130 ?_
        refine lv_ri (show nI i + 1 = nI (i + 1) from nI_add i 1) ?_
        refine va_sld hx hb hX hbl hbA hS (vp_in_nI (n := i + 1) (N := L) (by omega) (by omega)) dL_law_131 ?_
        refine lv_ri (ey1 : xs (nI (i + 1)).toNatClampNeg = y1) ?_
        refine lv_aload_n hx hb dL_law_132 rfl (lv_at hl 0 rfl) ?_
        refine lv_iload_n hx hb dL_law_133 rfl (lv_at hl 3 rfl) ?_
        refine lv_iconst (v := 2) hx hb dL_law_134 (by decide) ?_
        refine lv_iadd hx hb dL_law_135 ?_
        refine lv_ri (show nI i + 2 = nI (i + 2) from nI_add i 2) ?_
        refine va_sld hx hb hX hbl hbA hS (vp_in_nI (n := i + 2) (N := L) (by omega) (by omega)) dL_law_136 ?_
        refine lv_ri (ey2 : xs (nI (i + 2)).toNatClampNeg = y2) ?_
        refine bm_i ([EO ob h t ia kp] ++ ((LW cA h as nst) ++ ((LW cA t as2 st2) ++ ([AO cR ia h0 h1] ++ ((LW cA h0 a0 s0) ++ (LW cA h1 a1 s1)))))) (MW cA cZ hm am g im km) [] [.int y1, .int y2] [.int r1] ⟨hx, hb, hml, hown, hts⟩ (c_X2_rule l D cA cZ cR hm am g im km y1 y2) (cwV 2 hts gL_law_X2_rule rfl rfl rfl (by decide +kernel) ⟨(Nat.le_of_ble_eq_true rfl), (Nat.le_of_ble_eq_true rfl)⟩) hE hP hD hS hA MW_adr 0 2 rfl rfl rfl hl.1 rfl (Nat.le_of_ble_eq_true rfl) dL_law_137 ⟨(Nat.le_of_ble_eq_true rfl), (Nat.le_of_ble_eq_true rfl)⟩ (fun H locs hP hD hS => ?_)
        obtain ⟨ng, eng⟩ : ∃ z : Fn, z = ys_rule g y1 y2 := ⟨_, rfl⟩
        rw [← eng] at hP hD
        have hP : va_P D vwCl (WL cA cZ cR ob h as nst t as2 st2 ia h0 a0 s0 h1 a1 s1 kp hm am ng im km) H := hP
        have hD : va_D (fun q : Nat => s.heap.size ≤ q) (WL cA cZ cR ob h as nst t as2 st2 ia h0 a0 s0 h1 a1 s1 kp hm am ng im km) := hD
        obtain ⟨hq, hR2, hI2⟩ := rule_ok hR hI y1 y2
        have hn : Sys nst s0 s1 kp ng im km (15 * (i + 4)) := by rw [enst, eng]; exact hS0.next (by omega) (show T ≤ _ by omega) hR2 hI2 (fun _ _ => rfl) (fun _ _ => rfl)
        refine lv_icmp_eq (tgt := 570) hx hb dL_law_140 (by decide) (fun _ => ?_) (fun z => absurd (er1.trans hq) z)
        exact fin nst st2 s0 s1 kp ng im km hn H locs hP hD hS
      | 1, _ =>
        refine lv_tableIn (tgt := 145) hx hb dL_law_32 (by decide) (by decide) (off := 113) rfl (by decide) ?_
        obtain ⟨y1, ey1⟩ : ∃ z : Int32, xs (nI (i + 1)).toNatClampNeg = z := ⟨_, rfl⟩
        obtain ⟨y2, ey2⟩ : ∃ z : Int32, xs (nI (i + 2)).toNatClampNeg = z := ⟨_, rfl⟩
        refine lv_aload_n hx hb dL_law_145 rfl (lv_at hl 1 rfl) ?_
        refine lv_aload_n hx hb dL_law_146 rfl (lv_at hl 0 rfl) ?_
        refine lv_iload_n hx hb dL_law_147 rfl (lv_at hl 3 rfl) ?_
        refine lv_iconst (v := 1) hx hb dL_law_148 (by decide) ?_
        refine lv_iadd hx hb dL_law_149 ?_
        refine lv_ri (show nI i + 1 = nI (i + 1) from nI_add i 1) ?_
        refine va_sld hx hb hX hbl hbA hS (vp_in_nI (n := i + 1) (N := L) (by omega) (by omega)) dL_law_150 ?_
        refine lv_ri (ey1 : xs (nI (i + 1)).toNatClampNeg = y1) ?_
        refine lv_aload_n hx hb dL_law_151 rfl (lv_at hl 0 rfl) ?_
        refine lv_iload_n hx hb dL_law_152 rfl (lv_at hl 3 rfl) ?_
        refine lv_iconst (v := 2) hx hb dL_law_153 (by decide) ?_
        refine lv_iadd hx hb dL_law_154 ?_
        refine lv_ri (show nI i + 2 = nI (i + 2) from nI_add i 2) ?_
        refine va_sld hx hb hX hbl hbA hS (vp_in_nI (n := i + 2) (N := L) (by omega) (by omega)) dL_law_155 ?_
        refine lv_ri (ey2 : xs (nI (i + 2)).toNatClampNeg = y2) ?_
        refine bm_i [] ([EO ob h t ia kp] ++ (LW cA h as st)) ((LW cA t as2 st2) ++ ([AO cR ia h0 h1] ++ ((LW cA h0 a0 s0) ++ ((LW cA h1 a1 s1) ++ (MW cA cZ hm am g im km))))) [.int y1, .int y2] [] ⟨hx, hb, hml, hown, hts⟩ (c_X1_tick l D cA cZ cR ob h t ia kp as st y1 y2) (cwV 2 hts gL_law_X1_tick rfl rfl rfl (by decide +kernel) ⟨(Nat.le_of_ble_eq_true rfl), (Nat.le_of_ble_eq_true rfl)⟩) hE hP hD hS hA ELW_adr 0 1 rfl rfl rfl hl.1 rfl (Nat.le_of_ble_eq_true rfl) dL_law_156 ⟨(Nat.le_of_ble_eq_true rfl), (Nat.le_of_ble_eq_true rfl)⟩ (fun H locs hP hD hS => ?_)
        obtain ⟨nst, enst⟩ : ∃ z : St, z = xs_tick st y1 y2 := ⟨_, rfl⟩
        rw [← enst] at hP hD
        have hP : va_P D vwCl (WL cA cZ cR ob h as nst t as2 st2 ia h0 a0 s0 h1 a1 s1 kp hm am g im km) H := hP
        have hD : va_D (fun q : Nat => s.heap.size ≤ q) (WL cA cZ cR ob h as nst t as2 st2 ia h0 a0 s0 h1 a1 s1 kp hm am g im km) := hD
        refine lv_topi (fun r1 er1 => ?_)
        refine lv_aload_n hx hb dL_law_159 rfl (lv_at hl 2 rfl) ?_
        refine lv_aload_n hx hb dL_law_160 rfl (lv_at hl 0 rfl) ?_
        refine lv_iload_n hx hb dL_law_161 rfl (lv_at hl 3 rfl) ?_
        refine lv_iconst (v := 1) hx hb dL_law_162 (by decide) ?_
        refine lv_iadd hx hb dL_law_163 ?_
        refine lv_ri (show nI i + 1 = nI (i + 1) from nI_add i 1) ?_
        refine va_sld hx hb hX hbl hbA hS (vp_in_nI (n := i + 1) (N := L) (by omega) (by omega)) dL_law_164 ?_
        refine lv_ri (ey1 : xs (nI (i + 1)).toNatClampNeg = y1) ?_
        refine lv_aload_n hx hb dL_law_165 rfl (lv_at hl 0 rfl) ?_
        refine lv_iload_n hx hb dL_law_166 rfl (lv_at hl 3 rfl) ?_
        refine lv_iconst (v := 2) hx hb dL_law_167 (by decide) ?_
        refine lv_iadd hx hb dL_law_168 ?_
        refine lv_ri (show nI i + 2 = nI (i + 2) from nI_add i 2) ?_
        refine va_sld hx hb hX hbl hbA hS (vp_in_nI (n := i + 2) (N := L) (by omega) (by omega)) dL_law_169 ?_
        refine lv_ri (ey2 : xs (nI (i + 2)).toNatClampNeg = y2) ?_
        refine bm_i ([EO ob h t ia kp] ++ ((LW cA h as nst) ++ ((LW cA t as2 st2) ++ ([AO cR ia h0 h1] ++ ((LW cA h0 a0 s0) ++ (LW cA h1 a1 s1)))))) (MW cA cZ hm am g im km) [] [.int y1, .int y2] [.int r1] ⟨hx, hb, hml, hown, hts⟩ (c_X2_tick l D cA cZ cR hm am g im km y1 y2 hI.2.2.1) (cwV 2 hts gL_law_X2_tick rfl rfl rfl (by decide +kernel) ⟨(Nat.le_of_ble_eq_true rfl), (Nat.le_of_ble_eq_true rfl)⟩) hE hP hD hS hA MW_adr 0 2 rfl rfl rfl hl.1 rfl (Nat.le_of_ble_eq_true rfl) dL_law_170 ⟨(Nat.le_of_ble_eq_true rfl), (Nat.le_of_ble_eq_true rfl)⟩ (fun H locs hP hD hS => ?_)
        obtain ⟨ng, eng⟩ : ∃ z : Fn, z = ys_tick g y1 y2 := ⟨_, rfl⟩
        rw [← eng] at hP hD
        have hP : va_P D vwCl (WL cA cZ cR ob h as nst t as2 st2 ia h0 a0 s0 h1 a1 s1 kp hm am ng im km) H := hP
        have hD : va_D (fun q : Nat => s.heap.size ≤ q) (WL cA cZ cR ob h as nst t as2 st2 ia h0 a0 s0 h1 a1 s1 kp hm am ng im km) := hD
        obtain ⟨hq, T2, hT2, hR2, hI2⟩ := tick_c hR hI (by omega) y1 y2
        have hn : Sys nst s0 s1 kp ng im km (15 * (i + 4)) := by rw [enst, eng]; exact hS0.next (by omega) (by omega) hR2 hI2 (fun _ _ => rfl) (fun _ _ => rfl)
        refine lv_icmp_eq (tgt := 570) hx hb dL_law_173 (by decide) (fun _ => ?_) (fun z => absurd (er1.trans hq) z)
        exact fin nst st2 s0 s1 kp ng im km hn H locs hP hD hS
      | 2, _ =>
        refine lv_tableIn (tgt := 178) hx hb dL_law_32 (by decide) (by decide) (off := 146) rfl (by decide) ?_
        obtain ⟨y1, ey1⟩ : ∃ z : Int32, xs (nI (i + 1)).toNatClampNeg = z := ⟨_, rfl⟩
        refine lv_aload_n hx hb dL_law_178 rfl (lv_at hl 1 rfl) ?_
        refine lv_aload_n hx hb dL_law_179 rfl (lv_at hl 0 rfl) ?_
        refine lv_iload_n hx hb dL_law_180 rfl (lv_at hl 3 rfl) ?_
        refine lv_iconst (v := 1) hx hb dL_law_181 (by decide) ?_
        refine lv_iadd hx hb dL_law_182 ?_
        refine lv_ri (show nI i + 1 = nI (i + 1) from nI_add i 1) ?_
        refine va_sld hx hb hX hbl hbA hS (vp_in_nI (n := i + 1) (N := L) (by omega) (by omega)) dL_law_183 ?_
        refine lv_ri (ey1 : xs (nI (i + 1)).toNatClampNeg = y1) ?_
        refine bm_i [] ([EO ob h t ia kp] ++ (LW cA h as st)) ((LW cA t as2 st2) ++ ([AO cR ia h0 h1] ++ ((LW cA h0 a0 s0) ++ ((LW cA h1 a1 s1) ++ (MW cA cZ hm am g im km))))) [.int y1] [] ⟨hx, hb, hml, hown, hts⟩ (c_X1_tap l D cA cZ cR ob h t ia kp as st y1) (cwV 1 hts gL_law_X1_tap rfl rfl rfl (by decide +kernel) ⟨(Nat.le_of_ble_eq_true rfl), (Nat.le_of_ble_eq_true rfl)⟩) hE hP hD hS hA ELW_adr 0 1 rfl rfl rfl hl.1 rfl (Nat.le_of_ble_eq_true rfl) dL_law_184 ⟨(Nat.le_of_ble_eq_true rfl), (Nat.le_of_ble_eq_true rfl)⟩ (fun H locs hP hD hS => ?_)
        have hP : va_P D vwCl (WL cA cZ cR ob h as st t as2 st2 ia h0 a0 s0 h1 a1 s1 kp hm am g im km) H := hP
        have hD : va_D (fun q : Nat => s.heap.size ≤ q) (WL cA cZ cR ob h as st t as2 st2 ia h0 a0 s0 h1 a1 s1 kp hm am g im km) := hD
        refine lv_topi (fun r1 er1 => ?_)
        refine lv_aload_n hx hb dL_law_187 rfl (lv_at hl 2 rfl) ?_
        refine lv_aload_n hx hb dL_law_188 rfl (lv_at hl 0 rfl) ?_
        refine lv_iload_n hx hb dL_law_189 rfl (lv_at hl 3 rfl) ?_
        refine lv_iconst (v := 1) hx hb dL_law_190 (by decide) ?_
        refine lv_iadd hx hb dL_law_191 ?_
        refine lv_ri (show nI i + 1 = nI (i + 1) from nI_add i 1) ?_
        refine va_sld hx hb hX hbl hbA hS (vp_in_nI (n := i + 1) (N := L) (by omega) (by omega)) dL_law_192 ?_
        refine lv_ri (ey1 : xs (nI (i + 1)).toNatClampNeg = y1) ?_
        refine bm_i ([EO ob h t ia kp] ++ ((LW cA h as st) ++ ((LW cA t as2 st2) ++ ([AO cR ia h0 h1] ++ ((LW cA h0 a0 s0) ++ (LW cA h1 a1 s1)))))) (MW cA cZ hm am g im km) [] [.int y1] [.int r1] ⟨hx, hb, hml, hown, hts⟩ (c_X2_tap l D cA cZ cR hm am g im km y1) (cwV 1 hts gL_law_X2_tap rfl rfl rfl (by decide +kernel) ⟨(Nat.le_of_ble_eq_true rfl), (Nat.le_of_ble_eq_true rfl)⟩) hE hP hD hS hA MW_adr 0 2 rfl rfl rfl hl.1 rfl (Nat.le_of_ble_eq_true rfl) dL_law_193 ⟨(Nat.le_of_ble_eq_true rfl), (Nat.le_of_ble_eq_true rfl)⟩ (fun H locs hP hD hS => ?_)
        have hP : va_P D vwCl (WL cA cZ cR ob h as st t as2 st2 ia h0 a0 s0 h1 a1 s1 kp hm am g im km) H := hP
        have hD : va_D (fun q : Nat => s.heap.size ≤ q) (WL cA cZ cR ob h as st t as2 st2 ia h0 a0 s0 h1 a1 s1 kp hm am g im km) := hD
        have hq := tap_c hR y1
        have hn : Sys st s0 s1 kp g im km (15 * (i + 4)) := hS0.next (by omega) (show T ≤ _ by omega) hR hI (fun _ _ => rfl) (fun _ _ => rfl)
        refine lv_icmp_eq (tgt := 570) hx hb dL_law_196 (by decide) (fun _ => ?_) (fun z => absurd (er1.trans hq) z)
        exact fin st st2 s0 s1 kp g im km hn H locs hP hD hS
      | 3, _ =>
        refine lv_tableIn (tgt := 201) hx hb dL_law_32 (by decide) (by decide) (off := 169) rfl (by decide) ?_
        obtain ⟨y1, ey1⟩ : ∃ z : Int32, xs (nI (i + 1)).toNatClampNeg = z := ⟨_, rfl⟩
        refine lv_aload_n hx hb dL_law_201 rfl (lv_at hl 1 rfl) ?_
        refine lv_aload_n hx hb dL_law_202 rfl (lv_at hl 0 rfl) ?_
        refine lv_iload_n hx hb dL_law_203 rfl (lv_at hl 3 rfl) ?_
        refine lv_iconst (v := 1) hx hb dL_law_204 (by decide) ?_
        refine lv_iadd hx hb dL_law_205 ?_
        refine lv_ri (show nI i + 1 = nI (i + 1) from nI_add i 1) ?_
        refine va_sld hx hb hX hbl hbA hS (vp_in_nI (n := i + 1) (N := L) (by omega) (by omega)) dL_law_206 ?_
        refine lv_ri (ey1 : xs (nI (i + 1)).toNatClampNeg = y1) ?_
        refine bm_i [] ([EO ob h t ia kp] ++ (LW cA h as st)) ((LW cA t as2 st2) ++ ([AO cR ia h0 h1] ++ ((LW cA h0 a0 s0) ++ ((LW cA h1 a1 s1) ++ (MW cA cZ hm am g im km))))) [.int y1] [] ⟨hx, hb, hml, hown, hts⟩ (c_X1_last l D cA cZ cR ob h t ia kp as st y1) (cwV 1 hts gL_law_X1_last rfl rfl rfl (by decide +kernel) ⟨(Nat.le_of_ble_eq_true rfl), (Nat.le_of_ble_eq_true rfl)⟩) hE hP hD hS hA ELW_adr 0 1 rfl rfl rfl hl.1 rfl (Nat.le_of_ble_eq_true rfl) dL_law_207 ⟨(Nat.le_of_ble_eq_true rfl), (Nat.le_of_ble_eq_true rfl)⟩ (fun H locs hP hD hS => ?_)
        have hP : va_P D vwCl (WL cA cZ cR ob h as st t as2 st2 ia h0 a0 s0 h1 a1 s1 kp hm am g im km) H := hP
        have hD : va_D (fun q : Nat => s.heap.size ≤ q) (WL cA cZ cR ob h as st t as2 st2 ia h0 a0 s0 h1 a1 s1 kp hm am g im km) := hD
        refine lv_topi (fun r1 er1 => ?_)
        refine lv_aload_n hx hb dL_law_210 rfl (lv_at hl 2 rfl) ?_
        refine lv_aload_n hx hb dL_law_211 rfl (lv_at hl 0 rfl) ?_
        refine lv_iload_n hx hb dL_law_212 rfl (lv_at hl 3 rfl) ?_
        refine lv_iconst (v := 1) hx hb dL_law_213 (by decide) ?_
        refine lv_iadd hx hb dL_law_214 ?_
        refine lv_ri (show nI i + 1 = nI (i + 1) from nI_add i 1) ?_
        refine va_sld hx hb hX hbl hbA hS (vp_in_nI (n := i + 1) (N := L) (by omega) (by omega)) dL_law_215 ?_
        refine lv_ri (ey1 : xs (nI (i + 1)).toNatClampNeg = y1) ?_
        refine bm_i ([EO ob h t ia kp] ++ ((LW cA h as st) ++ ((LW cA t as2 st2) ++ ([AO cR ia h0 h1] ++ ((LW cA h0 a0 s0) ++ (LW cA h1 a1 s1)))))) (MW cA cZ hm am g im km) [] [.int y1] [.int r1] ⟨hx, hb, hml, hown, hts⟩ (c_X2_last l D cA cZ cR hm am g im km y1) (cwV 1 hts gL_law_X2_last rfl rfl rfl (by decide +kernel) ⟨(Nat.le_of_ble_eq_true rfl), (Nat.le_of_ble_eq_true rfl)⟩) hE hP hD hS hA MW_adr 0 2 rfl rfl rfl hl.1 rfl (Nat.le_of_ble_eq_true rfl) dL_law_216 ⟨(Nat.le_of_ble_eq_true rfl), (Nat.le_of_ble_eq_true rfl)⟩ (fun H locs hP hD hS => ?_)
        have hP : va_P D vwCl (WL cA cZ cR ob h as st t as2 st2 ia h0 a0 s0 h1 a1 s1 kp hm am g im km) H := hP
        have hD : va_D (fun q : Nat => s.heap.size ≤ q) (WL cA cZ cR ob h as st t as2 st2 ia h0 a0 s0 h1 a1 s1 kp hm am g im km) := hD
        have hq := last_c hR y1
        have hn : Sys st s0 s1 kp g im km (15 * (i + 4)) := hS0.next (by omega) (show T ≤ _ by omega) hR hI (fun _ _ => rfl) (fun _ _ => rfl)
        refine lv_icmp_eq (tgt := 570) hx hb dL_law_219 (by decide) (fun _ => ?_) (fun z => absurd (er1.trans hq) z)
        exact fin st st2 s0 s1 kp g im km hn H locs hP hD hS
      | 4, _ =>
        refine lv_tableIn (tgt := 224) hx hb dL_law_32 (by decide) (by decide) (off := 192) rfl (by decide) ?_
        obtain ⟨y1, ey1⟩ : ∃ z : Int32, xs (nI (i + 1)).toNatClampNeg = z := ⟨_, rfl⟩
        obtain ⟨y2, ey2⟩ : ∃ z : Int32, xs (nI (i + 2)).toNatClampNeg = z := ⟨_, rfl⟩
        refine lv_aload_n hx hb dL_law_224 rfl (lv_at hl 1 rfl) ?_
        refine lv_aload_n hx hb dL_law_225 rfl (lv_at hl 0 rfl) ?_
        refine lv_iload_n hx hb dL_law_226 rfl (lv_at hl 3 rfl) ?_
        refine lv_iconst (v := 1) hx hb dL_law_227 (by decide) ?_
        refine lv_iadd hx hb dL_law_228 ?_
        refine lv_ri (show nI i + 1 = nI (i + 1) from nI_add i 1) ?_
        refine va_sld hx hb hX hbl hbA hS (vp_in_nI (n := i + 1) (N := L) (by omega) (by omega)) dL_law_229 ?_
        refine lv_ri (ey1 : xs (nI (i + 1)).toNatClampNeg = y1) ?_
        refine lv_aload_n hx hb dL_law_230 rfl (lv_at hl 0 rfl) ?_
        refine lv_iload_n hx hb dL_law_231 rfl (lv_at hl 3 rfl) ?_
        refine lv_iconst (v := 2) hx hb dL_law_232 (by decide) ?_
        refine lv_iadd hx hb dL_law_233 ?_
        refine lv_ri (show nI i + 2 = nI (i + 2) from nI_add i 2) ?_
        refine va_sld hx hb hX hbl hbA hS (vp_in_nI (n := i + 2) (N := L) (by omega) (by omega)) dL_law_234 ?_
        refine lv_ri (ey2 : xs (nI (i + 2)).toNatClampNeg = y2) ?_
        refine bm_i [] ([EO ob h t ia kp] ++ (LW cA h as st)) ((LW cA t as2 st2) ++ ([AO cR ia h0 h1] ++ ((LW cA h0 a0 s0) ++ ((LW cA h1 a1 s1) ++ (MW cA cZ hm am g im km))))) [.int y1, .int y2] [] ⟨hx, hb, hml, hown, hts⟩ (c_X1_ago l D cA cZ cR ob h t ia kp as st y1 y2) (cwV 2 hts gL_law_X1_ago rfl rfl rfl (by decide +kernel) ⟨(Nat.le_of_ble_eq_true rfl), (Nat.le_of_ble_eq_true rfl)⟩) hE hP hD hS hA ELW_adr 0 1 rfl rfl rfl hl.1 rfl (Nat.le_of_ble_eq_true rfl) dL_law_235 ⟨(Nat.le_of_ble_eq_true rfl), (Nat.le_of_ble_eq_true rfl)⟩ (fun H locs hP hD hS => ?_)
        have hP : va_P D vwCl (WL cA cZ cR ob h as st t as2 st2 ia h0 a0 s0 h1 a1 s1 kp hm am g im km) H := hP
        have hD : va_D (fun q : Nat => s.heap.size ≤ q) (WL cA cZ cR ob h as st t as2 st2 ia h0 a0 s0 h1 a1 s1 kp hm am g im km) := hD
        refine lv_topi (fun r1 er1 => ?_)
        refine lv_aload_n hx hb dL_law_238 rfl (lv_at hl 2 rfl) ?_
        refine lv_aload_n hx hb dL_law_239 rfl (lv_at hl 0 rfl) ?_
        refine lv_iload_n hx hb dL_law_240 rfl (lv_at hl 3 rfl) ?_
        refine lv_iconst (v := 1) hx hb dL_law_241 (by decide) ?_
        refine lv_iadd hx hb dL_law_242 ?_
        refine lv_ri (show nI i + 1 = nI (i + 1) from nI_add i 1) ?_
        refine va_sld hx hb hX hbl hbA hS (vp_in_nI (n := i + 1) (N := L) (by omega) (by omega)) dL_law_243 ?_
        refine lv_ri (ey1 : xs (nI (i + 1)).toNatClampNeg = y1) ?_
        refine lv_aload_n hx hb dL_law_244 rfl (lv_at hl 0 rfl) ?_
        refine lv_iload_n hx hb dL_law_245 rfl (lv_at hl 3 rfl) ?_
        refine lv_iconst (v := 2) hx hb dL_law_246 (by decide) ?_
        refine lv_iadd hx hb dL_law_247 ?_
        refine lv_ri (show nI i + 2 = nI (i + 2) from nI_add i 2) ?_
        refine va_sld hx hb hX hbl hbA hS (vp_in_nI (n := i + 2) (N := L) (by omega) (by omega)) dL_law_248 ?_
        refine lv_ri (ey2 : xs (nI (i + 2)).toNatClampNeg = y2) ?_
        refine bm_i ([EO ob h t ia kp] ++ ((LW cA h as st) ++ ((LW cA t as2 st2) ++ ([AO cR ia h0 h1] ++ ((LW cA h0 a0 s0) ++ (LW cA h1 a1 s1)))))) (MW cA cZ hm am g im km) [] [.int y1, .int y2] [.int r1] ⟨hx, hb, hml, hown, hts⟩ (c_X2_ago l D cA cZ cR hm am g im km y1 y2) (cwV 2 hts gL_law_X2_ago rfl rfl rfl (by decide +kernel) ⟨(Nat.le_of_ble_eq_true rfl), (Nat.le_of_ble_eq_true rfl)⟩) hE hP hD hS hA MW_adr 0 2 rfl rfl rfl hl.1 rfl (Nat.le_of_ble_eq_true rfl) dL_law_249 ⟨(Nat.le_of_ble_eq_true rfl), (Nat.le_of_ble_eq_true rfl)⟩ (fun H locs hP hD hS => ?_)
        have hP : va_P D vwCl (WL cA cZ cR ob h as st t as2 st2 ia h0 a0 s0 h1 a1 s1 kp hm am g im km) H := hP
        have hD : va_D (fun q : Nat => s.heap.size ≤ q) (WL cA cZ cR ob h as st t as2 st2 ia h0 a0 s0 h1 a1 s1 kp hm am g im km) := hD
        have hq := ago_c hR (by omega) y1 y2
        have hn : Sys st s0 s1 kp g im km (15 * (i + 4)) := hS0.next (by omega) (show T ≤ _ by omega) hR hI (fun _ _ => rfl) (fun _ _ => rfl)
        refine lv_icmp_eq (tgt := 570) hx hb dL_law_252 (by decide) (fun _ => ?_) (fun z => absurd (er1.trans hq) z)
        exact fin st st2 s0 s1 kp g im km hn H locs hP hD hS
      | 5, _ =>
        refine lv_tableIn (tgt := 257) hx hb dL_law_32 (by decide) (by decide) (off := 225) rfl (by decide) ?_
        obtain ⟨y1, ey1⟩ : ∃ z : Int32, xs (nI (i + 1)).toNatClampNeg = z := ⟨_, rfl⟩
        obtain ⟨y2, ey2⟩ : ∃ z : Int32, xs (nI (i + 2)).toNatClampNeg = z := ⟨_, rfl⟩
        refine lv_aload_n hx hb dL_law_257 rfl (lv_at hl 1 rfl) ?_
        refine lv_aload_n hx hb dL_law_258 rfl (lv_at hl 0 rfl) ?_
        refine lv_iload_n hx hb dL_law_259 rfl (lv_at hl 3 rfl) ?_
        refine lv_iconst (v := 1) hx hb dL_law_260 (by decide) ?_
        refine lv_iadd hx hb dL_law_261 ?_
        refine lv_ri (show nI i + 1 = nI (i + 1) from nI_add i 1) ?_
        refine va_sld hx hb hX hbl hbA hS (vp_in_nI (n := i + 1) (N := L) (by omega) (by omega)) dL_law_262 ?_
        refine lv_ri (ey1 : xs (nI (i + 1)).toNatClampNeg = y1) ?_
        refine lv_aload_n hx hb dL_law_263 rfl (lv_at hl 0 rfl) ?_
        refine lv_iload_n hx hb dL_law_264 rfl (lv_at hl 3 rfl) ?_
        refine lv_iconst (v := 2) hx hb dL_law_265 (by decide) ?_
        refine lv_iadd hx hb dL_law_266 ?_
        refine lv_ri (show nI i + 2 = nI (i + 2) from nI_add i 2) ?_
        refine va_sld hx hb hX hbl hbA hS (vp_in_nI (n := i + 2) (N := L) (by omega) (by omega)) dL_law_267 ?_
        refine lv_ri (ey2 : xs (nI (i + 2)).toNatClampNeg = y2) ?_
        refine bm_i [] ([EO ob h t ia kp] ++ (LW cA h as st)) ((LW cA t as2 st2) ++ ([AO cR ia h0 h1] ++ ((LW cA h0 a0 s0) ++ ((LW cA h1 a1 s1) ++ (MW cA cZ hm am g im km))))) [.int y1, .int y2] [] ⟨hx, hb, hml, hown, hts⟩ (c_X1_part l D cA cZ cR ob h t ia kp as st y1 y2) (cwV 2 hts gL_law_X1_part rfl rfl rfl (by decide +kernel) ⟨(Nat.le_of_ble_eq_true rfl), (Nat.le_of_ble_eq_true rfl)⟩) hE hP hD hS hA ELW_adr 0 1 rfl rfl rfl hl.1 rfl (Nat.le_of_ble_eq_true rfl) dL_law_268 ⟨(Nat.le_of_ble_eq_true rfl), (Nat.le_of_ble_eq_true rfl)⟩ (fun H locs hP hD hS => ?_)
        obtain ⟨nst, enst⟩ : ∃ z : St, z = xs_part st y1 y2 := ⟨_, rfl⟩
        rw [← enst] at hP hD
        have hP : va_P D vwCl (WL cA cZ cR ob h as nst t as2 st2 ia h0 a0 s0 h1 a1 s1 kp hm am g im km) H := hP
        have hD : va_D (fun q : Nat => s.heap.size ≤ q) (WL cA cZ cR ob h as nst t as2 st2 ia h0 a0 s0 h1 a1 s1 kp hm am g im km) := hD
        refine lv_topi (fun r1 er1 => ?_)
        refine lv_aload_n hx hb dL_law_271 rfl (lv_at hl 2 rfl) ?_
        refine lv_aload_n hx hb dL_law_272 rfl (lv_at hl 0 rfl) ?_
        refine lv_iload_n hx hb dL_law_273 rfl (lv_at hl 3 rfl) ?_
        refine lv_iconst (v := 1) hx hb dL_law_274 (by decide) ?_
        refine lv_iadd hx hb dL_law_275 ?_
        refine lv_ri (show nI i + 1 = nI (i + 1) from nI_add i 1) ?_
        refine va_sld hx hb hX hbl hbA hS (vp_in_nI (n := i + 1) (N := L) (by omega) (by omega)) dL_law_276 ?_
        refine lv_ri (ey1 : xs (nI (i + 1)).toNatClampNeg = y1) ?_
        refine lv_aload_n hx hb dL_law_277 rfl (lv_at hl 0 rfl) ?_
        refine lv_iload_n hx hb dL_law_278 rfl (lv_at hl 3 rfl) ?_
        refine lv_iconst (v := 2) hx hb dL_law_279 (by decide) ?_
        refine lv_iadd hx hb dL_law_280 ?_
        refine lv_ri (show nI i + 2 = nI (i + 2) from nI_add i 2) ?_
        refine va_sld hx hb hX hbl hbA hS (vp_in_nI (n := i + 2) (N := L) (by omega) (by omega)) dL_law_281 ?_
        refine lv_ri (ey2 : xs (nI (i + 2)).toNatClampNeg = y2) ?_
        refine bm_i ([EO ob h t ia kp] ++ ((LW cA h as nst) ++ ((LW cA t as2 st2) ++ ([AO cR ia h0 h1] ++ ((LW cA h0 a0 s0) ++ (LW cA h1 a1 s1)))))) (MW cA cZ hm am g im km) [] [.int y1, .int y2] [.int r1] ⟨hx, hb, hml, hown, hts⟩ (c_X2_part l D cA cZ cR hm am g im km y1 y2) (cwV 2 hts gL_law_X2_part rfl rfl rfl (by decide +kernel) ⟨(Nat.le_of_ble_eq_true rfl), (Nat.le_of_ble_eq_true rfl)⟩) hE hP hD hS hA MW_adr 0 2 rfl rfl rfl hl.1 rfl (Nat.le_of_ble_eq_true rfl) dL_law_282 ⟨(Nat.le_of_ble_eq_true rfl), (Nat.le_of_ble_eq_true rfl)⟩ (fun H locs hP hD hS => ?_)
        obtain ⟨ng, eng⟩ : ∃ z : Fn, z = ys_part g y1 y2 := ⟨_, rfl⟩
        rw [← eng] at hP hD
        have hP : va_P D vwCl (WL cA cZ cR ob h as nst t as2 st2 ia h0 a0 s0 h1 a1 s1 kp hm am ng im km) H := hP
        have hD : va_D (fun q : Nat => s.heap.size ≤ q) (WL cA cZ cR ob h as nst t as2 st2 ia h0 a0 s0 h1 a1 s1 kp hm am ng im km) := hD
        obtain ⟨hq, hR2, hI2⟩ := part_c hR hI y1 y2
        have hn : Sys nst s0 s1 kp ng im km (15 * (i + 4)) := by rw [enst, eng]; exact hS0.next (by omega) (show T ≤ _ by omega) hR2 hI2 (fun _ _ => rfl) (fun _ _ => rfl)
        refine lv_icmp_eq (tgt := 570) hx hb dL_law_285 (by decide) (fun _ => ?_) (fun z => absurd (er1.trans hq) z)
        exact fin nst st2 s0 s1 kp ng im km hn H locs hP hD hS
      | 6, _ =>
        refine lv_tableIn (tgt := 290) hx hb dL_law_32 (by decide) (by decide) (off := 258) rfl (by decide) ?_
        obtain ⟨y1, ey1⟩ : ∃ z : Int32, xs (nI (i + 1)).toNatClampNeg = z := ⟨_, rfl⟩
        obtain ⟨y2, ey2⟩ : ∃ z : Int32, xs (nI (i + 2)).toNatClampNeg = z := ⟨_, rfl⟩
        refine lv_aload_n hx hb dL_law_290 rfl (lv_at hl 1 rfl) ?_
        refine lv_aload_n hx hb dL_law_291 rfl (lv_at hl 0 rfl) ?_
        refine lv_iload_n hx hb dL_law_292 rfl (lv_at hl 3 rfl) ?_
        refine lv_iconst (v := 1) hx hb dL_law_293 (by decide) ?_
        refine lv_iadd hx hb dL_law_294 ?_
        refine lv_ri (show nI i + 1 = nI (i + 1) from nI_add i 1) ?_
        refine va_sld hx hb hX hbl hbA hS (vp_in_nI (n := i + 1) (N := L) (by omega) (by omega)) dL_law_295 ?_
        refine lv_ri (ey1 : xs (nI (i + 1)).toNatClampNeg = y1) ?_
        refine lv_aload_n hx hb dL_law_296 rfl (lv_at hl 0 rfl) ?_
        refine lv_iload_n hx hb dL_law_297 rfl (lv_at hl 3 rfl) ?_
        refine lv_iconst (v := 2) hx hb dL_law_298 (by decide) ?_
        refine lv_iadd hx hb dL_law_299 ?_
        refine lv_ri (show nI i + 2 = nI (i + 2) from nI_add i 2) ?_
        refine va_sld hx hb hX hbl hbA hS (vp_in_nI (n := i + 2) (N := L) (by omega) (by omega)) dL_law_300 ?_
        refine lv_ri (ey2 : xs (nI (i + 2)).toNatClampNeg = y2) ?_
        refine bm_i [] ([EO ob h t ia kp] ++ (LW cA h as st)) ((LW cA t as2 st2) ++ ([AO cR ia h0 h1] ++ ((LW cA h0 a0 s0) ++ ((LW cA h1 a1 s1) ++ (MW cA cZ hm am g im km))))) [.int y1, .int y2] [] ⟨hx, hb, hml, hown, hts⟩ (c_X1_speak l D cA cZ cR ob h t ia kp as st y1 y2) (cwV 2 hts gL_law_X1_speak rfl rfl rfl (by decide +kernel) ⟨(Nat.le_of_ble_eq_true rfl), (Nat.le_of_ble_eq_true rfl)⟩) hE hP hD hS hA ELW_adr 0 1 rfl rfl rfl hl.1 rfl (Nat.le_of_ble_eq_true rfl) dL_law_301 ⟨(Nat.le_of_ble_eq_true rfl), (Nat.le_of_ble_eq_true rfl)⟩ (fun H locs hP hD hS => ?_)
        obtain ⟨nst, enst⟩ : ∃ z : St, z = xs_speak st y1 y2 := ⟨_, rfl⟩
        rw [← enst] at hP hD
        have hP : va_P D vwCl (WL cA cZ cR ob h as nst t as2 st2 ia h0 a0 s0 h1 a1 s1 kp hm am g im km) H := hP
        have hD : va_D (fun q : Nat => s.heap.size ≤ q) (WL cA cZ cR ob h as nst t as2 st2 ia h0 a0 s0 h1 a1 s1 kp hm am g im km) := hD
        refine lv_topi (fun r1 er1 => ?_)
        refine lv_aload_n hx hb dL_law_304 rfl (lv_at hl 2 rfl) ?_
        refine lv_aload_n hx hb dL_law_305 rfl (lv_at hl 0 rfl) ?_
        refine lv_iload_n hx hb dL_law_306 rfl (lv_at hl 3 rfl) ?_
        refine lv_iconst (v := 1) hx hb dL_law_307 (by decide) ?_
        refine lv_iadd hx hb dL_law_308 ?_
        refine lv_ri (show nI i + 1 = nI (i + 1) from nI_add i 1) ?_
        refine va_sld hx hb hX hbl hbA hS (vp_in_nI (n := i + 1) (N := L) (by omega) (by omega)) dL_law_309 ?_
        refine lv_ri (ey1 : xs (nI (i + 1)).toNatClampNeg = y1) ?_
        refine lv_aload_n hx hb dL_law_310 rfl (lv_at hl 0 rfl) ?_
        refine lv_iload_n hx hb dL_law_311 rfl (lv_at hl 3 rfl) ?_
        refine lv_iconst (v := 2) hx hb dL_law_312 (by decide) ?_
        refine lv_iadd hx hb dL_law_313 ?_
        refine lv_ri (show nI i + 2 = nI (i + 2) from nI_add i 2) ?_
        refine va_sld hx hb hX hbl hbA hS (vp_in_nI (n := i + 2) (N := L) (by omega) (by omega)) dL_law_314 ?_
        refine lv_ri (ey2 : xs (nI (i + 2)).toNatClampNeg = y2) ?_
        refine bm_i ([EO ob h t ia kp] ++ ((LW cA h as nst) ++ ((LW cA t as2 st2) ++ ([AO cR ia h0 h1] ++ ((LW cA h0 a0 s0) ++ (LW cA h1 a1 s1)))))) (MW cA cZ hm am g im km) [] [.int y1, .int y2] [.int r1] ⟨hx, hb, hml, hown, hts⟩ (c_X2_speak l D cA cZ cR hm am g im km y1 y2 hI.2.2.1 hI.2.2.2.1) (cwV 2 hts gL_law_X2_speak rfl rfl rfl (by decide +kernel) ⟨(Nat.le_of_ble_eq_true rfl), (Nat.le_of_ble_eq_true rfl)⟩) hE hP hD hS hA MW_adr 0 2 rfl rfl rfl hl.1 rfl (Nat.le_of_ble_eq_true rfl) dL_law_315 ⟨(Nat.le_of_ble_eq_true rfl), (Nat.le_of_ble_eq_true rfl)⟩ (fun H locs hP hD hS => ?_)
        obtain ⟨ng, eng⟩ : ∃ z : Fn, z = ys_speak g y1 y2 := ⟨_, rfl⟩
        rw [← eng] at hP hD
        have hP : va_P D vwCl (WL cA cZ cR ob h as nst t as2 st2 ia h0 a0 s0 h1 a1 s1 kp hm am ng im km) H := hP
        have hD : va_D (fun q : Nat => s.heap.size ≤ q) (WL cA cZ cR ob h as nst t as2 st2 ia h0 a0 s0 h1 a1 s1 kp hm am ng im km) := hD
        obtain ⟨hq, T2, hT2, hR2, hI2⟩ := speak_c hR hI (by omega) y1 y2
        have hn : Sys nst s0 s1 kp ng im km (15 * (i + 4)) := by rw [enst, eng]; exact hS0.next (by omega) (by omega) hR2 hI2 (fun _ _ => rfl) (fun _ _ => rfl)
        refine lv_icmp_eq (tgt := 570) hx hb dL_law_318 (by decide) (fun _ => ?_) (fun z => absurd (er1.trans hq) z)
        exact fin nst st2 s0 s1 kp ng im km hn H locs hP hD hS
      | 7, _ =>
        refine lv_tableIn (tgt := 323) hx hb dL_law_32 (by decide) (by decide) (off := 291) rfl (by decide) ?_
        obtain ⟨y1, ey1⟩ : ∃ z : Int32, xs (nI (i + 1)).toNatClampNeg = z := ⟨_, rfl⟩
        obtain ⟨y2, ey2⟩ : ∃ z : Int32, xs (nI (i + 2)).toNatClampNeg = z := ⟨_, rfl⟩
        obtain ⟨y3, ey3⟩ : ∃ z : Int32, xs (nI (i + 3)).toNatClampNeg = z := ⟨_, rfl⟩
        refine lv_aload_n hx hb dL_law_323 rfl (lv_at hl 1 rfl) ?_
        refine lv_aload_n hx hb dL_law_324 rfl (lv_at hl 0 rfl) ?_
        refine lv_iload_n hx hb dL_law_325 rfl (lv_at hl 3 rfl) ?_
        refine lv_iconst (v := 1) hx hb dL_law_326 (by decide) ?_
        refine lv_iadd hx hb dL_law_327 ?_
        refine lv_ri (show nI i + 1 = nI (i + 1) from nI_add i 1) ?_
        refine va_sld hx hb hX hbl hbA hS (vp_in_nI (n := i + 1) (N := L) (by omega) (by omega)) dL_law_328 ?_
        refine lv_ri (ey1 : xs (nI (i + 1)).toNatClampNeg = y1) ?_
        refine lv_aload_n hx hb dL_law_329 rfl (lv_at hl 0 rfl) ?_
        refine lv_iload_n hx hb dL_law_330 rfl (lv_at hl 3 rfl) ?_
        refine lv_iconst (v := 2) hx hb dL_law_331 (by decide) ?_
        refine lv_iadd hx hb dL_law_332 ?_
        refine lv_ri (show nI i + 2 = nI (i + 2) from nI_add i 2) ?_
        refine va_sld hx hb hX hbl hbA hS (vp_in_nI (n := i + 2) (N := L) (by omega) (by omega)) dL_law_333 ?_
        refine lv_ri (ey2 : xs (nI (i + 2)).toNatClampNeg = y2) ?_
        refine lv_aload_n hx hb dL_law_334 rfl (lv_at hl 0 rfl) ?_
        refine lv_iload_n hx hb dL_law_335 rfl (lv_at hl 3 rfl) ?_
        refine lv_iconst (v := 3) hx hb dL_law_336 (by decide) ?_
        refine lv_iadd hx hb dL_law_337 ?_
        refine lv_ri (show nI i + 3 = nI (i + 3) from nI_add i 3) ?_
        refine va_sld hx hb hX hbl hbA hS (vp_in_nI (n := i + 3) (N := L) (by omega) (by omega)) dL_law_338 ?_
        refine lv_ri (ey3 : xs (nI (i + 3)).toNatClampNeg = y3) ?_
        refine bm_i [] ([EO ob h t ia kp] ++ (LW cA h as st)) ((LW cA t as2 st2) ++ ([AO cR ia h0 h1] ++ ((LW cA h0 a0 s0) ++ ((LW cA h1 a1 s1) ++ (MW cA cZ hm am g im km))))) [.int y1, .int y2, .int y3] [] ⟨hx, hb, hml, hown, hts⟩ (c_X1_run l D cA cZ cR ob h t ia kp as st y1 y2 y3) (cwV 3 hts gL_law_X1_run rfl rfl rfl (by decide +kernel) ⟨(Nat.le_of_ble_eq_true rfl), (Nat.le_of_ble_eq_true rfl)⟩) hE hP hD hS hA ELW_adr 0 1 rfl rfl rfl hl.1 rfl (Nat.le_of_ble_eq_true rfl) dL_law_339 ⟨(Nat.le_of_ble_eq_true rfl), (Nat.le_of_ble_eq_true rfl)⟩ (fun H locs hP hD hS => ?_)
        obtain ⟨nst, enst⟩ : ∃ z : St, z = xs_run st y1 y2 y3 := ⟨_, rfl⟩
        rw [← enst] at hP hD
        have hP : va_P D vwCl (WL cA cZ cR ob h as nst t as2 st2 ia h0 a0 s0 h1 a1 s1 kp hm am g im km) H := hP
        have hD : va_D (fun q : Nat => s.heap.size ≤ q) (WL cA cZ cR ob h as nst t as2 st2 ia h0 a0 s0 h1 a1 s1 kp hm am g im km) := hD
        refine lv_topi (fun r1 er1 => ?_)
        refine lv_aload_n hx hb dL_law_342 rfl (lv_at hl 2 rfl) ?_
        refine lv_aload_n hx hb dL_law_343 rfl (lv_at hl 0 rfl) ?_
        refine lv_iload_n hx hb dL_law_344 rfl (lv_at hl 3 rfl) ?_
        refine lv_iconst (v := 1) hx hb dL_law_345 (by decide) ?_
        refine lv_iadd hx hb dL_law_346 ?_
        refine lv_ri (show nI i + 1 = nI (i + 1) from nI_add i 1) ?_
        refine va_sld hx hb hX hbl hbA hS (vp_in_nI (n := i + 1) (N := L) (by omega) (by omega)) dL_law_347 ?_
        refine lv_ri (ey1 : xs (nI (i + 1)).toNatClampNeg = y1) ?_
        refine lv_aload_n hx hb dL_law_348 rfl (lv_at hl 0 rfl) ?_
        refine lv_iload_n hx hb dL_law_349 rfl (lv_at hl 3 rfl) ?_
        refine lv_iconst (v := 2) hx hb dL_law_350 (by decide) ?_
        refine lv_iadd hx hb dL_law_351 ?_
        refine lv_ri (show nI i + 2 = nI (i + 2) from nI_add i 2) ?_
        refine va_sld hx hb hX hbl hbA hS (vp_in_nI (n := i + 2) (N := L) (by omega) (by omega)) dL_law_352 ?_
        refine lv_ri (ey2 : xs (nI (i + 2)).toNatClampNeg = y2) ?_
        refine lv_aload_n hx hb dL_law_353 rfl (lv_at hl 0 rfl) ?_
        refine lv_iload_n hx hb dL_law_354 rfl (lv_at hl 3 rfl) ?_
        refine lv_iconst (v := 3) hx hb dL_law_355 (by decide) ?_
        refine lv_iadd hx hb dL_law_356 ?_
        refine lv_ri (show nI i + 3 = nI (i + 3) from nI_add i 3) ?_
        refine va_sld hx hb hX hbl hbA hS (vp_in_nI (n := i + 3) (N := L) (by omega) (by omega)) dL_law_357 ?_
        refine lv_ri (ey3 : xs (nI (i + 3)).toNatClampNeg = y3) ?_
        refine bm_i ([EO ob h t ia kp] ++ ((LW cA h as nst) ++ ((LW cA t as2 st2) ++ ([AO cR ia h0 h1] ++ ((LW cA h0 a0 s0) ++ (LW cA h1 a1 s1)))))) (MW cA cZ hm am g im km) [] [.int y1, .int y2, .int y3] [.int r1] ⟨hx, hb, hml, hown, hts⟩ (c_X2_run l D cA cZ cR hm am g im km y1 y2 y3 hI.2.2.1 hI.2.2.2.1) (cwV 3 hts gL_law_X2_run rfl rfl rfl (by decide +kernel) ⟨(Nat.le_of_ble_eq_true rfl), (Nat.le_of_ble_eq_true rfl)⟩) hE hP hD hS hA MW_adr 0 2 rfl rfl rfl hl.1 rfl (Nat.le_of_ble_eq_true rfl) dL_law_358 ⟨(Nat.le_of_ble_eq_true rfl), (Nat.le_of_ble_eq_true rfl)⟩ (fun H locs hP hD hS => ?_)
        obtain ⟨ng, eng⟩ : ∃ z : Fn, z = ys_run g y1 y2 y3 := ⟨_, rfl⟩
        rw [← eng] at hP hD
        have hP : va_P D vwCl (WL cA cZ cR ob h as nst t as2 st2 ia h0 a0 s0 h1 a1 s1 kp hm am ng im km) H := hP
        have hD : va_D (fun q : Nat => s.heap.size ≤ q) (WL cA cZ cR ob h as nst t as2 st2 ia h0 a0 s0 h1 a1 s1 kp hm am ng im km) := hD
        obtain ⟨hq, T2, hT2, hR2, hI2⟩ := run_c hR hI (by omega) y1 y2 y3
        have hn : Sys nst s0 s1 kp ng im km (15 * (i + 4)) := by rw [enst, eng]; exact hS0.next (by omega) (by omega) hR2 hI2 (fun _ _ => rfl) (fun _ _ => rfl)
        refine lv_icmp_eq (tgt := 570) hx hb dL_law_361 (by decide) (fun _ => ?_) (fun z => absurd (er1.trans hq) z)
        exact fin nst st2 s0 s1 kp ng im km hn H locs hP hD hS
      | 8, _ =>
        refine lv_tableIn (tgt := 366) hx hb dL_law_32 (by decide) (by decide) (off := 334) rfl (by decide) ?_
        obtain ⟨y1, ey1⟩ : ∃ z : Int32, xs (nI (i + 1)).toNatClampNeg = z := ⟨_, rfl⟩
        obtain ⟨y2, ey2⟩ : ∃ z : Int32, xs (nI (i + 2)).toNatClampNeg = z := ⟨_, rfl⟩
        obtain ⟨y3, ey3⟩ : ∃ z : Int32, xs (nI (i + 3)).toNatClampNeg = z := ⟨_, rfl⟩
        refine lv_aload_n hx hb dL_law_366 rfl (lv_at hl 1 rfl) ?_
        refine lv_aload_n hx hb dL_law_367 rfl (lv_at hl 0 rfl) ?_
        refine lv_iload_n hx hb dL_law_368 rfl (lv_at hl 3 rfl) ?_
        refine lv_iconst (v := 1) hx hb dL_law_369 (by decide) ?_
        refine lv_iadd hx hb dL_law_370 ?_
        refine lv_ri (show nI i + 1 = nI (i + 1) from nI_add i 1) ?_
        refine va_sld hx hb hX hbl hbA hS (vp_in_nI (n := i + 1) (N := L) (by omega) (by omega)) dL_law_371 ?_
        refine lv_ri (ey1 : xs (nI (i + 1)).toNatClampNeg = y1) ?_
        refine lv_aload_n hx hb dL_law_372 rfl (lv_at hl 0 rfl) ?_
        refine lv_iload_n hx hb dL_law_373 rfl (lv_at hl 3 rfl) ?_
        refine lv_iconst (v := 2) hx hb dL_law_374 (by decide) ?_
        refine lv_iadd hx hb dL_law_375 ?_
        refine lv_ri (show nI i + 2 = nI (i + 2) from nI_add i 2) ?_
        refine va_sld hx hb hX hbl hbA hS (vp_in_nI (n := i + 2) (N := L) (by omega) (by omega)) dL_law_376 ?_
        refine lv_ri (ey2 : xs (nI (i + 2)).toNatClampNeg = y2) ?_
        refine lv_aload_n hx hb dL_law_377 rfl (lv_at hl 0 rfl) ?_
        refine lv_iload_n hx hb dL_law_378 rfl (lv_at hl 3 rfl) ?_
        refine lv_iconst (v := 3) hx hb dL_law_379 (by decide) ?_
        refine lv_iadd hx hb dL_law_380 ?_
        refine lv_ri (show nI i + 3 = nI (i + 3) from nI_add i 3) ?_
        refine va_sld hx hb hX hbl hbA hS (vp_in_nI (n := i + 3) (N := L) (by omega) (by omega)) dL_law_381 ?_
        refine lv_ri (ey3 : xs (nI (i + 3)).toNatClampNeg = y3) ?_
        refine bm_i [] ([EO ob h t ia kp] ++ ((LW cA h as st) ++ (LW cA t as2 st2))) ([AO cR ia h0 h1] ++ ((LW cA h0 a0 s0) ++ ((LW cA h1 a1 s1) ++ (MW cA cZ hm am g im km)))) [.int y1, .int y2, .int y3] [] ⟨hx, hb, hml, hown, hts⟩ (c_X1_learnt l D cA cZ cR ob h t ia kp as st as2 st2 y1 y2 y3) (cwV 3 hts gL_law_X1_learnt rfl rfl rfl (by decide +kernel) ⟨(Nat.le_of_ble_eq_true rfl), (Nat.le_of_ble_eq_true rfl)⟩) hE hP hD hS hA ELLW_adr 0 1 rfl rfl rfl hl.1 rfl (Nat.le_of_ble_eq_true rfl) dL_law_382 ⟨(Nat.le_of_ble_eq_true rfl), (Nat.le_of_ble_eq_true rfl)⟩ (fun H locs hP hD hS => ?_)
        obtain ⟨nst2, enst2⟩ : ∃ z : St, z = xs_learnt st st2 y1 y2 y3 := ⟨_, rfl⟩
        rw [← enst2] at hP hD
        have hP : va_P D vwCl (WL cA cZ cR ob h as st t as2 nst2 ia h0 a0 s0 h1 a1 s1 kp hm am g im km) H := hP
        have hD : va_D (fun q : Nat => s.heap.size ≤ q) (WL cA cZ cR ob h as st t as2 nst2 ia h0 a0 s0 h1 a1 s1 kp hm am g im km) := hD
        refine lv_topi (fun r1 er1 => ?_)
        refine lv_aload_n hx hb dL_law_385 rfl (lv_at hl 2 rfl) ?_
        refine lv_aload_n hx hb dL_law_386 rfl (lv_at hl 0 rfl) ?_
        refine lv_iload_n hx hb dL_law_387 rfl (lv_at hl 3 rfl) ?_
        refine lv_iconst (v := 1) hx hb dL_law_388 (by decide) ?_
        refine lv_iadd hx hb dL_law_389 ?_
        refine lv_ri (show nI i + 1 = nI (i + 1) from nI_add i 1) ?_
        refine va_sld hx hb hX hbl hbA hS (vp_in_nI (n := i + 1) (N := L) (by omega) (by omega)) dL_law_390 ?_
        refine lv_ri (ey1 : xs (nI (i + 1)).toNatClampNeg = y1) ?_
        refine lv_aload_n hx hb dL_law_391 rfl (lv_at hl 0 rfl) ?_
        refine lv_iload_n hx hb dL_law_392 rfl (lv_at hl 3 rfl) ?_
        refine lv_iconst (v := 2) hx hb dL_law_393 (by decide) ?_
        refine lv_iadd hx hb dL_law_394 ?_
        refine lv_ri (show nI i + 2 = nI (i + 2) from nI_add i 2) ?_
        refine va_sld hx hb hX hbl hbA hS (vp_in_nI (n := i + 2) (N := L) (by omega) (by omega)) dL_law_395 ?_
        refine lv_ri (ey2 : xs (nI (i + 2)).toNatClampNeg = y2) ?_
        refine lv_aload_n hx hb dL_law_396 rfl (lv_at hl 0 rfl) ?_
        refine lv_iload_n hx hb dL_law_397 rfl (lv_at hl 3 rfl) ?_
        refine lv_iconst (v := 3) hx hb dL_law_398 (by decide) ?_
        refine lv_iadd hx hb dL_law_399 ?_
        refine lv_ri (show nI i + 3 = nI (i + 3) from nI_add i 3) ?_
        refine va_sld hx hb hX hbl hbA hS (vp_in_nI (n := i + 3) (N := L) (by omega) (by omega)) dL_law_400 ?_
        refine lv_ri (ey3 : xs (nI (i + 3)).toNatClampNeg = y3) ?_
        refine bm_i ([EO ob h t ia kp] ++ ((LW cA h as st) ++ ((LW cA t as2 nst2) ++ ([AO cR ia h0 h1] ++ ((LW cA h0 a0 s0) ++ (LW cA h1 a1 s1)))))) (MW cA cZ hm am g im km) [] [.int y1, .int y2, .int y3] [.int r1] ⟨hx, hb, hml, hown, hts⟩ (c_X2_learnt l D cA cZ cR hm am g im km y1 y2 y3 hI.2.2.1 hI.2.2.2.1) (cwV 3 hts gL_law_X2_learnt rfl rfl rfl (by decide +kernel) ⟨(Nat.le_of_ble_eq_true rfl), (Nat.le_of_ble_eq_true rfl)⟩) hE hP hD hS hA MW_adr 0 2 rfl rfl rfl hl.1 rfl (Nat.le_of_ble_eq_true rfl) dL_law_401 ⟨(Nat.le_of_ble_eq_true rfl), (Nat.le_of_ble_eq_true rfl)⟩ (fun H locs hP hD hS => ?_)
        obtain ⟨nim, enim⟩ : ∃ z : Fn, z = ym_learnt g im y1 y2 y3 := ⟨_, rfl⟩
        rw [← enim] at hP hD
        have hP : va_P D vwCl (WL cA cZ cR ob h as st t as2 nst2 ia h0 a0 s0 h1 a1 s1 kp hm am g nim km) H := hP
        have hD : va_D (fun q : Nat => s.heap.size ≤ q) (WL cA cZ cR ob h as st t as2 nst2 ia h0 a0 s0 h1 a1 s1 kp hm am g nim km) := hD
        have hq := learnt_c hR hI (by omega) y1 y2 y3
        have he : ∀ u, u < 2 → ∀ j, j < 555 → sl im u j = sl nim u j := by
          intro u hu j hj
          rw [enim, ym_learnt]
          split
          · rfl
          · exact sl_sv2 im g hu j hj
        have hn : Sys st s0 s1 kp g nim km (15 * (i + 4)) := hS0.next (by omega) (show T ≤ _ by omega) hR hI (he 0 (by decide)) (he 1 (by decide))
        refine lv_icmp_eq (tgt := 570) hx hb dL_law_404 (by decide) (fun _ => ?_) (fun z => absurd (er1.trans hq) z)
        exact fin st nst2 s0 s1 kp g nim km hn H locs hP hD hS
      | 9, _ =>
        refine lv_tableIn (tgt := 409) hx hb dL_law_32 (by decide) (by decide) (off := 377) rfl (by decide) ?_
        obtain ⟨y1, ey1⟩ : ∃ z : Int32, xs (nI (i + 1)).toNatClampNeg = z := ⟨_, rfl⟩
        refine lv_aload_n hx hb dL_law_409 rfl (lv_at hl 1 rfl) ?_
        refine lv_aload_n hx hb dL_law_410 rfl (lv_at hl 0 rfl) ?_
        refine lv_iload_n hx hb dL_law_411 rfl (lv_at hl 3 rfl) ?_
        refine lv_iconst (v := 1) hx hb dL_law_412 (by decide) ?_
        refine lv_iadd hx hb dL_law_413 ?_
        refine lv_ri (show nI i + 1 = nI (i + 1) from nI_add i 1) ?_
        refine va_sld hx hb hX hbl hbA hS (vp_in_nI (n := i + 1) (N := L) (by omega) (by omega)) dL_law_414 ?_
        refine lv_ri (ey1 : xs (nI (i + 1)).toNatClampNeg = y1) ?_
        refine bm_i [] ([EO ob h t ia kp] ++ (LW cA h as st)) ((LW cA t as2 st2) ++ ([AO cR ia h0 h1] ++ ((LW cA h0 a0 s0) ++ ((LW cA h1 a1 s1) ++ (MW cA cZ hm am g im km))))) [.int y1] [] ⟨hx, hb, hml, hown, hts⟩ (c_X1_likeness l D cA cZ cR ob h t ia kp as st y1) (cwV 1 hts gL_law_X1_likeness rfl rfl rfl (by decide +kernel) ⟨(Nat.le_of_ble_eq_true rfl), (Nat.le_of_ble_eq_true rfl)⟩) hE hP hD hS hA ELW_adr 0 1 rfl rfl rfl hl.1 rfl (Nat.le_of_ble_eq_true rfl) dL_law_415 ⟨(Nat.le_of_ble_eq_true rfl), (Nat.le_of_ble_eq_true rfl)⟩ (fun H locs hP hD hS => ?_)
        have hP : va_P D vwCl (WL cA cZ cR ob h as st t as2 st2 ia h0 a0 s0 h1 a1 s1 kp hm am g im km) H := hP
        have hD : va_D (fun q : Nat => s.heap.size ≤ q) (WL cA cZ cR ob h as st t as2 st2 ia h0 a0 s0 h1 a1 s1 kp hm am g im km) := hD
        refine lv_topi (fun r1 er1 => ?_)
        refine lv_aload_n hx hb dL_law_418 rfl (lv_at hl 2 rfl) ?_
        refine lv_aload_n hx hb dL_law_419 rfl (lv_at hl 0 rfl) ?_
        refine lv_iload_n hx hb dL_law_420 rfl (lv_at hl 3 rfl) ?_
        refine lv_iconst (v := 1) hx hb dL_law_421 (by decide) ?_
        refine lv_iadd hx hb dL_law_422 ?_
        refine lv_ri (show nI i + 1 = nI (i + 1) from nI_add i 1) ?_
        refine va_sld hx hb hX hbl hbA hS (vp_in_nI (n := i + 1) (N := L) (by omega) (by omega)) dL_law_423 ?_
        refine lv_ri (ey1 : xs (nI (i + 1)).toNatClampNeg = y1) ?_
        refine bm_i ([EO ob h t ia kp] ++ ((LW cA h as st) ++ ((LW cA t as2 st2) ++ ([AO cR ia h0 h1] ++ ((LW cA h0 a0 s0) ++ (LW cA h1 a1 s1)))))) (MW cA cZ hm am g im km) [] [.int y1] [.int r1] ⟨hx, hb, hml, hown, hts⟩ (c_X2_likeness l D cA cZ cR hm am g im km y1) (cwV 1 hts gL_law_X2_likeness rfl rfl rfl (by decide +kernel) ⟨(Nat.le_of_ble_eq_true rfl), (Nat.le_of_ble_eq_true rfl)⟩) hE hP hD hS hA MW_adr 0 2 rfl rfl rfl hl.1 rfl (Nat.le_of_ble_eq_true rfl) dL_law_424 ⟨(Nat.le_of_ble_eq_true rfl), (Nat.le_of_ble_eq_true rfl)⟩ (fun H locs hP hD hS => ?_)
        have hP : va_P D vwCl (WL cA cZ cR ob h as st t as2 st2 ia h0 a0 s0 h1 a1 s1 kp hm am g im km) H := hP
        have hD : va_D (fun q : Nat => s.heap.size ≤ q) (WL cA cZ cR ob h as st t as2 st2 ia h0 a0 s0 h1 a1 s1 kp hm am g im km) := hD
        have hq := like_c hR (by omega) y1
        have hn : Sys st s0 s1 kp g im km (15 * (i + 4)) := hS0.next (by omega) (show T ≤ _ by omega) hR hI (fun _ _ => rfl) (fun _ _ => rfl)
        refine lv_icmp_eq (tgt := 570) hx hb dL_law_427 (by decide) (fun _ => ?_) (fun z => absurd (er1.trans hq) z)
        exact fin st st2 s0 s1 kp g im km hn H locs hP hD hS
      | 10, _ =>
        refine lv_tableIn (tgt := 432) hx hb dL_law_32 (by decide) (by decide) (off := 400) rfl (by decide) ?_
        refine lv_aload_n hx hb dL_law_432 rfl (lv_at hl 1 rfl) ?_
        refine bm_i [] ([EO ob h t ia kp] ++ (LW cA h as st)) ((LW cA t as2 st2) ++ ([AO cR ia h0 h1] ++ ((LW cA h0 a0 s0) ++ ((LW cA h1 a1 s1) ++ (MW cA cZ hm am g im km))))) [] [] ⟨hx, hb, hml, hown, hts⟩ (c_X1_seek l D cA cZ cR ob h t ia kp as st) (cwV 0 hts gL_law_X1_seek rfl rfl rfl (by decide +kernel) ⟨(Nat.le_of_ble_eq_true rfl), (Nat.le_of_ble_eq_true rfl)⟩) hE hP hD hS hA ELW_adr 0 1 rfl rfl rfl hl.1 rfl (Nat.le_of_ble_eq_true rfl) dL_law_433 ⟨(Nat.le_of_ble_eq_true rfl), (Nat.le_of_ble_eq_true rfl)⟩ (fun H locs hP hD hS => ?_)
        obtain ⟨nst, enst⟩ : ∃ z : St, z = xs_seek st := ⟨_, rfl⟩
        rw [← enst] at hP hD
        have hP : va_P D vwCl (WL cA cZ cR ob h as nst t as2 st2 ia h0 a0 s0 h1 a1 s1 kp hm am g im km) H := hP
        have hD : va_D (fun q : Nat => s.heap.size ≤ q) (WL cA cZ cR ob h as nst t as2 st2 ia h0 a0 s0 h1 a1 s1 kp hm am g im km) := hD
        refine lv_topi (fun r1 er1 => ?_)
        refine lv_aload_n hx hb dL_law_436 rfl (lv_at hl 2 rfl) ?_
        refine bm_i ([EO ob h t ia kp] ++ ((LW cA h as nst) ++ ((LW cA t as2 st2) ++ ([AO cR ia h0 h1] ++ ((LW cA h0 a0 s0) ++ (LW cA h1 a1 s1)))))) (MW cA cZ hm am g im km) [] [] [.int r1] ⟨hx, hb, hml, hown, hts⟩ (c_X2_seek l D cA cZ cR hm am g im km) (cwV 0 hts gL_law_X2_seek rfl rfl rfl (by decide +kernel) ⟨(Nat.le_of_ble_eq_true rfl), (Nat.le_of_ble_eq_true rfl)⟩) hE hP hD hS hA MW_adr 0 2 rfl rfl rfl hl.1 rfl (Nat.le_of_ble_eq_true rfl) dL_law_437 ⟨(Nat.le_of_ble_eq_true rfl), (Nat.le_of_ble_eq_true rfl)⟩ (fun H locs hP hD hS => ?_)
        obtain ⟨ng, eng⟩ : ∃ z : Fn, z = ys_seek g := ⟨_, rfl⟩
        rw [← eng] at hP hD
        have hP : va_P D vwCl (WL cA cZ cR ob h as nst t as2 st2 ia h0 a0 s0 h1 a1 s1 kp hm am ng im km) H := hP
        have hD : va_D (fun q : Nat => s.heap.size ≤ q) (WL cA cZ cR ob h as nst t as2 st2 ia h0 a0 s0 h1 a1 s1 kp hm am ng im km) := hD
        obtain ⟨hq, hR2, hI2⟩ := seek_ok hR hI (by omega)
        have hn : Sys nst s0 s1 kp ng im km (15 * (i + 4)) := by rw [enst, eng]; exact hS0.next (by omega) (show T ≤ _ by omega) hR2 hI2 (fun _ _ => rfl) (fun _ _ => rfl)
        refine lv_icmp_eq (tgt := 570) hx hb dL_law_440 (by decide) (fun _ => ?_) (fun z => absurd (er1.trans hq) z)
        exact fin nst st2 s0 s1 kp ng im km hn H locs hP hD hS
      | 11, _ =>
        refine lv_tableIn (tgt := 445) hx hb dL_law_32 (by decide) (by decide) (off := 413) rfl (by decide) ?_
        obtain ⟨y1, ey1⟩ : ∃ z : Int32, xs (nI (i + 1)).toNatClampNeg = z := ⟨_, rfl⟩
        refine lv_aload_n hx hb dL_law_445 rfl (lv_at hl 1 rfl) ?_
        refine lv_aload_n hx hb dL_law_446 rfl (lv_at hl 0 rfl) ?_
        refine lv_iload_n hx hb dL_law_447 rfl (lv_at hl 3 rfl) ?_
        refine lv_iconst (v := 1) hx hb dL_law_448 (by decide) ?_
        refine lv_iadd hx hb dL_law_449 ?_
        refine lv_ri (show nI i + 1 = nI (i + 1) from nI_add i 1) ?_
        refine va_sld hx hb hX hbl hbA hS (vp_in_nI (n := i + 1) (N := L) (by omega) (by omega)) dL_law_450 ?_
        refine lv_ri (ey1 : xs (nI (i + 1)).toNatClampNeg = y1) ?_
        refine bm_i [] ([EO ob h t ia kp] ++ (LW cA h as st)) ((LW cA t as2 st2) ++ ([AO cR ia h0 h1] ++ ((LW cA h0 a0 s0) ++ ((LW cA h1 a1 s1) ++ (MW cA cZ hm am g im km))))) [.int y1] [] ⟨hx, hb, hml, hown, hts⟩ (c_X1_gain l D cA cZ cR ob h t ia kp as st y1) (cwV 1 hts gL_law_X1_gain rfl rfl rfl (by decide +kernel) ⟨(Nat.le_of_ble_eq_true rfl), (Nat.le_of_ble_eq_true rfl)⟩) hE hP hD hS hA ELW_adr 0 1 rfl rfl rfl hl.1 rfl (Nat.le_of_ble_eq_true rfl) dL_law_451 ⟨(Nat.le_of_ble_eq_true rfl), (Nat.le_of_ble_eq_true rfl)⟩ (fun H locs hP hD hS => ?_)
        have hP : va_P D vwCl (WL cA cZ cR ob h as st t as2 st2 ia h0 a0 s0 h1 a1 s1 kp hm am g im km) H := hP
        have hD : va_D (fun q : Nat => s.heap.size ≤ q) (WL cA cZ cR ob h as st t as2 st2 ia h0 a0 s0 h1 a1 s1 kp hm am g im km) := hD
        refine lv_topi (fun r1 er1 => ?_)
        refine lv_aload_n hx hb dL_law_454 rfl (lv_at hl 2 rfl) ?_
        refine lv_aload_n hx hb dL_law_455 rfl (lv_at hl 0 rfl) ?_
        refine lv_iload_n hx hb dL_law_456 rfl (lv_at hl 3 rfl) ?_
        refine lv_iconst (v := 1) hx hb dL_law_457 (by decide) ?_
        refine lv_iadd hx hb dL_law_458 ?_
        refine lv_ri (show nI i + 1 = nI (i + 1) from nI_add i 1) ?_
        refine va_sld hx hb hX hbl hbA hS (vp_in_nI (n := i + 1) (N := L) (by omega) (by omega)) dL_law_459 ?_
        refine lv_ri (ey1 : xs (nI (i + 1)).toNatClampNeg = y1) ?_
        have hgn := gain_ok hR hI (by omega) y1
        refine bm_i ([EO ob h t ia kp] ++ ((LW cA h as st) ++ ((LW cA t as2 st2) ++ ([AO cR ia h0 h1] ++ ((LW cA h0 a0 s0) ++ (LW cA h1 a1 s1)))))) (MW cA cZ hm am g im km) [] [.int y1] [.int r1] ⟨hx, hb, hml, hown, hts⟩ (c_X2_gain l D cA cZ cR hm am g im km 64 y1 hgn.2.1 hgn.2.2) (cwV 1 hts gL_law_X2_gain rfl rfl rfl (by decide +kernel) ⟨(Nat.le_of_ble_eq_true rfl), (Nat.le_of_ble_eq_true rfl)⟩) hE hP hD hS hA MW_adr 0 2 rfl rfl rfl hl.1 rfl (Nat.le_of_ble_eq_true rfl) dL_law_460 ⟨(Nat.le_of_ble_eq_true rfl), (Nat.le_of_ble_eq_true rfl)⟩ (fun H locs hP hD hS => ?_)
        have hP : va_P D vwCl (WL cA cZ cR ob h as st t as2 st2 ia h0 a0 s0 h1 a1 s1 kp hm am g im km) H := hP
        have hD : va_D (fun q : Nat => s.heap.size ≤ q) (WL cA cZ cR ob h as st t as2 st2 ia h0 a0 s0 h1 a1 s1 kp hm am g im km) := hD
        have hq := hgn.1
        have hn : Sys st s0 s1 kp g im km (15 * (i + 4)) := hS0.next (by omega) (show T ≤ _ by omega) hR hI (fun _ _ => rfl) (fun _ _ => rfl)
        refine lv_icmp_eq (tgt := 570) hx hb dL_law_463 (by decide) (fun _ => ?_) (fun z => absurd (er1.trans hq) z)
        exact fin st st2 s0 s1 kp g im km hn H locs hP hD hS
      | 12, _ =>
        refine lv_tableIn (tgt := 468) hx hb dL_law_32 (by decide) (by decide) (off := 436) rfl (by decide) ?_
        obtain ⟨y1, ey1⟩ : ∃ z : Int32, xs (nI (i + 1)).toNatClampNeg = z := ⟨_, rfl⟩
        obtain ⟨y2, ey2⟩ : ∃ z : Int32, xs (nI (i + 2)).toNatClampNeg = z := ⟨_, rfl⟩
        refine lv_aload_n hx hb dL_law_468 rfl (lv_at hl 1 rfl) ?_
        refine lv_aload_n hx hb dL_law_469 rfl (lv_at hl 0 rfl) ?_
        refine lv_iload_n hx hb dL_law_470 rfl (lv_at hl 3 rfl) ?_
        refine lv_iconst (v := 1) hx hb dL_law_471 (by decide) ?_
        refine lv_iadd hx hb dL_law_472 ?_
        refine lv_ri (show nI i + 1 = nI (i + 1) from nI_add i 1) ?_
        refine va_sld hx hb hX hbl hbA hS (vp_in_nI (n := i + 1) (N := L) (by omega) (by omega)) dL_law_473 ?_
        refine lv_ri (ey1 : xs (nI (i + 1)).toNatClampNeg = y1) ?_
        refine lv_aload_n hx hb dL_law_474 rfl (lv_at hl 0 rfl) ?_
        refine lv_iload_n hx hb dL_law_475 rfl (lv_at hl 3 rfl) ?_
        refine lv_iconst (v := 2) hx hb dL_law_476 (by decide) ?_
        refine lv_iadd hx hb dL_law_477 ?_
        refine lv_ri (show nI i + 2 = nI (i + 2) from nI_add i 2) ?_
        refine va_sld hx hb hX hbl hbA hS (vp_in_nI (n := i + 2) (N := L) (by omega) (by omega)) dL_law_478 ?_
        refine lv_ri (ey2 : xs (nI (i + 2)).toNatClampNeg = y2) ?_
        refine bm_i [] ([EO ob h t ia kp] ++ (LW cA h as st)) ((LW cA t as2 st2) ++ ([AO cR ia h0 h1] ++ ((LW cA h0 a0 s0) ++ ((LW cA h1 a1 s1) ++ (MW cA cZ hm am g im km))))) [.int y1, .int y2] [] ⟨hx, hb, hml, hown, hts⟩ (c_X1_began l D cA cZ cR ob h t ia kp as st y1 y2) (cwV 2 hts gL_law_X1_began rfl rfl rfl (by decide +kernel) ⟨(Nat.le_of_ble_eq_true rfl), (Nat.le_of_ble_eq_true rfl)⟩) hE hP hD hS hA ELW_adr 0 1 rfl rfl rfl hl.1 rfl (Nat.le_of_ble_eq_true rfl) dL_law_479 ⟨(Nat.le_of_ble_eq_true rfl), (Nat.le_of_ble_eq_true rfl)⟩ (fun H locs hP hD hS => ?_)
        have hP : va_P D vwCl (WL cA cZ cR ob h as st t as2 st2 ia h0 a0 s0 h1 a1 s1 kp hm am g im km) H := hP
        have hD : va_D (fun q : Nat => s.heap.size ≤ q) (WL cA cZ cR ob h as st t as2 st2 ia h0 a0 s0 h1 a1 s1 kp hm am g im km) := hD
        refine lv_topi (fun r1 er1 => ?_)
        refine lv_aload_n hx hb dL_law_482 rfl (lv_at hl 2 rfl) ?_
        refine lv_aload_n hx hb dL_law_483 rfl (lv_at hl 0 rfl) ?_
        refine lv_iload_n hx hb dL_law_484 rfl (lv_at hl 3 rfl) ?_
        refine lv_iconst (v := 1) hx hb dL_law_485 (by decide) ?_
        refine lv_iadd hx hb dL_law_486 ?_
        refine lv_ri (show nI i + 1 = nI (i + 1) from nI_add i 1) ?_
        refine va_sld hx hb hX hbl hbA hS (vp_in_nI (n := i + 1) (N := L) (by omega) (by omega)) dL_law_487 ?_
        refine lv_ri (ey1 : xs (nI (i + 1)).toNatClampNeg = y1) ?_
        refine lv_aload_n hx hb dL_law_488 rfl (lv_at hl 0 rfl) ?_
        refine lv_iload_n hx hb dL_law_489 rfl (lv_at hl 3 rfl) ?_
        refine lv_iconst (v := 2) hx hb dL_law_490 (by decide) ?_
        refine lv_iadd hx hb dL_law_491 ?_
        refine lv_ri (show nI i + 2 = nI (i + 2) from nI_add i 2) ?_
        refine va_sld hx hb hX hbl hbA hS (vp_in_nI (n := i + 2) (N := L) (by omega) (by omega)) dL_law_492 ?_
        refine lv_ri (ey2 : xs (nI (i + 2)).toNatClampNeg = y2) ?_
        refine bm_i ([EO ob h t ia kp] ++ ((LW cA h as st) ++ ((LW cA t as2 st2) ++ ([AO cR ia h0 h1] ++ ((LW cA h0 a0 s0) ++ (LW cA h1 a1 s1)))))) (MW cA cZ hm am g im km) [] [.int y1, .int y2] [.int r1] ⟨hx, hb, hml, hown, hts⟩ (c_X2_began l D cA cZ cR hm am g im km T y1 y2 (by omega) hR.2.1) (cwV 2 hts gL_law_X2_began rfl rfl rfl (by decide +kernel) ⟨(Nat.le_of_ble_eq_true rfl), (Nat.le_of_ble_eq_true rfl)⟩) hE hP hD hS hA MW_adr 0 2 rfl rfl rfl hl.1 rfl (Nat.le_of_ble_eq_true rfl) dL_law_493 ⟨(Nat.le_of_ble_eq_true rfl), (Nat.le_of_ble_eq_true rfl)⟩ (fun H locs hP hD hS => ?_)
        have hP : va_P D vwCl (WL cA cZ cR ob h as st t as2 st2 ia h0 a0 s0 h1 a1 s1 kp hm am g im km) H := hP
        have hD : va_D (fun q : Nat => s.heap.size ≤ q) (WL cA cZ cR ob h as st t as2 st2 ia h0 a0 s0 h1 a1 s1 kp hm am g im km) := hD
        have hq := began_c hR hI (by omega) y1 y2
        have hn : Sys st s0 s1 kp g im km (15 * (i + 4)) := hS0.next (by omega) (show T ≤ _ by omega) hR hI (fun _ _ => rfl) (fun _ _ => rfl)
        refine lv_icmp_eq (tgt := 570) hx hb dL_law_496 (by decide) (fun _ => ?_) (fun z => absurd (er1.trans hq) z)
        exact fin st st2 s0 s1 kp g im km hn H locs hP hD hS
      | 13, _ =>
        refine lv_tableIn (tgt := 501) hx hb dL_law_32 (by decide) (by decide) (off := 469) rfl (by decide) ?_
        obtain ⟨y1, ey1⟩ : ∃ z : Int32, xs (nI (i + 1)).toNatClampNeg = z := ⟨_, rfl⟩
        refine lv_aload_n hx hb dL_law_501 rfl (lv_at hl 1 rfl) ?_
        refine lv_aload_n hx hb dL_law_502 rfl (lv_at hl 0 rfl) ?_
        refine lv_iload_n hx hb dL_law_503 rfl (lv_at hl 3 rfl) ?_
        refine lv_iconst (v := 1) hx hb dL_law_504 (by decide) ?_
        refine lv_iadd hx hb dL_law_505 ?_
        refine lv_ri (show nI i + 1 = nI (i + 1) from nI_add i 1) ?_
        refine va_sld hx hb hX hbl hbA hS (vp_in_nI (n := i + 1) (N := L) (by omega) (by omega)) dL_law_506 ?_
        refine lv_ri (ey1 : xs (nI (i + 1)).toNatClampNeg = y1) ?_
        have hP : va_P D vwCl (([EO ob h t ia kp] ++ ([AO cR ia h0 h1] ++ ((LW cA h as st) ++ ((LW cA h0 a0 s0) ++ (LW cA h1 a1 s1))))) ++ ((LW cA t as2 st2) ++ (MW cA cZ hm am g im km))) H := hP.sub [0, 19, 1, 2, 3, 4, 5, 6, 7, 8, 9, 20, 21, 22, 23, 24, 25, 26, 27, 28, 29, 30, 31, 32, 33, 34, 35, 36, 37, 10, 11, 12, 13, 14, 15, 16, 17, 18, 38, 39, 40, 41] rfl
        have hD : va_D (fun q : Nat => s.heap.size ≤ q) (([EO ob h t ia kp] ++ ([AO cR ia h0 h1] ++ ((LW cA h as st) ++ ((LW cA h0 a0 s0) ++ (LW cA h1 a1 s1))))) ++ ((LW cA t as2 st2) ++ (MW cA cZ hm am g im km))) := hD.sub [0, 19, 1, 2, 3, 4, 5, 6, 7, 8, 9, 20, 21, 22, 23, 24, 25, 26, 27, 28, 29, 30, 31, 32, 33, 34, 35, 36, 37, 10, 11, 12, 13, 14, 15, 16, 17, 18, 38, 39, 40, 41] (by decide) rfl
        refine bm_i [] ([EO ob h t ia kp] ++ ([AO cR ia h0 h1] ++ ((LW cA h as st) ++ ((LW cA h0 a0 s0) ++ (LW cA h1 a1 s1))))) ((LW cA t as2 st2) ++ (MW cA cZ hm am g im km)) [.int y1] [] ⟨hx, hb, hml, hown, hts⟩ (c_X1_image l D cA cZ cR ob h t ia kp as st h0 a0 s0 h1 a1 s1 y1) (cwV 1 hts gL_law_X1_image rfl rfl rfl (by decide +kernel) ⟨(Nat.le_of_ble_eq_true rfl), (Nat.le_of_ble_eq_true rfl)⟩) hE hP hD hS hA W5_adr 0 1 rfl rfl rfl hl.1 rfl (Nat.le_of_ble_eq_true rfl) dL_law_507 ⟨(Nat.le_of_ble_eq_true rfl), (Nat.le_of_ble_eq_true rfl)⟩ (fun H locs hP hD hS => ?_)
        obtain ⟨nkp, enkp⟩ : ∃ z : Int32, z = xk_image kp y1 := ⟨_, rfl⟩
        obtain ⟨ns0, ens0⟩ : ∃ z : St, z = xs_im0 st s0 y1 := ⟨_, rfl⟩
        obtain ⟨ns1, ens1⟩ : ∃ z : St, z = xs_im1 st s1 y1 := ⟨_, rfl⟩
        rw [← enkp, ← ens0, ← ens1] at hP hD
        have hP : va_P D vwCl (([EO ob h t ia nkp] ++ ([AO cR ia h0 h1] ++ ((LW cA h as st) ++ ((LW cA h0 a0 ns0) ++ (LW cA h1 a1 ns1))))) ++ ((LW cA t as2 st2) ++ (MW cA cZ hm am g im km))) H := hP
        have hD : va_D (fun q : Nat => s.heap.size ≤ q) (([EO ob h t ia nkp] ++ ([AO cR ia h0 h1] ++ ((LW cA h as st) ++ ((LW cA h0 a0 ns0) ++ (LW cA h1 a1 ns1))))) ++ ((LW cA t as2 st2) ++ (MW cA cZ hm am g im km))) := hD
        have hP : va_P D vwCl (WL cA cZ cR ob h as st t as2 st2 ia h0 a0 ns0 h1 a1 ns1 nkp hm am g im km) H := hP.sub [0, 2, 3, 4, 5, 6, 7, 8, 9, 10, 29, 30, 31, 32, 33, 34, 35, 36, 37, 1, 11, 12, 13, 14, 15, 16, 17, 18, 19, 20, 21, 22, 23, 24, 25, 26, 27, 28, 38, 39, 40, 41] rfl
        have hD : va_D (fun q : Nat => s.heap.size ≤ q) (WL cA cZ cR ob h as st t as2 st2 ia h0 a0 ns0 h1 a1 ns1 nkp hm am g im km) := hD.sub [0, 2, 3, 4, 5, 6, 7, 8, 9, 10, 29, 30, 31, 32, 33, 34, 35, 36, 37, 1, 11, 12, 13, 14, 15, 16, 17, 18, 19, 20, 21, 22, 23, 24, 25, 26, 27, 28, 38, 39, 40, 41] (by decide) rfl
        refine lv_topi (fun r1 er1 => ?_)
        refine lv_aload_n hx hb dL_law_510 rfl (lv_at hl 2 rfl) ?_
        refine lv_aload_n hx hb dL_law_511 rfl (lv_at hl 0 rfl) ?_
        refine lv_iload_n hx hb dL_law_512 rfl (lv_at hl 3 rfl) ?_
        refine lv_iconst (v := 1) hx hb dL_law_513 (by decide) ?_
        refine lv_iadd hx hb dL_law_514 ?_
        refine lv_ri (show nI i + 1 = nI (i + 1) from nI_add i 1) ?_
        refine va_sld hx hb hX hbl hbA hS (vp_in_nI (n := i + 1) (N := L) (by omega) (by omega)) dL_law_515 ?_
        refine lv_ri (ey1 : xs (nI (i + 1)).toNatClampNeg = y1) ?_
        refine bm_i ([EO ob h t ia nkp] ++ ((LW cA h as st) ++ ((LW cA t as2 st2) ++ ([AO cR ia h0 h1] ++ ((LW cA h0 a0 ns0) ++ (LW cA h1 a1 ns1)))))) (MW cA cZ hm am g im km) [] [.int y1] [.int r1] ⟨hx, hb, hml, hown, hts⟩ (c_X2_image l D cA cZ cR hm am g im km y1) (cwV 1 hts gL_law_X2_image rfl rfl rfl (by decide +kernel) ⟨(Nat.le_of_ble_eq_true rfl), (Nat.le_of_ble_eq_true rfl)⟩) hE hP hD hS hA MW_adr 0 2 rfl rfl rfl hl.1 rfl (Nat.le_of_ble_eq_true rfl) dL_law_516 ⟨(Nat.le_of_ble_eq_true rfl), (Nat.le_of_ble_eq_true rfl)⟩ (fun H locs hP hD hS => ?_)
        obtain ⟨nim, enim⟩ : ∃ z : Fn, z = ym_image g im y1 := ⟨_, rfl⟩
        obtain ⟨nkm, enkm⟩ : ∃ z : Fn, z = yk_image km y1 := ⟨_, rfl⟩
        rw [← enim, ← enkm] at hP hD
        have hP : va_P D vwCl (WL cA cZ cR ob h as st t as2 st2 ia h0 a0 ns0 h1 a1 ns1 nkp hm am g nim nkm) H := hP
        have hD : va_D (fun q : Nat => s.heap.size ≤ q) (WL cA cZ cR ob h as st t as2 st2 ia h0 a0 ns0 h1 a1 ns1 nkp hm am g nim nkm) := hD
        have hq : xf_image y1 = xf_image y1 := rfl
        have hn : Sys st ns0 ns1 nkp g nim nkm (15 * (i + 4)) := by rw [enkp, ens0, ens1, enim, enkm]; exact (image_ok (hS0.next (B' := 15 * (i + 4)) (by omega) (show T ≤ _ by omega) hR hI (fun _ _ => rfl) (fun _ _ => rfl)) y1)
        refine lv_icmp_eq (tgt := 570) hx hb dL_law_519 (by decide) (fun _ => ?_) (fun z => absurd (er1.trans hq) z)
        exact fin st st2 ns0 ns1 nkp g nim nkm hn H locs hP hD hS
      | 14, _ =>
        refine lv_tableIn (tgt := 524) hx hb dL_law_32 (by decide) (by decide) (off := 492) rfl (by decide) ?_
        obtain ⟨y1, ey1⟩ : ∃ z : Int32, xs (nI (i + 1)).toNatClampNeg = z := ⟨_, rfl⟩
        refine lv_aload_n hx hb dL_law_524 rfl (lv_at hl 1 rfl) ?_
        refine lv_aload_n hx hb dL_law_525 rfl (lv_at hl 0 rfl) ?_
        refine lv_iload_n hx hb dL_law_526 rfl (lv_at hl 3 rfl) ?_
        refine lv_iconst (v := 1) hx hb dL_law_527 (by decide) ?_
        refine lv_iadd hx hb dL_law_528 ?_
        refine lv_ri (show nI i + 1 = nI (i + 1) from nI_add i 1) ?_
        refine va_sld hx hb hX hbl hbA hS (vp_in_nI (n := i + 1) (N := L) (by omega) (by omega)) dL_law_529 ?_
        refine lv_ri (ey1 : xs (nI (i + 1)).toNatClampNeg = y1) ?_
        have hP : va_P D vwCl (([EO ob h t ia kp] ++ ([AO cR ia h0 h1] ++ ((LW cA h as st) ++ ((LW cA h0 a0 s0) ++ (LW cA h1 a1 s1))))) ++ ((LW cA t as2 st2) ++ (MW cA cZ hm am g im km))) H := hP.sub [0, 19, 1, 2, 3, 4, 5, 6, 7, 8, 9, 20, 21, 22, 23, 24, 25, 26, 27, 28, 29, 30, 31, 32, 33, 34, 35, 36, 37, 10, 11, 12, 13, 14, 15, 16, 17, 18, 38, 39, 40, 41] rfl
        have hD : va_D (fun q : Nat => s.heap.size ≤ q) (([EO ob h t ia kp] ++ ([AO cR ia h0 h1] ++ ((LW cA h as st) ++ ((LW cA h0 a0 s0) ++ (LW cA h1 a1 s1))))) ++ ((LW cA t as2 st2) ++ (MW cA cZ hm am g im km))) := hD.sub [0, 19, 1, 2, 3, 4, 5, 6, 7, 8, 9, 20, 21, 22, 23, 24, 25, 26, 27, 28, 29, 30, 31, 32, 33, 34, 35, 36, 37, 10, 11, 12, 13, 14, 15, 16, 17, 18, 38, 39, 40, 41] (by decide) rfl
        refine bm_i [] ([EO ob h t ia kp] ++ ([AO cR ia h0 h1] ++ ((LW cA h as st) ++ ((LW cA h0 a0 s0) ++ (LW cA h1 a1 s1))))) ((LW cA t as2 st2) ++ (MW cA cZ hm am g im km)) [.int y1] [] ⟨hx, hb, hml, hown, hts⟩ (c_X1_restore l D cA cZ cR ob h t ia kp as st h0 a0 s0 h1 a1 s1 y1) (cwV 1 hts gL_law_X1_restore rfl rfl rfl (by decide +kernel) ⟨(Nat.le_of_ble_eq_true rfl), (Nat.le_of_ble_eq_true rfl)⟩) hE hP hD hS hA W5_adr 0 1 rfl rfl rfl hl.1 rfl (Nat.le_of_ble_eq_true rfl) dL_law_530 ⟨(Nat.le_of_ble_eq_true rfl), (Nat.le_of_ble_eq_true rfl)⟩ (fun H locs hP hD hS => ?_)
        obtain ⟨nst, enst⟩ : ∃ z : St, z = xs_rest st s0 s1 kp y1 := ⟨_, rfl⟩
        rw [← enst] at hP hD
        have hP : va_P D vwCl (([EO ob h t ia kp] ++ ([AO cR ia h0 h1] ++ ((LW cA h as nst) ++ ((LW cA h0 a0 s0) ++ (LW cA h1 a1 s1))))) ++ ((LW cA t as2 st2) ++ (MW cA cZ hm am g im km))) H := hP
        have hD : va_D (fun q : Nat => s.heap.size ≤ q) (([EO ob h t ia kp] ++ ([AO cR ia h0 h1] ++ ((LW cA h as nst) ++ ((LW cA h0 a0 s0) ++ (LW cA h1 a1 s1))))) ++ ((LW cA t as2 st2) ++ (MW cA cZ hm am g im km))) := hD
        have hP : va_P D vwCl (WL cA cZ cR ob h as nst t as2 st2 ia h0 a0 s0 h1 a1 s1 kp hm am g im km) H := hP.sub [0, 2, 3, 4, 5, 6, 7, 8, 9, 10, 29, 30, 31, 32, 33, 34, 35, 36, 37, 1, 11, 12, 13, 14, 15, 16, 17, 18, 19, 20, 21, 22, 23, 24, 25, 26, 27, 28, 38, 39, 40, 41] rfl
        have hD : va_D (fun q : Nat => s.heap.size ≤ q) (WL cA cZ cR ob h as nst t as2 st2 ia h0 a0 s0 h1 a1 s1 kp hm am g im km) := hD.sub [0, 2, 3, 4, 5, 6, 7, 8, 9, 10, 29, 30, 31, 32, 33, 34, 35, 36, 37, 1, 11, 12, 13, 14, 15, 16, 17, 18, 19, 20, 21, 22, 23, 24, 25, 26, 27, 28, 38, 39, 40, 41] (by decide) rfl
        refine lv_topi (fun r1 er1 => ?_)
        refine lv_aload_n hx hb dL_law_533 rfl (lv_at hl 2 rfl) ?_
        refine lv_aload_n hx hb dL_law_534 rfl (lv_at hl 0 rfl) ?_
        refine lv_iload_n hx hb dL_law_535 rfl (lv_at hl 3 rfl) ?_
        refine lv_iconst (v := 1) hx hb dL_law_536 (by decide) ?_
        refine lv_iadd hx hb dL_law_537 ?_
        refine lv_ri (show nI i + 1 = nI (i + 1) from nI_add i 1) ?_
        refine va_sld hx hb hX hbl hbA hS (vp_in_nI (n := i + 1) (N := L) (by omega) (by omega)) dL_law_538 ?_
        refine lv_ri (ey1 : xs (nI (i + 1)).toNatClampNeg = y1) ?_
        refine bm_i ([EO ob h t ia kp] ++ ((LW cA h as nst) ++ ((LW cA t as2 st2) ++ ([AO cR ia h0 h1] ++ ((LW cA h0 a0 s0) ++ (LW cA h1 a1 s1)))))) (MW cA cZ hm am g im km) [] [.int y1] [.int r1] ⟨hx, hb, hml, hown, hts⟩ (c_X2_restore l D cA cZ cR hm am g im km y1) (cwV 1 hts gL_law_X2_restore rfl rfl rfl (by decide +kernel) ⟨(Nat.le_of_ble_eq_true rfl), (Nat.le_of_ble_eq_true rfl)⟩) hE hP hD hS hA MW_adr 0 2 rfl rfl rfl hl.1 rfl (Nat.le_of_ble_eq_true rfl) dL_law_539 ⟨(Nat.le_of_ble_eq_true rfl), (Nat.le_of_ble_eq_true rfl)⟩ (fun H locs hP hD hS => ?_)
        obtain ⟨ng, eng⟩ : ∃ z : Fn, z = yg_rest g im km y1 := ⟨_, rfl⟩
        rw [← eng] at hP hD
        have hP : va_P D vwCl (WL cA cZ cR ob h as nst t as2 st2 ia h0 a0 s0 h1 a1 s1 kp hm am ng im km) H := hP
        have hD : va_D (fun q : Nat => s.heap.size ≤ q) (WL cA cZ cR ob h as nst t as2 st2 ia h0 a0 s0 h1 a1 s1 kp hm am ng im km) := hD
        obtain ⟨hq, hn0⟩ := rest_ok (hS0.next (B' := 15 * (i + 4)) (by omega) (show T ≤ _ by omega) hR hI (fun _ _ => rfl) (fun _ _ => rfl)) y1
        have hn : Sys nst s0 s1 kp ng im km (15 * (i + 4)) := by rw [enst, eng]; exact hn0
        refine lv_icmp_eq (tgt := 570) hx hb dL_law_542 (by decide) (fun _ => ?_) (fun z => absurd (er1.trans hq) z)
        exact fin nst st2 s0 s1 kp ng im km hn H locs hP hD hS
      | 15, _ =>
        refine lv_tableIn (tgt := 547) hx hb dL_law_32 (by decide) (by decide) (off := 515) rfl (by decide) ?_
        obtain ⟨y1, ey1⟩ : ∃ z : Int32, xs (nI (i + 1)).toNatClampNeg = z := ⟨_, rfl⟩
        refine lv_aload_n hx hb dL_law_547 rfl (lv_at hl 1 rfl) ?_
        refine lv_aload_n hx hb dL_law_548 rfl (lv_at hl 0 rfl) ?_
        refine lv_iload_n hx hb dL_law_549 rfl (lv_at hl 3 rfl) ?_
        refine lv_iconst (v := 1) hx hb dL_law_550 (by decide) ?_
        refine lv_iadd hx hb dL_law_551 ?_
        refine lv_ri (show nI i + 1 = nI (i + 1) from nI_add i 1) ?_
        refine va_sld hx hb hX hbl hbA hS (vp_in_nI (n := i + 1) (N := L) (by omega) (by omega)) dL_law_552 ?_
        refine lv_ri (ey1 : xs (nI (i + 1)).toNatClampNeg = y1) ?_
        refine bm_i [] ([EO ob h t ia kp] ++ (LW cA h as st)) ((LW cA t as2 st2) ++ ([AO cR ia h0 h1] ++ ((LW cA h0 a0 s0) ++ ((LW cA h1 a1 s1) ++ (MW cA cZ hm am g im km))))) [.int y1] [] ⟨hx, hb, hml, hown, hts⟩ (c_X1_count l D cA cZ cR ob h t ia kp as st y1) (cwV 1 hts gL_law_X1_count rfl rfl rfl (by decide +kernel) ⟨(Nat.le_of_ble_eq_true rfl), (Nat.le_of_ble_eq_true rfl)⟩) hE hP hD hS hA ELW_adr 0 1 rfl rfl rfl hl.1 rfl (Nat.le_of_ble_eq_true rfl) dL_law_553 ⟨(Nat.le_of_ble_eq_true rfl), (Nat.le_of_ble_eq_true rfl)⟩ (fun H locs hP hD hS => ?_)
        have hP : va_P D vwCl (WL cA cZ cR ob h as st t as2 st2 ia h0 a0 s0 h1 a1 s1 kp hm am g im km) H := hP
        have hD : va_D (fun q : Nat => s.heap.size ≤ q) (WL cA cZ cR ob h as st t as2 st2 ia h0 a0 s0 h1 a1 s1 kp hm am g im km) := hD
        refine lv_topi (fun r1 er1 => ?_)
        refine lv_aload_n hx hb dL_law_556 rfl (lv_at hl 2 rfl) ?_
        refine lv_aload_n hx hb dL_law_557 rfl (lv_at hl 0 rfl) ?_
        refine lv_iload_n hx hb dL_law_558 rfl (lv_at hl 3 rfl) ?_
        refine lv_iconst (v := 1) hx hb dL_law_559 (by decide) ?_
        refine lv_iadd hx hb dL_law_560 ?_
        refine lv_ri (show nI i + 1 = nI (i + 1) from nI_add i 1) ?_
        refine va_sld hx hb hX hbl hbA hS (vp_in_nI (n := i + 1) (N := L) (by omega) (by omega)) dL_law_561 ?_
        refine lv_ri (ey1 : xs (nI (i + 1)).toNatClampNeg = y1) ?_
        refine bm_i ([EO ob h t ia kp] ++ ((LW cA h as st) ++ ((LW cA t as2 st2) ++ ([AO cR ia h0 h1] ++ ((LW cA h0 a0 s0) ++ (LW cA h1 a1 s1)))))) (MW cA cZ hm am g im km) [] [.int y1] [.int r1] ⟨hx, hb, hml, hown, hts⟩ (c_X2_count l D cA cZ cR hm am g im km y1) (cwV 1 hts gL_law_X2_count rfl rfl rfl (by decide +kernel) ⟨(Nat.le_of_ble_eq_true rfl), (Nat.le_of_ble_eq_true rfl)⟩) hE hP hD hS hA MW_adr 0 2 rfl rfl rfl hl.1 rfl (Nat.le_of_ble_eq_true rfl) dL_law_562 ⟨(Nat.le_of_ble_eq_true rfl), (Nat.le_of_ble_eq_true rfl)⟩ (fun H locs hP hD hS => ?_)
        have hP : va_P D vwCl (WL cA cZ cR ob h as st t as2 st2 ia h0 a0 s0 h1 a1 s1 kp hm am g im km) H := hP
        have hD : va_D (fun q : Nat => s.heap.size ≤ q) (WL cA cZ cR ob h as st t as2 st2 ia h0 a0 s0 h1 a1 s1 kp hm am g im km) := hD
        have hq := count_c hR hk y1
        have hn : Sys st s0 s1 kp g im km (15 * (i + 4)) := hS0.next (by omega) (show T ≤ _ by omega) hR hI (fun _ _ => rfl) (fun _ _ => rfl)
        refine lv_icmp_eq (tgt := 570) hx hb dL_law_565 (by decide) (fun _ => ?_) (fun z => absurd (er1.trans hq) z)
        exact fin st st2 s0 s1 kp g im km hn H locs hP hD hS
      | j + 16, hj => omega
