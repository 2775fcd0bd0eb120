def lf_w (s : St) (k j : Nat) (v : Int32) : St := va_up s k (upd (s k) j v)
def lf_n1 (st : St) (near : Int32) : St := lf_w st 4 (st 8 0 &&& 63).toNatClampNeg near
def lf_tlk (s1 : St) (near : Int32) : Int32 := if 2 * pf_ab near ≤ lf_loud s1 then 0 else 1
def lf_lr (s2 : St) (tn pw : Int32) : Int32 := if ¬ s2 8 1 = 0 then 0 else if ¬ tn = 0 then 0 else if pw ≤ 0 then 0 else 1
def lf_n3 (s2 : St) (lr lft pw : Int32) : St := if lr = 0 then s2 else lf_learn s2 lft pw
def lf_o (s3 : St) (near tn lft : Int32) : Int32 := if tn ≤ 0 then lf_sor s3 lft else near
def lf_n4 (s3 : St) (tn lft : Int32) : St := if tn ≤ 0 then lf_sos s3 lft else s3
def lf_b1 (x : Int32) : Int32 := if x = 0 then 0 else 1
def lf_b2 (x : Int32) : Int32 := if x ≤ 0 then 0 else 2
def lf_n6 (s4 : St) (tk tn out : Int32) : St := lf_w (lf_w s4 5 (s4 8 0 &&& 63).toNatClampNeg out) 6 (s4 8 0 &&& 255).toNatClampNeg (lf_b1 tk ||| lf_b2 tn)
def lf_n8 (s6 : St) (est lft out loud pw tk tn lr : Int32) : St := lf_w (lf_w (lf_w (lf_w (lf_w (lf_w (lf_w (lf_w s6 7 0 est) 7 1 lft) 7 2 out) 7 3 loud) 7 4 pw) 7 5 (lf_b1 tk)) 7 6 tn) 7 7 (lf_b1 lr)
/-- what a TICK's second half works out: the state behind NEAR's coming, TALK, the state behind HOLD, LEFT, TONE, POWER, whether it learns, the state behind that, OUT, and the state at the end -/
def lf_t2 (st : St) (near : Int32) : St := lf_hold (lf_n1 st near) (lf_tlk (lf_n1 st near) near)
def lf_tl (st : St) (near : Int32) : Int32 := near - lf_est (lf_n1 st near)
def lf_tt (st : St) (near : Int32) : Int32 := nI (lf_tone (lf_t2 st near))
def lf_tp (st : St) (near : Int32) : Int32 := lf_pow (lf_t2 st near)
def lf_tr (st : St) (near : Int32) : Int32 := lf_lr (lf_t2 st near) (lf_tt st near) (lf_tp st near)
def lf_t3 (st : St) (near : Int32) : St := lf_n3 (lf_t2 st near) (lf_tr st near) (lf_tl st near) (lf_tp st near)
def lf_out (st : St) (near : Int32) : Int32 := lf_o (lf_t3 st near) near (lf_tt st near) (lf_tl st near)
def lf_t6 (st : St) (near : Int32) : St := lf_n6 (lf_n4 (lf_t3 st near) (lf_tt st near) (lf_tl st near)) (lf_tlk (lf_n1 st near) near) (lf_tt st near) (lf_out st near)
def lf_near (st : St) (near : Int32) : St := lf_n8 (lf_t6 st near) (lf_est (lf_n1 st near)) (lf_tl st near) (lf_out st near) (lf_loud (lf_n1 st near)) (lf_tp st near) (lf_tlk (lf_n1 st near) near) (lf_tt st near) (lf_tr st near)
abbrev rm_X0_takeNear : Room := { frames := 3, cells := 0, slots := 0, locals := 69 }
theorem iw_X0_takeNear_X0 : ∀ w ∈ wsX00, w ∈ wsX0_takeNear := by decide +kernel
set_option maxRecDepth 100000 in
set_option maxHeartbeats 4000000 in
theorem c_X0_takeNear (l : Launch) (D : va_G) (cA cZ cR : ClassId) (h : Nat) (as : Nat → Nat) (st : St) (near : Int32) : BMi l D cA cZ cR yX0_takeNear wsX0_takeNear rm_X0_takeNear [.ref h, .int near] (LW cA h as st) (LW cA h as (lf_near st near)) (lf_out st near) := by
  refine bm_open (maxL := 10) (by decide) rfl rfl rfl (Nat.le_of_ble_eq_true rfl) ?_
  intro p e s m args below meth c A Q hx hb hml hts hown hE hP hD hA hS hret ls hl
  have hown : s.vm.findClass RX0 = some m.cls := hown
  have hl : lv_has ls 10 [(0, .ref h), (1, .int near)] := hl
  obtain ⟨H, locs, eH, eL⟩ : ∃ (H : Heap) (locs : List Loc), H = s.heap ∧ locs = [] := ⟨_, _, rfl, rfl⟩
  rw [← eH, ← eL]
  rw [← eH] at hP
  have hS : va_S A s.heap H locs := by rw [eH, eL]; exact hS
  clear eH eL
  refine lv_aload_n hx hb dX0_takeNear_0 rfl (lv_at hl 0 rfl) ?_
  refine va_get (D := D) (ci := 0) (v := .ref (as 4)) (C := RX0) (T := TX0) (N := 11) hx hb hts iw_X0_takeNear_X0 hown hE.1 hP 0 rfl rfl 4 (by decide) (hts (.fieldLink RX0 32 "EchoTaps$Line" "nears" "[I") (by decide +kernel)) (fun _ h9 => h9) rfl dX0_takeNear_1 ?_
  refine lv_aload_n hx hb dX0_takeNear_4 rfl (lv_at hl 0 rfl) ?_
  refine va_get (D := D) (ci := 0) (v := .int (st 8 0)) (C := RX0) (T := TX0) (N := 11) hx hb hts iw_X0_takeNear_X0 hown hE.1 hP 0 rfl rfl 8 (by decide) (hts (.fieldLink RX0 50 "EchoTaps$Line" "ticks" "I") (by decide +kernel)) (fun _ h9 => h9) rfl dX0_takeNear_5 ?_
  refine lv_bipush (v := 63) hx hb dX0_takeNear_8 (by decide) ?_
  refine lv_iand hx hb dX0_takeNear_10 ?_
  refine lv_iload_n hx hb dX0_takeNear_11 rfl (lv_at hl 1 rfl) ?_
  refine va_iast hx hb hE.1 hP hD hS 5 0 rfl rfl (in63 _) dX0_takeNear_12 (fun H locs hP hD hS => ?_)
  have hP : va_P D vwCl (LW cA h as (va_up st 4 (upd (st 4) ((st 8 0) &&& 63).toNatClampNeg near))) H := hP
  have hD : va_D A (LW cA h as (va_up st 4 (upd (st 4) ((st 8 0) &&& 63).toNatClampNeg near))) := hD
  have hP : va_P D vwCl (LW cA h as (lf_n1 st near)) H := hP
  have hD : va_D A (LW cA h as (lf_n1 st near)) := hD
  obtain ⟨s1, es1⟩ : ∃ z : St, z = lf_n1 st near := ⟨_, rfl⟩
  rw [← es1] at hP hD
  refine lv_aload_n hx hb dX0_takeNear_13 rfl (lv_at hl 0 rfl) ?_
  refine bm_i [] (LW cA h as s1) [] [] [] ⟨hx, hb, hml, hown, hts⟩ (c_X0_estimated l D cA cZ cR h as s1) (cwV 0 hts gX0_takeNear_X0_estimated rfl rfl rfl (by decide +kernel) ⟨Nat.le_of_ble_eq_true rfl, Nat.le_of_ble_eq_true rfl⟩) hE hP hD hS hA LW_adr 0 0 rfl rfl rfl hl.1 rfl (Nat.le_of_ble_eq_true rfl) dX0_takeNear_14 ⟨Nat.zero_le _, Nat.zero_le _⟩ (fun H locs hP hD hS => ?_)
  have hP : va_P D vwCl (LW cA h as s1) H := hP
  have hD : va_D A (LW cA h as s1) := hD
  refine lv_topi (fun est eest => ?_)
  refine lv_istore_n (lv' := [(2, .int est), (0, .ref h), (1, .int near)]) hx hb dX0_takeNear_17 rfl hl (by decide) rfl (fun ls hl => ?_)
  refine lv_iload_n hx hb dX0_takeNear_18 rfl (lv_at hl 2 rfl) ?_
  refine lv_iload_n hx hb dX0_takeNear_19 rfl (lv_at hl 0 rfl) ?_
  refine lv_isub hx hb dX0_takeNear_20 ?_
  refine lv_topi (fun lft elft => ?_)
  refine lv_istore_n (lv' := [(3, .int lft), (2, .int est), (0, .ref h), (1, .int near)]) hx hb dX0_takeNear_21 rfl hl (by decide) rfl (fun ls hl => ?_)
  refine lv_aload_n hx hb dX0_takeNear_22 rfl (lv_at hl 2 rfl) ?_
  refine bm_i [] (LW cA h as s1) [] [] [] ⟨hx, hb, hml, hown, hts⟩ (c_X0_loudest l D cA cZ cR h as s1) (cwV 0 hts gX0_takeNear_X0_loudest rfl rfl rfl (by decide +kernel) ⟨Nat.le_of_ble_eq_true rfl, Nat.le_of_ble_eq_true rfl⟩) hE hP hD hS hA LW_adr 0 0 rfl rfl rfl hl.1 rfl (Nat.le_of_ble_eq_true rfl) dX0_takeNear_23 ⟨Nat.zero_le _, Nat.zero_le _⟩ (fun H locs hP hD hS => ?_)
  have hP : va_P D vwCl (LW cA h as s1) H := hP
  have hD : va_D A (LW cA h as s1) := hD
  refine lv_topi (fun loud eloud => ?_)
  refine lv_istore (lv' := [(4, .int loud), (3, .int lft), (2, .int est), (0, .ref h), (1, .int near)]) hx hb dX0_takeNear_26 hl (by decide) rfl (fun ls hl => ?_)
  refine lv_iconst (v := 2) hx hb dX0_takeNear_28 (by decide) ?_
  refine lv_iload_n hx hb dX0_takeNear_29 rfl (lv_at hl 4 rfl) ?_
  refine va_mabs hx hb (hml.trans hl.1.symm) hown (hts (.methodLink RX0 67 Lib.Math.abs.name) (by decide +kernel)) (hts (.static Lib.Math.abs.name) (by decide +kernel)) (hts (.initialized "java/lang/Math") (by decide +kernel)) (hts (.code Lib.Math.abs.name Lib.Math.abs.code 1 (some .int)) (by decide +kernel)) (Nat.le_of_ble_eq_true rfl) (Nat.le_of_ble_eq_true rfl) (Nat.zero_le _) (Nat.zero_le _) dX0_takeNear_30 ?_
  refine lv_imul hx hb dX0_takeNear_33 ?_
  refine lv_iload hx hb dX0_takeNear_34 (lv_at hl 0 rfl) ?_
  have j44 : ∀ (tk : Int32) (etk : tk = lf_tlk s1 near), W p l e rm_X0_takeNear s m args below meth c H locs 0 0 Q (F0 m 44 ls [.int tk]) := by
    intro tk etk
    refine lv_istore (lv' := [(5, .int tk), (4, .int loud), (3, .int lft), (2, .int est), (0, .ref h), (1, .int near)]) hx hb dX0_takeNear_44 hl (by decide) rfl (fun ls hl => ?_)
    refine lv_aload_n hx hb dX0_takeNear_46 rfl (lv_at hl 4 rfl) ?_
    refine lv_iload hx hb dX0_takeNear_47 (lv_at hl 0 rfl) ?_
    refine bm_v [] (LW cA h as s1) [] [.int tk] [] ⟨hx, hb, hml, hown, hts⟩ (c_X0_holdBy l D cA cZ cR h as s1 tk) (cwV 1 hts gX0_takeNear_X0_holdBy rfl rfl rfl (by decide +kernel) ⟨Nat.le_of_ble_eq_true rfl, Nat.le_of_ble_eq_true rfl⟩) hE hP hD hS hA LW_adr 0 0 rfl rfl rfl hl.1 rfl (Nat.le_of_ble_eq_true rfl) dX0_takeNear_49 ⟨Nat.zero_le _, Nat.zero_le _⟩ (fun H locs hP hD hS => ?_)
    have hP : va_P D vwCl (LW cA h as (lf_hold s1 tk)) H := hP
    have hD : va_D A (LW cA h as (lf_hold s1 tk)) := hD
    have hP : va_P D vwCl (LW cA h as (lf_hold s1 tk)) H := hP
    have hD : va_D A (LW cA h as (lf_hold s1 tk)) := hD
    obtain ⟨s2, es2⟩ : ∃ z : St, z = lf_hold s1 tk := ⟨_, rfl⟩
    rw [← es2] at hP hD
    refine lv_aload_n hx hb dX0_takeNear_52 rfl (lv_at hl 4 rfl) ?_
    refine bm_i [] (LW cA h as s2) [] [] [] ⟨hx, hb, hml, hown, hts⟩ (c_X0_tonePeriod l D cA cZ cR h as s2) (cwV 0 hts gX0_takeNear_X0_tonePeriod rfl rfl rfl (by decide +kernel) ⟨Nat.le_of_ble_eq_true rfl, Nat.le_of_ble_eq_true rfl⟩) hE hP hD hS hA LW_adr 0 0 rfl rfl rfl hl.1 rfl (Nat.le_of_ble_eq_true rfl) dX0_takeNear_53 ⟨Nat.zero_le _, Nat.zero_le _⟩ (fun H locs hP hD hS => ?_)
    have hP : va_P D vwCl (LW cA h as s2) H := hP
    have hD : va_D A (LW cA h as s2) := hD
    refine lv_topi (fun tn etn => ?_)
    refine lv_istore (lv' := [(6, .int tn), (5, .int tk), (4, .int loud), (3, .int lft), (2, .int est), (0, .ref h), (1, .int near)]) hx hb dX0_takeNear_56 hl (by decide) rfl (fun ls hl => ?_)
    refine lv_aload_n hx hb dX0_takeNear_58 rfl (lv_at hl 5 rfl) ?_
    refine bm_i [] (LW cA h as s2) [] [] [] ⟨hx, hb, hml, hown, hts⟩ (c_X0_powerSeen l D cA cZ cR h as s2) (cwV 0 hts gX0_takeNear_X0_powerSeen rfl rfl rfl (by decide +kernel) ⟨Nat.le_of_ble_eq_true rfl, Nat.le_of_ble_eq_true rfl⟩) hE hP hD hS hA LW_adr 0 0 rfl rfl rfl hl.1 rfl (Nat.le_of_ble_eq_true rfl) dX0_takeNear_59 ⟨Nat.zero_le _, Nat.zero_le _⟩ (fun H locs hP hD hS => ?_)
    have hP : va_P D vwCl (LW cA h as s2) H := hP
    have hD : va_D A (LW cA h as s2) := hD
    refine lv_topi (fun pw epw => ?_)
    refine lv_istore (lv' := [(7, .int pw), (6, .int tn), (5, .int tk), (4, .int loud), (3, .int lft), (2, .int est), (0, .ref h), (1, .int near)]) hx hb dX0_takeNear_62 hl (by decide) rfl (fun ls hl => ?_)
    refine lv_aload_n hx hb dX0_takeNear_64 rfl (lv_at hl 6 rfl) ?_
    refine va_get (D := D) (ci := 0) (v := .int (s2 8 1)) (C := RX0) (T := TX0) (N := 11) hx hb hts iw_X0_takeNear_X0 hown hE.1 hP 0 rfl rfl 9 (by decide) (hts (.fieldLink RX0 54 "EchoTaps$Line" "hold" "I") (by decide +kernel)) (fun _ h9 => h9) rfl dX0_takeNear_65 ?_
    have j86 : ∀ (lr : Int32) (elr : lr = lf_lr s2 tn pw), W p l e rm_X0_takeNear s m args below meth c H locs 0 0 Q (F0 m 86 ls [.int lr]) := by
      intro lr elr
      refine lv_istore (lv' := [(8, .int lr), (7, .int pw), (6, .int tn), (5, .int tk), (4, .int loud), (3, .int lft), (2, .int est), (0, .ref h), (1, .int near)]) hx hb dX0_takeNear_86 hl (by decide) rfl (fun ls hl => ?_)
      refine lv_iload hx hb dX0_takeNear_88 (lv_at hl 0 rfl) ?_
      have j100 : ∀ (s3 : St) (es3 : s3 = lf_n3 s2 lr lft pw), ∀ (H : Heap) (locs : List Loc), va_P D vwCl (LW cA h as s3) H → va_D A (LW cA h as s3) → va_S A s.heap H locs → W p l e rm_X0_takeNear s m args below meth c H locs 0 0 Q (F0 m 100 ls []) := by
        intro s3 es3 H locs hP hD hS
        refine lv_iload hx hb dX0_takeNear_100 (lv_at hl 2 rfl) ?_
        have j114 : ∀ (out : Int32) (s4 : St) (eout : out = lf_o s3 near tn lft) (es4 : s4 = lf_n4 s3 tn lft), ∀ (H : Heap) (locs : List Loc), va_P D vwCl (LW cA h as s4) H → va_D A (LW cA h as s4) → va_S A s.heap H locs → W p l e rm_X0_takeNear s m args below meth c H locs 0 0 Q (F0 m 114 ls [.int out]) := by
          intro out s4 eout es4 H locs hP hD hS
          refine lv_istore (lv' := [(9, .int out), (8, .int lr), (7, .int pw), (6, .int tn), (5, .int tk), (4, .int loud), (3, .int lft), (2, .int est), (0, .ref h), (1, .int near)]) hx hb dX0_takeNear_114 hl (by decide) rfl (fun ls hl => ?_)
          refine lv_aload_n hx hb dX0_takeNear_116 rfl (lv_at hl 8 rfl) ?_
          refine va_get (D := D) (ci := 0) (v := .ref (as 5)) (C := RX0) (T := TX0) (N := 11) hx hb hts iw_X0_takeNear_X0 hown hE.1 hP 0 rfl rfl 5 (by decide) (hts (.fieldLink RX0 35 "EchoTaps$Line" "outs" "[I") (by decide +kernel)) (fun _ h9 => h9) rfl dX0_takeNear_117 ?_
          refine lv_aload_n hx hb dX0_takeNear_120 rfl (lv_at hl 8 rfl) ?_
          refine va_get (D := D) (ci := 0) (v := .int (s4 8 0)) (C := RX0) (T := TX0) (N := 11) hx hb hts iw_X0_takeNear_X0 hown hE.1 hP 0 rfl rfl 8 (by decide) (hts (.fieldLink RX0 50 "EchoTaps$Line" "ticks" "I") (by decide +kernel)) (fun _ h9 => h9) rfl dX0_takeNear_121 ?_
          refine lv_bipush (v := 63) hx hb dX0_takeNear_124 (by decide) ?_
          refine lv_iand hx hb dX0_takeNear_126 ?_
          refine lv_iload hx hb dX0_takeNear_127 (lv_at hl 0 rfl) ?_
          refine va_iast hx hb hE.1 hP hD hS 6 0 rfl rfl (in63 _) dX0_takeNear_129 (fun H locs hP hD hS => ?_)
          have hP : va_P D vwCl (LW cA h as (va_up s4 5 (upd (s4 5) ((s4 8 0) &&& 63).toNatClampNeg out))) H := hP
          have hD : va_D A (LW cA h as (va_up s4 5 (upd (s4 5) ((s4 8 0) &&& 63).toNatClampNeg out))) := hD
          have hP : va_P D vwCl (LW cA h as (lf_w s4 5 (s4 8 0 &&& 63).toNatClampNeg out)) H := hP
          have hD : va_D A (LW cA h as (lf_w s4 5 (s4 8 0 &&& 63).toNatClampNeg out)) := hD
          obtain ⟨s5, es5⟩ : ∃ z : St, z = lf_w s4 5 (s4 8 0 &&& 63).toNatClampNeg out := ⟨_, rfl⟩
          rw [← es5] at hP hD
          refine lv_aload_n hx hb dX0_takeNear_130 rfl (lv_at hl 8 rfl) ?_
          refine va_get (D := D) (ci := 0) (v := .ref (as 6)) (C := RX0) (T := TX0) (N := 11) hx hb hts iw_X0_takeNear_X0 hown hE.1 hP 0 rfl rfl 6 (by decide) (hts (.fieldLink RX0 38 "EchoTaps$Line" "marks" "[I") (by decide +kernel)) (fun _ h9 => h9) rfl dX0_takeNear_131 ?_
          refine lv_aload_n hx hb dX0_takeNear_134 rfl (lv_at hl 8 rfl) ?_
          refine va_get (D := D) (ci := 0) (v := .int (s5 8 0)) (C := RX0) (T := TX0) (N := 11) hx hb hts iw_X0_takeNear_X0 hown hE.1 hP 0 rfl rfl 8 (by decide) (hts (.fieldLink RX0 50 "EchoTaps$Line" "ticks" "I") (by decide +kernel)) (fun _ h9 => h9) rfl dX0_takeNear_135 ?_
          refine lv_sipush (v := 255) hx hb dX0_takeNear_138 (by decide) ?_
          refine lv_iand hx hb dX0_takeNear_141 ?_
          refine lv_iload hx hb dX0_takeNear_142 (lv_at hl 4 rfl) ?_
          have j152 : ∀ (b1 : Int32) (eb1 : b1 = lf_b1 tk), W p l e rm_X0_takeNear s m args below meth c H locs 0 0 Q (F0 m 152 ls [.int b1, .int ((s5 8 0) &&& 255), .ref (as 6)]) := by
            intro b1 eb1
            refine lv_iload hx hb dX0_takeNear_152 (lv_at hl 3 rfl) ?_
            have j162 : ∀ (b2 : Int32) (eb2 : b2 = lf_b2 tn), W p l e rm_X0_takeNear s m args below meth c H locs 0 0 Q (F0 m 162 ls [.int b2, .int b1, .int ((s5 8 0) &&& 255), .ref (as 6)]) := by
              intro b2 eb2
              refine lv_ior hx hb dX0_takeNear_162 ?_
              refine va_iast hx hb hE.1 hP hD hS 7 0 rfl rfl (in255 _) dX0_takeNear_163 (fun H locs hP hD hS => ?_)
              have hP : va_P D vwCl (LW cA h as (va_up s5 6 (upd (s5 6) ((s5 8 0) &&& 255).toNatClampNeg (b1 ||| b2)))) H := hP
              have hD : va_D A (LW cA h as (va_up s5 6 (upd (s5 6) ((s5 8 0) &&& 255).toNatClampNeg (b1 ||| b2)))) := hD
              have hP : va_P D vwCl (LW cA h as (lf_w s5 6 (s5 8 0 &&& 255).toNatClampNeg (b1 ||| b2))) H := hP
              have hD : va_D A (LW cA h as (lf_w s5 6 (s5 8 0 &&& 255).toNatClampNeg (b1 ||| b2))) := hD
              obtain ⟨s6, es6⟩ : ∃ z : St, z = lf_w s5 6 (s5 8 0 &&& 255).toNatClampNeg (b1 ||| b2) := ⟨_, rfl⟩
              rw [← es6] at hP hD
              refine lv_aload_n hx hb dX0_takeNear_164 rfl (lv_at hl 8 rfl) ?_
              refine va_get (D := D) (ci := 0) (v := .ref (as 7)) (C := RX0) (T := TX0) (N := 11) hx hb hts iw_X0_takeNear_X0 hown hE.1 hP 0 rfl rfl 7 (by decide) (hts (.fieldLink RX0 41 "EchoTaps$Line" "told" "[I") (by decide +kernel)) (fun _ h9 => h9) rfl dX0_takeNear_165 ?_
              refine lv_iconst (v := 0) hx hb dX0_takeNear_168 (by decide) ?_
              refine lv_iload_n hx hb dX0_takeNear_169 rfl (lv_at hl 7 rfl) ?_
              refine va_iast hx hb hE.1 hP hD hS 8 0 rfl rfl (vp_in_nI (n := 0) (N := 8) (by decide) (by decide)) dX0_takeNear_170 (fun H locs hP hD hS => ?_)
              have hP : va_P D vwCl (LW cA h as (va_up s6 7 (upd (s6 7) 0 est))) H := hP
              have hD : va_D A (LW cA h as (va_up s6 7 (upd (s6 7) 0 est))) := hD
              have hP : va_P D vwCl (LW cA h as (lf_w s6 7 0 est)) H := hP
              have hD : va_D A (LW cA h as (lf_w s6 7 0 est)) := hD
              obtain ⟨r0, er0⟩ : ∃ z : St, z = lf_w s6 7 0 est := ⟨_, rfl⟩
              rw [← er0] at hP hD
              refine lv_aload_n hx hb dX0_takeNear_171 rfl (lv_at hl 8 rfl) ?_
              refine va_get (D := D) (ci := 0) (v := .ref (as 7)) (C := RX0) (T := TX0) (N := 11) hx hb hts iw_X0_takeNear_X0 hown hE.1 hP 0 rfl rfl 7 (by decide) (hts (.fieldLink RX0 41 "EchoTaps$Line" "told" "[I") (by decide +kernel)) (fun _ h9 => h9) rfl dX0_takeNear_172 ?_
              refine lv_iconst (v := 1) hx hb dX0_takeNear_175 (by decide) ?_
              refine lv_iload_n hx hb dX0_takeNear_176 rfl (lv_at hl 6 rfl) ?_
              refine va_iast hx hb hE.1 hP hD hS 8 0 rfl rfl (vp_in_nI (n := 1) (N := 8) (by decide) (by decide)) dX0_takeNear_177 (fun H locs hP hD hS => ?_)
              have hP : va_P D vwCl (LW cA h as (va_up r0 7 (upd (r0 7) 1 lft))) H := hP
              have hD : va_D A (LW cA h as (va_up r0 7 (upd (r0 7) 1 lft))) := hD
              have hP : va_P D vwCl (LW cA h as (lf_w r0 7 1 lft)) H := hP
              have hD : va_D A (LW cA h as (lf_w r0 7 1 lft)) := hD
              obtain ⟨r1, er1⟩ : ∃ z : St, z = lf_w r0 7 1 lft := ⟨_, rfl⟩
              rw [← er1] at hP hD
              refine lv_aload_n hx hb dX0_takeNear_178 rfl (lv_at hl 8 rfl) ?_
              refine va_get (D := D) (ci := 0) (v := .ref (as 7)) (C := RX0) (T := TX0) (N := 11) hx hb hts iw_X0_takeNear_X0 hown hE.1 hP 0 rfl rfl 7 (by decide) (hts (.fieldLink RX0 41 "EchoTaps$Line" "told" "[I") (by decide +kernel)) (fun _ h9 => h9) rfl dX0_takeNear_179 ?_
              refine lv_iconst (v := 2) hx hb dX0_takeNear_182 (by decide) ?_
              refine lv_iload hx hb dX0_takeNear_183 (lv_at hl 0 rfl) ?_
              refine va_iast hx hb hE.1 hP hD hS 8 0 rfl rfl (vp_in_nI (n := 2) (N := 8) (by decide) (by decide)) dX0_takeNear_185 (fun H locs hP hD hS => ?_)
              have hP : va_P D vwCl (LW cA h as (va_up r1 7 (upd (r1 7) 2 out))) H := hP
              have hD : va_D A (LW cA h as (va_up r1 7 (upd (r1 7) 2 out))) := hD
              have hP : va_P D vwCl (LW cA h as (lf_w r1 7 2 out)) H := hP
              have hD : va_D A (LW cA h as (lf_w r1 7 2 out)) := hD
              obtain ⟨r2, er2⟩ : ∃ z : St, z = lf_w r1 7 2 out := ⟨_, rfl⟩
              rw [← er2] at hP hD
              refine lv_aload_n hx hb dX0_takeNear_186 rfl (lv_at hl 8 rfl) ?_
              refine va_get (D := D) (ci := 0) (v := .ref (as 7)) (C := RX0) (T := TX0) (N := 11) hx hb hts iw_X0_takeNear_X0 hown hE.1 hP 0 rfl rfl 7 (by decide) (hts (.fieldLink RX0 41 "EchoTaps$Line" "told" "[I") (by decide +kernel)) (fun _ h9 => h9) rfl dX0_takeNear_187 ?_
              refine lv_iconst (v := 3) hx hb dX0_takeNear_190 (by decide) ?_
              refine lv_iload hx hb dX0_takeNear_191 (lv_at hl 5 rfl) ?_
              refine va_iast hx hb hE.1 hP hD hS 8 0 rfl rfl (vp_in_nI (n := 3) (N := 8) (by decide) (by decide)) dX0_takeNear_193 (fun H locs hP hD hS => ?_)
              have hP : va_P D vwCl (LW cA h as (va_up r2 7 (upd (r2 7) 3 loud))) H := hP
              have hD : va_D A (LW cA h as (va_up r2 7 (upd (r2 7) 3 loud))) := hD
              have hP : va_P D vwCl (LW cA h as (lf_w r2 7 3 loud)) H := hP
              have hD : va_D A (LW cA h as (lf_w r2 7 3 loud)) := hD
              obtain ⟨r3, er3⟩ : ∃ z : St, z = lf_w r2 7 3 loud := ⟨_, rfl⟩
              rw [← er3] at hP hD
              refine lv_aload_n hx hb dX0_takeNear_194 rfl (lv_at hl 8 rfl) ?_
              refine va_get (D := D) (ci := 0) (v := .ref (as 7)) (C := RX0) (T := TX0) (N := 11) hx hb hts iw_X0_takeNear_X0 hown hE.1 hP 0 rfl rfl 7 (by decide) (hts (.fieldLink RX0 41 "EchoTaps$Line" "told" "[I") (by decide +kernel)) (fun _ h9 => h9) rfl dX0_takeNear_195 ?_
              refine lv_iconst (v := 4) hx hb dX0_takeNear_198 (by decide) ?_
              refine lv_iload hx hb dX0_takeNear_199 (lv_at hl 2 rfl) ?_
              refine va_iast hx hb hE.1 hP hD hS 8 0 rfl rfl (vp_in_nI (n := 4) (N := 8) (by decide) (by decide)) dX0_takeNear_201 (fun H locs hP hD hS => ?_)
              have hP : va_P D vwCl (LW cA h as (va_up r3 7 (upd (r3 7) 4 pw))) H := hP
              have hD : va_D A (LW cA h as (va_up r3 7 (upd (r3 7) 4 pw))) := hD
              have hP : va_P D vwCl (LW cA h as (lf_w r3 7 4 pw)) H := hP
              have hD : va_D A (LW cA h as (lf_w r3 7 4 pw)) := hD
              obtain ⟨r4, er4⟩ : ∃ z : St, z = lf_w r3 7 4 pw := ⟨_, rfl⟩
              rw [← er4] at hP hD
              refine lv_aload_n hx hb dX0_takeNear_202 rfl (lv_at hl 8 rfl) ?_
              refine va_get (D := D) (ci := 0) (v := .ref (as 7)) (C := RX0) (T := TX0) (N := 11) hx hb hts iw_X0_takeNear_X0 hown hE.1 hP 0 rfl rfl 7 (by decide) (hts (.fieldLink RX0 41 "EchoTaps$Line" "told" "[I") (by decide +kernel)) (fun _ h9 => h9) rfl dX0_takeNear_203 ?_
              refine lv_iconst (v := 5) hx hb dX0_takeNear_206 (by decide) ?_
              refine lv_iload hx hb dX0_takeNear_207 (lv_at hl 4 rfl) ?_
              have j217 : ∀ (b3 : Int32) (eb3 : b3 = lf_b1 tk), W p l e rm_X0_takeNear s m args below meth c H locs 0 0 Q (F0 m 217 ls [.int b3, .int 5, .ref (as 7)]) := by
                intro b3 eb3
                refine va_iast hx hb hE.1 hP hD hS 8 0 rfl rfl (vp_in_nI (n := 5) (N := 8) (by decide) (by decide)) dX0_takeNear_217 (fun H locs hP hD hS => ?_)
                have hP : va_P D vwCl (LW cA h as (va_up r4 7 (upd (r4 7) 5 b3))) H := hP
                have hD : va_D A (LW cA h as (va_up r4 7 (upd (r4 7) 5 b3))) := hD
                have hP : va_P D vwCl (LW cA h as (lf_w r4 7 5 b3)) H := hP
                have hD : va_D A (LW cA h as (lf_w r4 7 5 b3)) := hD
                obtain ⟨r5, er5⟩ : ∃ z : St, z = lf_w r4 7 5 b3 := ⟨_, rfl⟩
                rw [← er5] at hP hD
                refine lv_aload_n hx hb dX0_takeNear_218 rfl (lv_at hl 8 rfl) ?_
                refine va_get (D := D) (ci := 0) (v := .ref (as 7)) (C := RX0) (T := TX0) (N := 11) hx hb hts iw_X0_takeNear_X0 hown hE.1 hP 0 rfl rfl 7 (by decide) (hts (.fieldLink RX0 41 "EchoTaps$Line" "told" "[I") (by decide +kernel)) (fun _ h9 => h9) rfl dX0_takeNear_219 ?_
                refine lv_bipush (v := 6) hx hb dX0_takeNear_222 (by decide) ?_
                refine lv_iload hx hb dX0_takeNear_224 (lv_at hl 3 rfl) ?_
                refine va_iast hx hb hE.1 hP hD hS 8 0 rfl rfl (vp_in_nI (n := 6) (N := 8) (by decide) (by decide)) dX0_takeNear_226 (fun H locs hP hD hS => ?_)
                have hP : va_P D vwCl (LW cA h as (va_up r5 7 (upd (r5 7) 6 tn))) H := hP
                have hD : va_D A (LW cA h as (va_up r5 7 (upd (r5 7) 6 tn))) := hD
                have hP : va_P D vwCl (LW cA h as (lf_w r5 7 6 tn)) H := hP
                have hD : va_D A (LW cA h as (lf_w r5 7 6 tn)) := hD
                obtain ⟨r6, er6⟩ : ∃ z : St, z = lf_w r5 7 6 tn := ⟨_, rfl⟩
                rw [← er6] at hP hD
                refine lv_aload_n hx hb dX0_takeNear_227 rfl (lv_at hl 8 rfl) ?_
                refine va_get (D := D) (ci := 0) (v := .ref (as 7)) (C := RX0) (T := TX0) (N := 11) hx hb hts iw_X0_takeNear_X0 hown hE.1 hP 0 rfl rfl 7 (by decide) (hts (.fieldLink RX0 41 "EchoTaps$Line" "told" "[I") (by decide +kernel)) (fun _ h9 => h9) rfl dX0_takeNear_228 ?_
                refine lv_bipush (v := 7) hx hb dX0_takeNear_231 (by decide) ?_
                refine lv_iload hx hb dX0_takeNear_233 (lv_at hl 1 rfl) ?_
                have j243 : ∀ (b4 : Int32) (eb4 : b4 = lf_b1 lr), W p l e rm_X0_takeNear s m args below meth c H locs 0 0 Q (F0 m 243 ls [.int b4, .int 7, .ref (as 7)]) := by
                  intro b4 eb4
                  refine va_iast hx hb hE.1 hP hD hS 8 0 rfl rfl (vp_in_nI (n := 7) (N := 8) (by decide) (by decide)) dX0_takeNear_243 (fun H locs hP hD hS => ?_)
                  have hP : va_P D vwCl (LW cA h as (va_up r6 7 (upd (r6 7) 7 b4))) H := hP
                  have hD : va_D A (LW cA h as (va_up r6 7 (upd (r6 7) 7 b4))) := hD
                  have hP : va_P D vwCl (LW cA h as (lf_w r6 7 7 b4)) H := hP
                  have hD : va_D A (LW cA h as (lf_w r6 7 7 b4)) := hD
                  obtain ⟨r7, er7⟩ : ∃ z : St, z = lf_w r6 7 7 b4 := ⟨_, rfl⟩
                  rw [← er7] at hP hD
                  refine lv_iload hx hb dX0_takeNear_244 (lv_at hl 0 rfl) ?_
                  have e1 : lf_near st near = r7 := by subst er7 er6 er5 er4 er3 er2 er1 er0 es6 es5 eb4 eb3 eb2 eb1 eout es4 es3 elr epw etn es2 etk eloud elft eest es1; rfl
                  have e2 : lf_out st near = out := by clear hP hD e1 er7 er6 er5 er4 er3 er2 er1 er0 es6 es5; subst eout es4 es3 elr epw etn es2 etk eloud elft eest es1; rfl
                  exact hret _ _ _ _ _ (by rw [e1]; exact hP) e2.symm hS dX0_takeNear_246
                refine lv_if_eq (tgt := 242) hx hb dX0_takeNear_235 (by decide) (fun c_1 => ?_) (fun c_1 => ?_)
                · have c_1 : lr = 0 := c_1
                  refine lv_iconst (v := 0) hx hb dX0_takeNear_242 (by decide) ?_
                  exact j243 _ (if_pos c_1).symm
                · have c_1 : ¬ lr = 0 := c_1
                  refine lv_iconst (v := 1) hx hb dX0_takeNear_238 (by decide) ?_
                  refine lv_goto (tgt := 243) hx hb dX0_takeNear_239 (by decide) ?_
                  exact j243 _ (if_neg c_1).symm
              refine lv_if_eq (tgt := 216) hx hb dX0_takeNear_209 (by decide) (fun c_2 => ?_) (fun c_2 => ?_)
              · have c_2 : tk = 0 := c_2
                refine lv_iconst (v := 0) hx hb dX0_takeNear_216 (by decide) ?_
                exact j217 _ (if_pos c_2).symm
              · have c_2 : ¬ tk = 0 := c_2
                refine lv_iconst (v := 1) hx hb dX0_takeNear_212 (by decide) ?_
                refine lv_goto (tgt := 217) hx hb dX0_takeNear_213 (by decide) ?_
                exact j217 _ (if_neg c_2).symm
            refine lv_if_le (tgt := 161) hx hb dX0_takeNear_154 (by decide) (fun c_3 => ?_) (fun c_3 => ?_)
            · have c_3 : tn ≤ 0 := c_3
              refine lv_iconst (v := 0) hx hb dX0_takeNear_161 (by decide) ?_
              exact j162 _ (if_pos c_3).symm
            · have c_3 : ¬ tn ≤ 0 := c_3
              refine lv_iconst (v := 2) hx hb dX0_takeNear_157 (by decide) ?_
              refine lv_goto (tgt := 162) hx hb dX0_takeNear_158 (by decide) ?_
              exact j162 _ (if_neg c_3).symm
          refine lv_if_eq (tgt := 151) hx hb dX0_takeNear_144 (by decide) (fun c_4 => ?_) (fun c_4 => ?_)
          · have c_4 : tk = 0 := c_4
            refine lv_iconst (v := 0) hx hb dX0_takeNear_151 (by decide) ?_
            exact j152 _ (if_pos c_4).symm
          · have c_4 : ¬ tk = 0 := c_4
            refine lv_iconst (v := 1) hx hb dX0_takeNear_147 (by decide) ?_
            refine lv_goto (tgt := 152) hx hb dX0_takeNear_148 (by decide) ?_
            exact j152 _ (if_neg c_4).symm
        refine lv_if_le (tgt := 109) hx hb dX0_takeNear_102 (by decide) (fun c_5 => ?_) (fun c_5 => ?_)
        · have c_5 : tn ≤ 0 := c_5
          refine lv_aload_n hx hb dX0_takeNear_109 rfl (lv_at hl 7 rfl) ?_
          refine lv_iload_n hx hb dX0_takeNear_110 rfl (lv_at hl 5 rfl) ?_
          refine bm_i [] (LW cA h as s3) [] [.int lft] [] ⟨hx, hb, hml, hown, hts⟩ (c_X0_softened l D cA cZ cR h as s3 lft) (cwV 1 hts gX0_takeNear_X0_softened rfl rfl rfl (by decide +kernel) ⟨Nat.le_of_ble_eq_true rfl, Nat.le_of_ble_eq_true rfl⟩) hE hP hD hS hA LW_adr 0 0 rfl rfl rfl hl.1 rfl (Nat.le_of_ble_eq_true rfl) dX0_takeNear_111 ⟨Nat.zero_le _, Nat.zero_le _⟩ (fun H locs hP hD hS => ?_)
          have hP : va_P D vwCl (LW cA h as (lf_sos s3 lft)) H := hP
          have hD : va_D A (LW cA h as (lf_sos s3 lft)) := hD
          exact j114 _ _ (if_pos c_5).symm (if_pos c_5).symm H locs hP hD hS
        · have c_5 : ¬ tn ≤ 0 := c_5
          refine lv_iload_n hx hb dX0_takeNear_105 rfl (lv_at hl 8 rfl) ?_
          refine lv_goto (tgt := 114) hx hb dX0_takeNear_106 (by decide) ?_
          exact j114 _ _ (if_neg c_5).symm (if_neg c_5).symm H locs hP hD hS
      refine lv_if_eq (tgt := 100) hx hb dX0_takeNear_90 (by decide) (fun c_6 => ?_) (fun c_6 => ?_)
      · have c_6 : lr = 0 := c_6
        exact j100 _ (if_pos c_6).symm H locs hP hD hS
      · have c_6 : ¬ lr = 0 := c_6
        refine lv_aload_n hx hb dX0_takeNear_93 rfl (lv_at hl 7 rfl) ?_
        refine lv_iload_n hx hb dX0_takeNear_94 rfl (lv_at hl 5 rfl) ?_
        refine lv_iload hx hb dX0_takeNear_95 (lv_at hl 1 rfl) ?_
        refine bm_v [] (LW cA h as s2) [] [.int lft, .int pw] [] ⟨hx, hb, hml, hown, hts⟩ (c_X0_learn l D cA cZ cR h as s2 lft pw) (cwV 2 hts gX0_takeNear_X0_learn rfl rfl rfl (by decide +kernel) ⟨Nat.le_of_ble_eq_true rfl, Nat.le_of_ble_eq_true rfl⟩) hE hP hD hS hA LW_adr 0 0 rfl rfl rfl hl.1 rfl (Nat.le_of_ble_eq_true rfl) dX0_takeNear_97 ⟨Nat.zero_le _, Nat.zero_le _⟩ (fun H locs hP hD hS => ?_)
        have hP : va_P D vwCl (LW cA h as (lf_learn s2 lft pw)) H := hP
        have hD : va_D A (LW cA h as (lf_learn s2 lft pw)) := hD
        exact j100 _ (if_neg c_6).symm H locs hP hD hS
    refine lv_if_ne (tgt := 85) hx hb dX0_takeNear_68 (by decide) (fun c_7 => ?_) (fun c_7 => ?_)
    · have c_7 : ¬ (s2 8 1) = 0 := c_7
      refine lv_iconst (v := 0) hx hb dX0_takeNear_85 (by decide) ?_
      exact j86 _ (if_pos c_7).symm
    · have c_7 : (s2 8 1) = 0 := c_7
      refine lv_iload hx hb dX0_takeNear_71 (lv_at hl 1 rfl) ?_
      refine lv_if_ne (tgt := 85) hx hb dX0_takeNear_73 (by decide) (fun c_8 => ?_) (fun c_8 => ?_)
      · have c_8 : ¬ tn = 0 := c_8
        refine lv_iconst (v := 0) hx hb dX0_takeNear_85 (by decide) ?_
        exact j86 _ (by rw [lf_lr, if_neg (not_not_intro c_7), if_pos c_8])
      · have c_8 : tn = 0 := c_8
        refine lv_iload hx hb dX0_takeNear_76 (lv_at hl 0 rfl) ?_
        refine lv_if_le (tgt := 85) hx hb dX0_takeNear_78 (by decide) (fun c_9 => ?_) (fun c_9 => ?_)
        · have c_9 : pw ≤ 0 := c_9
          refine lv_iconst (v := 0) hx hb dX0_takeNear_85 (by decide) ?_
          exact j86 _ (by rw [lf_lr, if_neg (not_not_intro c_7), if_neg (not_not_intro c_8), if_pos c_9])
        · have c_9 : ¬ pw ≤ 0 := c_9
          refine lv_iconst (v := 1) hx hb dX0_takeNear_81 (by decide) ?_
          refine lv_goto (tgt := 86) hx hb dX0_takeNear_82 (by decide) ?_
          exact j86 _ (by rw [lf_lr, if_neg (not_not_intro c_7), if_neg (not_not_intro c_8), if_neg c_9])
  refine lv_icmp_le (tgt := 43) hx hb dX0_takeNear_36 (by decide) (fun c_10 => ?_) (fun c_10 => ?_)
  · have c_10 : (2 * (pf_ab near)) ≤ loud := c_10
    refine lv_iconst (v := 0) hx hb dX0_takeNear_43 (by decide) ?_
    exact j44 _ (by rw [lf_tlk, ← eloud, if_pos c_10])
  · have c_10 : ¬ (2 * (pf_ab near)) ≤ loud := c_10
    refine lv_iconst (v := 1) hx hb dX0_takeNear_39 (by decide) ?_
    refine lv_goto (tgt := 44) hx hb dX0_takeNear_40 (by decide) ?_
    exact j44 _ (by rw [lf_tlk, ← eloud, if_neg c_10])
