/-! the numbers that the methods work out, as functions -/
def pf_in (v a b : Int32) : Int32 := if a ≤ v ∧ v ≤ b then 1 else 0
def pf_sz (x : Int32) : Int32 := if x < 0 then -x else x
def pf_ab (x : Int32) : Int32 := if 0 ≤ x then x else 0 - x
def pf_mx (x y : Int32) : Int32 := if x < y then y else x
def pf_mn (x y : Int32) : Int32 := if y < x then y else x
def pf_mxl (x y : Int64) : Int64 := if y < x then x else y
def pf_mnl (x y : Int64) : Int64 := if y < x then y else x
def pf_cl (v a b : Int32) : Int32 := if v < a then a else if b < v then b else v
def pf_lm (v a b : Int32) : Int32 := pf_mx a (pf_mn b v)
def pf_rm (x y : Int32) : Int32 := x - x / y * y
def pf_nx (z : Int32) : Int32 := pf_rm (75 * z + 74) 65537
def pf_ce (z t : Int32) : Int32 := pf_rm z (2 * t + 1) - t
def pf_most (r : Int32) : Int32 := if r = 0 then 1024 else if r = 1 then 20 else if r = 2 then 500 else if r = 3 then 50 else 15
def pf_gd : Nat → Int32 → Int32 → Int32
  | 0, x, _ => x
  | n + 1, x, y => if y = 0 then x else pf_gd n y (pf_rm x y)
/-- the divisions come to an end within n rounds -/
def pf_ge : Nat → Int32 → Int32 → Prop
  | 0, _, y => y = 0
  | n + 1, x, y => y = 0 ∨ pf_ge n y (pf_rm x y)
def pf_sr (z t : Int32) : Int32 := if (0 ≤ z ∧ z ≤ 65536) ∧ (0 ≤ t ∧ t ≤ 1000) then 1 else 0
def pf_al (P : Nat → Bool) : Nat → Bool
  | 0 => true
  | n + 1 => pf_al P n && P n
theorem in63 (x : Int32) : vp_in (x &&& 63) 64 := pk_andIn x 6 rfl (by decide)
theorem in255 (x : Int32) : vp_in (x &&& 255) 256 := pk_andIn x 8 rfl (by decide)
theorem pf_in1 {v a b : Int32} (h : a ≤ v ∧ v ≤ b) : pf_in v a b = 1 := if_pos h
theorem pf_in0 {v a b : Int32} (h : ¬ (a ≤ v ∧ v ≤ b)) : pf_in v a b = 0 := if_neg h
theorem pf_in_z (v a b : Int32) : narrow .boolean (.int (pf_in v a b)) = .int (pf_in v a b) := by
  unfold pf_in; split <;> rfl
theorem pf_sr_z (v a : Int32) : narrow .boolean (.int (pf_sr v a)) = .int (pf_sr v a) := by
  unfold pf_sr; split <;> rfl
theorem pf_inE (v a b : Int32) : (pf_in v a b = 0) ↔ ¬ (a ≤ v ∧ v ≤ b) := by
  unfold pf_in; split <;> simp_all
theorem pf_odd (t : Int32) : ¬ (2 * t + 1 = 0) := by
  intro h
  have h1 : (2 * t + 1).toBitVec = (0 : Int32).toBitVec := by rw [h]
  have h2 : (2#32 * t.toBitVec + 1#32) = 0#32 := h1
  have h3 := congrArg BitVec.toNat h2
  rw [BitVec.toNat_add, BitVec.toNat_mul] at h3
  simp only [BitVec.toNat_ofNat] at h3
  omega
def fa (st : St) (i : Int32) : Int32 := st 3 ((st 8 0 - i) &&& 63).toNatClampNeg
def na (st : St) (i : Int32) : Int32 := st 4 ((st 8 0 - i) &&& 63).toNatClampNeg
def oa (st : St) (i : Int32) : Int32 := st 5 ((st 8 0 - i) &&& 63).toNatClampNeg
abbrev EO (e h t i : Nat) (kp : Int32) : Nat × va_E := (e, .inr (1, [.ref h, .ref t, .ref i, .int kp]))
theorem LW_adr {cA : ClassId} {h : Nat} {as : Nat → Nat} {st st' : St} : (LW cA h as st').map Prod.fst = (LW cA h as st).map Prod.fst := rfl
theorem MW_adr {cA cZ : ClassId} {h : Nat} {as : Nat → Nat} {g im kp g' im' kp' : Fn} : (MW cA cZ h as g' im' kp').map Prod.fst = (MW cA cZ h as g im kp).map Prod.fst := rfl
