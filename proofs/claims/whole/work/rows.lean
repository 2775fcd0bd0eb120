section
-- ===== PART A: goes FIRST, ahead of the names: the tables' words, and 'selects' of the private methods out of them =====
/-- a private method of a class that the tables say can be made, by its rows of tables_1 -/
def lw_okq (q : MethodName × Nat) : Prop := (q.1.cls ≠ "java/lang/invoke/MethodHandle" ∧ q.1.cls ≠ "java/lang/invoke/VarHandle") ∧ Cond.instantiable q.1.cls q.2 ∈ tables_1 ∧ Cond.privateMethod q.1 ∈ tables_1 ∧ Cond.instanceMethod q.1 ∈ tables_1
theorem lw_p0 : lw_okq (⟨"EchoTapsModel", "tickOf", "(II)I"⟩, 3) := ⟨⟨by decide +kernel, by decide +kernel⟩, List.mem_of_getElem? (i := 304) (by decide +kernel), List.mem_of_getElem? (i := 335) (by decide +kernel), List.mem_of_getElem? (i := 336) (by decide +kernel)⟩
theorem lw_p1 : lw_okq (⟨"EchoTapsModel", "shift", "(III)V"⟩, 3) := ⟨⟨by decide +kernel, by decide +kernel⟩, List.mem_of_getElem? (i := 304) (by decide +kernel), List.mem_of_getElem? (i := 339) (by decide +kernel), List.mem_of_getElem? (i := 340) (by decide +kernel)⟩
theorem lw_p2 : lw_okq (⟨"EchoTapsModel", "estimate", "()I"⟩, 3) := ⟨⟨by decide +kernel, by decide +kernel⟩, List.mem_of_getElem? (i := 304) (by decide +kernel), List.mem_of_getElem? (i := 343) (by decide +kernel), List.mem_of_getElem? (i := 344) (by decide +kernel)⟩
theorem lw_p3 : lw_okq (⟨"EchoTapsModel", "seen", "(I)I"⟩, 3) := ⟨⟨by decide +kernel, by decide +kernel⟩, List.mem_of_getElem? (i := 304) (by decide +kernel), List.mem_of_getElem? (i := 347) (by decide +kernel), List.mem_of_getElem? (i := 348) (by decide +kernel)⟩
theorem lw_p4 : lw_okq (⟨"EchoTapsModel", "loud", "()I"⟩, 3) := ⟨⟨by decide +kernel, by decide +kernel⟩, List.mem_of_getElem? (i := 304) (by decide +kernel), List.mem_of_getElem? (i := 351) (by decide +kernel), List.mem_of_getElem? (i := 352) (by decide +kernel)⟩
theorem lw_p5 : lw_okq (⟨"EchoTapsModel", "power", "()I"⟩, 3) := ⟨⟨by decide +kernel, by decide +kernel⟩, List.mem_of_getElem? (i := 304) (by decide +kernel), List.mem_of_getElem? (i := 358) (by decide +kernel), List.mem_of_getElem? (i := 359) (by decide +kernel)⟩
theorem lw_p6 : lw_okq (⟨"EchoTapsModel", "hold", "()V"⟩, 3) := ⟨⟨by decide +kernel, by decide +kernel⟩, List.mem_of_getElem? (i := 304) (by decide +kernel), List.mem_of_getElem? (i := 362) (by decide +kernel), List.mem_of_getElem? (i := 363) (by decide +kernel)⟩
theorem lw_p7 : lw_okq (⟨"EchoTapsModel", "tone", "()I"⟩, 3) := ⟨⟨by decide +kernel, by decide +kernel⟩, List.mem_of_getElem? (i := 304) (by decide +kernel), List.mem_of_getElem? (i := 366) (by decide +kernel), List.mem_of_getElem? (i := 367) (by decide +kernel)⟩
theorem lw_p8 : lw_okq (⟨"EchoTapsModel", "comesRound", "(I)Z"⟩, 3) := ⟨⟨by decide +kernel, by decide +kernel⟩, List.mem_of_getElem? (i := 304) (by decide +kernel), List.mem_of_getElem? (i := 370) (by decide +kernel), List.mem_of_getElem? (i := 371) (by decide +kernel)⟩
theorem lw_p9 : lw_okq (⟨"EchoTapsModel", "learn", "()V"⟩, 3) := ⟨⟨by decide +kernel, by decide +kernel⟩, List.mem_of_getElem? (i := 304) (by decide +kernel), List.mem_of_getElem? (i := 374) (by decide +kernel), List.mem_of_getElem? (i := 375) (by decide +kernel)⟩
theorem lw_p10 : lw_okq (⟨"EchoTapsModel", "outNow", "()I"⟩, 3) := ⟨⟨by decide +kernel, by decide +kernel⟩, List.mem_of_getElem? (i := 304) (by decide +kernel), List.mem_of_getElem? (i := 381) (by decide +kernel), List.mem_of_getElem? (i := 382) (by decide +kernel)⟩
theorem lw_p11 : lw_okq (⟨"EchoTapsModel", "noise", "()I"⟩, 3) := ⟨⟨by decide +kernel, by decide +kernel⟩, List.mem_of_getElem? (i := 304) (by decide +kernel), List.mem_of_getElem? (i := 385) (by decide +kernel), List.mem_of_getElem? (i := 386) (by decide +kernel)⟩
theorem lw_p12 : lw_okq (⟨"EchoTapsModel", "speakOf", "(II)I"⟩, 3) := ⟨⟨by decide +kernel, by decide +kernel⟩, List.mem_of_getElem? (i := 304) (by decide +kernel), List.mem_of_getElem? (i := 416) (by decide +kernel), List.mem_of_getElem? (i := 417) (by decide +kernel)⟩
theorem lw_p13 : lw_okq (⟨"EchoTapsModel", "echo", "(I)I"⟩, 3) := ⟨⟨by decide +kernel, by decide +kernel⟩, List.mem_of_getElem? (i := 304) (by decide +kernel), List.mem_of_getElem? (i := 420) (by decide +kernel), List.mem_of_getElem? (i := 421) (by decide +kernel)⟩
theorem lw_p14 : lw_okq (⟨"EchoTapsModel", "save", "(I)V"⟩, 3) := ⟨⟨by decide +kernel, by decide +kernel⟩, List.mem_of_getElem? (i := 304) (by decide +kernel), List.mem_of_getElem? (i := 433) (by decide +kernel), List.mem_of_getElem? (i := 434) (by decide +kernel)⟩
theorem lw_p15 : lw_okq (⟨"EchoTapsModel", "load", "(I)V"⟩, 3) := ⟨⟨by decide +kernel, by decide +kernel⟩, List.mem_of_getElem? (i := 304) (by decide +kernel), List.mem_of_getElem? (i := 437) (by decide +kernel), List.mem_of_getElem? (i := 438) (by decide +kernel)⟩
def lw_privs_1 : List (MethodName × Nat) := [(⟨"EchoTapsModel", "tickOf", "(II)I"⟩, 3), (⟨"EchoTapsModel", "shift", "(III)V"⟩, 3), (⟨"EchoTapsModel", "estimate", "()I"⟩, 3), (⟨"EchoTapsModel", "seen", "(I)I"⟩, 3), (⟨"EchoTapsModel", "loud", "()I"⟩, 3), (⟨"EchoTapsModel", "power", "()I"⟩, 3), (⟨"EchoTapsModel", "hold", "()V"⟩, 3), (⟨"EchoTapsModel", "tone", "()I"⟩, 3), (⟨"EchoTapsModel", "comesRound", "(I)Z"⟩, 3), (⟨"EchoTapsModel", "learn", "()V"⟩, 3), (⟨"EchoTapsModel", "outNow", "()I"⟩, 3), (⟨"EchoTapsModel", "noise", "()I"⟩, 3), (⟨"EchoTapsModel", "speakOf", "(II)I"⟩, 3), (⟨"EchoTapsModel", "echo", "(I)I"⟩, 3), (⟨"EchoTapsModel", "save", "(I)V"⟩, 3), (⟨"EchoTapsModel", "load", "(I)V"⟩, 3)]
theorem lw_r1 : ∀ q ∈ lw_privs_1, lw_okq q := List.forall_mem_cons.mpr ⟨lw_p0, List.forall_mem_cons.mpr ⟨lw_p1, List.forall_mem_cons.mpr ⟨lw_p2, List.forall_mem_cons.mpr ⟨lw_p3, List.forall_mem_cons.mpr ⟨lw_p4, List.forall_mem_cons.mpr ⟨lw_p5, List.forall_mem_cons.mpr ⟨lw_p6, List.forall_mem_cons.mpr ⟨lw_p7, List.forall_mem_cons.mpr ⟨lw_p8, List.forall_mem_cons.mpr ⟨lw_p9, List.forall_mem_cons.mpr ⟨lw_p10, List.forall_mem_cons.mpr ⟨lw_p11, List.forall_mem_cons.mpr ⟨lw_p12, List.forall_mem_cons.mpr ⟨lw_p13, List.forall_mem_cons.mpr ⟨lw_p14, List.forall_mem_cons.mpr ⟨lw_p15, fun _ h => absurd h List.not_mem_nil⟩⟩⟩⟩⟩⟩⟩⟩⟩⟩⟩⟩⟩⟩⟩⟩
theorem lw_p16 : lw_okq (⟨"EchoTapsModel", "likenessOf", "(I)I"⟩, 3) := ⟨⟨by decide +kernel, by decide +kernel⟩, List.mem_of_getElem? (i := 304) (by decide +kernel), List.mem_of_getElem? (i := 445) (by decide +kernel), List.mem_of_getElem? (i := 446) (by decide +kernel)⟩
theorem lw_p17 : lw_okq (⟨"EchoTapsModel", "squares", "(I)I"⟩, 3) := ⟨⟨by decide +kernel, by decide +kernel⟩, List.mem_of_getElem? (i := 304) (by decide +kernel), List.mem_of_getElem? (i := 457) (by decide +kernel), List.mem_of_getElem? (i := 458) (by decide +kernel)⟩
theorem lw_p18 : lw_okq (⟨"EchoTapsModel", "tapSizes", "()I"⟩, 3) := ⟨⟨by decide +kernel, by decide +kernel⟩, List.mem_of_getElem? (i := 304) (by decide +kernel), List.mem_of_getElem? (i := 480) (by decide +kernel), List.mem_of_getElem? (i := 481) (by decide +kernel)⟩
def lw_privs_2 : List (MethodName × Nat) := [(⟨"EchoTapsModel", "likenessOf", "(I)I"⟩, 3), (⟨"EchoTapsModel", "squares", "(I)I"⟩, 3), (⟨"EchoTapsModel", "tapSizes", "()I"⟩, 3)]
theorem lw_r2 : ∀ q ∈ lw_privs_2, lw_okq q := List.forall_mem_cons.mpr ⟨lw_p16, List.forall_mem_cons.mpr ⟨lw_p17, List.forall_mem_cons.mpr ⟨lw_p18, fun _ h => absurd h List.not_mem_nil⟩⟩⟩
def lw_privs : List (MethodName × Nat) := lw_privs_1 ++ (lw_privs_2)
def lw_tbl : List Cond := k2_sels lw_privs ++ tables_1
theorem lw_privs_ok : ∀ q ∈ lw_privs, lw_okq q := by
  show ∀ q ∈ lw_privs_1 ++ (lw_privs_2), lw_okq q
  exact List.forall_mem_append.mpr ⟨lw_r1, lw_r2⟩
/-! ===== BEGIN words of one list among another's, by their places ===== -/
theorem goodIn_r {big : List Cond} (ws : List Cond) (ps : List Nat) (hp : ws = ps.filterMap (fun i => big[i]?)) (h : ws.all goodWord = true) : GoodIn big ws := by
  intro w hw
  have h1 := List.all_eq_true.mp h w hw
  rw [hp] at hw
  obtain ⟨i, -, hi⟩ := List.mem_filterMap.mp hw
  have hm : w ∈ big := by first | exact List.mem_of_getElem? hi | exact List.getElem?_mem hi
  exact ⟨hm, good_of_word h1⟩
theorem goodIn_app {big a b : List Cond} (ha : GoodIn big a) (hb : GoodIn big b) : GoodIn big (a ++ b) := fun w h => (List.mem_append.mp h).elim (ha w) (hb w)
theorem goodIn_ca {big a b : List Cond} {c : Cond} (ha : GoodIn big (c :: a)) (hb : GoodIn big b) : GoodIn big (c :: (a ++ b)) := fun w h => (List.mem_cons.mp h).elim (fun e => ha w (List.mem_cons.mpr (Or.inl e))) (fun h => (List.mem_append.mp h).elim (fun h => ha w (List.mem_cons.mpr (Or.inr h))) (hb w))
theorem goodIn_sub {big ws : List Cond} (hm : ∀ w ∈ ws, w ∈ big) (h : ws.all goodWord = true) : GoodIn big ws := fun w hw => ⟨hm w hw, good_of_word (List.all_eq_true.mp h w hw)⟩
/-! ===== END ===== -/

/-! ===== BEGIN printed: names, fields, word lists, decode rows ===== -/
def RX0 : String := "EchoTaps$Line"
def TX0 : u_T := fun k => match k with
  | 0 => ("EchoTaps$Line", "rules", "[I", true)
  | 1 => ("EchoTaps$Line", "taps", "[I", true)
  | 2 => ("EchoTaps$Line", "way", "[I", true)
  | 3 => ("EchoTaps$Line", "fars", "[I", true)
  | 4 => ("EchoTaps$Line", "nears", "[I", true)
  | 5 => ("EchoTaps$Line", "outs", "[I", true)
  | 6 => ("EchoTaps$Line", "marks", "[I", true)
  | 7 => ("EchoTaps$Line", "told", "[I", true)
  | 8 => ("EchoTaps$Line", "ticks", "I", false)
  | 9 => ("EchoTaps$Line", "hold", "I", false)
  | _ => ("EchoTaps$Line", "seed", "I", false)
def tyX0 : Nat → FieldType := fun k => match k with
  | 0 => .array .int
  | 1 => .array .int
  | 2 => .array .int
  | 3 => .array .int
  | 4 => .array .int
  | 5 => .array .int
  | 6 => .array .int
  | 7 => .array .int
  | 8 => .int
  | 9 => .int
  | _ => .int
abbrev wsX00 : List Cond := u_ws RX0 TX0 11
theorem nmX0 : ∀ a, a < 11 → ∀ b, b < 11 → a ≠ b → (TX0 a).2.1 ≠ (TX0 b).2.1 := by decide +kernel
theorem tyX0_ok : ∀ k, k < 11 → parseFieldDescriptor (TX0 k).2.2.1 = some (tyX0 k) := by decide +kernel
abbrev cX0_init : ByteArray := prog_2_method_1_code
def yX0_init : MethodName := ⟨RX0, "<init>", "()V"⟩
abbrev cX0_copyFrom : ByteArray := prog_2_method_2_code
def yX0_copyFrom : MethodName := ⟨RX0, "copyFrom", "(LEchoTaps$Line;)V"⟩
abbrev cX0_farAgo : ByteArray := prog_2_method_3_code
def yX0_farAgo : MethodName := ⟨RX0, "farAgo", "(I)I"⟩
abbrev cX0_nearAgo : ByteArray := prog_2_method_4_code
def yX0_nearAgo : MethodName := ⟨RX0, "nearAgo", "(I)I"⟩
abbrev cX0_outAgo : ByteArray := prog_2_method_5_code
def yX0_outAgo : MethodName := ⟨RX0, "outAgo", "(I)I"⟩
abbrev cX0_takeFar : ByteArray := prog_2_method_6_code
def yX0_takeFar : MethodName := ⟨RX0, "takeFar", "(I)V"⟩
abbrev cX0_takeNear : ByteArray := prog_2_method_7_code
def yX0_takeNear : MethodName := ⟨RX0, "takeNear", "(I)I"⟩
abbrev cX0_hearSpeech : ByteArray := prog_2_method_8_code
def yX0_hearSpeech : MethodName := ⟨RX0, "hearSpeech", "(II)I"⟩
abbrev cX0_echo : ByteArray := prog_2_method_9_code
def yX0_echo : MethodName := ⟨RX0, "echo", "()I"⟩
abbrev cX0_seenBy : ByteArray := prog_2_method_10_code
def yX0_seenBy : MethodName := ⟨RX0, "seenBy", "(I)I"⟩
abbrev cX0_estimated : ByteArray := prog_2_method_11_code
def yX0_estimated : MethodName := ⟨RX0, "estimated", "()I"⟩
abbrev cX0_loudest : ByteArray := prog_2_method_12_code
def yX0_loudest : MethodName := ⟨RX0, "loudest", "()I"⟩
abbrev cX0_holdBy : ByteArray := prog_2_method_13_code
def yX0_holdBy : MethodName := ⟨RX0, "holdBy", "(Z)V"⟩
abbrev cX0_tonePeriod : ByteArray := prog_2_method_14_code
def yX0_tonePeriod : MethodName := ⟨RX0, "tonePeriod", "()I"⟩
abbrev cX0_silent : ByteArray := prog_2_method_15_code
def yX0_silent : MethodName := ⟨RX0, "silent", "()Z"⟩
abbrev cX0_repeatsBy : ByteArray := prog_2_method_16_code
def yX0_repeatsBy : MethodName := ⟨RX0, "repeatsBy", "(I)Z"⟩
abbrev cX0_powerSeen : ByteArray := prog_2_method_17_code
def yX0_powerSeen : MethodName := ⟨RX0, "powerSeen", "()I"⟩
abbrev cX0_learn : ByteArray := prog_2_method_18_code
def yX0_learn : MethodName := ⟨RX0, "learn", "(II)V"⟩
abbrev cX0_softened : ByteArray := prog_2_method_19_code
def yX0_softened : MethodName := ⟨RX0, "softened", "(I)I"⟩
abbrev cX0_likenessOf : ByteArray := prog_2_method_20_code
def yX0_likenessOf : MethodName := ⟨RX0, "likenessOf", "(I)I"⟩
abbrev cX0_startAnew : ByteArray := prog_2_method_21_code
def yX0_startAnew : MethodName := ⟨RX0, "startAnew", "(I)V"⟩
abbrev cX0_nearSquares : ByteArray := prog_2_method_22_code
def yX0_nearSquares : MethodName := ⟨RX0, "nearSquares", "()I"⟩
abbrev cX0_outSquares : ByteArray := prog_2_method_23_code
def yX0_outSquares : MethodName := ⟨RX0, "outSquares", "()I"⟩
abbrev cX0_beginning : ByteArray := prog_2_method_24_code
def yX0_beginning : MethodName := ⟨RX0, "beginning", "(II)I"⟩
abbrev cX0_beginsAt : ByteArray := prog_2_method_25_code
def yX0_beginsAt : MethodName := ⟨RX0, "beginsAt", "(II)Z"⟩
abbrev cX0_tapSizes : ByteArray := prog_2_method_26_code
def yX0_tapSizes : MethodName := ⟨RX0, "tapSizes", "()I"⟩
def RX1 : String := "EchoTaps"
def TX1 : u_T := fun k => match k with
  | 0 => ("EchoTaps", "line", "LEchoTaps$Line;", true)
  | 1 => ("EchoTaps", "trial", "LEchoTaps$Line;", true)
  | 2 => ("EchoTaps", "images", "[LEchoTaps$Line;", true)
  | _ => ("EchoTaps", "kept", "I", false)
def tyX1 : Nat → FieldType := fun k => match k with
  | 0 => .object "EchoTaps$Line"
  | 1 => .object "EchoTaps$Line"
  | 2 => .array (.object "EchoTaps$Line")
  | _ => .int
abbrev wsX10 : List Cond := u_ws RX1 TX1 4
theorem nmX1 : ∀ a, a < 4 → ∀ b, b < 4 → a ≠ b → (TX1 a).2.1 ≠ (TX1 b).2.1 := by decide +kernel
theorem tyX1_ok : ∀ k, k < 4 → parseFieldDescriptor (TX1 k).2.2.1 = some (tyX1 k) := by decide +kernel
abbrev cX1_init : ByteArray := prog_1_method_1_code
def yX1_init : MethodName := ⟨RX1, "<init>", "()V"⟩
abbrev cX1_rule : ByteArray := prog_1_method_2_code
def yX1_rule : MethodName := ⟨RX1, "rule", "(II)I"⟩
abbrev cX1_tick : ByteArray := prog_1_method_3_code
def yX1_tick : MethodName := ⟨RX1, "tick", "(II)I"⟩
abbrev cX1_tap : ByteArray := prog_1_method_4_code
def yX1_tap : MethodName := ⟨RX1, "tap", "(I)I"⟩
abbrev cX1_last : ByteArray := prog_1_method_5_code
def yX1_last : MethodName := ⟨RX1, "last", "(I)I"⟩
abbrev cX1_ago : ByteArray := prog_1_method_6_code
def yX1_ago : MethodName := ⟨RX1, "ago", "(II)I"⟩
abbrev cX1_part : ByteArray := prog_1_method_7_code
def yX1_part : MethodName := ⟨RX1, "part", "(II)I"⟩
abbrev cX1_speak : ByteArray := prog_1_method_8_code
def yX1_speak : MethodName := ⟨RX1, "speak", "(II)I"⟩
abbrev cX1_run : ByteArray := prog_1_method_9_code
def yX1_run : MethodName := ⟨RX1, "run", "(III)I"⟩
abbrev cX1_learnt : ByteArray := prog_1_method_10_code
def yX1_learnt : MethodName := ⟨RX1, "learnt", "(III)I"⟩
abbrev cX1_likeness : ByteArray := prog_1_method_11_code
def yX1_likeness : MethodName := ⟨RX1, "likeness", "(I)I"⟩
abbrev cX1_seek : ByteArray := prog_1_method_12_code
def yX1_seek : MethodName := ⟨RX1, "seek", "()I"⟩
abbrev cX1_gain : ByteArray := prog_1_method_13_code
def yX1_gain : MethodName := ⟨RX1, "gain", "(I)I"⟩
abbrev cX1_began : ByteArray := prog_1_method_14_code
def yX1_began : MethodName := ⟨RX1, "began", "(II)I"⟩
abbrev cX1_image : ByteArray := prog_1_method_15_code
def yX1_image : MethodName := ⟨RX1, "image", "(I)I"⟩
abbrev cX1_restore : ByteArray := prog_1_method_16_code
def yX1_restore : MethodName := ⟨RX1, "restore", "(I)I"⟩
abbrev cX1_count : ByteArray := prog_1_method_17_code
def yX1_count : MethodName := ⟨RX1, "count", "(I)I"⟩
abbrev cX1_within : ByteArray := prog_1_method_18_code
def yX1_within : MethodName := ⟨RX1, "within", "(III)Z"⟩
abbrev cX1_limited : ByteArray := prog_1_method_19_code
def yX1_limited : MethodName := ⟨RX1, "limited", "(III)I"⟩
abbrev cX1_startsRun : ByteArray := prog_1_method_20_code
def yX1_startsRun : MethodName := ⟨RX1, "startsRun", "(II)Z"⟩
abbrev cX1_nextSeed : ByteArray := prog_1_method_21_code
def yX1_nextSeed : MethodName := ⟨RX1, "nextSeed", "(I)I"⟩
abbrev cX1_centred : ByteArray := prog_1_method_22_code
def yX1_centred : MethodName := ⟨RX1, "centred", "(II)I"⟩
abbrev cX1_greatestDivisor : ByteArray := prog_1_method_23_code
def yX1_greatestDivisor : MethodName := ⟨RX1, "greatestDivisor", "(II)I"⟩
def RX2 : String := "EchoTapsModel"
def TX2 : u_T := fun k => match k with
  | 0 => ("EchoTapsModel", "state", "[I", true)
  | 1 => ("EchoTapsModel", "images", "[I", true)
  | _ => ("EchoTapsModel", "isKept", "[Z", true)
def tyX2 : Nat → FieldType := fun k => match k with
  | 0 => .array .int
  | 1 => .array .int
  | _ => .array .boolean
abbrev wsX20 : List Cond := u_ws RX2 TX2 3
theorem nmX2 : ∀ a, a < 3 → ∀ b, b < 3 → a ≠ b → (TX2 a).2.1 ≠ (TX2 b).2.1 := by decide +kernel
theorem tyX2_ok : ∀ k, k < 3 → parseFieldDescriptor (TX2 k).2.2.1 = some (tyX2 k) := by decide +kernel
abbrev cX2_init : ByteArray := prog_4_method_1_code
def yX2_init : MethodName := ⟨RX2, "<init>", "()V"⟩
abbrev cX2_in : ByteArray := prog_4_method_2_code
def yX2_in : MethodName := ⟨RX2, "in", "(III)Z"⟩
abbrev cX2_size : ByteArray := prog_4_method_3_code
def yX2_size : MethodName := ⟨RX2, "size", "(I)I"⟩
abbrev cX2_within : ByteArray := prog_4_method_4_code
def yX2_within : MethodName := ⟨RX2, "within", "(III)I"⟩
abbrev cX2_most : ByteArray := prog_4_method_5_code
def yX2_most : MethodName := ⟨RX2, "most", "(I)I"⟩
abbrev cX2_rule : ByteArray := prog_4_method_6_code
def yX2_rule : MethodName := ⟨RX2, "rule", "(II)I"⟩
abbrev cX2_shift : ByteArray := prog_4_method_7_code
def yX2_shift : MethodName := ⟨RX2, "shift", "(III)V"⟩
abbrev cX2_seen : ByteArray := prog_4_method_8_code
def yX2_seen : MethodName := ⟨RX2, "seen", "(I)I"⟩
abbrev cX2_estimate : ByteArray := prog_4_method_9_code
def yX2_estimate : MethodName := ⟨RX2, "estimate", "()I"⟩
abbrev cX2_loud : ByteArray := prog_4_method_10_code
def yX2_loud : MethodName := ⟨RX2, "loud", "()I"⟩
abbrev cX2_power : ByteArray := prog_4_method_11_code
def yX2_power : MethodName := ⟨RX2, "power", "()I"⟩
abbrev cX2_comesRound : ByteArray := prog_4_method_12_code
def yX2_comesRound : MethodName := ⟨RX2, "comesRound", "(I)Z"⟩
abbrev cX2_tone : ByteArray := prog_4_method_13_code
def yX2_tone : MethodName := ⟨RX2, "tone", "()I"⟩
abbrev cX2_hold : ByteArray := prog_4_method_14_code
def yX2_hold : MethodName := ⟨RX2, "hold", "()V"⟩
abbrev cX2_learn : ByteArray := prog_4_method_15_code
def yX2_learn : MethodName := ⟨RX2, "learn", "()V"⟩
abbrev cX2_next : ByteArray := prog_4_method_16_code
def yX2_next : MethodName := ⟨RX2, "next", "(I)I"⟩
abbrev cX2_noise : ByteArray := prog_4_method_17_code
def yX2_noise : MethodName := ⟨RX2, "noise", "()I"⟩
abbrev cX2_outNow : ByteArray := prog_4_method_18_code
def yX2_outNow : MethodName := ⟨RX2, "outNow", "()I"⟩
abbrev cX2_tickOf : ByteArray := prog_4_method_19_code
def yX2_tickOf : MethodName := ⟨RX2, "tickOf", "(II)I"⟩
abbrev cX2_tick : ByteArray := prog_4_method_20_code
def yX2_tick : MethodName := ⟨RX2, "tick", "(II)I"⟩
abbrev cX2_tap : ByteArray := prog_4_method_21_code
def yX2_tap : MethodName := ⟨RX2, "tap", "(I)I"⟩
abbrev cX2_last : ByteArray := prog_4_method_22_code
def yX2_last : MethodName := ⟨RX2, "last", "(I)I"⟩
abbrev cX2_ago : ByteArray := prog_4_method_23_code
def yX2_ago : MethodName := ⟨RX2, "ago", "(II)I"⟩
abbrev cX2_part : ByteArray := prog_4_method_24_code
def yX2_part : MethodName := ⟨RX2, "part", "(II)I"⟩
abbrev cX2_echo : ByteArray := prog_4_method_25_code
def yX2_echo : MethodName := ⟨RX2, "echo", "(I)I"⟩
abbrev cX2_speakOf : ByteArray := prog_4_method_26_code
def yX2_speakOf : MethodName := ⟨RX2, "speakOf", "(II)I"⟩
abbrev cX2_speak : ByteArray := prog_4_method_27_code
def yX2_speak : MethodName := ⟨RX2, "speak", "(II)I"⟩
abbrev cX2_run : ByteArray := prog_4_method_28_code
def yX2_run : MethodName := ⟨RX2, "run", "(III)I"⟩
abbrev cX2_save : ByteArray := prog_4_method_29_code
def yX2_save : MethodName := ⟨RX2, "save", "(I)V"⟩
abbrev cX2_load : ByteArray := prog_4_method_30_code
def yX2_load : MethodName := ⟨RX2, "load", "(I)V"⟩
abbrev cX2_learnt : ByteArray := prog_4_method_31_code
def yX2_learnt : MethodName := ⟨RX2, "learnt", "(III)I"⟩
abbrev cX2_likenessOf : ByteArray := prog_4_method_32_code
def yX2_likenessOf : MethodName := ⟨RX2, "likenessOf", "(I)I"⟩
abbrev cX2_likeness : ByteArray := prog_4_method_33_code
def yX2_likeness : MethodName := ⟨RX2, "likeness", "(I)I"⟩
abbrev cX2_seek : ByteArray := prog_4_method_34_code
def yX2_seek : MethodName := ⟨RX2, "seek", "()I"⟩
abbrev cX2_squares : ByteArray := prog_4_method_35_code
def yX2_squares : MethodName := ⟨RX2, "squares", "(I)I"⟩
abbrev cX2_common : ByteArray := prog_4_method_36_code
def yX2_common : MethodName := ⟨RX2, "common", "(II)I"⟩
abbrev cX2_gain : ByteArray := prog_4_method_37_code
def yX2_gain : MethodName := ⟨RX2, "gain", "(I)I"⟩
abbrev cX2_began : ByteArray := prog_4_method_38_code
def yX2_began : MethodName := ⟨RX2, "began", "(II)I"⟩
abbrev cX2_image : ByteArray := prog_4_method_39_code
def yX2_image : MethodName := ⟨RX2, "image", "(I)I"⟩
abbrev cX2_restore : ByteArray := prog_4_method_40_code
def yX2_restore : MethodName := ⟨RX2, "restore", "(I)I"⟩
abbrev cX2_tapSizes : ByteArray := prog_4_method_41_code
def yX2_tapSizes : MethodName := ⟨RX2, "tapSizes", "()I"⟩
abbrev cX2_count : ByteArray := prog_4_method_42_code
def yX2_count : MethodName := ⟨RX2, "count", "(I)I"⟩
def RJx8e188 : String := "java/lang/Cloneable"
def TJx8e188 : u_T := fun k => match k with
  | _ => ("", "", "", false)
def tyJx8e188 : Nat → FieldType := fun k => match k with
  | _ => .int
abbrev wsJx8e1880 : List Cond := u_ws RJx8e188 TJx8e188 0
theorem nmJx8e188 : ∀ a, a < 0 → ∀ b, b < 0 → a ≠ b → (TJx8e188 a).2.1 ≠ (TJx8e188 b).2.1 := by decide +kernel
theorem tyJx8e188_ok : ∀ k, k < 0 → parseFieldDescriptor (TJx8e188 k).2.2.1 = some (tyJx8e188 k) := by decide +kernel
def RJ9 : String := "java/lang/Math"
def TJ9 : u_T := fun k => match k with
  | _ => ("", "", "", false)
def tyJ9 : Nat → FieldType := fun k => match k with
  | _ => .int
abbrev wsJ90 : List Cond := u_ws RJ9 TJ9 0
theorem nmJ9 : ∀ a, a < 0 → ∀ b, b < 0 → a ≠ b → (TJ9 a).2.1 ≠ (TJ9 b).2.1 := by decide +kernel
theorem tyJ9_ok : ∀ k, k < 0 → parseFieldDescriptor (TJ9 k).2.2.1 = some (tyJ9 k) := by decide +kernel
abbrev cJ9_abs_0f7a4 : ByteArray := prog_6_method_59_code
def yJ9_abs_0f7a4 : MethodName := ⟨RJ9, "abs", "(I)I"⟩
abbrev cJ9_max_7cf53 : ByteArray := prog_6_method_65_code
def yJ9_max_7cf53 : MethodName := ⟨RJ9, "max", "(II)I"⟩
abbrev cJ9_max_f86c9 : ByteArray := prog_6_method_66_code
def yJ9_max_f86c9 : MethodName := ⟨RJ9, "max", "(JJ)J"⟩
abbrev cJ9_min_7cf53 : ByteArray := prog_6_method_69_code
def yJ9_min_7cf53 : MethodName := ⟨RJ9, "min", "(II)I"⟩
abbrev cJ9_min_f86c9 : ByteArray := prog_6_method_70_code
def yJ9_min_f86c9 : MethodName := ⟨RJ9, "min", "(JJ)J"⟩
def RJ10 : String := "java/lang/System"
def TJ10 : u_T := fun k => match k with
  | _ => ("", "", "", false)
def tyJ10 : Nat → FieldType := fun k => match k with
  | _ => .int
abbrev wsJ100 : List Cond := u_ws RJ10 TJ10 0
theorem nmJ10 : ∀ a, a < 0 → ∀ b, b < 0 → a ≠ b → (TJ10 a).2.1 ≠ (TJ10 b).2.1 := by decide +kernel
theorem tyJ10_ok : ∀ k, k < 0 → parseFieldDescriptor (TJ10 k).2.2.1 = some (tyJ10 k) := by decide +kernel
def RL : String := "EchoTapsLaw"
abbrev cL_law : ByteArray := code
def yL_law : MethodName := ⟨RL, "law", "([I)Z"⟩
def wsX0_init : List Cond := .code yX0_init cX0_init 1 none :: ([.methodLink RX0 3 objectInit, .instanceMethod objectInit, .code objectInit ⟨#[0xb1]⟩ 1 none, .methodLink RX0 13 ⟨"[I", "clone", "()Ljava/lang/Object;"⟩, .sameMethod "[I" "java/lang/Object" "clone" "()Ljava/lang/Object;", .native ⟨"java/lang/Object", "clone", "()Ljava/lang/Object;"⟩, .instanceMethod ⟨"java/lang/Object", "clone", "()Ljava/lang/Object;"⟩, .selects "[I" ⟨"[I", "clone", "()Ljava/lang/Object;"⟩ ⟨"java/lang/Object", "clone", "()Ljava/lang/Object;"⟩, .classLink RX0 14 "[I", .fieldLink RX0 18 "EchoTaps$Line" "rules" "[I", .arrayClass .int, .fieldLink RX0 23 "EchoTaps$Line" "taps" "[I", .fieldLink RX0 26 "EchoTaps$Line" "way" "[I", .fieldLink RX0 29 "EchoTaps$Line" "fars" "[I", .fieldLink RX0 32 "EchoTaps$Line" "nears" "[I", .fieldLink RX0 35 "EchoTaps$Line" "outs" "[I", .fieldLink RX0 38 "EchoTaps$Line" "marks" "[I", .fieldLink RX0 41 "EchoTaps$Line" "told" "[I"] ++ wsX00)
def wsX0_copyFrom : List Cond := .code yX0_copyFrom cX0_copyFrom 2 none :: ([.fieldLink RX0 18 "EchoTaps$Line" "rules" "[I", .methodLink RX0 44 arraycopyName, .native arraycopyName, .static arraycopyName, .initialized "java/lang/System", .fieldLink RX0 23 "EchoTaps$Line" "taps" "[I", .fieldLink RX0 26 "EchoTaps$Line" "way" "[I", .fieldLink RX0 29 "EchoTaps$Line" "fars" "[I", .fieldLink RX0 32 "EchoTaps$Line" "nears" "[I", .fieldLink RX0 35 "EchoTaps$Line" "outs" "[I", .fieldLink RX0 38 "EchoTaps$Line" "marks" "[I", .fieldLink RX0 41 "EchoTaps$Line" "told" "[I", .fieldLink RX0 50 "EchoTaps$Line" "ticks" "I", .fieldLink RX0 54 "EchoTaps$Line" "hold" "I", .fieldLink RX0 57 "EchoTaps$Line" "seed" "I"] ++ wsX00)
def wsX0_farAgo : List Cond := .code yX0_farAgo cX0_farAgo 2 (some .int) :: ([.fieldLink RX0 29 "EchoTaps$Line" "fars" "[I", .fieldLink RX0 50 "EchoTaps$Line" "ticks" "I"] ++ wsX00)
def wsX0_nearAgo : List Cond := .code yX0_nearAgo cX0_nearAgo 2 (some .int) :: ([.fieldLink RX0 32 "EchoTaps$Line" "nears" "[I", .fieldLink RX0 50 "EchoTaps$Line" "ticks" "I"] ++ wsX00)
def wsX0_outAgo : List Cond := .code yX0_outAgo cX0_outAgo 2 (some .int) :: ([.fieldLink RX0 35 "EchoTaps$Line" "outs" "[I", .fieldLink RX0 50 "EchoTaps$Line" "ticks" "I"] ++ wsX00)
def wsX0_takeFar : List Cond := .code yX0_takeFar cX0_takeFar 2 none :: ([.fieldLink RX0 50 "EchoTaps$Line" "ticks" "I", .fieldLink RX0 29 "EchoTaps$Line" "fars" "[I"] ++ wsX00)
def wsX0_seenBy : List Cond := .code yX0_seenBy cX0_seenBy 2 (some .int) :: ([.fieldLink RX0 18 "EchoTaps$Line" "rules" "[I", .methodLink RX0 104 yX0_farAgo, .instanceMethod yX0_farAgo, .selects RX0 yX0_farAgo yX0_farAgo, .initialized RX0, .code yX0_farAgo cX0_farAgo 2 (some .int), .fieldLink RX0 29 "EchoTaps$Line" "fars" "[I", .fieldLink RX0 50 "EchoTaps$Line" "ticks" "I"] ++ wsX00)
def wsX0_estimated : List Cond := .code yX0_estimated cX0_estimated 3 (some .int) :: ([.fieldLink RX0 23 "EchoTaps$Line" "taps" "[I", .methodLink RX0 107 yX0_seenBy, .instanceMethod yX0_seenBy, .selects RX0 yX0_seenBy yX0_seenBy, .initialized RX0, .code yX0_seenBy cX0_seenBy 2 (some .int), .fieldLink RX0 18 "EchoTaps$Line" "rules" "[I", .methodLink RX0 104 yX0_farAgo, .instanceMethod yX0_farAgo, .selects RX0 yX0_farAgo yX0_farAgo, .code yX0_farAgo cX0_farAgo 2 (some .int), .fieldLink RX0 29 "EchoTaps$Line" "fars" "[I", .fieldLink RX0 50 "EchoTaps$Line" "ticks" "I"] ++ wsX00)
def wsX0_loudest : List Cond := .code yX0_loudest cX0_loudest 3 (some .int) :: ([.methodLink RX0 67 Lib.Math.abs.name, .static Lib.Math.abs.name, .initialized "java/lang/Math", .code Lib.Math.abs.name Lib.Math.abs.code 1 (some .int), .methodLink RX0 110 Lib.Math.max.name, .static Lib.Math.max.name, .code Lib.Math.max.name Lib.Math.max.code 2 (some .int), .methodLink RX0 104 yX0_farAgo, .instanceMethod yX0_farAgo, .selects RX0 yX0_farAgo yX0_farAgo, .initialized RX0, .code yX0_farAgo cX0_farAgo 2 (some .int), .fieldLink RX0 29 "EchoTaps$Line" "fars" "[I", .fieldLink RX0 50 "EchoTaps$Line" "ticks" "I"] ++ wsX00)
def wsX0_holdBy : List Cond := .code yX0_holdBy cX0_holdBy 2 none :: ([.fieldLink RX0 18 "EchoTaps$Line" "rules" "[I", .fieldLink RX0 54 "EchoTaps$Line" "hold" "I"] ++ wsX00)
def wsX0_silent : List Cond := .code yX0_silent cX0_silent 2 (some .boolean) :: ([.methodLink RX0 104 yX0_farAgo, .instanceMethod yX0_farAgo, .selects RX0 yX0_farAgo yX0_farAgo, .initialized RX0, .code yX0_farAgo cX0_farAgo 2 (some .int), .fieldLink RX0 29 "EchoTaps$Line" "fars" "[I", .fieldLink RX0 50 "EchoTaps$Line" "ticks" "I"] ++ wsX00)
def wsX0_repeatsBy : List Cond := .code yX0_repeatsBy cX0_repeatsBy 3 (some .boolean) :: ([.methodLink RX0 104 yX0_farAgo, .instanceMethod yX0_farAgo, .selects RX0 yX0_farAgo yX0_farAgo, .initialized RX0, .code yX0_farAgo cX0_farAgo 2 (some .int), .fieldLink RX0 29 "EchoTaps$Line" "fars" "[I", .fieldLink RX0 50 "EchoTaps$Line" "ticks" "I"] ++ wsX00)
def wsX0_tonePeriod : List Cond := .code yX0_tonePeriod cX0_tonePeriod 2 (some .int) :: ([.methodLink RX0 114 yX0_silent, .instanceMethod yX0_silent, .selects RX0 yX0_silent yX0_silent, .initialized RX0, .code yX0_silent cX0_silent 2 (some .boolean), .methodLink RX0 104 yX0_farAgo, .instanceMethod yX0_farAgo, .selects RX0 yX0_farAgo yX0_farAgo, .code yX0_farAgo cX0_farAgo 2 (some .int), .fieldLink RX0 29 "EchoTaps$Line" "fars" "[I", .fieldLink RX0 50 "EchoTaps$Line" "ticks" "I", .methodLink RX0 118 yX0_repeatsBy, .instanceMethod yX0_repeatsBy, .selects RX0 yX0_repeatsBy yX0_repeatsBy, .code yX0_repeatsBy cX0_repeatsBy 3 (some .boolean)] ++ wsX00)
def wsX0_powerSeen : List Cond := .code yX0_powerSeen cX0_powerSeen 4 (some .int) :: ([.methodLink RX0 107 yX0_seenBy, .instanceMethod yX0_seenBy, .selects RX0 yX0_seenBy yX0_seenBy, .initialized RX0, .code yX0_seenBy cX0_seenBy 2 (some .int), .fieldLink RX0 18 "EchoTaps$Line" "rules" "[I", .methodLink RX0 104 yX0_farAgo, .instanceMethod yX0_farAgo, .selects RX0 yX0_farAgo yX0_farAgo, .code yX0_farAgo cX0_farAgo 2 (some .int), .fieldLink RX0 29 "EchoTaps$Line" "fars" "[I", .fieldLink RX0 50 "EchoTaps$Line" "ticks" "I"] ++ wsX00)
def wsX0_learn : List Cond := .code yX0_learn cX0_learn 8 none :: ([.fieldLink RX0 18 "EchoTaps$Line" "rules" "[I", .fieldLink RX0 23 "EchoTaps$Line" "taps" "[I", .constantLong RX0 122 (-4096), .constantLong RX0 124 (4095), .methodLink RX0 126 Lib.MathLoose.min_long.x, .static Lib.MathLoose.min_long.x, .initialized "java/lang/Math", .code Lib.MathLoose.min_long.x Lib.MathLoose.min_long.code 4 (some .long), .methodLink RX0 130 Lib.MathLoose.max_long.x, .static Lib.MathLoose.max_long.x, .code Lib.MathLoose.max_long.x Lib.MathLoose.max_long.code 4 (some .long), .methodLink RX0 107 yX0_seenBy, .instanceMethod yX0_seenBy, .selects RX0 yX0_seenBy yX0_seenBy, .initialized RX0, .code yX0_seenBy cX0_seenBy 2 (some .int), .methodLink RX0 104 yX0_farAgo, .instanceMethod yX0_farAgo, .selects RX0 yX0_farAgo yX0_farAgo, .code yX0_farAgo cX0_farAgo 2 (some .int), .fieldLink RX0 29 "EchoTaps$Line" "fars" "[I", .fieldLink RX0 50 "EchoTaps$Line" "ticks" "I"] ++ wsX00)
def wsX1_limited : List Cond := .code yX1_limited cX1_limited 3 (some .int) :: ([.methodLink RX1 121 Lib.Math.min.name, .static Lib.Math.min.name, .initialized "java/lang/Math", .code Lib.Math.min.name Lib.Math.min.code 2 (some .int), .methodLink RX1 124 Lib.Math.max.name, .static Lib.Math.max.name, .code Lib.Math.max.name Lib.Math.max.code 2 (some .int)])
def wsX1_nextSeed : List Cond := .code yX1_nextSeed cX1_nextSeed 1 (some .int) :: ([.constant RX1 128 (65537)])
def wsX1_centred : List Cond := .code yX1_centred cX1_centred 2 (some .int) :: ([])
def wsX0_softened : List Cond := .code yX0_softened cX0_softened 2 (some .int) :: ([.methodLink RX0 67 Lib.Math.abs.name, .static Lib.Math.abs.name, .initialized "java/lang/Math", .code Lib.Math.abs.name Lib.Math.abs.code 1 (some .int), .fieldLink RX0 18 "EchoTaps$Line" "rules" "[I", .fieldLink RX0 57 "EchoTaps$Line" "seed" "I", .static yX1_limited, .initialized RX1, .code yX1_limited cX1_limited 3 (some .int), .methodLink RX1 121 Lib.Math.min.name, .static Lib.Math.min.name, .code Lib.Math.min.name Lib.Math.min.code 2 (some .int), .methodLink RX1 124 Lib.Math.max.name, .static Lib.Math.max.name, .code Lib.Math.max.name Lib.Math.max.code 2 (some .int), .static yX1_nextSeed, .code yX1_nextSeed cX1_nextSeed 1 (some .int), .constant RX1 128 (65537), .static yX1_centred, .code yX1_centred cX1_centred 2 (some .int)] ++ wsX00)
def wsX0_takeNear_r1 : List Cond := [Cond.fieldLink RX0 32 "EchoTaps$Line" "nears" "[I", Cond.fieldLink RX0 50 "EchoTaps$Line" "ticks" "I", Cond.methodLink RX0 67 Lib.Math.abs.name, Cond.static Lib.Math.abs.name, Cond.initialized "java/lang/Math", Cond.code Lib.Math.abs.name Lib.Math.abs.code 1 (some .int), Cond.fieldLink RX0 54 "EchoTaps$Line" "hold" "I", Cond.fieldLink RX0 35 "EchoTaps$Line" "outs" "[I", Cond.fieldLink RX0 38 "EchoTaps$Line" "marks" "[I", Cond.fieldLink RX0 41 "EchoTaps$Line" "told" "[I", Cond.methodLink RX0 60 yX0_estimated, Cond.instanceMethod yX0_estimated, Cond.selects RX0 yX0_estimated yX0_estimated, Cond.initialized RX0, Cond.code yX0_estimated cX0_estimated 3 (some .int), Cond.fieldLink RX0 23 "EchoTaps$Line" "taps" "[I", Cond.methodLink RX0 107 yX0_seenBy, Cond.instanceMethod yX0_seenBy, Cond.selects RX0 yX0_seenBy yX0_seenBy, Cond.code yX0_seenBy cX0_seenBy 2 (some .int), Cond.fieldLink RX0 18 "EchoTaps$Line" "rules" "[I", Cond.methodLink RX0 104 yX0_farAgo, Cond.instanceMethod yX0_farAgo, Cond.selects RX0 yX0_farAgo yX0_farAgo]
def wsX0_takeNear_r2 : List Cond := [Cond.code yX0_farAgo cX0_farAgo 2 (some .int), Cond.fieldLink RX0 29 "EchoTaps$Line" "fars" "[I", Cond.methodLink RX0 64 yX0_loudest, Cond.instanceMethod yX0_loudest, Cond.selects RX0 yX0_loudest yX0_loudest, Cond.code yX0_loudest cX0_loudest 3 (some .int), Cond.methodLink RX0 110 Lib.Math.max.name, Cond.static Lib.Math.max.name, Cond.code Lib.Math.max.name Lib.Math.max.code 2 (some .int), Cond.methodLink RX0 73 yX0_holdBy, Cond.instanceMethod yX0_holdBy, Cond.selects RX0 yX0_holdBy yX0_holdBy, Cond.code yX0_holdBy cX0_holdBy 2 none, Cond.methodLink RX0 77 yX0_tonePeriod, Cond.instanceMethod yX0_tonePeriod, Cond.selects RX0 yX0_tonePeriod yX0_tonePeriod, Cond.code yX0_tonePeriod cX0_tonePeriod 2 (some .int), Cond.methodLink RX0 114 yX0_silent, Cond.instanceMethod yX0_silent, Cond.selects RX0 yX0_silent yX0_silent, Cond.code yX0_silent cX0_silent 2 (some .boolean), Cond.methodLink RX0 118 yX0_repeatsBy, Cond.instanceMethod yX0_repeatsBy, Cond.selects RX0 yX0_repeatsBy yX0_repeatsBy]
def wsX0_takeNear_r3 : List Cond := [Cond.code yX0_repeatsBy cX0_repeatsBy 3 (some .boolean), Cond.methodLink RX0 80 yX0_powerSeen, Cond.instanceMethod yX0_powerSeen, Cond.selects RX0 yX0_powerSeen yX0_powerSeen, Cond.code yX0_powerSeen cX0_powerSeen 4 (some .int), Cond.methodLink RX0 83 yX0_learn, Cond.instanceMethod yX0_learn, Cond.selects RX0 yX0_learn yX0_learn, Cond.code yX0_learn cX0_learn 8 none, Cond.constantLong RX0 122 (-4096), Cond.constantLong RX0 124 (4095), Cond.methodLink RX0 126 Lib.MathLoose.min_long.x, Cond.static Lib.MathLoose.min_long.x, Cond.code Lib.MathLoose.min_long.x Lib.MathLoose.min_long.code 4 (some .long), Cond.methodLink RX0 130 Lib.MathLoose.max_long.x, Cond.static Lib.MathLoose.max_long.x, Cond.code Lib.MathLoose.max_long.x Lib.MathLoose.max_long.code 4 (some .long), Cond.methodLink RX0 87 yX0_softened, Cond.instanceMethod yX0_softened, Cond.selects RX0 yX0_softened yX0_softened, Cond.code yX0_softened cX0_softened 2 (some .int), Cond.fieldLink RX0 57 "EchoTaps$Line" "seed" "I", Cond.static yX1_limited, Cond.initialized RX1]
def wsX0_takeNear_r4 : List Cond := [Cond.code yX1_limited cX1_limited 3 (some .int), Cond.methodLink RX1 121 Lib.Math.min.name, Cond.static Lib.Math.min.name, Cond.code Lib.Math.min.name Lib.Math.min.code 2 (some .int), Cond.methodLink RX1 124 Lib.Math.max.name, Cond.static yX1_nextSeed, Cond.code yX1_nextSeed cX1_nextSeed 1 (some .int), Cond.constant RX1 128 (65537), Cond.static yX1_centred, Cond.code yX1_centred cX1_centred 2 (some .int)]
def wsX0_takeNear : List Cond := .code yX0_takeNear cX0_takeNear 10 (some .int) :: ((wsX0_takeNear_r1 ++ (wsX0_takeNear_r2 ++ (wsX0_takeNear_r3 ++ wsX0_takeNear_r4))) ++ wsX00)
def wsX0_echo : List Cond := .code yX0_echo cX0_echo 3 (some .int) :: ([.fieldLink RX0 26 "EchoTaps$Line" "way" "[I", .methodLink RX0 104 yX0_farAgo, .instanceMethod yX0_farAgo, .selects RX0 yX0_farAgo yX0_farAgo, .initialized RX0, .code yX0_farAgo cX0_farAgo 2 (some .int), .fieldLink RX0 29 "EchoTaps$Line" "fars" "[I", .fieldLink RX0 50 "EchoTaps$Line" "ticks" "I"] ++ wsX00)
def wsX0_hearSpeech_r1 : List Cond := [Cond.methodLink RX0 90 yX0_takeFar, Cond.instanceMethod yX0_takeFar, Cond.selects RX0 yX0_takeFar yX0_takeFar, Cond.initialized RX0, Cond.code yX0_takeFar cX0_takeFar 2 none, Cond.fieldLink RX0 50 "EchoTaps$Line" "ticks" "I", Cond.fieldLink RX0 29 "EchoTaps$Line" "fars" "[I", Cond.methodLink RX0 94 yX0_echo, Cond.instanceMethod yX0_echo, Cond.selects RX0 yX0_echo yX0_echo, Cond.code yX0_echo cX0_echo 3 (some .int), Cond.fieldLink RX0 26 "EchoTaps$Line" "way" "[I", Cond.methodLink RX0 104 yX0_farAgo, Cond.instanceMethod yX0_farAgo, Cond.selects RX0 yX0_farAgo yX0_farAgo, Cond.code yX0_farAgo cX0_farAgo 2 (some .int), Cond.static yX1_limited, Cond.initialized RX1, Cond.code yX1_limited cX1_limited 3 (some .int), Cond.methodLink RX1 121 Lib.Math.min.name, Cond.static Lib.Math.min.name, Cond.initialized "java/lang/Math", Cond.code Lib.Math.min.name Lib.Math.min.code 2 (some .int), Cond.methodLink RX1 124 Lib.Math.max.name]
def wsX0_hearSpeech_r2 : List Cond := [Cond.static Lib.Math.max.name, Cond.code Lib.Math.max.name Lib.Math.max.code 2 (some .int), Cond.methodLink RX0 101 yX0_takeNear, Cond.instanceMethod yX0_takeNear, Cond.selects RX0 yX0_takeNear yX0_takeNear, Cond.code yX0_takeNear cX0_takeNear 10 (some .int), Cond.fieldLink RX0 32 "EchoTaps$Line" "nears" "[I", Cond.methodLink RX0 67 Lib.Math.abs.name, Cond.static Lib.Math.abs.name, Cond.code Lib.Math.abs.name Lib.Math.abs.code 1 (some .int), Cond.fieldLink RX0 54 "EchoTaps$Line" "hold" "I", Cond.fieldLink RX0 35 "EchoTaps$Line" "outs" "[I", Cond.fieldLink RX0 38 "EchoTaps$Line" "marks" "[I", Cond.fieldLink RX0 41 "EchoTaps$Line" "told" "[I", Cond.methodLink RX0 60 yX0_estimated, Cond.instanceMethod yX0_estimated, Cond.selects RX0 yX0_estimated yX0_estimated, Cond.code yX0_estimated cX0_estimated 3 (some .int), Cond.fieldLink RX0 23 "EchoTaps$Line" "taps" "[I", Cond.methodLink RX0 107 yX0_seenBy, Cond.instanceMethod yX0_seenBy, Cond.selects RX0 yX0_seenBy yX0_seenBy, Cond.code yX0_seenBy cX0_seenBy 2 (some .int), Cond.fieldLink RX0 18 "EchoTaps$Line" "rules" "[I"]
def wsX0_hearSpeech_r3 : List Cond := [Cond.methodLink RX0 64 yX0_loudest, Cond.instanceMethod yX0_loudest, Cond.selects RX0 yX0_loudest yX0_loudest, Cond.code yX0_loudest cX0_loudest 3 (some .int), Cond.methodLink RX0 110 Lib.Math.max.name, Cond.methodLink RX0 73 yX0_holdBy, Cond.instanceMethod yX0_holdBy, Cond.selects RX0 yX0_holdBy yX0_holdBy, Cond.code yX0_holdBy cX0_holdBy 2 none, Cond.methodLink RX0 77 yX0_tonePeriod, Cond.instanceMethod yX0_tonePeriod, Cond.selects RX0 yX0_tonePeriod yX0_tonePeriod, Cond.code yX0_tonePeriod cX0_tonePeriod 2 (some .int), Cond.methodLink RX0 114 yX0_silent, Cond.instanceMethod yX0_silent, Cond.selects RX0 yX0_silent yX0_silent, Cond.code yX0_silent cX0_silent 2 (some .boolean), Cond.methodLink RX0 118 yX0_repeatsBy, Cond.instanceMethod yX0_repeatsBy, Cond.selects RX0 yX0_repeatsBy yX0_repeatsBy, Cond.code yX0_repeatsBy cX0_repeatsBy 3 (some .boolean), Cond.methodLink RX0 80 yX0_powerSeen, Cond.instanceMethod yX0_powerSeen, Cond.selects RX0 yX0_powerSeen yX0_powerSeen]
def wsX0_hearSpeech_r4 : List Cond := [Cond.code yX0_powerSeen cX0_powerSeen 4 (some .int), Cond.methodLink RX0 83 yX0_learn, Cond.instanceMethod yX0_learn, Cond.selects RX0 yX0_learn yX0_learn, Cond.code yX0_learn cX0_learn 8 none, Cond.constantLong RX0 122 (-4096), Cond.constantLong RX0 124 (4095), Cond.methodLink RX0 126 Lib.MathLoose.min_long.x, Cond.static Lib.MathLoose.min_long.x, Cond.code Lib.MathLoose.min_long.x Lib.MathLoose.min_long.code 4 (some .long), Cond.methodLink RX0 130 Lib.MathLoose.max_long.x, Cond.static Lib.MathLoose.max_long.x, Cond.code Lib.MathLoose.max_long.x Lib.MathLoose.max_long.code 4 (some .long), Cond.methodLink RX0 87 yX0_softened, Cond.instanceMethod yX0_softened, Cond.selects RX0 yX0_softened yX0_softened, Cond.code yX0_softened cX0_softened 2 (some .int), Cond.fieldLink RX0 57 "EchoTaps$Line" "seed" "I", Cond.static yX1_nextSeed, Cond.code yX1_nextSeed cX1_nextSeed 1 (some .int), Cond.constant RX1 128 (65537), Cond.static yX1_centred, Cond.code yX1_centred cX1_centred 2 (some .int)]
def wsX0_hearSpeech : List Cond := .code yX0_hearSpeech cX0_hearSpeech 3 (some .int) :: ((wsX0_hearSpeech_r1 ++ (wsX0_hearSpeech_r2 ++ (wsX0_hearSpeech_r3 ++ wsX0_hearSpeech_r4))) ++ wsX00)
def wsX0_likenessOf : List Cond := .code yX0_likenessOf cX0_likenessOf 4 (some .int) :: ([.methodLink RX0 138 yX0_nearAgo, .instanceMethod yX0_nearAgo, .selects RX0 yX0_nearAgo yX0_nearAgo, .initialized RX0, .code yX0_nearAgo cX0_nearAgo 2 (some .int), .fieldLink RX0 32 "EchoTaps$Line" "nears" "[I", .fieldLink RX0 50 "EchoTaps$Line" "ticks" "I", .methodLink RX0 104 yX0_farAgo, .instanceMethod yX0_farAgo, .selects RX0 yX0_farAgo yX0_farAgo, .code yX0_farAgo cX0_farAgo 2 (some .int), .fieldLink RX0 29 "EchoTaps$Line" "fars" "[I"] ++ wsX00)
def wsX0_startAnew : List Cond := .code yX0_startAnew cX0_startAnew 3 none :: ([.fieldLink RX0 18 "EchoTaps$Line" "rules" "[I", .fieldLink RX0 23 "EchoTaps$Line" "taps" "[I"] ++ wsX00)
def wsX0_nearSquares : List Cond := .code yX0_nearSquares cX0_nearSquares 3 (some .int) :: ([.methodLink RX0 138 yX0_nearAgo, .instanceMethod yX0_nearAgo, .selects RX0 yX0_nearAgo yX0_nearAgo, .initialized RX0, .code yX0_nearAgo cX0_nearAgo 2 (some .int), .fieldLink RX0 32 "EchoTaps$Line" "nears" "[I", .fieldLink RX0 50 "EchoTaps$Line" "ticks" "I"] ++ wsX00)
def wsX0_outSquares : List Cond := .code yX0_outSquares cX0_outSquares 3 (some .int) :: ([.methodLink RX0 141 yX0_outAgo, .instanceMethod yX0_outAgo, .selects RX0 yX0_outAgo yX0_outAgo, .initialized RX0, .code yX0_outAgo cX0_outAgo 2 (some .int), .fieldLink RX0 35 "EchoTaps$Line" "outs" "[I", .fieldLink RX0 50 "EchoTaps$Line" "ticks" "I"] ++ wsX00)
def wsX0_beginsAt : List Cond := .code yX0_beginsAt cX0_beginsAt 3 (some .boolean) :: ([.fieldLink RX0 38 "EchoTaps$Line" "marks" "[I"] ++ wsX00)
def wsX0_beginning : List Cond := .code yX0_beginning cX0_beginning 5 (some .int) :: ([.fieldLink RX0 50 "EchoTaps$Line" "ticks" "I", .methodLink RX0 144 yX0_beginsAt, .instanceMethod yX0_beginsAt, .selects RX0 yX0_beginsAt yX0_beginsAt, .initialized RX0, .code yX0_beginsAt cX0_beginsAt 3 (some .boolean), .fieldLink RX0 38 "EchoTaps$Line" "marks" "[I"] ++ wsX00)
def wsX0_tapSizes : List Cond := .code yX0_tapSizes cX0_tapSizes 3 (some .int) :: ([.fieldLink RX0 23 "EchoTaps$Line" "taps" "[I", .methodLink RX0 67 Lib.Math.abs.name, .static Lib.Math.abs.name, .initialized "java/lang/Math", .code Lib.Math.abs.name Lib.Math.abs.code 1 (some .int)] ++ wsX00)
def wsX1_init_r1 : List Cond := [Cond.methodLink RX1 3 objectInit, Cond.instanceMethod objectInit, Cond.code objectInit ⟨#[0xb1]⟩ 1 none, Cond.classLink RX1 9 RX0, Cond.instantiable RX0 11, Cond.initialized RX0, Cond.fieldLink RX1 12 "EchoTaps" "line" "LEchoTaps$Line;", Cond.fieldLink RX1 16 "EchoTaps" "trial" "LEchoTaps$Line;", Cond.fieldLink RX1 19 "EchoTaps" "images" "[LEchoTaps$Line;", Cond.methodLink RX1 11 yX0_init, Cond.instanceMethod yX0_init, Cond.code yX0_init cX0_init 1 none, Cond.methodLink RX0 3 objectInit, Cond.methodLink RX0 13 ⟨"[I", "clone", "()Ljava/lang/Object;"⟩, Cond.sameMethod "[I" "java/lang/Object" "clone" "()Ljava/lang/Object;", Cond.native ⟨"java/lang/Object", "clone", "()Ljava/lang/Object;"⟩, Cond.instanceMethod ⟨"java/lang/Object", "clone", "()Ljava/lang/Object;"⟩, Cond.selects "[I" ⟨"[I", "clone", "()Ljava/lang/Object;"⟩ ⟨"java/lang/Object", "clone", "()Ljava/lang/Object;"⟩, Cond.classLink RX0 14 "[I", Cond.fieldLink RX0 18 "EchoTaps$Line" "rules" "[I", Cond.arrayClass .int, Cond.fieldLink RX0 23 "EchoTaps$Line" "taps" "[I", Cond.fieldLink RX0 26 "EchoTaps$Line" "way" "[I", Cond.fieldLink RX0 29 "EchoTaps$Line" "fars" "[I"]
def wsX1_init_r2 : List Cond := [Cond.fieldLink RX0 32 "EchoTaps$Line" "nears" "[I", Cond.fieldLink RX0 35 "EchoTaps$Line" "outs" "[I", Cond.fieldLink RX0 38 "EchoTaps$Line" "marks" "[I", Cond.fieldLink RX0 41 "EchoTaps$Line" "told" "[I"]
def wsX1_init : List Cond := .code yX1_init cX1_init 1 none :: ((wsX1_init_r1 ++ wsX1_init_r2) ++ wsX00 ++ wsX10)
def wsX1_within : List Cond := .code yX1_within cX1_within 3 (some .boolean) :: ([])
def wsX1_rule : List Cond := .code yX1_rule cX1_rule 4 (some .int) :: ([.fieldLink RX1 27 "EchoTaps" "RULES_MOST" "[I", .fieldLink RX1 12 "EchoTaps" "line" "LEchoTaps$Line;", .fieldLink RX1 31 "EchoTaps$Line" "rules" "[I", .methodLink RX1 23 yX1_within, .static yX1_within, .initialized RX1, .code yX1_within cX1_within 3 (some .boolean)] ++ wsX10 ++ wsX00)
def wsX1_tick_r1 : List Cond := [Cond.constant RX1 34 (-1000000002), Cond.fieldLink RX1 12 "EchoTaps" "line" "LEchoTaps$Line;", Cond.methodLink RX1 23 yX1_within, Cond.static yX1_within, Cond.initialized RX1, Cond.code yX1_within cX1_within 3 (some .boolean), Cond.methodLink RX1 35 yX0_takeFar, Cond.instanceMethod yX0_takeFar, Cond.selects RX0 yX0_takeFar yX0_takeFar, Cond.initialized RX0, Cond.code yX0_takeFar cX0_takeFar 2 none, Cond.fieldLink RX0 50 "EchoTaps$Line" "ticks" "I", Cond.fieldLink RX0 29 "EchoTaps$Line" "fars" "[I", Cond.methodLink RX1 39 yX0_takeNear, Cond.instanceMethod yX0_takeNear, Cond.selects RX0 yX0_takeNear yX0_takeNear, Cond.code yX0_takeNear cX0_takeNear 10 (some .int), Cond.fieldLink RX0 32 "EchoTaps$Line" "nears" "[I", Cond.methodLink RX0 67 Lib.Math.abs.name, Cond.static Lib.Math.abs.name, Cond.initialized "java/lang/Math", Cond.code Lib.Math.abs.name Lib.Math.abs.code 1 (some .int), Cond.fieldLink RX0 54 "EchoTaps$Line" "hold" "I", Cond.fieldLink RX0 35 "EchoTaps$Line" "outs" "[I"]
def wsX1_tick_r2 : List Cond := [Cond.fieldLink RX0 38 "EchoTaps$Line" "marks" "[I", Cond.fieldLink RX0 41 "EchoTaps$Line" "told" "[I", Cond.methodLink RX0 60 yX0_estimated, Cond.instanceMethod yX0_estimated, Cond.selects RX0 yX0_estimated yX0_estimated, Cond.code yX0_estimated cX0_estimated 3 (some .int), Cond.fieldLink RX0 23 "EchoTaps$Line" "taps" "[I", Cond.methodLink RX0 107 yX0_seenBy, Cond.instanceMethod yX0_seenBy, Cond.selects RX0 yX0_seenBy yX0_seenBy, Cond.code yX0_seenBy cX0_seenBy 2 (some .int), Cond.fieldLink RX0 18 "EchoTaps$Line" "rules" "[I", Cond.methodLink RX0 104 yX0_farAgo, Cond.instanceMethod yX0_farAgo, Cond.selects RX0 yX0_farAgo yX0_farAgo, Cond.code yX0_farAgo cX0_farAgo 2 (some .int), Cond.methodLink RX0 64 yX0_loudest, Cond.instanceMethod yX0_loudest, Cond.selects RX0 yX0_loudest yX0_loudest, Cond.code yX0_loudest cX0_loudest 3 (some .int), Cond.methodLink RX0 110 Lib.Math.max.name, Cond.static Lib.Math.max.name, Cond.code Lib.Math.max.name Lib.Math.max.code 2 (some .int), Cond.methodLink RX0 73 yX0_holdBy]
def wsX1_tick_r3 : List Cond := [Cond.instanceMethod yX0_holdBy, Cond.selects RX0 yX0_holdBy yX0_holdBy, Cond.code yX0_holdBy cX0_holdBy 2 none, Cond.methodLink RX0 77 yX0_tonePeriod, Cond.instanceMethod yX0_tonePeriod, Cond.selects RX0 yX0_tonePeriod yX0_tonePeriod, Cond.code yX0_tonePeriod cX0_tonePeriod 2 (some .int), Cond.methodLink RX0 114 yX0_silent, Cond.instanceMethod yX0_silent, Cond.selects RX0 yX0_silent yX0_silent, Cond.code yX0_silent cX0_silent 2 (some .boolean), Cond.methodLink RX0 118 yX0_repeatsBy, Cond.instanceMethod yX0_repeatsBy, Cond.selects RX0 yX0_repeatsBy yX0_repeatsBy, Cond.code yX0_repeatsBy cX0_repeatsBy 3 (some .boolean), Cond.methodLink RX0 80 yX0_powerSeen, Cond.instanceMethod yX0_powerSeen, Cond.selects RX0 yX0_powerSeen yX0_powerSeen, Cond.code yX0_powerSeen cX0_powerSeen 4 (some .int), Cond.methodLink RX0 83 yX0_learn, Cond.instanceMethod yX0_learn, Cond.selects RX0 yX0_learn yX0_learn, Cond.code yX0_learn cX0_learn 8 none, Cond.constantLong RX0 122 (-4096)]
def wsX1_tick_r4 : List Cond := [Cond.constantLong RX0 124 (4095), Cond.methodLink RX0 126 Lib.MathLoose.min_long.x, Cond.static Lib.MathLoose.min_long.x, Cond.code Lib.MathLoose.min_long.x Lib.MathLoose.min_long.code 4 (some .long), Cond.methodLink RX0 130 Lib.MathLoose.max_long.x, Cond.static Lib.MathLoose.max_long.x, Cond.code Lib.MathLoose.max_long.x Lib.MathLoose.max_long.code 4 (some .long), Cond.methodLink RX0 87 yX0_softened, Cond.instanceMethod yX0_softened, Cond.selects RX0 yX0_softened yX0_softened, Cond.code yX0_softened cX0_softened 2 (some .int), Cond.fieldLink RX0 57 "EchoTaps$Line" "seed" "I", Cond.static yX1_limited, Cond.code yX1_limited cX1_limited 3 (some .int), Cond.methodLink RX1 121 Lib.Math.min.name, Cond.static Lib.Math.min.name, Cond.code Lib.Math.min.name Lib.Math.min.code 2 (some .int), Cond.methodLink RX1 124 Lib.Math.max.name, Cond.static yX1_nextSeed, Cond.code yX1_nextSeed cX1_nextSeed 1 (some .int), Cond.constant RX1 128 (65537), Cond.static yX1_centred, Cond.code yX1_centred cX1_centred 2 (some .int)]
def wsX1_tick : List Cond := .code yX1_tick cX1_tick 3 (some .int) :: ((wsX1_tick_r1 ++ (wsX1_tick_r2 ++ (wsX1_tick_r3 ++ wsX1_tick_r4))) ++ wsX10 ++ wsX00)
def wsX1_tap : List Cond := .code yX1_tap cX1_tap 2 (some .int) :: ([.fieldLink RX1 12 "EchoTaps" "line" "LEchoTaps$Line;", .fieldLink RX1 43 "EchoTaps$Line" "taps" "[I", .constant RX1 34 (-1000000002), .methodLink RX1 23 yX1_within, .static yX1_within, .initialized RX1, .code yX1_within cX1_within 3 (some .boolean)] ++ wsX10 ++ wsX00)
def wsX1_last : List Cond := .code yX1_last cX1_last 2 (some .int) :: ([.constant RX1 34 (-1000000002), .fieldLink RX1 12 "EchoTaps" "line" "LEchoTaps$Line;", .fieldLink RX1 46 "EchoTaps$Line" "ticks" "I", .constant RX1 50 (-1000000003), .fieldLink RX1 51 "EchoTaps$Line" "told" "[I", .methodLink RX1 23 yX1_within, .static yX1_within, .initialized RX1, .code yX1_within cX1_within 3 (some .boolean)] ++ wsX10 ++ wsX00)
def wsX1_ago_r1 : List Cond := [Cond.constant RX1 34 (-1000000002), Cond.fieldLink RX1 12 "EchoTaps" "line" "LEchoTaps$Line;", Cond.fieldLink RX1 46 "EchoTaps$Line" "ticks" "I", Cond.constant RX1 54 (-1000000006), Cond.methodLink RX1 23 yX1_within, Cond.static yX1_within, Cond.initialized RX1, Cond.code yX1_within cX1_within 3 (some .boolean), Cond.methodLink RX1 55 yX0_farAgo, Cond.instanceMethod yX0_farAgo, Cond.selects RX0 yX0_farAgo yX0_farAgo, Cond.initialized RX0, Cond.code yX0_farAgo cX0_farAgo 2 (some .int), Cond.fieldLink RX0 29 "EchoTaps$Line" "fars" "[I", Cond.fieldLink RX0 50 "EchoTaps$Line" "ticks" "I", Cond.methodLink RX1 58 yX0_nearAgo, Cond.instanceMethod yX0_nearAgo, Cond.selects RX0 yX0_nearAgo yX0_nearAgo, Cond.code yX0_nearAgo cX0_nearAgo 2 (some .int), Cond.fieldLink RX0 32 "EchoTaps$Line" "nears" "[I", Cond.methodLink RX1 61 yX0_outAgo, Cond.instanceMethod yX0_outAgo, Cond.selects RX0 yX0_outAgo yX0_outAgo, Cond.code yX0_outAgo cX0_outAgo 2 (some .int)]
def wsX1_ago_r2 : List Cond := [Cond.fieldLink RX0 35 "EchoTaps$Line" "outs" "[I"]
def wsX1_ago : List Cond := .code yX1_ago cX1_ago 3 (some .int) :: ((wsX1_ago_r1 ++ wsX1_ago_r2) ++ wsX10 ++ wsX00)
def wsX1_part : List Cond := .code yX1_part cX1_part 5 (some .int) :: ([.constant RX1 34 (-1000000002), .fieldLink RX1 12 "EchoTaps" "line" "LEchoTaps$Line;", .fieldLink RX1 64 "EchoTaps$Line" "way" "[I", .methodLink RX1 23 yX1_within, .static yX1_within, .initialized RX1, .code yX1_within cX1_within 3 (some .boolean)] ++ wsX10 ++ wsX00)
def wsX1_speak_r1 : List Cond := [Cond.constant RX1 34 (-1000000002), Cond.fieldLink RX1 12 "EchoTaps" "line" "LEchoTaps$Line;", Cond.methodLink RX1 23 yX1_within, Cond.static yX1_within, Cond.initialized RX1, Cond.code yX1_within cX1_within 3 (some .boolean), Cond.methodLink RX1 67 yX0_hearSpeech, Cond.instanceMethod yX0_hearSpeech, Cond.selects RX0 yX0_hearSpeech yX0_hearSpeech, Cond.initialized RX0, Cond.code yX0_hearSpeech cX0_hearSpeech 3 (some .int), Cond.methodLink RX0 90 yX0_takeFar, Cond.instanceMethod yX0_takeFar, Cond.selects RX0 yX0_takeFar yX0_takeFar, Cond.code yX0_takeFar cX0_takeFar 2 none, Cond.fieldLink RX0 50 "EchoTaps$Line" "ticks" "I", Cond.fieldLink RX0 29 "EchoTaps$Line" "fars" "[I", Cond.methodLink RX0 94 yX0_echo, Cond.instanceMethod yX0_echo, Cond.selects RX0 yX0_echo yX0_echo, Cond.code yX0_echo cX0_echo 3 (some .int), Cond.fieldLink RX0 26 "EchoTaps$Line" "way" "[I", Cond.methodLink RX0 104 yX0_farAgo, Cond.instanceMethod yX0_farAgo]
def wsX1_speak_r2 : List Cond := [Cond.selects RX0 yX0_farAgo yX0_farAgo, Cond.code yX0_farAgo cX0_farAgo 2 (some .int), Cond.static yX1_limited, Cond.code yX1_limited cX1_limited 3 (some .int), Cond.methodLink RX1 121 Lib.Math.min.name, Cond.static Lib.Math.min.name, Cond.initialized "java/lang/Math", Cond.code Lib.Math.min.name Lib.Math.min.code 2 (some .int), Cond.methodLink RX1 124 Lib.Math.max.name, Cond.static Lib.Math.max.name, Cond.code Lib.Math.max.name Lib.Math.max.code 2 (some .int), Cond.methodLink RX0 101 yX0_takeNear, Cond.instanceMethod yX0_takeNear, Cond.selects RX0 yX0_takeNear yX0_takeNear, Cond.code yX0_takeNear cX0_takeNear 10 (some .int), Cond.fieldLink RX0 32 "EchoTaps$Line" "nears" "[I", Cond.methodLink RX0 67 Lib.Math.abs.name, Cond.static Lib.Math.abs.name, Cond.code Lib.Math.abs.name Lib.Math.abs.code 1 (some .int), Cond.fieldLink RX0 54 "EchoTaps$Line" "hold" "I", Cond.fieldLink RX0 35 "EchoTaps$Line" "outs" "[I", Cond.fieldLink RX0 38 "EchoTaps$Line" "marks" "[I", Cond.fieldLink RX0 41 "EchoTaps$Line" "told" "[I", Cond.methodLink RX0 60 yX0_estimated]
def wsX1_speak_r3 : List Cond := [Cond.instanceMethod yX0_estimated, Cond.selects RX0 yX0_estimated yX0_estimated, Cond.code yX0_estimated cX0_estimated 3 (some .int), Cond.fieldLink RX0 23 "EchoTaps$Line" "taps" "[I", Cond.methodLink RX0 107 yX0_seenBy, Cond.instanceMethod yX0_seenBy, Cond.selects RX0 yX0_seenBy yX0_seenBy, Cond.code yX0_seenBy cX0_seenBy 2 (some .int), Cond.fieldLink RX0 18 "EchoTaps$Line" "rules" "[I", Cond.methodLink RX0 64 yX0_loudest, Cond.instanceMethod yX0_loudest, Cond.selects RX0 yX0_loudest yX0_loudest, Cond.code yX0_loudest cX0_loudest 3 (some .int), Cond.methodLink RX0 110 Lib.Math.max.name, Cond.methodLink RX0 73 yX0_holdBy, Cond.instanceMethod yX0_holdBy, Cond.selects RX0 yX0_holdBy yX0_holdBy, Cond.code yX0_holdBy cX0_holdBy 2 none, Cond.methodLink RX0 77 yX0_tonePeriod, Cond.instanceMethod yX0_tonePeriod, Cond.selects RX0 yX0_tonePeriod yX0_tonePeriod, Cond.code yX0_tonePeriod cX0_tonePeriod 2 (some .int), Cond.methodLink RX0 114 yX0_silent, Cond.instanceMethod yX0_silent]
def wsX1_speak_r4 : List Cond := [Cond.selects RX0 yX0_silent yX0_silent, Cond.code yX0_silent cX0_silent 2 (some .boolean), Cond.methodLink RX0 118 yX0_repeatsBy, Cond.instanceMethod yX0_repeatsBy, Cond.selects RX0 yX0_repeatsBy yX0_repeatsBy, Cond.code yX0_repeatsBy cX0_repeatsBy 3 (some .boolean), Cond.methodLink RX0 80 yX0_powerSeen, Cond.instanceMethod yX0_powerSeen, Cond.selects RX0 yX0_powerSeen yX0_powerSeen, Cond.code yX0_powerSeen cX0_powerSeen 4 (some .int), Cond.methodLink RX0 83 yX0_learn, Cond.instanceMethod yX0_learn, Cond.selects RX0 yX0_learn yX0_learn, Cond.code yX0_learn cX0_learn 8 none, Cond.constantLong RX0 122 (-4096), Cond.constantLong RX0 124 (4095), Cond.methodLink RX0 126 Lib.MathLoose.min_long.x, Cond.static Lib.MathLoose.min_long.x, Cond.code Lib.MathLoose.min_long.x Lib.MathLoose.min_long.code 4 (some .long), Cond.methodLink RX0 130 Lib.MathLoose.max_long.x, Cond.static Lib.MathLoose.max_long.x, Cond.code Lib.MathLoose.max_long.x Lib.MathLoose.max_long.code 4 (some .long), Cond.methodLink RX0 87 yX0_softened, Cond.instanceMethod yX0_softened]
def wsX1_speak_r5 : List Cond := [Cond.selects RX0 yX0_softened yX0_softened, Cond.code yX0_softened cX0_softened 2 (some .int), Cond.fieldLink RX0 57 "EchoTaps$Line" "seed" "I", Cond.static yX1_nextSeed, Cond.code yX1_nextSeed cX1_nextSeed 1 (some .int), Cond.constant RX1 128 (65537), Cond.static yX1_centred, Cond.code yX1_centred cX1_centred 2 (some .int)]
def wsX1_speak : List Cond := .code yX1_speak cX1_speak 3 (some .int) :: ((wsX1_speak_r1 ++ (wsX1_speak_r2 ++ (wsX1_speak_r3 ++ (wsX1_speak_r4 ++ wsX1_speak_r5)))) ++ wsX10 ++ wsX00)
def wsX1_startsRun : List Cond := .code yX1_startsRun cX1_startsRun 2 (some .boolean) :: ([.constant RX1 127 (65536), .methodLink RX1 23 yX1_within, .static yX1_within, .initialized RX1, .code yX1_within cX1_within 3 (some .boolean)])
def wsX1_run_r1 : List Cond := [Cond.fieldLink RX1 12 "EchoTaps" "line" "LEchoTaps$Line;", Cond.fieldLink RX1 51 "EchoTaps$Line" "told" "[I", Cond.methodLink RX1 81 Lib.Math.abs.name, Cond.static Lib.Math.abs.name, Cond.initialized "java/lang/Math", Cond.code Lib.Math.abs.name Lib.Math.abs.code 1 (some .int), Cond.methodLink RX1 71 yX1_startsRun, Cond.static yX1_startsRun, Cond.initialized RX1, Cond.code yX1_startsRun cX1_startsRun 2 (some .boolean), Cond.constant RX1 127 (65536), Cond.methodLink RX1 23 yX1_within, Cond.static yX1_within, Cond.code yX1_within cX1_within 3 (some .boolean), Cond.methodLink RX1 75 yX1_nextSeed, Cond.static yX1_nextSeed, Cond.code yX1_nextSeed cX1_nextSeed 1 (some .int), Cond.constant RX1 128 (65537), Cond.methodLink RX1 78 yX1_centred, Cond.static yX1_centred, Cond.code yX1_centred cX1_centred 2 (some .int), Cond.methodLink RX1 67 yX0_hearSpeech, Cond.instanceMethod yX0_hearSpeech, Cond.selects RX0 yX0_hearSpeech yX0_hearSpeech]
def wsX1_run_r2 : List Cond := [Cond.initialized RX0, Cond.code yX0_hearSpeech cX0_hearSpeech 3 (some .int), Cond.methodLink RX0 90 yX0_takeFar, Cond.instanceMethod yX0_takeFar, Cond.selects RX0 yX0_takeFar yX0_takeFar, Cond.code yX0_takeFar cX0_takeFar 2 none, Cond.fieldLink RX0 50 "EchoTaps$Line" "ticks" "I", Cond.fieldLink RX0 29 "EchoTaps$Line" "fars" "[I", Cond.methodLink RX0 94 yX0_echo, Cond.instanceMethod yX0_echo, Cond.selects RX0 yX0_echo yX0_echo, Cond.code yX0_echo cX0_echo 3 (some .int), Cond.fieldLink RX0 26 "EchoTaps$Line" "way" "[I", Cond.methodLink RX0 104 yX0_farAgo, Cond.instanceMethod yX0_farAgo, Cond.selects RX0 yX0_farAgo yX0_farAgo, Cond.code yX0_farAgo cX0_farAgo 2 (some .int), Cond.static yX1_limited, Cond.code yX1_limited cX1_limited 3 (some .int), Cond.methodLink RX1 121 Lib.Math.min.name, Cond.static Lib.Math.min.name, Cond.code Lib.Math.min.name Lib.Math.min.code 2 (some .int), Cond.methodLink RX1 124 Lib.Math.max.name, Cond.static Lib.Math.max.name]
def wsX1_run_r3 : List Cond := [Cond.code Lib.Math.max.name Lib.Math.max.code 2 (some .int), Cond.methodLink RX0 101 yX0_takeNear, Cond.instanceMethod yX0_takeNear, Cond.selects RX0 yX0_takeNear yX0_takeNear, Cond.code yX0_takeNear cX0_takeNear 10 (some .int), Cond.fieldLink RX0 32 "EchoTaps$Line" "nears" "[I", Cond.methodLink RX0 67 Lib.Math.abs.name, Cond.fieldLink RX0 54 "EchoTaps$Line" "hold" "I", Cond.fieldLink RX0 35 "EchoTaps$Line" "outs" "[I", Cond.fieldLink RX0 38 "EchoTaps$Line" "marks" "[I", Cond.fieldLink RX0 41 "EchoTaps$Line" "told" "[I", Cond.methodLink RX0 60 yX0_estimated, Cond.instanceMethod yX0_estimated, Cond.selects RX0 yX0_estimated yX0_estimated, Cond.code yX0_estimated cX0_estimated 3 (some .int), Cond.fieldLink RX0 23 "EchoTaps$Line" "taps" "[I", Cond.methodLink RX0 107 yX0_seenBy, Cond.instanceMethod yX0_seenBy, Cond.selects RX0 yX0_seenBy yX0_seenBy, Cond.code yX0_seenBy cX0_seenBy 2 (some .int), Cond.fieldLink RX0 18 "EchoTaps$Line" "rules" "[I", Cond.methodLink RX0 64 yX0_loudest, Cond.instanceMethod yX0_loudest, Cond.selects RX0 yX0_loudest yX0_loudest]
def wsX1_run_r4 : List Cond := [Cond.code yX0_loudest cX0_loudest 3 (some .int), Cond.methodLink RX0 110 Lib.Math.max.name, Cond.methodLink RX0 73 yX0_holdBy, Cond.instanceMethod yX0_holdBy, Cond.selects RX0 yX0_holdBy yX0_holdBy, Cond.code yX0_holdBy cX0_holdBy 2 none, Cond.methodLink RX0 77 yX0_tonePeriod, Cond.instanceMethod yX0_tonePeriod, Cond.selects RX0 yX0_tonePeriod yX0_tonePeriod, Cond.code yX0_tonePeriod cX0_tonePeriod 2 (some .int), Cond.methodLink RX0 114 yX0_silent, Cond.instanceMethod yX0_silent, Cond.selects RX0 yX0_silent yX0_silent, Cond.code yX0_silent cX0_silent 2 (some .boolean), Cond.methodLink RX0 118 yX0_repeatsBy, Cond.instanceMethod yX0_repeatsBy, Cond.selects RX0 yX0_repeatsBy yX0_repeatsBy, Cond.code yX0_repeatsBy cX0_repeatsBy 3 (some .boolean), Cond.methodLink RX0 80 yX0_powerSeen, Cond.instanceMethod yX0_powerSeen, Cond.selects RX0 yX0_powerSeen yX0_powerSeen, Cond.code yX0_powerSeen cX0_powerSeen 4 (some .int), Cond.methodLink RX0 83 yX0_learn, Cond.instanceMethod yX0_learn]
def wsX1_run_r5 : List Cond := [Cond.selects RX0 yX0_learn yX0_learn, Cond.code yX0_learn cX0_learn 8 none, Cond.constantLong RX0 122 (-4096), Cond.constantLong RX0 124 (4095), Cond.methodLink RX0 126 Lib.MathLoose.min_long.x, Cond.static Lib.MathLoose.min_long.x, Cond.code Lib.MathLoose.min_long.x Lib.MathLoose.min_long.code 4 (some .long), Cond.methodLink RX0 130 Lib.MathLoose.max_long.x, Cond.static Lib.MathLoose.max_long.x, Cond.code Lib.MathLoose.max_long.x Lib.MathLoose.max_long.code 4 (some .long), Cond.methodLink RX0 87 yX0_softened, Cond.instanceMethod yX0_softened, Cond.selects RX0 yX0_softened yX0_softened, Cond.code yX0_softened cX0_softened 2 (some .int), Cond.fieldLink RX0 57 "EchoTaps$Line" "seed" "I"]
def wsX1_run : List Cond := .code yX1_run cX1_run 7 (some .int) :: ((wsX1_run_r1 ++ (wsX1_run_r2 ++ (wsX1_run_r3 ++ (wsX1_run_r4 ++ wsX1_run_r5)))) ++ wsX10 ++ wsX00)
def wsX1_learnt_r1 : List Cond := [Cond.fieldLink RX1 16 "EchoTaps" "trial" "LEchoTaps$Line;", Cond.fieldLink RX1 12 "EchoTaps" "line" "LEchoTaps$Line;", Cond.fieldLink RX1 51 "EchoTaps$Line" "told" "[I", Cond.methodLink RX1 81 Lib.Math.abs.name, Cond.static Lib.Math.abs.name, Cond.initialized "java/lang/Math", Cond.code Lib.Math.abs.name Lib.Math.abs.code 1 (some .int), Cond.methodLink RX1 71 yX1_startsRun, Cond.static yX1_startsRun, Cond.initialized RX1, Cond.code yX1_startsRun cX1_startsRun 2 (some .boolean), Cond.constant RX1 127 (65536), Cond.methodLink RX1 23 yX1_within, Cond.static yX1_within, Cond.code yX1_within cX1_within 3 (some .boolean), Cond.methodLink RX1 86 yX0_copyFrom, Cond.instanceMethod yX0_copyFrom, Cond.selects RX0 yX0_copyFrom yX0_copyFrom, Cond.initialized RX0, Cond.code yX0_copyFrom cX0_copyFrom 2 none, Cond.fieldLink RX0 18 "EchoTaps$Line" "rules" "[I", Cond.methodLink RX0 44 arraycopyName, Cond.native arraycopyName, Cond.static arraycopyName]
def wsX1_learnt_r2 : List Cond := [Cond.initialized "java/lang/System", Cond.fieldLink RX0 23 "EchoTaps$Line" "taps" "[I", Cond.fieldLink RX0 26 "EchoTaps$Line" "way" "[I", Cond.fieldLink RX0 29 "EchoTaps$Line" "fars" "[I", Cond.fieldLink RX0 32 "EchoTaps$Line" "nears" "[I", Cond.fieldLink RX0 35 "EchoTaps$Line" "outs" "[I", Cond.fieldLink RX0 38 "EchoTaps$Line" "marks" "[I", Cond.fieldLink RX0 41 "EchoTaps$Line" "told" "[I", Cond.fieldLink RX0 50 "EchoTaps$Line" "ticks" "I", Cond.fieldLink RX0 54 "EchoTaps$Line" "hold" "I", Cond.fieldLink RX0 57 "EchoTaps$Line" "seed" "I", Cond.methodLink RX1 75 yX1_nextSeed, Cond.static yX1_nextSeed, Cond.code yX1_nextSeed cX1_nextSeed 1 (some .int), Cond.constant RX1 128 (65537), Cond.methodLink RX1 78 yX1_centred, Cond.static yX1_centred, Cond.code yX1_centred cX1_centred 2 (some .int), Cond.methodLink RX1 67 yX0_hearSpeech, Cond.instanceMethod yX0_hearSpeech, Cond.selects RX0 yX0_hearSpeech yX0_hearSpeech, Cond.code yX0_hearSpeech cX0_hearSpeech 3 (some .int), Cond.methodLink RX0 90 yX0_takeFar, Cond.instanceMethod yX0_takeFar]
def wsX1_learnt_r3 : List Cond := [Cond.selects RX0 yX0_takeFar yX0_takeFar, Cond.code yX0_takeFar cX0_takeFar 2 none, Cond.methodLink RX0 94 yX0_echo, Cond.instanceMethod yX0_echo, Cond.selects RX0 yX0_echo yX0_echo, Cond.code yX0_echo cX0_echo 3 (some .int), Cond.methodLink RX0 104 yX0_farAgo, Cond.instanceMethod yX0_farAgo, Cond.selects RX0 yX0_farAgo yX0_farAgo, Cond.code yX0_farAgo cX0_farAgo 2 (some .int), Cond.static yX1_limited, Cond.code yX1_limited cX1_limited 3 (some .int), Cond.methodLink RX1 121 Lib.Math.min.name, Cond.static Lib.Math.min.name, Cond.code Lib.Math.min.name Lib.Math.min.code 2 (some .int), Cond.methodLink RX1 124 Lib.Math.max.name, Cond.static Lib.Math.max.name, Cond.code Lib.Math.max.name Lib.Math.max.code 2 (some .int), Cond.methodLink RX0 101 yX0_takeNear, Cond.instanceMethod yX0_takeNear, Cond.selects RX0 yX0_takeNear yX0_takeNear, Cond.code yX0_takeNear cX0_takeNear 10 (some .int), Cond.methodLink RX0 67 Lib.Math.abs.name, Cond.methodLink RX0 60 yX0_estimated]
def wsX1_learnt_r4 : List Cond := [Cond.instanceMethod yX0_estimated, Cond.selects RX0 yX0_estimated yX0_estimated, Cond.code yX0_estimated cX0_estimated 3 (some .int), Cond.methodLink RX0 107 yX0_seenBy, Cond.instanceMethod yX0_seenBy, Cond.selects RX0 yX0_seenBy yX0_seenBy, Cond.code yX0_seenBy cX0_seenBy 2 (some .int), Cond.methodLink RX0 64 yX0_loudest, Cond.instanceMethod yX0_loudest, Cond.selects RX0 yX0_loudest yX0_loudest, Cond.code yX0_loudest cX0_loudest 3 (some .int), Cond.methodLink RX0 110 Lib.Math.max.name, Cond.methodLink RX0 73 yX0_holdBy, Cond.instanceMethod yX0_holdBy, Cond.selects RX0 yX0_holdBy yX0_holdBy, Cond.code yX0_holdBy cX0_holdBy 2 none, Cond.methodLink RX0 77 yX0_tonePeriod, Cond.instanceMethod yX0_tonePeriod, Cond.selects RX0 yX0_tonePeriod yX0_tonePeriod, Cond.code yX0_tonePeriod cX0_tonePeriod 2 (some .int), Cond.methodLink RX0 114 yX0_silent, Cond.instanceMethod yX0_silent, Cond.selects RX0 yX0_silent yX0_silent, Cond.code yX0_silent cX0_silent 2 (some .boolean)]
def wsX1_learnt_r5 : List Cond := [Cond.methodLink RX0 118 yX0_repeatsBy, Cond.instanceMethod yX0_repeatsBy, Cond.selects RX0 yX0_repeatsBy yX0_repeatsBy, Cond.code yX0_repeatsBy cX0_repeatsBy 3 (some .boolean), Cond.methodLink RX0 80 yX0_powerSeen, Cond.instanceMethod yX0_powerSeen, Cond.selects RX0 yX0_powerSeen yX0_powerSeen, Cond.code yX0_powerSeen cX0_powerSeen 4 (some .int), Cond.methodLink RX0 83 yX0_learn, Cond.instanceMethod yX0_learn, Cond.selects RX0 yX0_learn yX0_learn, Cond.code yX0_learn cX0_learn 8 none, Cond.constantLong RX0 122 (-4096), Cond.constantLong RX0 124 (4095), Cond.methodLink RX0 126 Lib.MathLoose.min_long.x, Cond.static Lib.MathLoose.min_long.x, Cond.code Lib.MathLoose.min_long.x Lib.MathLoose.min_long.code 4 (some .long), Cond.methodLink RX0 130 Lib.MathLoose.max_long.x, Cond.static Lib.MathLoose.max_long.x, Cond.code Lib.MathLoose.max_long.x Lib.MathLoose.max_long.code 4 (some .long), Cond.methodLink RX0 87 yX0_softened, Cond.instanceMethod yX0_softened, Cond.selects RX0 yX0_softened yX0_softened, Cond.code yX0_softened cX0_softened 2 (some .int)]
def wsX1_learnt : List Cond := .code yX1_learnt cX1_learnt 7 (some .int) :: ((wsX1_learnt_r1 ++ (wsX1_learnt_r2 ++ (wsX1_learnt_r3 ++ (wsX1_learnt_r4 ++ wsX1_learnt_r5)))) ++ wsX10 ++ wsX00)
def wsX1_likeness : List Cond := .code yX1_likeness cX1_likeness 2 (some .int) :: ([.fieldLink RX1 12 "EchoTaps" "line" "LEchoTaps$Line;", .constant RX1 34 (-1000000002), .methodLink RX1 23 yX1_within, .static yX1_within, .initialized RX1, .code yX1_within cX1_within 3 (some .boolean), .methodLink RX1 90 yX0_likenessOf, .instanceMethod yX0_likenessOf, .selects RX0 yX0_likenessOf yX0_likenessOf, .initialized RX0, .code yX0_likenessOf cX0_likenessOf 4 (some .int), .methodLink RX0 138 yX0_nearAgo, .instanceMethod yX0_nearAgo, .selects RX0 yX0_nearAgo yX0_nearAgo, .code yX0_nearAgo cX0_nearAgo 2 (some .int), .fieldLink RX0 32 "EchoTaps$Line" "nears" "[I", .fieldLink RX0 50 "EchoTaps$Line" "ticks" "I", .methodLink RX0 104 yX0_farAgo, .instanceMethod yX0_farAgo, .selects RX0 yX0_farAgo yX0_farAgo, .code yX0_farAgo cX0_farAgo 2 (some .int), .fieldLink RX0 29 "EchoTaps$Line" "fars" "[I"] ++ wsX10 ++ wsX00)
def wsX1_seek_r1 : List Cond := [Cond.fieldLink RX1 12 "EchoTaps" "line" "LEchoTaps$Line;", Cond.methodLink RX1 81 Lib.Math.abs.name, Cond.static Lib.Math.abs.name, Cond.initialized "java/lang/Math", Cond.code Lib.Math.abs.name Lib.Math.abs.code 1 (some .int), Cond.methodLink RX1 90 yX0_likenessOf, Cond.instanceMethod yX0_likenessOf, Cond.selects RX0 yX0_likenessOf yX0_likenessOf, Cond.initialized RX0, Cond.code yX0_likenessOf cX0_likenessOf 4 (some .int), Cond.methodLink RX0 138 yX0_nearAgo, Cond.instanceMethod yX0_nearAgo, Cond.selects RX0 yX0_nearAgo yX0_nearAgo, Cond.code yX0_nearAgo cX0_nearAgo 2 (some .int), Cond.fieldLink RX0 32 "EchoTaps$Line" "nears" "[I", Cond.fieldLink RX0 50 "EchoTaps$Line" "ticks" "I", Cond.methodLink RX0 104 yX0_farAgo, Cond.instanceMethod yX0_farAgo, Cond.selects RX0 yX0_farAgo yX0_farAgo, Cond.code yX0_farAgo cX0_farAgo 2 (some .int), Cond.fieldLink RX0 29 "EchoTaps$Line" "fars" "[I", Cond.methodLink RX1 93 yX0_startAnew, Cond.instanceMethod yX0_startAnew, Cond.selects RX0 yX0_startAnew yX0_startAnew]
def wsX1_seek_r2 : List Cond := [Cond.code yX0_startAnew cX0_startAnew 3 none, Cond.fieldLink RX0 18 "EchoTaps$Line" "rules" "[I", Cond.fieldLink RX0 23 "EchoTaps$Line" "taps" "[I"]
def wsX1_seek : List Cond := .code yX1_seek cX1_seek 5 (some .int) :: ((wsX1_seek_r1 ++ wsX1_seek_r2) ++ wsX10 ++ wsX00)
def wsX1_greatestDivisor : List Cond := .code yX1_greatestDivisor cX1_greatestDivisor 6 (some .int) :: ([])
def wsX1_gain_r1 : List Cond := [Cond.fieldLink RX1 12 "EchoTaps" "line" "LEchoTaps$Line;", Cond.methodLink RX1 23 yX1_within, Cond.static yX1_within, Cond.initialized RX1, Cond.code yX1_within cX1_within 3 (some .boolean), Cond.methodLink RX1 96 yX0_nearSquares, Cond.instanceMethod yX0_nearSquares, Cond.selects RX0 yX0_nearSquares yX0_nearSquares, Cond.initialized RX0, Cond.code yX0_nearSquares cX0_nearSquares 3 (some .int), Cond.methodLink RX0 138 yX0_nearAgo, Cond.instanceMethod yX0_nearAgo, Cond.selects RX0 yX0_nearAgo yX0_nearAgo, Cond.code yX0_nearAgo cX0_nearAgo 2 (some .int), Cond.fieldLink RX0 32 "EchoTaps$Line" "nears" "[I", Cond.fieldLink RX0 50 "EchoTaps$Line" "ticks" "I", Cond.methodLink RX1 100 yX0_outSquares, Cond.instanceMethod yX0_outSquares, Cond.selects RX0 yX0_outSquares yX0_outSquares, Cond.code yX0_outSquares cX0_outSquares 3 (some .int), Cond.methodLink RX0 141 yX0_outAgo, Cond.instanceMethod yX0_outAgo, Cond.selects RX0 yX0_outAgo yX0_outAgo, Cond.code yX0_outAgo cX0_outAgo 2 (some .int)]
def wsX1_gain_r2 : List Cond := [Cond.fieldLink RX0 35 "EchoTaps$Line" "outs" "[I", Cond.methodLink RX1 103 yX1_greatestDivisor, Cond.static yX1_greatestDivisor, Cond.code yX1_greatestDivisor cX1_greatestDivisor 6 (some .int)]
def wsX1_gain : List Cond := .code yX1_gain cX1_gain 5 (some .int) :: ((wsX1_gain_r1 ++ wsX1_gain_r2) ++ wsX10 ++ wsX00)
def wsX1_began : List Cond := .code yX1_began cX1_began 3 (some .int) :: ([.fieldLink RX1 12 "EchoTaps" "line" "LEchoTaps$Line;", .methodLink RX1 23 yX1_within, .static yX1_within, .initialized RX1, .code yX1_within cX1_within 3 (some .boolean), .methodLink RX1 106 yX0_beginning, .instanceMethod yX0_beginning, .selects RX0 yX0_beginning yX0_beginning, .initialized RX0, .code yX0_beginning cX0_beginning 5 (some .int), .fieldLink RX0 50 "EchoTaps$Line" "ticks" "I", .methodLink RX0 144 yX0_beginsAt, .instanceMethod yX0_beginsAt, .selects RX0 yX0_beginsAt yX0_beginsAt, .code yX0_beginsAt cX0_beginsAt 3 (some .boolean), .fieldLink RX0 38 "EchoTaps$Line" "marks" "[I"] ++ wsX10 ++ wsX00)
def wsX1_image_r1 : List Cond := [Cond.fieldLink RX1 19 "EchoTaps" "images" "[LEchoTaps$Line;", Cond.fieldLink RX1 12 "EchoTaps" "line" "LEchoTaps$Line;", Cond.fieldLink RX1 109 "EchoTaps" "kept" "I", Cond.methodLink RX1 23 yX1_within, Cond.static yX1_within, Cond.initialized RX1, Cond.code yX1_within cX1_within 3 (some .boolean), Cond.methodLink RX1 86 yX0_copyFrom, Cond.instanceMethod yX0_copyFrom, Cond.selects RX0 yX0_copyFrom yX0_copyFrom, Cond.initialized RX0, Cond.code yX0_copyFrom cX0_copyFrom 2 none, Cond.fieldLink RX0 18 "EchoTaps$Line" "rules" "[I", Cond.methodLink RX0 44 arraycopyName, Cond.native arraycopyName, Cond.static arraycopyName, Cond.initialized "java/lang/System", Cond.fieldLink RX0 23 "EchoTaps$Line" "taps" "[I", Cond.fieldLink RX0 26 "EchoTaps$Line" "way" "[I", Cond.fieldLink RX0 29 "EchoTaps$Line" "fars" "[I", Cond.fieldLink RX0 32 "EchoTaps$Line" "nears" "[I", Cond.fieldLink RX0 35 "EchoTaps$Line" "outs" "[I", Cond.fieldLink RX0 38 "EchoTaps$Line" "marks" "[I", Cond.fieldLink RX0 41 "EchoTaps$Line" "told" "[I"]
def wsX1_image_r2 : List Cond := [Cond.fieldLink RX0 50 "EchoTaps$Line" "ticks" "I", Cond.fieldLink RX0 54 "EchoTaps$Line" "hold" "I", Cond.fieldLink RX0 57 "EchoTaps$Line" "seed" "I"]
def wsX1_image : List Cond := .code yX1_image cX1_image 2 (some .int) :: ((wsX1_image_r1 ++ wsX1_image_r2) ++ wsX10 ++ wsX00)
def wsX1_restore_r1 : List Cond := [Cond.fieldLink RX1 109 "EchoTaps" "kept" "I", Cond.fieldLink RX1 12 "EchoTaps" "line" "LEchoTaps$Line;", Cond.fieldLink RX1 19 "EchoTaps" "images" "[LEchoTaps$Line;", Cond.methodLink RX1 23 yX1_within, Cond.static yX1_within, Cond.initialized RX1, Cond.code yX1_within cX1_within 3 (some .boolean), Cond.methodLink RX1 86 yX0_copyFrom, Cond.instanceMethod yX0_copyFrom, Cond.selects RX0 yX0_copyFrom yX0_copyFrom, Cond.initialized RX0, Cond.code yX0_copyFrom cX0_copyFrom 2 none, Cond.fieldLink RX0 18 "EchoTaps$Line" "rules" "[I", Cond.methodLink RX0 44 arraycopyName, Cond.native arraycopyName, Cond.static arraycopyName, Cond.initialized "java/lang/System", Cond.fieldLink RX0 23 "EchoTaps$Line" "taps" "[I", Cond.fieldLink RX0 26 "EchoTaps$Line" "way" "[I", Cond.fieldLink RX0 29 "EchoTaps$Line" "fars" "[I", Cond.fieldLink RX0 32 "EchoTaps$Line" "nears" "[I", Cond.fieldLink RX0 35 "EchoTaps$Line" "outs" "[I", Cond.fieldLink RX0 38 "EchoTaps$Line" "marks" "[I", Cond.fieldLink RX0 41 "EchoTaps$Line" "told" "[I"]
def wsX1_restore_r2 : List Cond := [Cond.fieldLink RX0 50 "EchoTaps$Line" "ticks" "I", Cond.fieldLink RX0 54 "EchoTaps$Line" "hold" "I", Cond.fieldLink RX0 57 "EchoTaps$Line" "seed" "I"]
def wsX1_restore : List Cond := .code yX1_restore cX1_restore 2 (some .int) :: ((wsX1_restore_r1 ++ wsX1_restore_r2) ++ wsX10 ++ wsX00)
def wsX1_count : List Cond := .code yX1_count cX1_count 2 (some .int) :: ([.fieldLink RX1 12 "EchoTaps" "line" "LEchoTaps$Line;", .fieldLink RX1 31 "EchoTaps$Line" "rules" "[I", .fieldLink RX1 46 "EchoTaps$Line" "ticks" "I", .fieldLink RX1 112 "EchoTaps$Line" "hold" "I", .fieldLink RX1 115 "EchoTaps$Line" "seed" "I", .fieldLink RX1 64 "EchoTaps$Line" "way" "[I", .fieldLink RX1 109 "EchoTaps" "kept" "I", .methodLink RX1 23 yX1_within, .static yX1_within, .initialized RX1, .code yX1_within cX1_within 3 (some .boolean), .methodLink RX1 118 yX0_tapSizes, .instanceMethod yX0_tapSizes, .selects RX0 yX0_tapSizes yX0_tapSizes, .initialized RX0, .code yX0_tapSizes cX0_tapSizes 3 (some .int), .fieldLink RX0 23 "EchoTaps$Line" "taps" "[I", .methodLink RX0 67 Lib.Math.abs.name, .static Lib.Math.abs.name, .initialized "java/lang/Math", .code Lib.Math.abs.name Lib.Math.abs.code 1 (some .int)] ++ wsX10 ++ wsX00)
def wsX2_init : List Cond := .code yX2_init cX2_init 1 none :: ([.methodLink RX2 1 objectInit, .instanceMethod objectInit, .code objectInit ⟨#[0xb1]⟩ 1 none, .arrayClass .int, .fieldLink RX2 7 "EchoTapsModel" "state" "[I", .fieldLink RX2 13 "EchoTapsModel" "images" "[I", .arrayClass .boolean, .fieldLink RX2 16 "EchoTapsModel" "isKept" "[Z"] ++ wsX20)
def wsX2_in : List Cond := .code yX2_in cX2_in 3 (some .boolean) :: ([])
def wsX2_size : List Cond := .code yX2_size cX2_size 1 (some .int) :: ([])
def wsX2_within : List Cond := .code yX2_within cX2_within 3 (some .int) :: ([])
def wsX2_most : List Cond := .code yX2_most cX2_most 1 (some .int) :: ([])
def wsX2_rule : List Cond := .code yX2_rule cX2_rule 4 (some .int) :: ([.fieldLink RX2 7 "EchoTapsModel" "state" "[I", .methodLink RX2 20 yX2_in, .static yX2_in, .initialized RX2, .code yX2_in cX2_in 3 (some .boolean), .methodLink RX2 24 yX2_most, .static yX2_most, .code yX2_most cX2_most 1 (some .int)] ++ wsX20)
def wsX2_shift : List Cond := .code yX2_shift cX2_shift 5 none :: ([.fieldLink RX2 7 "EchoTapsModel" "state" "[I"] ++ wsX20)
def wsX2_seen : List Cond := .code yX2_seen cX2_seen 2 (some .int) :: ([.fieldLink RX2 7 "EchoTapsModel" "state" "[I"] ++ wsX20)
def wsX2_estimate : List Cond := .code yX2_estimate cX2_estimate 3 (some .int) :: ([.fieldLink RX2 7 "EchoTapsModel" "state" "[I", .methodLink RX2 28 yX2_seen, .instanceMethod yX2_seen, .selects RX2 yX2_seen yX2_seen, .initialized RX2, .code yX2_seen cX2_seen 2 (some .int)] ++ wsX20)
def wsX2_loud : List Cond := .code yX2_loud cX2_loud 3 (some .int) :: ([.fieldLink RX2 7 "EchoTapsModel" "state" "[I", .methodLink RX2 31 yX2_size, .static yX2_size, .initialized RX2, .code yX2_size cX2_size 1 (some .int)] ++ wsX20)
def wsX2_power : List Cond := .code yX2_power cX2_power 3 (some .int) :: ([.methodLink RX2 28 yX2_seen, .instanceMethod yX2_seen, .selects RX2 yX2_seen yX2_seen, .initialized RX2, .code yX2_seen cX2_seen 2 (some .int), .fieldLink RX2 7 "EchoTapsModel" "state" "[I"] ++ wsX20)
def wsX2_comesRound : List Cond := .code yX2_comesRound cX2_comesRound 4 (some .boolean) :: ([.fieldLink RX2 7 "EchoTapsModel" "state" "[I"] ++ wsX20)
def wsX2_tone : List Cond := .code yX2_tone cX2_tone 3 (some .int) :: ([.fieldLink RX2 7 "EchoTapsModel" "state" "[I", .methodLink RX2 34 yX2_comesRound, .instanceMethod yX2_comesRound, .selects RX2 yX2_comesRound yX2_comesRound, .initialized RX2, .code yX2_comesRound cX2_comesRound 4 (some .boolean)] ++ wsX20)
def wsX2_hold : List Cond := .code yX2_hold cX2_hold 1 none :: ([.fieldLink RX2 7 "EchoTapsModel" "state" "[I"] ++ wsX20)
def wsX2_learn : List Cond := .code yX2_learn cX2_learn 4 none :: ([.fieldLink RX2 7 "EchoTapsModel" "state" "[I", .methodLink RX2 28 yX2_seen, .instanceMethod yX2_seen, .selects RX2 yX2_seen yX2_seen, .initialized RX2, .code yX2_seen cX2_seen 2 (some .int), .methodLink RX2 38 yX2_within, .static yX2_within, .code yX2_within cX2_within 3 (some .int)] ++ wsX20)
def wsX2_next : List Cond := .code yX2_next cX2_next 1 (some .int) :: ([.constant RX2 42 (65537)])
def wsX2_noise : List Cond := .code yX2_noise cX2_noise 1 (some .int) :: ([.fieldLink RX2 7 "EchoTapsModel" "state" "[I", .methodLink RX2 43 yX2_next, .static yX2_next, .initialized RX2, .code yX2_next cX2_next 1 (some .int), .constant RX2 42 (65537)] ++ wsX20)
def wsX2_outNow : List Cond := .code yX2_outNow cX2_outNow 1 (some .int) :: ([.fieldLink RX2 7 "EchoTapsModel" "state" "[I", .methodLink RX2 31 yX2_size, .static yX2_size, .initialized RX2, .code yX2_size cX2_size 1 (some .int), .methodLink RX2 46 yX2_noise, .instanceMethod yX2_noise, .selects RX2 yX2_noise yX2_noise, .code yX2_noise cX2_noise 1 (some .int), .methodLink RX2 43 yX2_next, .static yX2_next, .code yX2_next cX2_next 1 (some .int), .constant RX2 42 (65537), .methodLink RX2 38 yX2_within, .static yX2_within, .code yX2_within cX2_within 3 (some .int)] ++ wsX20)
def wsX2_tickOf_r1 : List Cond := [Cond.fieldLink RX2 7 "EchoTapsModel" "state" "[I", Cond.methodLink RX2 50 yX2_shift, Cond.instanceMethod yX2_shift, Cond.selects RX2 yX2_shift yX2_shift, Cond.initialized RX2, Cond.code yX2_shift cX2_shift 5 none, Cond.methodLink RX2 54 yX2_estimate, Cond.instanceMethod yX2_estimate, Cond.selects RX2 yX2_estimate yX2_estimate, Cond.code yX2_estimate cX2_estimate 3 (some .int), Cond.methodLink RX2 28 yX2_seen, Cond.instanceMethod yX2_seen, Cond.selects RX2 yX2_seen yX2_seen, Cond.code yX2_seen cX2_seen 2 (some .int), Cond.methodLink RX2 57 yX2_loud, Cond.instanceMethod yX2_loud, Cond.selects RX2 yX2_loud yX2_loud, Cond.code yX2_loud cX2_loud 3 (some .int), Cond.methodLink RX2 31 yX2_size, Cond.static yX2_size, Cond.code yX2_size cX2_size 1 (some .int), Cond.methodLink RX2 60 yX2_power, Cond.instanceMethod yX2_power, Cond.selects RX2 yX2_power yX2_power]
def wsX2_tickOf_r2 : List Cond := [Cond.code yX2_power cX2_power 3 (some .int), Cond.methodLink RX2 63 yX2_hold, Cond.instanceMethod yX2_hold, Cond.selects RX2 yX2_hold yX2_hold, Cond.code yX2_hold cX2_hold 1 none, Cond.methodLink RX2 66 yX2_tone, Cond.instanceMethod yX2_tone, Cond.selects RX2 yX2_tone yX2_tone, Cond.code yX2_tone cX2_tone 3 (some .int), Cond.methodLink RX2 34 yX2_comesRound, Cond.instanceMethod yX2_comesRound, Cond.selects RX2 yX2_comesRound yX2_comesRound, Cond.code yX2_comesRound cX2_comesRound 4 (some .boolean), Cond.methodLink RX2 69 yX2_learn, Cond.instanceMethod yX2_learn, Cond.selects RX2 yX2_learn yX2_learn, Cond.code yX2_learn cX2_learn 4 none, Cond.methodLink RX2 38 yX2_within, Cond.static yX2_within, Cond.code yX2_within cX2_within 3 (some .int), Cond.methodLink RX2 72 yX2_outNow, Cond.instanceMethod yX2_outNow, Cond.selects RX2 yX2_outNow yX2_outNow, Cond.code yX2_outNow cX2_outNow 1 (some .int)]
def wsX2_tickOf_r3 : List Cond := [Cond.methodLink RX2 46 yX2_noise, Cond.instanceMethod yX2_noise, Cond.selects RX2 yX2_noise yX2_noise, Cond.code yX2_noise cX2_noise 1 (some .int), Cond.methodLink RX2 43 yX2_next, Cond.static yX2_next, Cond.code yX2_next cX2_next 1 (some .int), Cond.constant RX2 42 (65537)]
def wsX2_tickOf : List Cond := .code yX2_tickOf cX2_tickOf 4 (some .int) :: ((wsX2_tickOf_r1 ++ (wsX2_tickOf_r2 ++ wsX2_tickOf_r3)) ++ wsX20)
def wsX2_tick_r1 : List Cond := [Cond.constant RX2 79 (-1000000002), Cond.methodLink RX2 20 yX2_in, Cond.static yX2_in, Cond.initialized RX2, Cond.code yX2_in cX2_in 3 (some .boolean), Cond.methodLink RX2 75 yX2_tickOf, Cond.instanceMethod yX2_tickOf, Cond.selects RX2 yX2_tickOf yX2_tickOf, Cond.code yX2_tickOf cX2_tickOf 4 (some .int), Cond.fieldLink RX2 7 "EchoTapsModel" "state" "[I", Cond.methodLink RX2 50 yX2_shift, Cond.instanceMethod yX2_shift, Cond.selects RX2 yX2_shift yX2_shift, Cond.code yX2_shift cX2_shift 5 none, Cond.methodLink RX2 54 yX2_estimate, Cond.instanceMethod yX2_estimate, Cond.selects RX2 yX2_estimate yX2_estimate, Cond.code yX2_estimate cX2_estimate 3 (some .int), Cond.methodLink RX2 28 yX2_seen, Cond.instanceMethod yX2_seen, Cond.selects RX2 yX2_seen yX2_seen, Cond.code yX2_seen cX2_seen 2 (some .int), Cond.methodLink RX2 57 yX2_loud, Cond.instanceMethod yX2_loud]
def wsX2_tick_r2 : List Cond := [Cond.selects RX2 yX2_loud yX2_loud, Cond.code yX2_loud cX2_loud 3 (some .int), Cond.methodLink RX2 31 yX2_size, Cond.static yX2_size, Cond.code yX2_size cX2_size 1 (some .int), Cond.methodLink RX2 60 yX2_power, Cond.instanceMethod yX2_power, Cond.selects RX2 yX2_power yX2_power, Cond.code yX2_power cX2_power 3 (some .int), Cond.methodLink RX2 63 yX2_hold, Cond.instanceMethod yX2_hold, Cond.selects RX2 yX2_hold yX2_hold, Cond.code yX2_hold cX2_hold 1 none, Cond.methodLink RX2 66 yX2_tone, Cond.instanceMethod yX2_tone, Cond.selects RX2 yX2_tone yX2_tone, Cond.code yX2_tone cX2_tone 3 (some .int), Cond.methodLink RX2 34 yX2_comesRound, Cond.instanceMethod yX2_comesRound, Cond.selects RX2 yX2_comesRound yX2_comesRound, Cond.code yX2_comesRound cX2_comesRound 4 (some .boolean), Cond.methodLink RX2 69 yX2_learn, Cond.instanceMethod yX2_learn, Cond.selects RX2 yX2_learn yX2_learn]
def wsX2_tick_r3 : List Cond := [Cond.code yX2_learn cX2_learn 4 none, Cond.methodLink RX2 38 yX2_within, Cond.static yX2_within, Cond.code yX2_within cX2_within 3 (some .int), Cond.methodLink RX2 72 yX2_outNow, Cond.instanceMethod yX2_outNow, Cond.selects RX2 yX2_outNow yX2_outNow, Cond.code yX2_outNow cX2_outNow 1 (some .int), Cond.methodLink RX2 46 yX2_noise, Cond.instanceMethod yX2_noise, Cond.selects RX2 yX2_noise yX2_noise, Cond.code yX2_noise cX2_noise 1 (some .int), Cond.methodLink RX2 43 yX2_next, Cond.static yX2_next, Cond.code yX2_next cX2_next 1 (some .int), Cond.constant RX2 42 (65537)]
def wsX2_tick : List Cond := .code yX2_tick cX2_tick 3 (some .int) :: ((wsX2_tick_r1 ++ (wsX2_tick_r2 ++ wsX2_tick_r3)) ++ wsX20)
def wsX2_tap : List Cond := .code yX2_tap cX2_tap 2 (some .int) :: ([.fieldLink RX2 7 "EchoTapsModel" "state" "[I", .constant RX2 79 (-1000000002), .methodLink RX2 20 yX2_in, .static yX2_in, .initialized RX2, .code yX2_in cX2_in 3 (some .boolean)] ++ wsX20)
def wsX2_last : List Cond := .code yX2_last cX2_last 2 (some .int) :: ([.constant RX2 79 (-1000000002), .fieldLink RX2 7 "EchoTapsModel" "state" "[I", .constant RX2 80 (-1000000003), .methodLink RX2 20 yX2_in, .static yX2_in, .initialized RX2, .code yX2_in cX2_in 3 (some .boolean)] ++ wsX20)
def wsX2_ago : List Cond := .code yX2_ago cX2_ago 3 (some .int) :: ([.constant RX2 79 (-1000000002), .fieldLink RX2 7 "EchoTapsModel" "state" "[I", .constant RX2 81 (-1000000006), .methodLink RX2 20 yX2_in, .static yX2_in, .initialized RX2, .code yX2_in cX2_in 3 (some .boolean)] ++ wsX20)
def wsX2_part : List Cond := .code yX2_part cX2_part 4 (some .int) :: ([.constant RX2 79 (-1000000002), .fieldLink RX2 7 "EchoTapsModel" "state" "[I", .methodLink RX2 20 yX2_in, .static yX2_in, .initialized RX2, .code yX2_in cX2_in 3 (some .boolean)] ++ wsX20)
def wsX2_echo : List Cond := .code yX2_echo cX2_echo 5 (some .int) :: ([.fieldLink RX2 7 "EchoTapsModel" "state" "[I"] ++ wsX20)
def wsX2_speakOf_r1 : List Cond := [Cond.methodLink RX2 82 yX2_echo, Cond.instanceMethod yX2_echo, Cond.selects RX2 yX2_echo yX2_echo, Cond.initialized RX2, Cond.code yX2_echo cX2_echo 5 (some .int), Cond.fieldLink RX2 7 "EchoTapsModel" "state" "[I", Cond.methodLink RX2 38 yX2_within, Cond.static yX2_within, Cond.code yX2_within cX2_within 3 (some .int), Cond.methodLink RX2 75 yX2_tickOf, Cond.instanceMethod yX2_tickOf, Cond.selects RX2 yX2_tickOf yX2_tickOf, Cond.code yX2_tickOf cX2_tickOf 4 (some .int), Cond.methodLink RX2 50 yX2_shift, Cond.instanceMethod yX2_shift, Cond.selects RX2 yX2_shift yX2_shift, Cond.code yX2_shift cX2_shift 5 none, Cond.methodLink RX2 54 yX2_estimate, Cond.instanceMethod yX2_estimate, Cond.selects RX2 yX2_estimate yX2_estimate, Cond.code yX2_estimate cX2_estimate 3 (some .int), Cond.methodLink RX2 28 yX2_seen, Cond.instanceMethod yX2_seen, Cond.selects RX2 yX2_seen yX2_seen]
def wsX2_speakOf_r2 : List Cond := [Cond.code yX2_seen cX2_seen 2 (some .int), Cond.methodLink RX2 57 yX2_loud, Cond.instanceMethod yX2_loud, Cond.selects RX2 yX2_loud yX2_loud, Cond.code yX2_loud cX2_loud 3 (some .int), Cond.methodLink RX2 31 yX2_size, Cond.static yX2_size, Cond.code yX2_size cX2_size 1 (some .int), Cond.methodLink RX2 60 yX2_power, Cond.instanceMethod yX2_power, Cond.selects RX2 yX2_power yX2_power, Cond.code yX2_power cX2_power 3 (some .int), Cond.methodLink RX2 63 yX2_hold, Cond.instanceMethod yX2_hold, Cond.selects RX2 yX2_hold yX2_hold, Cond.code yX2_hold cX2_hold 1 none, Cond.methodLink RX2 66 yX2_tone, Cond.instanceMethod yX2_tone, Cond.selects RX2 yX2_tone yX2_tone, Cond.code yX2_tone cX2_tone 3 (some .int), Cond.methodLink RX2 34 yX2_comesRound, Cond.instanceMethod yX2_comesRound, Cond.selects RX2 yX2_comesRound yX2_comesRound, Cond.code yX2_comesRound cX2_comesRound 4 (some .boolean)]
def wsX2_speakOf_r3 : List Cond := [Cond.methodLink RX2 69 yX2_learn, Cond.instanceMethod yX2_learn, Cond.selects RX2 yX2_learn yX2_learn, Cond.code yX2_learn cX2_learn 4 none, Cond.methodLink RX2 72 yX2_outNow, Cond.instanceMethod yX2_outNow, Cond.selects RX2 yX2_outNow yX2_outNow, Cond.code yX2_outNow cX2_outNow 1 (some .int), Cond.methodLink RX2 46 yX2_noise, Cond.instanceMethod yX2_noise, Cond.selects RX2 yX2_noise yX2_noise, Cond.code yX2_noise cX2_noise 1 (some .int), Cond.methodLink RX2 43 yX2_next, Cond.static yX2_next, Cond.code yX2_next cX2_next 1 (some .int), Cond.constant RX2 42 (65537)]
def wsX2_speakOf : List Cond := .code yX2_speakOf cX2_speakOf 3 (some .int) :: ((wsX2_speakOf_r1 ++ (wsX2_speakOf_r2 ++ wsX2_speakOf_r3)) ++ wsX20)
def wsX2_speak_r1 : List Cond := [Cond.constant RX2 79 (-1000000002), Cond.methodLink RX2 20 yX2_in, Cond.static yX2_in, Cond.initialized RX2, Cond.code yX2_in cX2_in 3 (some .boolean), Cond.methodLink RX2 85 yX2_speakOf, Cond.instanceMethod yX2_speakOf, Cond.selects RX2 yX2_speakOf yX2_speakOf, Cond.code yX2_speakOf cX2_speakOf 3 (some .int), Cond.methodLink RX2 82 yX2_echo, Cond.instanceMethod yX2_echo, Cond.selects RX2 yX2_echo yX2_echo, Cond.code yX2_echo cX2_echo 5 (some .int), Cond.fieldLink RX2 7 "EchoTapsModel" "state" "[I", Cond.methodLink RX2 38 yX2_within, Cond.static yX2_within, Cond.code yX2_within cX2_within 3 (some .int), Cond.methodLink RX2 75 yX2_tickOf, Cond.instanceMethod yX2_tickOf, Cond.selects RX2 yX2_tickOf yX2_tickOf, Cond.code yX2_tickOf cX2_tickOf 4 (some .int), Cond.methodLink RX2 50 yX2_shift, Cond.instanceMethod yX2_shift, Cond.selects RX2 yX2_shift yX2_shift]
def wsX2_speak_r2 : List Cond := [Cond.code yX2_shift cX2_shift 5 none, Cond.methodLink RX2 54 yX2_estimate, Cond.instanceMethod yX2_estimate, Cond.selects RX2 yX2_estimate yX2_estimate, Cond.code yX2_estimate cX2_estimate 3 (some .int), Cond.methodLink RX2 28 yX2_seen, Cond.instanceMethod yX2_seen, Cond.selects RX2 yX2_seen yX2_seen, Cond.code yX2_seen cX2_seen 2 (some .int), Cond.methodLink RX2 57 yX2_loud, Cond.instanceMethod yX2_loud, Cond.selects RX2 yX2_loud yX2_loud, Cond.code yX2_loud cX2_loud 3 (some .int), Cond.methodLink RX2 31 yX2_size, Cond.static yX2_size, Cond.code yX2_size cX2_size 1 (some .int), Cond.methodLink RX2 60 yX2_power, Cond.instanceMethod yX2_power, Cond.selects RX2 yX2_power yX2_power, Cond.code yX2_power cX2_power 3 (some .int), Cond.methodLink RX2 63 yX2_hold, Cond.instanceMethod yX2_hold, Cond.selects RX2 yX2_hold yX2_hold, Cond.code yX2_hold cX2_hold 1 none]
def wsX2_speak_r3 : List Cond := [Cond.methodLink RX2 66 yX2_tone, Cond.instanceMethod yX2_tone, Cond.selects RX2 yX2_tone yX2_tone, Cond.code yX2_tone cX2_tone 3 (some .int), Cond.methodLink RX2 34 yX2_comesRound, Cond.instanceMethod yX2_comesRound, Cond.selects RX2 yX2_comesRound yX2_comesRound, Cond.code yX2_comesRound cX2_comesRound 4 (some .boolean), Cond.methodLink RX2 69 yX2_learn, Cond.instanceMethod yX2_learn, Cond.selects RX2 yX2_learn yX2_learn, Cond.code yX2_learn cX2_learn 4 none, Cond.methodLink RX2 72 yX2_outNow, Cond.instanceMethod yX2_outNow, Cond.selects RX2 yX2_outNow yX2_outNow, Cond.code yX2_outNow cX2_outNow 1 (some .int), Cond.methodLink RX2 46 yX2_noise, Cond.instanceMethod yX2_noise, Cond.selects RX2 yX2_noise yX2_noise, Cond.code yX2_noise cX2_noise 1 (some .int), Cond.methodLink RX2 43 yX2_next, Cond.static yX2_next, Cond.code yX2_next cX2_next 1 (some .int), Cond.constant RX2 42 (65537)]
def wsX2_speak : List Cond := .code yX2_speak cX2_speak 3 (some .int) :: ((wsX2_speak_r1 ++ (wsX2_speak_r2 ++ wsX2_speak_r3)) ++ wsX20)
def wsX2_run_r1 : List Cond := [Cond.constant RX2 88 (65536), Cond.fieldLink RX2 7 "EchoTapsModel" "state" "[I", Cond.methodLink RX2 20 yX2_in, Cond.static yX2_in, Cond.initialized RX2, Cond.code yX2_in cX2_in 3 (some .boolean), Cond.methodLink RX2 43 yX2_next, Cond.static yX2_next, Cond.code yX2_next cX2_next 1 (some .int), Cond.constant RX2 42 (65537), Cond.methodLink RX2 85 yX2_speakOf, Cond.instanceMethod yX2_speakOf, Cond.selects RX2 yX2_speakOf yX2_speakOf, Cond.code yX2_speakOf cX2_speakOf 3 (some .int), Cond.methodLink RX2 82 yX2_echo, Cond.instanceMethod yX2_echo, Cond.selects RX2 yX2_echo yX2_echo, Cond.code yX2_echo cX2_echo 5 (some .int), Cond.methodLink RX2 38 yX2_within, Cond.static yX2_within, Cond.code yX2_within cX2_within 3 (some .int), Cond.methodLink RX2 75 yX2_tickOf, Cond.instanceMethod yX2_tickOf, Cond.selects RX2 yX2_tickOf yX2_tickOf]
def wsX2_run_r2 : List Cond := [Cond.code yX2_tickOf cX2_tickOf 4 (some .int), Cond.methodLink RX2 50 yX2_shift, Cond.instanceMethod yX2_shift, Cond.selects RX2 yX2_shift yX2_shift, Cond.code yX2_shift cX2_shift 5 none, Cond.methodLink RX2 54 yX2_estimate, Cond.instanceMethod yX2_estimate, Cond.selects RX2 yX2_estimate yX2_estimate, Cond.code yX2_estimate cX2_estimate 3 (some .int), Cond.methodLink RX2 28 yX2_seen, Cond.instanceMethod yX2_seen, Cond.selects RX2 yX2_seen yX2_seen, Cond.code yX2_seen cX2_seen 2 (some .int), Cond.methodLink RX2 57 yX2_loud, Cond.instanceMethod yX2_loud, Cond.selects RX2 yX2_loud yX2_loud, Cond.code yX2_loud cX2_loud 3 (some .int), Cond.methodLink RX2 31 yX2_size, Cond.static yX2_size, Cond.code yX2_size cX2_size 1 (some .int), Cond.methodLink RX2 60 yX2_power, Cond.instanceMethod yX2_power, Cond.selects RX2 yX2_power yX2_power, Cond.code yX2_power cX2_power 3 (some .int)]
def wsX2_run_r3 : List Cond := [Cond.methodLink RX2 63 yX2_hold, Cond.instanceMethod yX2_hold, Cond.selects RX2 yX2_hold yX2_hold, Cond.code yX2_hold cX2_hold 1 none, Cond.methodLink RX2 66 yX2_tone, Cond.instanceMethod yX2_tone, Cond.selects RX2 yX2_tone yX2_tone, Cond.code yX2_tone cX2_tone 3 (some .int), Cond.methodLink RX2 34 yX2_comesRound, Cond.instanceMethod yX2_comesRound, Cond.selects RX2 yX2_comesRound yX2_comesRound, Cond.code yX2_comesRound cX2_comesRound 4 (some .boolean), Cond.methodLink RX2 69 yX2_learn, Cond.instanceMethod yX2_learn, Cond.selects RX2 yX2_learn yX2_learn, Cond.code yX2_learn cX2_learn 4 none, Cond.methodLink RX2 72 yX2_outNow, Cond.instanceMethod yX2_outNow, Cond.selects RX2 yX2_outNow yX2_outNow, Cond.code yX2_outNow cX2_outNow 1 (some .int), Cond.methodLink RX2 46 yX2_noise, Cond.instanceMethod yX2_noise, Cond.selects RX2 yX2_noise yX2_noise, Cond.code yX2_noise cX2_noise 1 (some .int)]
def wsX2_run : List Cond := .code yX2_run cX2_run 7 (some .int) :: ((wsX2_run_r1 ++ (wsX2_run_r2 ++ wsX2_run_r3)) ++ wsX20)
def wsX2_save : List Cond := .code yX2_save cX2_save 3 none :: ([.fieldLink RX2 13 "EchoTapsModel" "images" "[I", .fieldLink RX2 7 "EchoTapsModel" "state" "[I"] ++ wsX20)
def wsX2_load : List Cond := .code yX2_load cX2_load 3 none :: ([.fieldLink RX2 7 "EchoTapsModel" "state" "[I", .fieldLink RX2 13 "EchoTapsModel" "images" "[I"] ++ wsX20)
def wsX2_learnt_r1 : List Cond := [Cond.constant RX2 88 (65536), Cond.fieldLink RX2 7 "EchoTapsModel" "state" "[I", Cond.methodLink RX2 20 yX2_in, Cond.static yX2_in, Cond.initialized RX2, Cond.code yX2_in cX2_in 3 (some .boolean), Cond.methodLink RX2 89 yX2_save, Cond.instanceMethod yX2_save, Cond.selects RX2 yX2_save yX2_save, Cond.code yX2_save cX2_save 3 none, Cond.fieldLink RX2 13 "EchoTapsModel" "images" "[I", Cond.methodLink RX2 43 yX2_next, Cond.static yX2_next, Cond.code yX2_next cX2_next 1 (some .int), Cond.constant RX2 42 (65537), Cond.methodLink RX2 85 yX2_speakOf, Cond.instanceMethod yX2_speakOf, Cond.selects RX2 yX2_speakOf yX2_speakOf, Cond.code yX2_speakOf cX2_speakOf 3 (some .int), Cond.methodLink RX2 82 yX2_echo, Cond.instanceMethod yX2_echo, Cond.selects RX2 yX2_echo yX2_echo, Cond.code yX2_echo cX2_echo 5 (some .int), Cond.methodLink RX2 38 yX2_within]
def wsX2_learnt_r2 : List Cond := [Cond.static yX2_within, Cond.code yX2_within cX2_within 3 (some .int), Cond.methodLink RX2 75 yX2_tickOf, Cond.instanceMethod yX2_tickOf, Cond.selects RX2 yX2_tickOf yX2_tickOf, Cond.code yX2_tickOf cX2_tickOf 4 (some .int), Cond.methodLink RX2 50 yX2_shift, Cond.instanceMethod yX2_shift, Cond.selects RX2 yX2_shift yX2_shift, Cond.code yX2_shift cX2_shift 5 none, Cond.methodLink RX2 54 yX2_estimate, Cond.instanceMethod yX2_estimate, Cond.selects RX2 yX2_estimate yX2_estimate, Cond.code yX2_estimate cX2_estimate 3 (some .int), Cond.methodLink RX2 28 yX2_seen, Cond.instanceMethod yX2_seen, Cond.selects RX2 yX2_seen yX2_seen, Cond.code yX2_seen cX2_seen 2 (some .int), Cond.methodLink RX2 57 yX2_loud, Cond.instanceMethod yX2_loud, Cond.selects RX2 yX2_loud yX2_loud, Cond.code yX2_loud cX2_loud 3 (some .int), Cond.methodLink RX2 31 yX2_size, Cond.static yX2_size]
def wsX2_learnt_r3 : List Cond := [Cond.code yX2_size cX2_size 1 (some .int), Cond.methodLink RX2 60 yX2_power, Cond.instanceMethod yX2_power, Cond.selects RX2 yX2_power yX2_power, Cond.code yX2_power cX2_power 3 (some .int), Cond.methodLink RX2 63 yX2_hold, Cond.instanceMethod yX2_hold, Cond.selects RX2 yX2_hold yX2_hold, Cond.code yX2_hold cX2_hold 1 none, Cond.methodLink RX2 66 yX2_tone, Cond.instanceMethod yX2_tone, Cond.selects RX2 yX2_tone yX2_tone, Cond.code yX2_tone cX2_tone 3 (some .int), Cond.methodLink RX2 34 yX2_comesRound, Cond.instanceMethod yX2_comesRound, Cond.selects RX2 yX2_comesRound yX2_comesRound, Cond.code yX2_comesRound cX2_comesRound 4 (some .boolean), Cond.methodLink RX2 69 yX2_learn, Cond.instanceMethod yX2_learn, Cond.selects RX2 yX2_learn yX2_learn, Cond.code yX2_learn cX2_learn 4 none, Cond.methodLink RX2 72 yX2_outNow, Cond.instanceMethod yX2_outNow, Cond.selects RX2 yX2_outNow yX2_outNow]
def wsX2_learnt_r4 : List Cond := [Cond.code yX2_outNow cX2_outNow 1 (some .int), Cond.methodLink RX2 46 yX2_noise, Cond.instanceMethod yX2_noise, Cond.selects RX2 yX2_noise yX2_noise, Cond.code yX2_noise cX2_noise 1 (some .int), Cond.methodLink RX2 93 yX2_load, Cond.instanceMethod yX2_load, Cond.selects RX2 yX2_load yX2_load, Cond.code yX2_load cX2_load 3 none]
def wsX2_learnt : List Cond := .code yX2_learnt cX2_learnt 7 (some .int) :: ((wsX2_learnt_r1 ++ (wsX2_learnt_r2 ++ (wsX2_learnt_r3 ++ wsX2_learnt_r4))) ++ wsX20)
def wsX2_likenessOf : List Cond := .code yX2_likenessOf cX2_likenessOf 4 (some .int) :: ([.fieldLink RX2 7 "EchoTapsModel" "state" "[I"] ++ wsX20)
def wsX2_likeness : List Cond := .code yX2_likeness cX2_likeness 2 (some .int) :: ([.constant RX2 79 (-1000000002), .methodLink RX2 20 yX2_in, .static yX2_in, .initialized RX2, .code yX2_in cX2_in 3 (some .boolean), .methodLink RX2 96 yX2_likenessOf, .instanceMethod yX2_likenessOf, .selects RX2 yX2_likenessOf yX2_likenessOf, .code yX2_likenessOf cX2_likenessOf 4 (some .int), .fieldLink RX2 7 "EchoTapsModel" "state" "[I"] ++ wsX20)
def wsX2_seek : List Cond := .code yX2_seek cX2_seek 3 (some .int) :: ([.fieldLink RX2 7 "EchoTapsModel" "state" "[I", .methodLink RX2 96 yX2_likenessOf, .instanceMethod yX2_likenessOf, .selects RX2 yX2_likenessOf yX2_likenessOf, .initialized RX2, .code yX2_likenessOf cX2_likenessOf 4 (some .int), .methodLink RX2 31 yX2_size, .static yX2_size, .code yX2_size cX2_size 1 (some .int)] ++ wsX20)
def wsX2_squares : List Cond := .code yX2_squares cX2_squares 4 (some .int) :: ([.fieldLink RX2 7 "EchoTapsModel" "state" "[I"] ++ wsX20)
def wsX2_common : List Cond := .code yX2_common cX2_common 5 (some .int) :: ([])
def wsX2_gain : List Cond := .code yX2_gain cX2_gain 4 (some .int) :: ([.methodLink RX2 20 yX2_in, .static yX2_in, .initialized RX2, .code yX2_in cX2_in 3 (some .boolean), .methodLink RX2 99 yX2_squares, .instanceMethod yX2_squares, .selects RX2 yX2_squares yX2_squares, .code yX2_squares cX2_squares 4 (some .int), .fieldLink RX2 7 "EchoTapsModel" "state" "[I", .methodLink RX2 102 yX2_common, .static yX2_common, .code yX2_common cX2_common 5 (some .int)] ++ wsX20)
def wsX2_began : List Cond := .code yX2_began cX2_began 7 (some .int) :: ([.fieldLink RX2 7 "EchoTapsModel" "state" "[I", .methodLink RX2 20 yX2_in, .static yX2_in, .initialized RX2, .code yX2_in cX2_in 3 (some .boolean)] ++ wsX20)
def wsX2_image : List Cond := .code yX2_image cX2_image 2 (some .int) :: ([.fieldLink RX2 16 "EchoTapsModel" "isKept" "[Z", .methodLink RX2 20 yX2_in, .static yX2_in, .initialized RX2, .code yX2_in cX2_in 3 (some .boolean), .methodLink RX2 89 yX2_save, .instanceMethod yX2_save, .selects RX2 yX2_save yX2_save, .code yX2_save cX2_save 3 none, .fieldLink RX2 13 "EchoTapsModel" "images" "[I", .fieldLink RX2 7 "EchoTapsModel" "state" "[I"] ++ wsX20)
def wsX2_restore : List Cond := .code yX2_restore cX2_restore 2 (some .int) :: ([.fieldLink RX2 16 "EchoTapsModel" "isKept" "[Z", .methodLink RX2 20 yX2_in, .static yX2_in, .initialized RX2, .code yX2_in cX2_in 3 (some .boolean), .methodLink RX2 93 yX2_load, .instanceMethod yX2_load, .selects RX2 yX2_load yX2_load, .code yX2_load cX2_load 3 none, .fieldLink RX2 7 "EchoTapsModel" "state" "[I", .fieldLink RX2 13 "EchoTapsModel" "images" "[I"] ++ wsX20)
def wsX2_tapSizes : List Cond := .code yX2_tapSizes cX2_tapSizes 3 (some .int) :: ([.fieldLink RX2 7 "EchoTapsModel" "state" "[I", .methodLink RX2 31 yX2_size, .static yX2_size, .initialized RX2, .code yX2_size cX2_size 1 (some .int)] ++ wsX20)
def wsX2_count : List Cond := .code yX2_count cX2_count 2 (some .int) :: ([.fieldLink RX2 7 "EchoTapsModel" "state" "[I", .fieldLink RX2 16 "EchoTapsModel" "isKept" "[Z", .methodLink RX2 20 yX2_in, .static yX2_in, .initialized RX2, .code yX2_in cX2_in 3 (some .boolean), .methodLink RX2 105 yX2_tapSizes, .instanceMethod yX2_tapSizes, .selects RX2 yX2_tapSizes yX2_tapSizes, .code yX2_tapSizes cX2_tapSizes 3 (some .int), .methodLink RX2 31 yX2_size, .static yX2_size, .code yX2_size cX2_size 1 (some .int)] ++ wsX20)
def wsJ9_abs_0f7a4 : List Cond := .code yJ9_abs_0f7a4 cJ9_abs_0f7a4 1 (some .int) :: ([])
def wsJ9_max_7cf53 : List Cond := .code yJ9_max_7cf53 cJ9_max_7cf53 2 (some .int) :: ([])
def wsJ9_max_f86c9 : List Cond := .code yJ9_max_f86c9 cJ9_max_f86c9 4 (some .long) :: ([])
def wsJ9_min_7cf53 : List Cond := .code yJ9_min_7cf53 cJ9_min_7cf53 2 (some .int) :: ([])
def wsJ9_min_f86c9 : List Cond := .code yJ9_min_f86c9 cJ9_min_f86c9 4 (some .long) :: ([])
def wsL_law_r1 : List Cond := [Cond.classLink RL 7 RX1, Cond.instantiable RX1 4, Cond.initialized RX1, Cond.classLink RL 10 RX2, Cond.instantiable RX2 3, Cond.initialized RX2, Cond.methodLink RL 9 yX1_init, Cond.instanceMethod yX1_init, Cond.code yX1_init cX1_init 1 none, Cond.methodLink RX1 3 objectInit, Cond.instanceMethod objectInit, Cond.code objectInit ⟨#[0xb1]⟩ 1 none, Cond.classLink RX1 9 RX0, Cond.instantiable RX0 11, Cond.initialized RX0, Cond.fieldLink RX1 12 "EchoTaps" "line" "LEchoTaps$Line;", Cond.fieldLink RX1 16 "EchoTaps" "trial" "LEchoTaps$Line;", Cond.fieldLink RX1 19 "EchoTaps" "images" "[LEchoTaps$Line;", Cond.methodLink RX1 11 yX0_init, Cond.instanceMethod yX0_init, Cond.code yX0_init cX0_init 1 none, Cond.methodLink RX0 3 objectInit, Cond.methodLink RX0 13 ⟨"[I", "clone", "()Ljava/lang/Object;"⟩, Cond.sameMethod "[I" "java/lang/Object" "clone" "()Ljava/lang/Object;"]
def wsL_law_r2 : List Cond := [Cond.native ⟨"java/lang/Object", "clone", "()Ljava/lang/Object;"⟩, Cond.instanceMethod ⟨"java/lang/Object", "clone", "()Ljava/lang/Object;"⟩, Cond.selects "[I" ⟨"[I", "clone", "()Ljava/lang/Object;"⟩ ⟨"java/lang/Object", "clone", "()Ljava/lang/Object;"⟩, Cond.classLink RX0 14 "[I", Cond.fieldLink RX0 18 "EchoTaps$Line" "rules" "[I", Cond.arrayClass .int, Cond.fieldLink RX0 23 "EchoTaps$Line" "taps" "[I", Cond.fieldLink RX0 26 "EchoTaps$Line" "way" "[I", Cond.fieldLink RX0 29 "EchoTaps$Line" "fars" "[I", Cond.fieldLink RX0 32 "EchoTaps$Line" "nears" "[I", Cond.fieldLink RX0 35 "EchoTaps$Line" "outs" "[I", Cond.fieldLink RX0 38 "EchoTaps$Line" "marks" "[I", Cond.fieldLink RX0 41 "EchoTaps$Line" "told" "[I", Cond.methodLink RL 12 yX2_init, Cond.instanceMethod yX2_init, Cond.code yX2_init cX2_init 1 none, Cond.methodLink RX2 1 objectInit, Cond.fieldLink RX2 7 "EchoTapsModel" "state" "[I", Cond.fieldLink RX2 13 "EchoTapsModel" "images" "[I", Cond.arrayClass .boolean, Cond.fieldLink RX2 16 "EchoTapsModel" "isKept" "[Z", Cond.methodLink RL 13 yX1_rule, Cond.instanceMethod yX1_rule, Cond.selects RX1 yX1_rule yX1_rule]
def wsL_law_r3 : List Cond := [Cond.code yX1_rule cX1_rule 4 (some .int), Cond.fieldLink RX1 27 "EchoTaps" "RULES_MOST" "[I", Cond.fieldLink RX1 31 "EchoTaps$Line" "rules" "[I", Cond.methodLink RX1 23 yX1_within, Cond.static yX1_within, Cond.code yX1_within cX1_within 3 (some .boolean), Cond.methodLink RL 17 yX2_rule, Cond.instanceMethod yX2_rule, Cond.selects RX2 yX2_rule yX2_rule, Cond.code yX2_rule cX2_rule 4 (some .int), Cond.methodLink RX2 20 yX2_in, Cond.static yX2_in, Cond.code yX2_in cX2_in 3 (some .boolean), Cond.methodLink RX2 24 yX2_most, Cond.static yX2_most, Cond.code yX2_most cX2_most 1 (some .int), Cond.methodLink RL 18 yX1_tick, Cond.instanceMethod yX1_tick, Cond.selects RX1 yX1_tick yX1_tick, Cond.code yX1_tick cX1_tick 3 (some .int), Cond.constant RX1 34 (-1000000002), Cond.methodLink RX1 35 yX0_takeFar, Cond.instanceMethod yX0_takeFar, Cond.selects RX0 yX0_takeFar yX0_takeFar]
def wsL_law_r4 : List Cond := [Cond.code yX0_takeFar cX0_takeFar 2 none, Cond.fieldLink RX0 50 "EchoTaps$Line" "ticks" "I", Cond.methodLink RX1 39 yX0_takeNear, Cond.instanceMethod yX0_takeNear, Cond.selects RX0 yX0_takeNear yX0_takeNear, Cond.code yX0_takeNear cX0_takeNear 10 (some .int), Cond.methodLink RX0 67 Lib.Math.abs.name, Cond.static Lib.Math.abs.name, Cond.initialized "java/lang/Math", Cond.code Lib.Math.abs.name Lib.Math.abs.code 1 (some .int), Cond.fieldLink RX0 54 "EchoTaps$Line" "hold" "I", Cond.methodLink RX0 60 yX0_estimated, Cond.instanceMethod yX0_estimated, Cond.selects RX0 yX0_estimated yX0_estimated, Cond.code yX0_estimated cX0_estimated 3 (some .int), Cond.methodLink RX0 107 yX0_seenBy, Cond.instanceMethod yX0_seenBy, Cond.selects RX0 yX0_seenBy yX0_seenBy, Cond.code yX0_seenBy cX0_seenBy 2 (some .int), Cond.methodLink RX0 104 yX0_farAgo, Cond.instanceMethod yX0_farAgo, Cond.selects RX0 yX0_farAgo yX0_farAgo, Cond.code yX0_farAgo cX0_farAgo 2 (some .int), Cond.methodLink RX0 64 yX0_loudest]
def wsL_law_r5 : List Cond := [Cond.instanceMethod yX0_loudest, Cond.selects RX0 yX0_loudest yX0_loudest, Cond.code yX0_loudest cX0_loudest 3 (some .int), Cond.methodLink RX0 110 Lib.Math.max.name, Cond.static Lib.Math.max.name, Cond.code Lib.Math.max.name Lib.Math.max.code 2 (some .int), Cond.methodLink RX0 73 yX0_holdBy, Cond.instanceMethod yX0_holdBy, Cond.selects RX0 yX0_holdBy yX0_holdBy, Cond.code yX0_holdBy cX0_holdBy 2 none, Cond.methodLink RX0 77 yX0_tonePeriod, Cond.instanceMethod yX0_tonePeriod, Cond.selects RX0 yX0_tonePeriod yX0_tonePeriod, Cond.code yX0_tonePeriod cX0_tonePeriod 2 (some .int), Cond.methodLink RX0 114 yX0_silent, Cond.instanceMethod yX0_silent, Cond.selects RX0 yX0_silent yX0_silent, Cond.code yX0_silent cX0_silent 2 (some .boolean), Cond.methodLink RX0 118 yX0_repeatsBy, Cond.instanceMethod yX0_repeatsBy, Cond.selects RX0 yX0_repeatsBy yX0_repeatsBy, Cond.code yX0_repeatsBy cX0_repeatsBy 3 (some .boolean), Cond.methodLink RX0 80 yX0_powerSeen, Cond.instanceMethod yX0_powerSeen]
def wsL_law_r6 : List Cond := [Cond.selects RX0 yX0_powerSeen yX0_powerSeen, Cond.code yX0_powerSeen cX0_powerSeen 4 (some .int), Cond.methodLink RX0 83 yX0_learn, Cond.instanceMethod yX0_learn, Cond.selects RX0 yX0_learn yX0_learn, Cond.code yX0_learn cX0_learn 8 none, Cond.constantLong RX0 122 (-4096), Cond.constantLong RX0 124 (4095), Cond.methodLink RX0 126 Lib.MathLoose.min_long.x, Cond.static Lib.MathLoose.min_long.x, Cond.code Lib.MathLoose.min_long.x Lib.MathLoose.min_long.code 4 (some .long), Cond.methodLink RX0 130 Lib.MathLoose.max_long.x, Cond.static Lib.MathLoose.max_long.x, Cond.code Lib.MathLoose.max_long.x Lib.MathLoose.max_long.code 4 (some .long), Cond.methodLink RX0 87 yX0_softened, Cond.instanceMethod yX0_softened, Cond.selects RX0 yX0_softened yX0_softened, Cond.code yX0_softened cX0_softened 2 (some .int), Cond.fieldLink RX0 57 "EchoTaps$Line" "seed" "I", Cond.static yX1_limited, Cond.code yX1_limited cX1_limited 3 (some .int), Cond.methodLink RX1 121 Lib.Math.min.name, Cond.static Lib.Math.min.name, Cond.code Lib.Math.min.name Lib.Math.min.code 2 (some .int)]
def wsL_law_r7 : List Cond := [Cond.methodLink RX1 124 Lib.Math.max.name, Cond.static yX1_nextSeed, Cond.code yX1_nextSeed cX1_nextSeed 1 (some .int), Cond.constant RX1 128 (65537), Cond.static yX1_centred, Cond.code yX1_centred cX1_centred 2 (some .int), Cond.methodLink RL 21 yX2_tick, Cond.instanceMethod yX2_tick, Cond.selects RX2 yX2_tick yX2_tick, Cond.code yX2_tick cX2_tick 3 (some .int), Cond.constant RX2 79 (-1000000002), Cond.methodLink RX2 75 yX2_tickOf, Cond.instanceMethod yX2_tickOf, Cond.selects RX2 yX2_tickOf yX2_tickOf, Cond.code yX2_tickOf cX2_tickOf 4 (some .int), Cond.methodLink RX2 50 yX2_shift, Cond.instanceMethod yX2_shift, Cond.selects RX2 yX2_shift yX2_shift, Cond.code yX2_shift cX2_shift 5 none, Cond.methodLink RX2 54 yX2_estimate, Cond.instanceMethod yX2_estimate, Cond.selects RX2 yX2_estimate yX2_estimate, Cond.code yX2_estimate cX2_estimate 3 (some .int), Cond.methodLink RX2 28 yX2_seen]
def wsL_law_r8 : List Cond := [Cond.instanceMethod yX2_seen, Cond.selects RX2 yX2_seen yX2_seen, Cond.code yX2_seen cX2_seen 2 (some .int), Cond.methodLink RX2 57 yX2_loud, Cond.instanceMethod yX2_loud, Cond.selects RX2 yX2_loud yX2_loud, Cond.code yX2_loud cX2_loud 3 (some .int), Cond.methodLink RX2 31 yX2_size, Cond.static yX2_size, Cond.code yX2_size cX2_size 1 (some .int), Cond.methodLink RX2 60 yX2_power, Cond.instanceMethod yX2_power, Cond.selects RX2 yX2_power yX2_power, Cond.code yX2_power cX2_power 3 (some .int), Cond.methodLink RX2 63 yX2_hold, Cond.instanceMethod yX2_hold, Cond.selects RX2 yX2_hold yX2_hold, Cond.code yX2_hold cX2_hold 1 none, Cond.methodLink RX2 66 yX2_tone, Cond.instanceMethod yX2_tone, Cond.selects RX2 yX2_tone yX2_tone, Cond.code yX2_tone cX2_tone 3 (some .int), Cond.methodLink RX2 34 yX2_comesRound, Cond.instanceMethod yX2_comesRound]
def wsL_law_r9 : List Cond := [Cond.selects RX2 yX2_comesRound yX2_comesRound, Cond.code yX2_comesRound cX2_comesRound 4 (some .boolean), Cond.methodLink RX2 69 yX2_learn, Cond.instanceMethod yX2_learn, Cond.selects RX2 yX2_learn yX2_learn, Cond.code yX2_learn cX2_learn 4 none, Cond.methodLink RX2 38 yX2_within, Cond.static yX2_within, Cond.code yX2_within cX2_within 3 (some .int), Cond.methodLink RX2 72 yX2_outNow, Cond.instanceMethod yX2_outNow, Cond.selects RX2 yX2_outNow yX2_outNow, Cond.code yX2_outNow cX2_outNow 1 (some .int), Cond.methodLink RX2 46 yX2_noise, Cond.instanceMethod yX2_noise, Cond.selects RX2 yX2_noise yX2_noise, Cond.code yX2_noise cX2_noise 1 (some .int), Cond.methodLink RX2 43 yX2_next, Cond.static yX2_next, Cond.code yX2_next cX2_next 1 (some .int), Cond.constant RX2 42 (65537), Cond.methodLink RL 22 yX1_tap, Cond.instanceMethod yX1_tap, Cond.selects RX1 yX1_tap yX1_tap]
def wsL_law_r10 : List Cond := [Cond.code yX1_tap cX1_tap 2 (some .int), Cond.fieldLink RX1 43 "EchoTaps$Line" "taps" "[I", Cond.methodLink RL 26 yX2_tap, Cond.instanceMethod yX2_tap, Cond.selects RX2 yX2_tap yX2_tap, Cond.code yX2_tap cX2_tap 2 (some .int), Cond.methodLink RL 27 yX1_last, Cond.instanceMethod yX1_last, Cond.selects RX1 yX1_last yX1_last, Cond.code yX1_last cX1_last 2 (some .int), Cond.fieldLink RX1 46 "EchoTaps$Line" "ticks" "I", Cond.constant RX1 50 (-1000000003), Cond.fieldLink RX1 51 "EchoTaps$Line" "told" "[I", Cond.methodLink RL 30 yX2_last, Cond.instanceMethod yX2_last, Cond.selects RX2 yX2_last yX2_last, Cond.code yX2_last cX2_last 2 (some .int), Cond.constant RX2 80 (-1000000003), Cond.methodLink RL 31 yX1_ago, Cond.instanceMethod yX1_ago, Cond.selects RX1 yX1_ago yX1_ago, Cond.code yX1_ago cX1_ago 3 (some .int), Cond.constant RX1 54 (-1000000006), Cond.methodLink RX1 55 yX0_farAgo]
def wsL_law_r11 : List Cond := [Cond.methodLink RX1 58 yX0_nearAgo, Cond.instanceMethod yX0_nearAgo, Cond.selects RX0 yX0_nearAgo yX0_nearAgo, Cond.code yX0_nearAgo cX0_nearAgo 2 (some .int), Cond.methodLink RX1 61 yX0_outAgo, Cond.instanceMethod yX0_outAgo, Cond.selects RX0 yX0_outAgo yX0_outAgo, Cond.code yX0_outAgo cX0_outAgo 2 (some .int), Cond.methodLink RL 34 yX2_ago, Cond.instanceMethod yX2_ago, Cond.selects RX2 yX2_ago yX2_ago, Cond.code yX2_ago cX2_ago 3 (some .int), Cond.constant RX2 81 (-1000000006), Cond.methodLink RL 35 yX1_part, Cond.instanceMethod yX1_part, Cond.selects RX1 yX1_part yX1_part, Cond.code yX1_part cX1_part 5 (some .int), Cond.fieldLink RX1 64 "EchoTaps$Line" "way" "[I", Cond.methodLink RL 38 yX2_part, Cond.instanceMethod yX2_part, Cond.selects RX2 yX2_part yX2_part, Cond.code yX2_part cX2_part 4 (some .int), Cond.methodLink RL 39 yX1_speak, Cond.instanceMethod yX1_speak]
def wsL_law_r12 : List Cond := [Cond.selects RX1 yX1_speak yX1_speak, Cond.code yX1_speak cX1_speak 3 (some .int), Cond.methodLink RX1 67 yX0_hearSpeech, Cond.instanceMethod yX0_hearSpeech, Cond.selects RX0 yX0_hearSpeech yX0_hearSpeech, Cond.code yX0_hearSpeech cX0_hearSpeech 3 (some .int), Cond.methodLink RX0 90 yX0_takeFar, Cond.methodLink RX0 94 yX0_echo, Cond.instanceMethod yX0_echo, Cond.selects RX0 yX0_echo yX0_echo, Cond.code yX0_echo cX0_echo 3 (some .int), Cond.methodLink RX0 101 yX0_takeNear, Cond.methodLink RL 42 yX2_speak, Cond.instanceMethod yX2_speak, Cond.selects RX2 yX2_speak yX2_speak, Cond.code yX2_speak cX2_speak 3 (some .int), Cond.methodLink RX2 85 yX2_speakOf, Cond.instanceMethod yX2_speakOf, Cond.selects RX2 yX2_speakOf yX2_speakOf, Cond.code yX2_speakOf cX2_speakOf 3 (some .int), Cond.methodLink RX2 82 yX2_echo, Cond.instanceMethod yX2_echo, Cond.selects RX2 yX2_echo yX2_echo, Cond.code yX2_echo cX2_echo 5 (some .int)]
def wsL_law_r13 : List Cond := [Cond.methodLink RL 43 yX1_run, Cond.instanceMethod yX1_run, Cond.selects RX1 yX1_run yX1_run, Cond.code yX1_run cX1_run 7 (some .int), Cond.methodLink RX1 81 Lib.Math.abs.name, Cond.methodLink RX1 71 yX1_startsRun, Cond.static yX1_startsRun, Cond.code yX1_startsRun cX1_startsRun 2 (some .boolean), Cond.constant RX1 127 (65536), Cond.methodLink RX1 75 yX1_nextSeed, Cond.methodLink RX1 78 yX1_centred, Cond.methodLink RL 47 yX2_run, Cond.instanceMethod yX2_run, Cond.selects RX2 yX2_run yX2_run, Cond.code yX2_run cX2_run 7 (some .int), Cond.constant RX2 88 (65536), Cond.methodLink RL 48 yX1_learnt, Cond.instanceMethod yX1_learnt, Cond.selects RX1 yX1_learnt yX1_learnt, Cond.code yX1_learnt cX1_learnt 7 (some .int), Cond.methodLink RX1 86 yX0_copyFrom, Cond.instanceMethod yX0_copyFrom, Cond.selects RX0 yX0_copyFrom yX0_copyFrom, Cond.code yX0_copyFrom cX0_copyFrom 2 none]
def wsL_law_r14 : List Cond := [Cond.methodLink RX0 44 arraycopyName, Cond.native arraycopyName, Cond.static arraycopyName, Cond.initialized "java/lang/System", Cond.methodLink RL 51 yX2_learnt, Cond.instanceMethod yX2_learnt, Cond.selects RX2 yX2_learnt yX2_learnt, Cond.code yX2_learnt cX2_learnt 7 (some .int), Cond.methodLink RX2 89 yX2_save, Cond.instanceMethod yX2_save, Cond.selects RX2 yX2_save yX2_save, Cond.code yX2_save cX2_save 3 none, Cond.methodLink RX2 93 yX2_load, Cond.instanceMethod yX2_load, Cond.selects RX2 yX2_load yX2_load, Cond.code yX2_load cX2_load 3 none, Cond.methodLink RL 52 yX1_likeness, Cond.instanceMethod yX1_likeness, Cond.selects RX1 yX1_likeness yX1_likeness, Cond.code yX1_likeness cX1_likeness 2 (some .int), Cond.methodLink RX1 90 yX0_likenessOf, Cond.instanceMethod yX0_likenessOf, Cond.selects RX0 yX0_likenessOf yX0_likenessOf, Cond.code yX0_likenessOf cX0_likenessOf 4 (some .int)]
def wsL_law_r15 : List Cond := [Cond.methodLink RX0 138 yX0_nearAgo, Cond.methodLink RL 55 yX2_likeness, Cond.instanceMethod yX2_likeness, Cond.selects RX2 yX2_likeness yX2_likeness, Cond.code yX2_likeness cX2_likeness 2 (some .int), Cond.methodLink RX2 96 yX2_likenessOf, Cond.instanceMethod yX2_likenessOf, Cond.selects RX2 yX2_likenessOf yX2_likenessOf, Cond.code yX2_likenessOf cX2_likenessOf 4 (some .int), Cond.methodLink RL 56 yX1_seek, Cond.instanceMethod yX1_seek, Cond.selects RX1 yX1_seek yX1_seek, Cond.code yX1_seek cX1_seek 5 (some .int), Cond.methodLink RX1 93 yX0_startAnew, Cond.instanceMethod yX0_startAnew, Cond.selects RX0 yX0_startAnew yX0_startAnew, Cond.code yX0_startAnew cX0_startAnew 3 none, Cond.methodLink RL 60 yX2_seek, Cond.instanceMethod yX2_seek, Cond.selects RX2 yX2_seek yX2_seek, Cond.code yX2_seek cX2_seek 3 (some .int), Cond.methodLink RL 61 yX1_gain, Cond.instanceMethod yX1_gain, Cond.selects RX1 yX1_gain yX1_gain]
def wsL_law_r16 : List Cond := [Cond.code yX1_gain cX1_gain 5 (some .int), Cond.methodLink RX1 96 yX0_nearSquares, Cond.instanceMethod yX0_nearSquares, Cond.selects RX0 yX0_nearSquares yX0_nearSquares, Cond.code yX0_nearSquares cX0_nearSquares 3 (some .int), Cond.methodLink RX1 100 yX0_outSquares, Cond.instanceMethod yX0_outSquares, Cond.selects RX0 yX0_outSquares yX0_outSquares, Cond.code yX0_outSquares cX0_outSquares 3 (some .int), Cond.methodLink RX0 141 yX0_outAgo, Cond.methodLink RX1 103 yX1_greatestDivisor, Cond.static yX1_greatestDivisor, Cond.code yX1_greatestDivisor cX1_greatestDivisor 6 (some .int), Cond.methodLink RL 64 yX2_gain, Cond.instanceMethod yX2_gain, Cond.selects RX2 yX2_gain yX2_gain, Cond.code yX2_gain cX2_gain 4 (some .int), Cond.methodLink RX2 99 yX2_squares, Cond.instanceMethod yX2_squares, Cond.selects RX2 yX2_squares yX2_squares, Cond.code yX2_squares cX2_squares 4 (some .int), Cond.methodLink RX2 102 yX2_common, Cond.static yX2_common, Cond.code yX2_common cX2_common 5 (some .int)]
def wsL_law_r17 : List Cond := [Cond.methodLink RL 65 yX1_began, Cond.instanceMethod yX1_began, Cond.selects RX1 yX1_began yX1_began, Cond.code yX1_began cX1_began 3 (some .int), Cond.methodLink RX1 106 yX0_beginning, Cond.instanceMethod yX0_beginning, Cond.selects RX0 yX0_beginning yX0_beginning, Cond.code yX0_beginning cX0_beginning 5 (some .int), Cond.methodLink RX0 144 yX0_beginsAt, Cond.instanceMethod yX0_beginsAt, Cond.selects RX0 yX0_beginsAt yX0_beginsAt, Cond.code yX0_beginsAt cX0_beginsAt 3 (some .boolean), Cond.methodLink RL 68 yX2_began, Cond.instanceMethod yX2_began, Cond.selects RX2 yX2_began yX2_began, Cond.code yX2_began cX2_began 7 (some .int), Cond.methodLink RL 69 yX1_image, Cond.instanceMethod yX1_image, Cond.selects RX1 yX1_image yX1_image, Cond.code yX1_image cX1_image 2 (some .int), Cond.fieldLink RX1 109 "EchoTaps" "kept" "I", Cond.methodLink RL 72 yX2_image, Cond.instanceMethod yX2_image, Cond.selects RX2 yX2_image yX2_image]
def wsL_law_r18 : List Cond := [Cond.code yX2_image cX2_image 2 (some .int), Cond.methodLink RL 73 yX1_restore, Cond.instanceMethod yX1_restore, Cond.selects RX1 yX1_restore yX1_restore, Cond.code yX1_restore cX1_restore 2 (some .int), Cond.methodLink RL 76 yX2_restore, Cond.instanceMethod yX2_restore, Cond.selects RX2 yX2_restore yX2_restore, Cond.code yX2_restore cX2_restore 2 (some .int), Cond.methodLink RL 77 yX1_count, Cond.instanceMethod yX1_count, Cond.selects RX1 yX1_count yX1_count, Cond.code yX1_count cX1_count 2 (some .int), Cond.fieldLink RX1 112 "EchoTaps$Line" "hold" "I", Cond.fieldLink RX1 115 "EchoTaps$Line" "seed" "I", Cond.methodLink RX1 118 yX0_tapSizes, Cond.instanceMethod yX0_tapSizes, Cond.selects RX0 yX0_tapSizes yX0_tapSizes, Cond.code yX0_tapSizes cX0_tapSizes 3 (some .int), Cond.methodLink RL 80 yX2_count, Cond.instanceMethod yX2_count, Cond.selects RX2 yX2_count yX2_count, Cond.code yX2_count cX2_count 2 (some .int), Cond.methodLink RX2 105 yX2_tapSizes]
def wsL_law_r19 : List Cond := [Cond.instanceMethod yX2_tapSizes, Cond.selects RX2 yX2_tapSizes yX2_tapSizes, Cond.code yX2_tapSizes cX2_tapSizes 3 (some .int)]
def wsL_law : List Cond := (wsL_law_r1 ++ (wsL_law_r2 ++ (wsL_law_r3 ++ (wsL_law_r4 ++ (wsL_law_r5 ++ (wsL_law_r6 ++ (wsL_law_r7 ++ (wsL_law_r8 ++ (wsL_law_r9 ++ (wsL_law_r10 ++ (wsL_law_r11 ++ (wsL_law_r12 ++ (wsL_law_r13 ++ (wsL_law_r14 ++ (wsL_law_r15 ++ (wsL_law_r16 ++ (wsL_law_r17 ++ (wsL_law_r18 ++ wsL_law_r19)))))))))))))))))) ++ wsX10 ++ wsX20 ++ wsX00 ++ ([] : List Cond)
set_option maxRecDepth 20000 in
theorem wsL_law_r1_in : ∀ w ∈ wsL_law_r1, w ∈ lw_tbl := fun w h => (goodIn_p wsL_law_r1 [29, 32, 37] (by decide +kernel) (by decide +kernel) w h).1
set_option maxRecDepth 20000 in
theorem wsL_law_r2_in : ∀ w ∈ wsL_law_r2, w ∈ lw_tbl := fun w h => (goodIn_p wsL_law_r2 [326] (by decide +kernel) (by decide +kernel) w h).1
set_option maxRecDepth 20000 in
theorem wsL_law_r3_in : ∀ w ∈ wsL_law_r3, w ∈ lw_tbl := fun w h => (goodIn_p wsL_law_r3 [107, 110, 342, 345, 348, 116] (by decide +kernel) (by decide +kernel) w h).1
set_option maxRecDepth 20000 in
theorem wsL_law_r4_in : ∀ w ∈ wsL_law_r4, w ∈ lw_tbl := fun w h => (goodIn_p wsL_law_r4 [121, 125, 144, 129, 133, 137] (by decide +kernel) (by decide +kernel) w h).1
set_option maxRecDepth 20000 in
theorem wsL_law_r5_in : ∀ w ∈ wsL_law_r5, w ∈ lw_tbl := fun w h => (goodIn_p wsL_law_r5 [141, 147, 151, 155, 159, 163] (by decide +kernel) (by decide +kernel) w h).1
set_option maxRecDepth 20000 in
theorem wsL_law_r6_in : ∀ w ∈ wsL_law_r6, w ∈ lw_tbl := fun w h => (goodIn_p wsL_law_r6 [167, 171, 176, 179, 183, 186, 189] (by decide +kernel) (by decide +kernel) w h).1
set_option maxRecDepth 20000 in
theorem wsL_law_r7_in : ∀ w ∈ wsL_law_r7, w ∈ lw_tbl := fun w h => (goodIn_p wsL_law_r7 [193, 197, 352, 356, 360, 364] (by decide +kernel) (by decide +kernel) w h).1
set_option maxRecDepth 20000 in
theorem wsL_law_r8_in : ∀ w ∈ wsL_law_r8, w ∈ lw_tbl := fun w h => (goodIn_p wsL_law_r8 [368, 372, 375, 379, 383, 387] (by decide +kernel) (by decide +kernel) w h).1
set_option maxRecDepth 20000 in
theorem wsL_law_r9_in : ∀ w ∈ wsL_law_r9, w ∈ lw_tbl := fun w h => (goodIn_p wsL_law_r9 [391, 395, 398, 402, 406, 409] (by decide +kernel) (by decide +kernel) w h).1
set_option maxRecDepth 20000 in
theorem wsL_law_r10_in : ∀ w ∈ wsL_law_r10, w ∈ lw_tbl := fun w h => (goodIn_p wsL_law_r10 [201, 415, 205, 419, 210] (by decide +kernel) (by decide +kernel) w h).1
set_option maxRecDepth 20000 in
theorem wsL_law_r11_in : ∀ w ∈ wsL_law_r11, w ∈ lw_tbl := fun w h => (goodIn_p wsL_law_r11 [216, 220, 424, 224, 429] (by decide +kernel) (by decide +kernel) w h).1
set_option maxRecDepth 20000 in
theorem wsL_law_r12_in : ∀ w ∈ wsL_law_r12, w ∈ lw_tbl := fun w h => (goodIn_p wsL_law_r12 [228, 232, 237, 433, 437, 441] (by decide +kernel) (by decide +kernel) w h).1
set_option maxRecDepth 20000 in
theorem wsL_law_r13_in : ∀ w ∈ wsL_law_r13, w ∈ lw_tbl := fun w h => (goodIn_p wsL_law_r13 [242, 245, 445, 253, 257] (by decide +kernel) (by decide +kernel) w h).1
set_option maxRecDepth 20000 in
theorem wsL_law_r14_in : ∀ w ∈ wsL_law_r14, w ∈ lw_tbl := fun w h => (goodIn_p wsL_law_r14 [450, 454, 458, 264, 268] (by decide +kernel) (by decide +kernel) w h).1
set_option maxRecDepth 20000 in
theorem wsL_law_r15_in : ∀ w ∈ wsL_law_r15, w ∈ lw_tbl := fun w h => (goodIn_p wsL_law_r15 [462, 466, 273, 277, 470] (by decide +kernel) (by decide +kernel) w h).1
set_option maxRecDepth 20000 in
theorem wsL_law_r16_in : ∀ w ∈ wsL_law_r16, w ∈ lw_tbl := fun w h => (goodIn_p wsL_law_r16 [281, 285, 289, 293, 474, 478, 481] (by decide +kernel) (by decide +kernel) w h).1
set_option maxRecDepth 20000 in
theorem wsL_law_r17_in : ∀ w ∈ wsL_law_r17, w ∈ lw_tbl := fun w h => (goodIn_p wsL_law_r17 [297, 301, 305, 485, 309] (by decide +kernel) (by decide +kernel) w h).1
set_option maxRecDepth 20000 in
theorem wsL_law_r18_in : ∀ w ∈ wsL_law_r18, w ∈ lw_tbl := fun w h => (goodIn_p wsL_law_r18 [489, 313, 493, 317, 321, 497] (by decide +kernel) (by decide +kernel) w h).1
set_option maxRecDepth 20000 in
theorem wsL_law_r19_in : ∀ w ∈ wsL_law_r19, w ∈ lw_tbl := fun w h => (goodIn_p wsL_law_r19 [501] (by decide +kernel) (by decide +kernel) w h).1
set_option maxRecDepth 20000 in
theorem wsX10_in : ∀ w ∈ wsX10, w ∈ lw_tbl := by decide +kernel
set_option maxRecDepth 20000 in
theorem wsX20_in : ∀ w ∈ wsX20, w ∈ lw_tbl := by decide +kernel
set_option maxRecDepth 20000 in
theorem wsX00_in : ∀ w ∈ wsX00, w ∈ lw_tbl := by decide +kernel
theorem wsL_law_in : ∀ w ∈ wsL_law, w ∈ lw_tbl := by
  unfold wsL_law
  exact List.forall_mem_append.mpr ⟨List.forall_mem_append.mpr ⟨List.forall_mem_append.mpr ⟨List.forall_mem_append.mpr ⟨List.forall_mem_append.mpr ⟨wsL_law_r1_in, List.forall_mem_append.mpr ⟨wsL_law_r2_in, List.forall_mem_append.mpr ⟨wsL_law_r3_in, List.forall_mem_append.mpr ⟨wsL_law_r4_in, List.forall_mem_append.mpr ⟨wsL_law_r5_in, List.forall_mem_append.mpr ⟨wsL_law_r6_in, List.forall_mem_append.mpr ⟨wsL_law_r7_in, List.forall_mem_append.mpr ⟨wsL_law_r8_in, List.forall_mem_append.mpr ⟨wsL_law_r9_in, List.forall_mem_append.mpr ⟨wsL_law_r10_in, List.forall_mem_append.mpr ⟨wsL_law_r11_in, List.forall_mem_append.mpr ⟨wsL_law_r12_in, List.forall_mem_append.mpr ⟨wsL_law_r13_in, List.forall_mem_append.mpr ⟨wsL_law_r14_in, List.forall_mem_append.mpr ⟨wsL_law_r15_in, List.forall_mem_append.mpr ⟨wsL_law_r16_in, List.forall_mem_append.mpr ⟨wsL_law_r17_in, List.forall_mem_append.mpr ⟨wsL_law_r18_in, wsL_law_r19_in⟩⟩⟩⟩⟩⟩⟩⟩⟩⟩⟩⟩⟩⟩⟩⟩⟩⟩, wsX10_in⟩, wsX20_in⟩, wsX00_in⟩, fun _ h => absurd h List.not_mem_nil⟩
theorem inlX0 : ∀ w ∈ wsX00, w ∈ wsL_law := fun _ h => List.mem_append_left _ (List.mem_append_right _ h)
theorem inX0 : ∀ w ∈ wsX00, w ∈ lw_tbl := fun w h => wsL_law_in w (inlX0 w h)
theorem inlX1 : ∀ w ∈ wsX10, w ∈ wsL_law := fun _ h => List.mem_append_left _ (List.mem_append_left _ (List.mem_append_left _ (List.mem_append_right _ h)))
theorem inX1 : ∀ w ∈ wsX10, w ∈ lw_tbl := fun w h => wsL_law_in w (inlX1 w h)
theorem inlX2 : ∀ w ∈ wsX20, w ∈ wsL_law := fun _ h => List.mem_append_left _ (List.mem_append_left _ (List.mem_append_right _ h))
theorem inX2 : ∀ w ∈ wsX20, w ∈ lw_tbl := fun w h => wsL_law_in w (inlX2 w h)
theorem inJx8e188 : ∀ w ∈ wsJx8e1880, w ∈ lw_tbl := by decide +kernel
theorem inJ9 : ∀ w ∈ wsJ90, w ∈ lw_tbl := by decide +kernel
theorem inJ10 : ∀ w ∈ wsJ100, w ∈ lw_tbl := by decide +kernel
abbrev vwCl : List vw_C := [(RX0, TX0, 11), (RX1, TX1, 4), (RX2, TX2, 3)]
end
section
theorem dX0_init_0 : decode cX0_init 0 = .ok (.aload_n 0, 1) := by decide +kernel
theorem dX0_init_1 : decode cX0_init 1 = .ok (.invokespecial 3, 3) := by decide +kernel
theorem dX0_init_4 : decode cX0_init 4 = .ok (.aload_n 0, 1) := by decide +kernel
theorem dX0_init_5 : decode cX0_init 5 = .ok (.getstatic 9, 3) := by decide +kernel
theorem dX0_init_8 : decode cX0_init 8 = .ok (.invokevirtual 13, 3) := by decide +kernel
theorem dX0_init_11 : decode cX0_init 11 = .ok (.checkcast 14, 3) := by decide +kernel
theorem dX0_init_14 : decode cX0_init 14 = .ok (.putfield 18, 3) := by decide +kernel
theorem dX0_init_17 : decode cX0_init 17 = .ok (.aload_n 0, 1) := by decide +kernel
theorem dX0_init_18 : decode cX0_init 18 = .ok (.bipush 8, 2) := by decide +kernel
theorem dX0_init_20 : decode cX0_init 20 = .ok (.newarray .int, 2) := by decide +kernel
theorem dX0_init_22 : decode cX0_init 22 = .ok (.putfield 23, 3) := by decide +kernel
theorem dX0_init_25 : decode cX0_init 25 = .ok (.aload_n 0, 1) := by decide +kernel
theorem dX0_init_26 : decode cX0_init 26 = .ok (.bipush 9, 2) := by decide +kernel
theorem dX0_init_28 : decode cX0_init 28 = .ok (.newarray .int, 2) := by decide +kernel
theorem dX0_init_30 : decode cX0_init 30 = .ok (.putfield 26, 3) := by decide +kernel
theorem dX0_init_33 : decode cX0_init 33 = .ok (.aload_n 0, 1) := by decide +kernel
theorem dX0_init_34 : decode cX0_init 34 = .ok (.bipush 64, 2) := by decide +kernel
theorem dX0_init_36 : decode cX0_init 36 = .ok (.newarray .int, 2) := by decide +kernel
theorem dX0_init_38 : decode cX0_init 38 = .ok (.putfield 29, 3) := by decide +kernel
theorem dX0_init_41 : decode cX0_init 41 = .ok (.aload_n 0, 1) := by decide +kernel
theorem dX0_init_42 : decode cX0_init 42 = .ok (.bipush 64, 2) := by decide +kernel
theorem dX0_init_44 : decode cX0_init 44 = .ok (.newarray .int, 2) := by decide +kernel
theorem dX0_init_46 : decode cX0_init 46 = .ok (.putfield 32, 3) := by decide +kernel
theorem dX0_init_49 : decode cX0_init 49 = .ok (.aload_n 0, 1) := by decide +kernel
theorem dX0_init_50 : decode cX0_init 50 = .ok (.bipush 64, 2) := by decide +kernel
theorem dX0_init_52 : decode cX0_init 52 = .ok (.newarray .int, 2) := by decide +kernel
theorem dX0_init_54 : decode cX0_init 54 = .ok (.putfield 35, 3) := by decide +kernel
theorem dX0_init_57 : decode cX0_init 57 = .ok (.aload_n 0, 1) := by decide +kernel
theorem dX0_init_58 : decode cX0_init 58 = .ok (.sipush 256, 3) := by decide +kernel
theorem dX0_init_61 : decode cX0_init 61 = .ok (.newarray .int, 2) := by decide +kernel
theorem dX0_init_63 : decode cX0_init 63 = .ok (.putfield 38, 3) := by decide +kernel
theorem dX0_init_66 : decode cX0_init 66 = .ok (.aload_n 0, 1) := by decide +kernel
theorem dX0_init_67 : decode cX0_init 67 = .ok (.bipush 8, 2) := by decide +kernel
theorem dX0_init_69 : decode cX0_init 69 = .ok (.newarray .int, 2) := by decide +kernel
theorem dX0_init_71 : decode cX0_init 71 = .ok (.putfield 41, 3) := by decide +kernel
theorem dX0_init_74 : decode cX0_init 74 = .ok (.return_, 1) := by decide +kernel
theorem dX0_copyFrom_0 : decode cX0_copyFrom 0 = .ok (.aload_n 1, 1) := by decide +kernel
theorem dX0_copyFrom_1 : decode cX0_copyFrom 1 = .ok (.getfield 18, 3) := by decide +kernel
theorem dX0_copyFrom_4 : decode cX0_copyFrom 4 = .ok (.iconst 0, 1) := by decide +kernel
theorem dX0_copyFrom_5 : decode cX0_copyFrom 5 = .ok (.aload_n 0, 1) := by decide +kernel
theorem dX0_copyFrom_6 : decode cX0_copyFrom 6 = .ok (.getfield 18, 3) := by decide +kernel
theorem dX0_copyFrom_9 : decode cX0_copyFrom 9 = .ok (.iconst 0, 1) := by decide +kernel
theorem dX0_copyFrom_10 : decode cX0_copyFrom 10 = .ok (.aload_n 0, 1) := by decide +kernel
theorem dX0_copyFrom_11 : decode cX0_copyFrom 11 = .ok (.getfield 18, 3) := by decide +kernel
theorem dX0_copyFrom_14 : decode cX0_copyFrom 14 = .ok (.arraylength, 1) := by decide +kernel
theorem dX0_copyFrom_15 : decode cX0_copyFrom 15 = .ok (.invokestatic 44, 3) := by decide +kernel
theorem dX0_copyFrom_18 : decode cX0_copyFrom 18 = .ok (.aload_n 1, 1) := by decide +kernel
theorem dX0_copyFrom_19 : decode cX0_copyFrom 19 = .ok (.getfield 23, 3) := by decide +kernel
theorem dX0_copyFrom_22 : decode cX0_copyFrom 22 = .ok (.iconst 0, 1) := by decide +kernel
theorem dX0_copyFrom_23 : decode cX0_copyFrom 23 = .ok (.aload_n 0, 1) := by decide +kernel
theorem dX0_copyFrom_24 : decode cX0_copyFrom 24 = .ok (.getfield 23, 3) := by decide +kernel
theorem dX0_copyFrom_27 : decode cX0_copyFrom 27 = .ok (.iconst 0, 1) := by decide +kernel
theorem dX0_copyFrom_28 : decode cX0_copyFrom 28 = .ok (.aload_n 0, 1) := by decide +kernel
theorem dX0_copyFrom_29 : decode cX0_copyFrom 29 = .ok (.getfield 23, 3) := by decide +kernel
theorem dX0_copyFrom_32 : decode cX0_copyFrom 32 = .ok (.arraylength, 1) := by decide +kernel
theorem dX0_copyFrom_33 : decode cX0_copyFrom 33 = .ok (.invokestatic 44, 3) := by decide +kernel
theorem dX0_copyFrom_36 : decode cX0_copyFrom 36 = .ok (.aload_n 1, 1) := by decide +kernel
theorem dX0_copyFrom_37 : decode cX0_copyFrom 37 = .ok (.getfield 26, 3) := by decide +kernel
theorem dX0_copyFrom_40 : decode cX0_copyFrom 40 = .ok (.iconst 0, 1) := by decide +kernel
theorem dX0_copyFrom_41 : decode cX0_copyFrom 41 = .ok (.aload_n 0, 1) := by decide +kernel
theorem dX0_copyFrom_42 : decode cX0_copyFrom 42 = .ok (.getfield 26, 3) := by decide +kernel
theorem dX0_copyFrom_45 : decode cX0_copyFrom 45 = .ok (.iconst 0, 1) := by decide +kernel
theorem dX0_copyFrom_46 : decode cX0_copyFrom 46 = .ok (.aload_n 0, 1) := by decide +kernel
theorem dX0_copyFrom_47 : decode cX0_copyFrom 47 = .ok (.getfield 26, 3) := by decide +kernel
theorem dX0_copyFrom_50 : decode cX0_copyFrom 50 = .ok (.arraylength, 1) := by decide +kernel
theorem dX0_copyFrom_51 : decode cX0_copyFrom 51 = .ok (.invokestatic 44, 3) := by decide +kernel
theorem dX0_copyFrom_54 : decode cX0_copyFrom 54 = .ok (.aload_n 1, 1) := by decide +kernel
theorem dX0_copyFrom_55 : decode cX0_copyFrom 55 = .ok (.getfield 29, 3) := by decide +kernel
theorem dX0_copyFrom_58 : decode cX0_copyFrom 58 = .ok (.iconst 0, 1) := by decide +kernel
theorem dX0_copyFrom_59 : decode cX0_copyFrom 59 = .ok (.aload_n 0, 1) := by decide +kernel
theorem dX0_copyFrom_60 : decode cX0_copyFrom 60 = .ok (.getfield 29, 3) := by decide +kernel
theorem dX0_copyFrom_63 : decode cX0_copyFrom 63 = .ok (.iconst 0, 1) := by decide +kernel
theorem dX0_copyFrom_64 : decode cX0_copyFrom 64 = .ok (.aload_n 0, 1) := by decide +kernel
theorem dX0_copyFrom_65 : decode cX0_copyFrom 65 = .ok (.getfield 29, 3) := by decide +kernel
theorem dX0_copyFrom_68 : decode cX0_copyFrom 68 = .ok (.arraylength, 1) := by decide +kernel
theorem dX0_copyFrom_69 : decode cX0_copyFrom 69 = .ok (.invokestatic 44, 3) := by decide +kernel
theorem dX0_copyFrom_72 : decode cX0_copyFrom 72 = .ok (.aload_n 1, 1) := by decide +kernel
theorem dX0_copyFrom_73 : decode cX0_copyFrom 73 = .ok (.getfield 32, 3) := by decide +kernel
theorem dX0_copyFrom_76 : decode cX0_copyFrom 76 = .ok (.iconst 0, 1) := by decide +kernel
theorem dX0_copyFrom_77 : decode cX0_copyFrom 77 = .ok (.aload_n 0, 1) := by decide +kernel
theorem dX0_copyFrom_78 : decode cX0_copyFrom 78 = .ok (.getfield 32, 3) := by decide +kernel
theorem dX0_copyFrom_81 : decode cX0_copyFrom 81 = .ok (.iconst 0, 1) := by decide +kernel
theorem dX0_copyFrom_82 : decode cX0_copyFrom 82 = .ok (.aload_n 0, 1) := by decide +kernel
theorem dX0_copyFrom_83 : decode cX0_copyFrom 83 = .ok (.getfield 32, 3) := by decide +kernel
theorem dX0_copyFrom_86 : decode cX0_copyFrom 86 = .ok (.arraylength, 1) := by decide +kernel
theorem dX0_copyFrom_87 : decode cX0_copyFrom 87 = .ok (.invokestatic 44, 3) := by decide +kernel
theorem dX0_copyFrom_90 : decode cX0_copyFrom 90 = .ok (.aload_n 1, 1) := by decide +kernel
theorem dX0_copyFrom_91 : decode cX0_copyFrom 91 = .ok (.getfield 35, 3) := by decide +kernel
theorem dX0_copyFrom_94 : decode cX0_copyFrom 94 = .ok (.iconst 0, 1) := by decide +kernel
theorem dX0_copyFrom_95 : decode cX0_copyFrom 95 = .ok (.aload_n 0, 1) := by decide +kernel
theorem dX0_copyFrom_96 : decode cX0_copyFrom 96 = .ok (.getfield 35, 3) := by decide +kernel
theorem dX0_copyFrom_99 : decode cX0_copyFrom 99 = .ok (.iconst 0, 1) := by decide +kernel
theorem dX0_copyFrom_100 : decode cX0_copyFrom 100 = .ok (.aload_n 0, 1) := by decide +kernel
theorem dX0_copyFrom_101 : decode cX0_copyFrom 101 = .ok (.getfield 35, 3) := by decide +kernel
theorem dX0_copyFrom_104 : decode cX0_copyFrom 104 = .ok (.arraylength, 1) := by decide +kernel
theorem dX0_copyFrom_105 : decode cX0_copyFrom 105 = .ok (.invokestatic 44, 3) := by decide +kernel
theorem dX0_copyFrom_108 : decode cX0_copyFrom 108 = .ok (.aload_n 1, 1) := by decide +kernel
theorem dX0_copyFrom_109 : decode cX0_copyFrom 109 = .ok (.getfield 38, 3) := by decide +kernel
theorem dX0_copyFrom_112 : decode cX0_copyFrom 112 = .ok (.iconst 0, 1) := by decide +kernel
theorem dX0_copyFrom_113 : decode cX0_copyFrom 113 = .ok (.aload_n 0, 1) := by decide +kernel
theorem dX0_copyFrom_114 : decode cX0_copyFrom 114 = .ok (.getfield 38, 3) := by decide +kernel
theorem dX0_copyFrom_117 : decode cX0_copyFrom 117 = .ok (.iconst 0, 1) := by decide +kernel
theorem dX0_copyFrom_118 : decode cX0_copyFrom 118 = .ok (.aload_n 0, 1) := by decide +kernel
theorem dX0_copyFrom_119 : decode cX0_copyFrom 119 = .ok (.getfield 38, 3) := by decide +kernel
theorem dX0_copyFrom_122 : decode cX0_copyFrom 122 = .ok (.arraylength, 1) := by decide +kernel
theorem dX0_copyFrom_123 : decode cX0_copyFrom 123 = .ok (.invokestatic 44, 3) := by decide +kernel
theorem dX0_copyFrom_126 : decode cX0_copyFrom 126 = .ok (.aload_n 1, 1) := by decide +kernel
theorem dX0_copyFrom_127 : decode cX0_copyFrom 127 = .ok (.getfield 41, 3) := by decide +kernel
theorem dX0_copyFrom_130 : decode cX0_copyFrom 130 = .ok (.iconst 0, 1) := by decide +kernel
theorem dX0_copyFrom_131 : decode cX0_copyFrom 131 = .ok (.aload_n 0, 1) := by decide +kernel
theorem dX0_copyFrom_132 : decode cX0_copyFrom 132 = .ok (.getfield 41, 3) := by decide +kernel
theorem dX0_copyFrom_135 : decode cX0_copyFrom 135 = .ok (.iconst 0, 1) := by decide +kernel
theorem dX0_copyFrom_136 : decode cX0_copyFrom 136 = .ok (.aload_n 0, 1) := by decide +kernel
theorem dX0_copyFrom_137 : decode cX0_copyFrom 137 = .ok (.getfield 41, 3) := by decide +kernel
theorem dX0_copyFrom_140 : decode cX0_copyFrom 140 = .ok (.arraylength, 1) := by decide +kernel
theorem dX0_copyFrom_141 : decode cX0_copyFrom 141 = .ok (.invokestatic 44, 3) := by decide +kernel
theorem dX0_copyFrom_144 : decode cX0_copyFrom 144 = .ok (.aload_n 0, 1) := by decide +kernel
theorem dX0_copyFrom_145 : decode cX0_copyFrom 145 = .ok (.aload_n 1, 1) := by decide +kernel
theorem dX0_copyFrom_146 : decode cX0_copyFrom 146 = .ok (.getfield 50, 3) := by decide +kernel
theorem dX0_copyFrom_149 : decode cX0_copyFrom 149 = .ok (.putfield 50, 3) := by decide +kernel
theorem dX0_copyFrom_152 : decode cX0_copyFrom 152 = .ok (.aload_n 0, 1) := by decide +kernel
theorem dX0_copyFrom_153 : decode cX0_copyFrom 153 = .ok (.aload_n 1, 1) := by decide +kernel
theorem dX0_copyFrom_154 : decode cX0_copyFrom 154 = .ok (.getfield 54, 3) := by decide +kernel
theorem dX0_copyFrom_157 : decode cX0_copyFrom 157 = .ok (.putfield 54, 3) := by decide +kernel
theorem dX0_copyFrom_160 : decode cX0_copyFrom 160 = .ok (.aload_n 0, 1) := by decide +kernel
theorem dX0_copyFrom_161 : decode cX0_copyFrom 161 = .ok (.aload_n 1, 1) := by decide +kernel
theorem dX0_copyFrom_162 : decode cX0_copyFrom 162 = .ok (.getfield 57, 3) := by decide +kernel
theorem dX0_copyFrom_165 : decode cX0_copyFrom 165 = .ok (.putfield 57, 3) := by decide +kernel
theorem dX0_copyFrom_168 : decode cX0_copyFrom 168 = .ok (.return_, 1) := by decide +kernel
theorem dX0_farAgo_0 : decode cX0_farAgo 0 = .ok (.aload_n 0, 1) := by decide +kernel
theorem dX0_farAgo_1 : decode cX0_farAgo 1 = .ok (.getfield 29, 3) := by decide +kernel
theorem dX0_farAgo_4 : decode cX0_farAgo 4 = .ok (.aload_n 0, 1) := by decide +kernel
theorem dX0_farAgo_5 : decode cX0_farAgo 5 = .ok (.getfield 50, 3) := by decide +kernel
theorem dX0_farAgo_8 : decode cX0_farAgo 8 = .ok (.iload_n 1, 1) := by decide +kernel
theorem dX0_farAgo_9 : decode cX0_farAgo 9 = .ok (.isub, 1) := by decide +kernel
theorem dX0_farAgo_10 : decode cX0_farAgo 10 = .ok (.bipush 63, 2) := by decide +kernel
theorem dX0_farAgo_12 : decode cX0_farAgo 12 = .ok (.iand, 1) := by decide +kernel
theorem dX0_farAgo_13 : decode cX0_farAgo 13 = .ok (.iaload, 1) := by decide +kernel
theorem dX0_farAgo_14 : decode cX0_farAgo 14 = .ok (.ireturn, 1) := by decide +kernel
theorem dX0_nearAgo_0 : decode cX0_nearAgo 0 = .ok (.aload_n 0, 1) := by decide +kernel
theorem dX0_nearAgo_1 : decode cX0_nearAgo 1 = .ok (.getfield 32, 3) := by decide +kernel
theorem dX0_nearAgo_4 : decode cX0_nearAgo 4 = .ok (.aload_n 0, 1) := by decide +kernel
theorem dX0_nearAgo_5 : decode cX0_nearAgo 5 = .ok (.getfield 50, 3) := by decide +kernel
theorem dX0_nearAgo_8 : decode cX0_nearAgo 8 = .ok (.iload_n 1, 1) := by decide +kernel
theorem dX0_nearAgo_9 : decode cX0_nearAgo 9 = .ok (.isub, 1) := by decide +kernel
theorem dX0_nearAgo_10 : decode cX0_nearAgo 10 = .ok (.bipush 63, 2) := by decide +kernel
theorem dX0_nearAgo_12 : decode cX0_nearAgo 12 = .ok (.iand, 1) := by decide +kernel
theorem dX0_nearAgo_13 : decode cX0_nearAgo 13 = .ok (.iaload, 1) := by decide +kernel
theorem dX0_nearAgo_14 : decode cX0_nearAgo 14 = .ok (.ireturn, 1) := by decide +kernel
theorem dX0_outAgo_0 : decode cX0_outAgo 0 = .ok (.aload_n 0, 1) := by decide +kernel
theorem dX0_outAgo_1 : decode cX0_outAgo 1 = .ok (.getfield 35, 3) := by decide +kernel
theorem dX0_outAgo_4 : decode cX0_outAgo 4 = .ok (.aload_n 0, 1) := by decide +kernel
theorem dX0_outAgo_5 : decode cX0_outAgo 5 = .ok (.getfield 50, 3) := by decide +kernel
theorem dX0_outAgo_8 : decode cX0_outAgo 8 = .ok (.iload_n 1, 1) := by decide +kernel
theorem dX0_outAgo_9 : decode cX0_outAgo 9 = .ok (.isub, 1) := by decide +kernel
theorem dX0_outAgo_10 : decode cX0_outAgo 10 = .ok (.bipush 63, 2) := by decide +kernel
theorem dX0_outAgo_12 : decode cX0_outAgo 12 = .ok (.iand, 1) := by decide +kernel
theorem dX0_outAgo_13 : decode cX0_outAgo 13 = .ok (.iaload, 1) := by decide +kernel
theorem dX0_outAgo_14 : decode cX0_outAgo 14 = .ok (.ireturn, 1) := by decide +kernel
theorem dX0_takeFar_0 : decode cX0_takeFar 0 = .ok (.aload_n 0, 1) := by decide +kernel
theorem dX0_takeFar_1 : decode cX0_takeFar 1 = .ok (.dup, 1) := by decide +kernel
theorem dX0_takeFar_2 : decode cX0_takeFar 2 = .ok (.getfield 50, 3) := by decide +kernel
theorem dX0_takeFar_5 : decode cX0_takeFar 5 = .ok (.iconst 1, 1) := by decide +kernel
theorem dX0_takeFar_6 : decode cX0_takeFar 6 = .ok (.iadd, 1) := by decide +kernel
theorem dX0_takeFar_7 : decode cX0_takeFar 7 = .ok (.putfield 50, 3) := by decide +kernel
theorem dX0_takeFar_10 : decode cX0_takeFar 10 = .ok (.aload_n 0, 1) := by decide +kernel
theorem dX0_takeFar_11 : decode cX0_takeFar 11 = .ok (.getfield 29, 3) := by decide +kernel
theorem dX0_takeFar_14 : decode cX0_takeFar 14 = .ok (.aload_n 0, 1) := by decide +kernel
theorem dX0_takeFar_15 : decode cX0_takeFar 15 = .ok (.getfield 50, 3) := by decide +kernel
theorem dX0_takeFar_18 : decode cX0_takeFar 18 = .ok (.bipush 63, 2) := by decide +kernel
theorem dX0_takeFar_20 : decode cX0_takeFar 20 = .ok (.iand, 1) := by decide +kernel
theorem dX0_takeFar_21 : decode cX0_takeFar 21 = .ok (.iload_n 1, 1) := by decide +kernel
theorem dX0_takeFar_22 : decode cX0_takeFar 22 = .ok (.iastore, 1) := by decide +kernel
theorem dX0_takeFar_23 : decode cX0_takeFar 23 = .ok (.return_, 1) := by decide +kernel
set_option maxRecDepth 20000 in
theorem ggX0_takeNear_X0_estimated : GoodIn wsX0_takeNear wsX0_estimated := goodIn_r _ [15, 16, 17, 18, 19, 14, 20, 21, 22, 23, 24, 25, 26, 2, 83, 84, 85, 86, 87, 88, 89, 90, 91, 92, 93] (by decide +kernel) (by decide +kernel)
set_option maxRecDepth 20000 in
theorem gX0_takeNear_X0_estimated : GoodIn wsX0_takeNear (wsV RX0 60 RX0 yX0_estimated wsX0_estimated) := goodIn_app (goodIn_of _ (by decide +kernel)) ggX0_takeNear_X0_estimated
set_option maxRecDepth 20000 in
theorem ggX0_takeNear_X0_loudest : GoodIn wsX0_takeNear wsX0_loudest := goodIn_r _ [30, 3, 4, 5, 6, 31, 32, 33, 22, 23, 24, 14, 25, 26, 2, 83, 84, 85, 86, 87, 88, 89, 90, 91, 92, 93] (by decide +kernel) (by decide +kernel)
set_option maxRecDepth 20000 in
theorem gX0_takeNear_X0_loudest : GoodIn wsX0_takeNear (wsV RX0 64 RX0 yX0_loudest wsX0_loudest) := goodIn_app (goodIn_of _ (by decide +kernel)) ggX0_takeNear_X0_loudest
set_option maxRecDepth 20000 in
theorem ggX0_takeNear_X0_holdBy : GoodIn wsX0_takeNear wsX0_holdBy := goodIn_r _ [37, 21, 7, 83, 84, 85, 86, 87, 88, 89, 90, 91, 92, 93] (by decide +kernel) (by decide +kernel)
set_option maxRecDepth 20000 in
theorem gX0_takeNear_X0_holdBy : GoodIn wsX0_takeNear (wsV RX0 73 RX0 yX0_holdBy wsX0_holdBy) := goodIn_app (goodIn_of _ (by decide +kernel)) ggX0_takeNear_X0_holdBy
set_option maxRecDepth 20000 in
theorem ggX0_takeNear_X0_tonePeriod : GoodIn wsX0_takeNear wsX0_tonePeriod := goodIn_r _ [41, 42, 43, 44, 14, 45, 22, 23, 24, 25, 26, 2, 46, 47, 48, 49, 83, 84, 85, 86, 87, 88, 89, 90, 91, 92, 93] (by decide +kernel) (by decide +kernel)
set_option maxRecDepth 20000 in
theorem gX0_takeNear_X0_tonePeriod : GoodIn wsX0_takeNear (wsV RX0 77 RX0 yX0_tonePeriod wsX0_tonePeriod) := goodIn_app (goodIn_of _ (by decide +kernel)) ggX0_takeNear_X0_tonePeriod
set_option maxRecDepth 20000 in
theorem ggX0_takeNear_X0_powerSeen : GoodIn wsX0_takeNear wsX0_powerSeen := goodIn_r _ [53, 17, 18, 19, 14, 20, 21, 22, 23, 24, 25, 26, 2, 83, 84, 85, 86, 87, 88, 89, 90, 91, 92, 93] (by decide +kernel) (by decide +kernel)
set_option maxRecDepth 20000 in
theorem gX0_takeNear_X0_powerSeen : GoodIn wsX0_takeNear (wsV RX0 80 RX0 yX0_powerSeen wsX0_powerSeen) := goodIn_app (goodIn_of _ (by decide +kernel)) ggX0_takeNear_X0_powerSeen
set_option maxRecDepth 20000 in
theorem ggX0_takeNear_X0_learn : GoodIn wsX0_takeNear wsX0_learn := goodIn_r _ [57, 21, 16, 58, 59, 60, 61, 5, 62, 63, 64, 65, 17, 18, 19, 14, 20, 22, 23, 24, 25, 26, 2, 83, 84, 85, 86, 87, 88, 89, 90, 91, 92, 93] (by decide +kernel) (by decide +kernel)
set_option maxRecDepth 20000 in
theorem gX0_takeNear_X0_learn : GoodIn wsX0_takeNear (wsV RX0 83 RX0 yX0_learn wsX0_learn) := goodIn_app (goodIn_of _ (by decide +kernel)) ggX0_takeNear_X0_learn
set_option maxRecDepth 20000 in
theorem ggX0_takeNear_X0_softened : GoodIn wsX0_takeNear wsX0_softened := goodIn_r _ [69, 3, 4, 5, 6, 21, 70, 71, 72, 73, 74, 75, 76, 77, 32, 33, 78, 79, 80, 81, 82, 83, 84, 85, 86, 87, 88, 89, 90, 91, 92, 93] (by decide +kernel) (by decide +kernel)
set_option maxRecDepth 20000 in
theorem gX0_takeNear_X0_softened : GoodIn wsX0_takeNear (wsV RX0 87 RX0 yX0_softened wsX0_softened) := goodIn_app (goodIn_of _ (by decide +kernel)) ggX0_takeNear_X0_softened
theorem dX0_takeNear_0 : decode cX0_takeNear 0 = .ok (.aload_n 0, 1) := by decide +kernel
theorem dX0_takeNear_1 : decode cX0_takeNear 1 = .ok (.getfield 32, 3) := by decide +kernel
theorem dX0_takeNear_4 : decode cX0_takeNear 4 = .ok (.aload_n 0, 1) := by decide +kernel
theorem dX0_takeNear_5 : decode cX0_takeNear 5 = .ok (.getfield 50, 3) := by decide +kernel
theorem dX0_takeNear_8 : decode cX0_takeNear 8 = .ok (.bipush 63, 2) := by decide +kernel
theorem dX0_takeNear_10 : decode cX0_takeNear 10 = .ok (.iand, 1) := by decide +kernel
theorem dX0_takeNear_11 : decode cX0_takeNear 11 = .ok (.iload_n 1, 1) := by decide +kernel
theorem dX0_takeNear_12 : decode cX0_takeNear 12 = .ok (.iastore, 1) := by decide +kernel
theorem dX0_takeNear_13 : decode cX0_takeNear 13 = .ok (.aload_n 0, 1) := by decide +kernel
theorem dX0_takeNear_14 : decode cX0_takeNear 14 = .ok (.invokevirtual 60, 3) := by decide +kernel
theorem dX0_takeNear_17 : decode cX0_takeNear 17 = .ok (.istore_n 2, 1) := by decide +kernel
theorem dX0_takeNear_18 : decode cX0_takeNear 18 = .ok (.iload_n 1, 1) := by decide +kernel
theorem dX0_takeNear_19 : decode cX0_takeNear 19 = .ok (.iload_n 2, 1) := by decide +kernel
theorem dX0_takeNear_20 : decode cX0_takeNear 20 = .ok (.isub, 1) := by decide +kernel
theorem dX0_takeNear_21 : decode cX0_takeNear 21 = .ok (.istore_n 3, 1) := by decide +kernel
theorem dX0_takeNear_22 : decode cX0_takeNear 22 = .ok (.aload_n 0, 1) := by decide +kernel
theorem dX0_takeNear_23 : decode cX0_takeNear 23 = .ok (.invokevirtual 64, 3) := by decide +kernel
theorem dX0_takeNear_26 : decode cX0_takeNear 26 = .ok (.istore 4, 2) := by decide +kernel
theorem dX0_takeNear_28 : decode cX0_takeNear 28 = .ok (.iconst 2, 1) := by decide +kernel
theorem dX0_takeNear_29 : decode cX0_takeNear 29 = .ok (.iload_n 1, 1) := by decide +kernel
theorem dX0_takeNear_30 : decode cX0_takeNear 30 = .ok (.invokestatic 67, 3) := by decide +kernel
theorem dX0_takeNear_33 : decode cX0_takeNear 33 = .ok (.imul, 1) := by decide +kernel
theorem dX0_takeNear_34 : decode cX0_takeNear 34 = .ok (.iload 4, 2) := by decide +kernel
theorem dX0_takeNear_36 : decode cX0_takeNear 36 = .ok (.if_icmp .le 7, 3) := by decide +kernel
theorem dX0_takeNear_39 : decode cX0_takeNear 39 = .ok (.iconst 1, 1) := by decide +kernel
theorem dX0_takeNear_40 : decode cX0_takeNear 40 = .ok (.goto 4, 3) := by decide +kernel
theorem dX0_takeNear_43 : decode cX0_takeNear 43 = .ok (.iconst 0, 1) := by decide +kernel
theorem dX0_takeNear_44 : decode cX0_takeNear 44 = .ok (.istore 5, 2) := by decide +kernel
theorem dX0_takeNear_46 : decode cX0_takeNear 46 = .ok (.aload_n 0, 1) := by decide +kernel
theorem dX0_takeNear_47 : decode cX0_takeNear 47 = .ok (.iload 5, 2) := by decide +kernel
theorem dX0_takeNear_49 : decode cX0_takeNear 49 = .ok (.invokevirtual 73, 3) := by decide +kernel
theorem dX0_takeNear_52 : decode cX0_takeNear 52 = .ok (.aload_n 0, 1) := by decide +kernel
theorem dX0_takeNear_53 : decode cX0_takeNear 53 = .ok (.invokevirtual 77, 3) := by decide +kernel
theorem dX0_takeNear_56 : decode cX0_takeNear 56 = .ok (.istore 6, 2) := by decide +kernel
theorem dX0_takeNear_58 : decode cX0_takeNear 58 = .ok (.aload_n 0, 1) := by decide +kernel
theorem dX0_takeNear_59 : decode cX0_takeNear 59 = .ok (.invokevirtual 80, 3) := by decide +kernel
theorem dX0_takeNear_62 : decode cX0_takeNear 62 = .ok (.istore 7, 2) := by decide +kernel
theorem dX0_takeNear_64 : decode cX0_takeNear 64 = .ok (.aload_n 0, 1) := by decide +kernel
theorem dX0_takeNear_65 : decode cX0_takeNear 65 = .ok (.getfield 54, 3) := by decide +kernel
theorem dX0_takeNear_68 : decode cX0_takeNear 68 = .ok (.ifCond .ne 17, 3) := by decide +kernel
theorem dX0_takeNear_71 : decode cX0_takeNear 71 = .ok (.iload 6, 2) := by decide +kernel
theorem dX0_takeNear_73 : decode cX0_takeNear 73 = .ok (.ifCond .ne 12, 3) := by decide +kernel
theorem dX0_takeNear_76 : decode cX0_takeNear 76 = .ok (.iload 7, 2) := by decide +kernel
theorem dX0_takeNear_78 : decode cX0_takeNear 78 = .ok (.ifCond .le 7, 3) := by decide +kernel
theorem dX0_takeNear_81 : decode cX0_takeNear 81 = .ok (.iconst 1, 1) := by decide +kernel
theorem dX0_takeNear_82 : decode cX0_takeNear 82 = .ok (.goto 4, 3) := by decide +kernel
theorem dX0_takeNear_85 : decode cX0_takeNear 85 = .ok (.iconst 0, 1) := by decide +kernel
theorem dX0_takeNear_86 : decode cX0_takeNear 86 = .ok (.istore 8, 2) := by decide +kernel
theorem dX0_takeNear_88 : decode cX0_takeNear 88 = .ok (.iload 8, 2) := by decide +kernel
theorem dX0_takeNear_90 : decode cX0_takeNear 90 = .ok (.ifCond .eq 10, 3) := by decide +kernel
theorem dX0_takeNear_93 : decode cX0_takeNear 93 = .ok (.aload_n 0, 1) := by decide +kernel
theorem dX0_takeNear_94 : decode cX0_takeNear 94 = .ok (.iload_n 3, 1) := by decide +kernel
theorem dX0_takeNear_95 : decode cX0_takeNear 95 = .ok (.iload 7, 2) := by decide +kernel
theorem dX0_takeNear_97 : decode cX0_takeNear 97 = .ok (.invokevirtual 83, 3) := by decide +kernel
theorem dX0_takeNear_100 : decode cX0_takeNear 100 = .ok (.iload 6, 2) := by decide +kernel
theorem dX0_takeNear_102 : decode cX0_takeNear 102 = .ok (.ifCond .le 7, 3) := by decide +kernel
theorem dX0_takeNear_105 : decode cX0_takeNear 105 = .ok (.iload_n 1, 1) := by decide +kernel
theorem dX0_takeNear_106 : decode cX0_takeNear 106 = .ok (.goto 8, 3) := by decide +kernel
theorem dX0_takeNear_109 : decode cX0_takeNear 109 = .ok (.aload_n 0, 1) := by decide +kernel
theorem dX0_takeNear_110 : decode cX0_takeNear 110 = .ok (.iload_n 3, 1) := by decide +kernel
theorem dX0_takeNear_111 : decode cX0_takeNear 111 = .ok (.invokevirtual 87, 3) := by decide +kernel
theorem dX0_takeNear_114 : decode cX0_takeNear 114 = .ok (.istore 9, 2) := by decide +kernel
theorem dX0_takeNear_116 : decode cX0_takeNear 116 = .ok (.aload_n 0, 1) := by decide +kernel
theorem dX0_takeNear_117 : decode cX0_takeNear 117 = .ok (.getfield 35, 3) := by decide +kernel
theorem dX0_takeNear_120 : decode cX0_takeNear 120 = .ok (.aload_n 0, 1) := by decide +kernel
theorem dX0_takeNear_121 : decode cX0_takeNear 121 = .ok (.getfield 50, 3) := by decide +kernel
theorem dX0_takeNear_124 : decode cX0_takeNear 124 = .ok (.bipush 63, 2) := by decide +kernel
theorem dX0_takeNear_126 : decode cX0_takeNear 126 = .ok (.iand, 1) := by decide +kernel
theorem dX0_takeNear_127 : decode cX0_takeNear 127 = .ok (.iload 9, 2) := by decide +kernel
theorem dX0_takeNear_129 : decode cX0_takeNear 129 = .ok (.iastore, 1) := by decide +kernel
theorem dX0_takeNear_130 : decode cX0_takeNear 130 = .ok (.aload_n 0, 1) := by decide +kernel
theorem dX0_takeNear_131 : decode cX0_takeNear 131 = .ok (.getfield 38, 3) := by decide +kernel
theorem dX0_takeNear_134 : decode cX0_takeNear 134 = .ok (.aload_n 0, 1) := by decide +kernel
theorem dX0_takeNear_135 : decode cX0_takeNear 135 = .ok (.getfield 50, 3) := by decide +kernel
theorem dX0_takeNear_138 : decode cX0_takeNear 138 = .ok (.sipush 255, 3) := by decide +kernel
theorem dX0_takeNear_141 : decode cX0_takeNear 141 = .ok (.iand, 1) := by decide +kernel
theorem dX0_takeNear_142 : decode cX0_takeNear 142 = .ok (.iload 5, 2) := by decide +kernel
theorem dX0_takeNear_144 : decode cX0_takeNear 144 = .ok (.ifCond .eq 7, 3) := by decide +kernel
theorem dX0_takeNear_147 : decode cX0_takeNear 147 = .ok (.iconst 1, 1) := by decide +kernel
theorem dX0_takeNear_148 : decode cX0_takeNear 148 = .ok (.goto 4, 3) := by decide +kernel
theorem dX0_takeNear_151 : decode cX0_takeNear 151 = .ok (.iconst 0, 1) := by decide +kernel
theorem dX0_takeNear_152 : decode cX0_takeNear 152 = .ok (.iload 6, 2) := by decide +kernel
theorem dX0_takeNear_154 : decode cX0_takeNear 154 = .ok (.ifCond .le 7, 3) := by decide +kernel
theorem dX0_takeNear_157 : decode cX0_takeNear 157 = .ok (.iconst 2, 1) := by decide +kernel
theorem dX0_takeNear_158 : decode cX0_takeNear 158 = .ok (.goto 4, 3) := by decide +kernel
theorem dX0_takeNear_161 : decode cX0_takeNear 161 = .ok (.iconst 0, 1) := by decide +kernel
theorem dX0_takeNear_162 : decode cX0_takeNear 162 = .ok (.ior, 1) := by decide +kernel
theorem dX0_takeNear_163 : decode cX0_takeNear 163 = .ok (.iastore, 1) := by decide +kernel
theorem dX0_takeNear_164 : decode cX0_takeNear 164 = .ok (.aload_n 0, 1) := by decide +kernel
theorem dX0_takeNear_165 : decode cX0_takeNear 165 = .ok (.getfield 41, 3) := by decide +kernel
theorem dX0_takeNear_168 : decode cX0_takeNear 168 = .ok (.iconst 0, 1) := by decide +kernel
theorem dX0_takeNear_169 : decode cX0_takeNear 169 = .ok (.iload_n 2, 1) := by decide +kernel
theorem dX0_takeNear_170 : decode cX0_takeNear 170 = .ok (.iastore, 1) := by decide +kernel
theorem dX0_takeNear_171 : decode cX0_takeNear 171 = .ok (.aload_n 0, 1) := by decide +kernel
theorem dX0_takeNear_172 : decode cX0_takeNear 172 = .ok (.getfield 41, 3) := by decide +kernel
theorem dX0_takeNear_175 : decode cX0_takeNear 175 = .ok (.iconst 1, 1) := by decide +kernel
theorem dX0_takeNear_176 : decode cX0_takeNear 176 = .ok (.iload_n 3, 1) := by decide +kernel
theorem dX0_takeNear_177 : decode cX0_takeNear 177 = .ok (.iastore, 1) := by decide +kernel
theorem dX0_takeNear_178 : decode cX0_takeNear 178 = .ok (.aload_n 0, 1) := by decide +kernel
theorem dX0_takeNear_179 : decode cX0_takeNear 179 = .ok (.getfield 41, 3) := by decide +kernel
theorem dX0_takeNear_182 : decode cX0_takeNear 182 = .ok (.iconst 2, 1) := by decide +kernel
theorem dX0_takeNear_183 : decode cX0_takeNear 183 = .ok (.iload 9, 2) := by decide +kernel
theorem dX0_takeNear_185 : decode cX0_takeNear 185 = .ok (.iastore, 1) := by decide +kernel
theorem dX0_takeNear_186 : decode cX0_takeNear 186 = .ok (.aload_n 0, 1) := by decide +kernel
theorem dX0_takeNear_187 : decode cX0_takeNear 187 = .ok (.getfield 41, 3) := by decide +kernel
theorem dX0_takeNear_190 : decode cX0_takeNear 190 = .ok (.iconst 3, 1) := by decide +kernel
theorem dX0_takeNear_191 : decode cX0_takeNear 191 = .ok (.iload 4, 2) := by decide +kernel
theorem dX0_takeNear_193 : decode cX0_takeNear 193 = .ok (.iastore, 1) := by decide +kernel
theorem dX0_takeNear_194 : decode cX0_takeNear 194 = .ok (.aload_n 0, 1) := by decide +kernel
theorem dX0_takeNear_195 : decode cX0_takeNear 195 = .ok (.getfield 41, 3) := by decide +kernel
theorem dX0_takeNear_198 : decode cX0_takeNear 198 = .ok (.iconst 4, 1) := by decide +kernel
theorem dX0_takeNear_199 : decode cX0_takeNear 199 = .ok (.iload 7, 2) := by decide +kernel
theorem dX0_takeNear_201 : decode cX0_takeNear 201 = .ok (.iastore, 1) := by decide +kernel
theorem dX0_takeNear_202 : decode cX0_takeNear 202 = .ok (.aload_n 0, 1) := by decide +kernel
theorem dX0_takeNear_203 : decode cX0_takeNear 203 = .ok (.getfield 41, 3) := by decide +kernel
theorem dX0_takeNear_206 : decode cX0_takeNear 206 = .ok (.iconst 5, 1) := by decide +kernel
theorem dX0_takeNear_207 : decode cX0_takeNear 207 = .ok (.iload 5, 2) := by decide +kernel
theorem dX0_takeNear_209 : decode cX0_takeNear 209 = .ok (.ifCond .eq 7, 3) := by decide +kernel
theorem dX0_takeNear_212 : decode cX0_takeNear 212 = .ok (.iconst 1, 1) := by decide +kernel
theorem dX0_takeNear_213 : decode cX0_takeNear 213 = .ok (.goto 4, 3) := by decide +kernel
theorem dX0_takeNear_216 : decode cX0_takeNear 216 = .ok (.iconst 0, 1) := by decide +kernel
theorem dX0_takeNear_217 : decode cX0_takeNear 217 = .ok (.iastore, 1) := by decide +kernel
theorem dX0_takeNear_218 : decode cX0_takeNear 218 = .ok (.aload_n 0, 1) := by decide +kernel
theorem dX0_takeNear_219 : decode cX0_takeNear 219 = .ok (.getfield 41, 3) := by decide +kernel
theorem dX0_takeNear_222 : decode cX0_takeNear 222 = .ok (.bipush 6, 2) := by decide +kernel
theorem dX0_takeNear_224 : decode cX0_takeNear 224 = .ok (.iload 6, 2) := by decide +kernel
theorem dX0_takeNear_226 : decode cX0_takeNear 226 = .ok (.iastore, 1) := by decide +kernel
theorem dX0_takeNear_227 : decode cX0_takeNear 227 = .ok (.aload_n 0, 1) := by decide +kernel
theorem dX0_takeNear_228 : decode cX0_takeNear 228 = .ok (.getfield 41, 3) := by decide +kernel
theorem dX0_takeNear_231 : decode cX0_takeNear 231 = .ok (.bipush 7, 2) := by decide +kernel
theorem dX0_takeNear_233 : decode cX0_takeNear 233 = .ok (.iload 8, 2) := by decide +kernel
theorem dX0_takeNear_235 : decode cX0_takeNear 235 = .ok (.ifCond .eq 7, 3) := by decide +kernel
theorem dX0_takeNear_238 : decode cX0_takeNear 238 = .ok (.iconst 1, 1) := by decide +kernel
theorem dX0_takeNear_239 : decode cX0_takeNear 239 = .ok (.goto 4, 3) := by decide +kernel
theorem dX0_takeNear_242 : decode cX0_takeNear 242 = .ok (.iconst 0, 1) := by decide +kernel
theorem dX0_takeNear_243 : decode cX0_takeNear 243 = .ok (.iastore, 1) := by decide +kernel
theorem dX0_takeNear_244 : decode cX0_takeNear 244 = .ok (.iload 9, 2) := by decide +kernel
theorem dX0_takeNear_246 : decode cX0_takeNear 246 = .ok (.ireturn, 1) := by decide +kernel
set_option maxRecDepth 20000 in
theorem ggX0_hearSpeech_X0_takeFar : GoodIn wsX0_hearSpeech wsX0_takeFar := goodIn_r _ [5, 6, 7, 96, 97, 98, 99, 100, 101, 102, 103, 104, 105, 106] (by decide +kernel) (by decide +kernel)
set_option maxRecDepth 20000 in
theorem gX0_hearSpeech_X0_takeFar : GoodIn wsX0_hearSpeech (wsV RX0 90 RX0 yX0_takeFar wsX0_takeFar) := goodIn_app (goodIn_of _ (by decide +kernel)) ggX0_hearSpeech_X0_takeFar
set_option maxRecDepth 20000 in
theorem ggX0_hearSpeech_X0_echo : GoodIn wsX0_hearSpeech wsX0_echo := goodIn_r _ [11, 12, 13, 14, 15, 4, 16, 7, 6, 96, 97, 98, 99, 100, 101, 102, 103, 104, 105, 106] (by decide +kernel) (by decide +kernel)
set_option maxRecDepth 20000 in
theorem gX0_hearSpeech_X0_echo : GoodIn wsX0_hearSpeech (wsV RX0 94 RX0 yX0_echo wsX0_echo) := goodIn_app (goodIn_of _ (by decide +kernel)) ggX0_hearSpeech_X0_echo
set_option maxRecDepth 20000 in
theorem ggX0_hearSpeech_X1_limited : GoodIn wsX0_hearSpeech wsX1_limited := goodIn_r _ [19, 20, 21, 22, 23, 24, 25, 26] (by decide +kernel) (by decide +kernel)
set_option maxRecDepth 20000 in
theorem gX0_hearSpeech_X1_limited_n97 : GoodIn wsX0_hearSpeech (wsX1_limited) := ggX0_hearSpeech_X1_limited
set_option maxRecDepth 20000 in
theorem ggX0_hearSpeech_X0_takeNear : GoodIn wsX0_hearSpeech wsX0_takeNear := goodIn_r _ [30, 31, 6, 32, 33, 22, 34, 35, 36, 37, 38, 39, 40, 41, 4, 42, 43, 44, 45, 46, 47, 48, 13, 14, 15, 16, 7, 49, 50, 51, 52, 53, 25, 26, 54, 55, 56, 57, 58, 59, 60, 61, 62, 63, 64, 65, 66, 67, 68, 69, 70, 71, 72, 73, 74, 75, 76, 77, 78, 79, 80, 81, 82, 83, 84, 85, 86, 87, 88, 89, 90, 17, 18, 19, 20, 21, 23, 24, 91, 92, 93, 94, 95, 96, 97, 98, 99, 100, 101, 102, 103, 104, 105, 106] (by decide +kernel) (by decide +kernel)
set_option maxRecDepth 20000 in
theorem gX0_hearSpeech_X0_takeNear : GoodIn wsX0_hearSpeech (wsV RX0 101 RX0 yX0_takeNear wsX0_takeNear) := goodIn_app (goodIn_of _ (by decide +kernel)) ggX0_hearSpeech_X0_takeNear
theorem dX0_hearSpeech_0 : decode cX0_hearSpeech 0 = .ok (.aload_n 0, 1) := by decide +kernel
theorem dX0_hearSpeech_1 : decode cX0_hearSpeech 1 = .ok (.iload_n 1, 1) := by decide +kernel
theorem dX0_hearSpeech_2 : decode cX0_hearSpeech 2 = .ok (.invokevirtual 90, 3) := by decide +kernel
theorem dX0_hearSpeech_5 : decode cX0_hearSpeech 5 = .ok (.aload_n 0, 1) := by decide +kernel
theorem dX0_hearSpeech_6 : decode cX0_hearSpeech 6 = .ok (.aload_n 0, 1) := by decide +kernel
theorem dX0_hearSpeech_7 : decode cX0_hearSpeech 7 = .ok (.invokevirtual 94, 3) := by decide +kernel
theorem dX0_hearSpeech_10 : decode cX0_hearSpeech 10 = .ok (.iload_n 2, 1) := by decide +kernel
theorem dX0_hearSpeech_11 : decode cX0_hearSpeech 11 = .ok (.iadd, 1) := by decide +kernel
theorem dX0_hearSpeech_12 : decode cX0_hearSpeech 12 = .ok (.sipush (-2000), 3) := by decide +kernel
theorem dX0_hearSpeech_15 : decode cX0_hearSpeech 15 = .ok (.sipush 2000, 3) := by decide +kernel
theorem dX0_hearSpeech_18 : decode cX0_hearSpeech 18 = .ok (.invokestatic 97, 3) := by decide +kernel
theorem dX0_hearSpeech_21 : decode cX0_hearSpeech 21 = .ok (.invokevirtual 101, 3) := by decide +kernel
theorem dX0_hearSpeech_24 : decode cX0_hearSpeech 24 = .ok (.ireturn, 1) := by decide +kernel
set_option maxRecDepth 20000 in
theorem ggX0_echo_X0_farAgo : GoodIn wsX0_echo wsX0_farAgo := goodIn_r _ [6, 7, 8, 9, 10, 11, 12, 13, 14, 15, 16, 17, 18, 19] (by decide +kernel) (by decide +kernel)
set_option maxRecDepth 20000 in
theorem gX0_echo_X0_farAgo : GoodIn wsX0_echo (wsV RX0 104 RX0 yX0_farAgo wsX0_farAgo) := goodIn_app (goodIn_of _ (by decide +kernel)) ggX0_echo_X0_farAgo
theorem dX0_echo_0 : decode cX0_echo 0 = .ok (.iconst 0, 1) := by decide +kernel
theorem dX0_echo_1 : decode cX0_echo 1 = .ok (.istore_n 1, 1) := by decide +kernel
theorem dX0_echo_2 : decode cX0_echo 2 = .ok (.iconst 0, 1) := by decide +kernel
theorem dX0_echo_3 : decode cX0_echo 3 = .ok (.istore_n 2, 1) := by decide +kernel
theorem dX0_echo_4 : decode cX0_echo 4 = .ok (.iload_n 2, 1) := by decide +kernel
theorem dX0_echo_5 : decode cX0_echo 5 = .ok (.bipush 8, 2) := by decide +kernel
theorem dX0_echo_7 : decode cX0_echo 7 = .ok (.if_icmp .ge 32, 3) := by decide +kernel
theorem dX0_echo_10 : decode cX0_echo 10 = .ok (.iload_n 1, 1) := by decide +kernel
theorem dX0_echo_11 : decode cX0_echo 11 = .ok (.aload_n 0, 1) := by decide +kernel
theorem dX0_echo_12 : decode cX0_echo 12 = .ok (.getfield 26, 3) := by decide +kernel
theorem dX0_echo_15 : decode cX0_echo 15 = .ok (.iload_n 2, 1) := by decide +kernel
theorem dX0_echo_16 : decode cX0_echo 16 = .ok (.iaload, 1) := by decide +kernel
theorem dX0_echo_17 : decode cX0_echo 17 = .ok (.aload_n 0, 1) := by decide +kernel
theorem dX0_echo_18 : decode cX0_echo 18 = .ok (.iload_n 2, 1) := by decide +kernel
theorem dX0_echo_19 : decode cX0_echo 19 = .ok (.aload_n 0, 1) := by decide +kernel
theorem dX0_echo_20 : decode cX0_echo 20 = .ok (.getfield 26, 3) := by decide +kernel
theorem dX0_echo_23 : decode cX0_echo 23 = .ok (.bipush 8, 2) := by decide +kernel
theorem dX0_echo_25 : decode cX0_echo 25 = .ok (.iaload, 1) := by decide +kernel
theorem dX0_echo_26 : decode cX0_echo 26 = .ok (.iadd, 1) := by decide +kernel
theorem dX0_echo_27 : decode cX0_echo 27 = .ok (.invokevirtual 104, 3) := by decide +kernel
theorem dX0_echo_30 : decode cX0_echo 30 = .ok (.imul, 1) := by decide +kernel
theorem dX0_echo_31 : decode cX0_echo 31 = .ok (.iadd, 1) := by decide +kernel
theorem dX0_echo_32 : decode cX0_echo 32 = .ok (.istore_n 1, 1) := by decide +kernel
theorem dX0_echo_33 : decode cX0_echo 33 = .ok (.iinc 2 1, 3) := by decide +kernel
theorem dX0_echo_36 : decode cX0_echo 36 = .ok (.goto (-32), 3) := by decide +kernel
theorem dX0_echo_39 : decode cX0_echo 39 = .ok (.iload_n 1, 1) := by decide +kernel
theorem dX0_echo_40 : decode cX0_echo 40 = .ok (.sipush 1024, 3) := by decide +kernel
theorem dX0_echo_43 : decode cX0_echo 43 = .ok (.idiv, 1) := by decide +kernel
theorem dX0_echo_44 : decode cX0_echo 44 = .ok (.ireturn, 1) := by decide +kernel
set_option maxRecDepth 20000 in
theorem ggX0_seenBy_X0_farAgo : GoodIn wsX0_seenBy wsX0_farAgo := goodIn_r _ [6, 7, 8, 9, 10, 11, 12, 13, 14, 15, 16, 17, 18, 19] (by decide +kernel) (by decide +kernel)
set_option maxRecDepth 20000 in
theorem gX0_seenBy_X0_farAgo : GoodIn wsX0_seenBy (wsV RX0 104 RX0 yX0_farAgo wsX0_farAgo) := goodIn_app (goodIn_of _ (by decide +kernel)) ggX0_seenBy_X0_farAgo
theorem dX0_seenBy_0 : decode cX0_seenBy 0 = .ok (.aload_n 0, 1) := by decide +kernel
theorem dX0_seenBy_1 : decode cX0_seenBy 1 = .ok (.iload_n 1, 1) := by decide +kernel
theorem dX0_seenBy_2 : decode cX0_seenBy 2 = .ok (.aload_n 0, 1) := by decide +kernel
theorem dX0_seenBy_3 : decode cX0_seenBy 3 = .ok (.getfield 18, 3) := by decide +kernel
theorem dX0_seenBy_6 : decode cX0_seenBy 6 = .ok (.iconst 4, 1) := by decide +kernel
theorem dX0_seenBy_7 : decode cX0_seenBy 7 = .ok (.iaload, 1) := by decide +kernel
theorem dX0_seenBy_8 : decode cX0_seenBy 8 = .ok (.iadd, 1) := by decide +kernel
theorem dX0_seenBy_9 : decode cX0_seenBy 9 = .ok (.invokevirtual 104, 3) := by decide +kernel
theorem dX0_seenBy_12 : decode cX0_seenBy 12 = .ok (.ireturn, 1) := by decide +kernel
set_option maxRecDepth 20000 in
theorem ggX0_estimated_X0_seenBy : GoodIn wsX0_estimated wsX0_seenBy := goodIn_r _ [6, 7, 8, 9, 10, 5, 11, 12, 13, 14, 15, 16, 17, 18, 19, 20, 21, 22, 23, 24] (by decide +kernel) (by decide +kernel)
set_option maxRecDepth 20000 in
theorem gX0_estimated_X0_seenBy : GoodIn wsX0_estimated (wsV RX0 107 RX0 yX0_seenBy wsX0_seenBy) := goodIn_app (goodIn_of _ (by decide +kernel)) ggX0_estimated_X0_seenBy
theorem dX0_estimated_0 : decode cX0_estimated 0 = .ok (.iconst 0, 1) := by decide +kernel
theorem dX0_estimated_1 : decode cX0_estimated 1 = .ok (.istore_n 1, 1) := by decide +kernel
theorem dX0_estimated_2 : decode cX0_estimated 2 = .ok (.iconst 0, 1) := by decide +kernel
theorem dX0_estimated_3 : decode cX0_estimated 3 = .ok (.istore_n 2, 1) := by decide +kernel
theorem dX0_estimated_4 : decode cX0_estimated 4 = .ok (.iload_n 2, 1) := by decide +kernel
theorem dX0_estimated_5 : decode cX0_estimated 5 = .ok (.bipush 8, 2) := by decide +kernel
theorem dX0_estimated_7 : decode cX0_estimated 7 = .ok (.if_icmp .ge 24, 3) := by decide +kernel
theorem dX0_estimated_10 : decode cX0_estimated 10 = .ok (.iload_n 1, 1) := by decide +kernel
theorem dX0_estimated_11 : decode cX0_estimated 11 = .ok (.aload_n 0, 1) := by decide +kernel
theorem dX0_estimated_12 : decode cX0_estimated 12 = .ok (.getfield 23, 3) := by decide +kernel
theorem dX0_estimated_15 : decode cX0_estimated 15 = .ok (.iload_n 2, 1) := by decide +kernel
theorem dX0_estimated_16 : decode cX0_estimated 16 = .ok (.iaload, 1) := by decide +kernel
theorem dX0_estimated_17 : decode cX0_estimated 17 = .ok (.aload_n 0, 1) := by decide +kernel
theorem dX0_estimated_18 : decode cX0_estimated 18 = .ok (.iload_n 2, 1) := by decide +kernel
theorem dX0_estimated_19 : decode cX0_estimated 19 = .ok (.invokevirtual 107, 3) := by decide +kernel
theorem dX0_estimated_22 : decode cX0_estimated 22 = .ok (.imul, 1) := by decide +kernel
theorem dX0_estimated_23 : decode cX0_estimated 23 = .ok (.iadd, 1) := by decide +kernel
theorem dX0_estimated_24 : decode cX0_estimated 24 = .ok (.istore_n 1, 1) := by decide +kernel
theorem dX0_estimated_25 : decode cX0_estimated 25 = .ok (.iinc 2 1, 3) := by decide +kernel
theorem dX0_estimated_28 : decode cX0_estimated 28 = .ok (.goto (-24), 3) := by decide +kernel
theorem dX0_estimated_31 : decode cX0_estimated 31 = .ok (.iload_n 1, 1) := by decide +kernel
theorem dX0_estimated_32 : decode cX0_estimated 32 = .ok (.sipush 1024, 3) := by decide +kernel
theorem dX0_estimated_35 : decode cX0_estimated 35 = .ok (.idiv, 1) := by decide +kernel
theorem dX0_estimated_36 : decode cX0_estimated 36 = .ok (.ireturn, 1) := by decide +kernel
set_option maxRecDepth 20000 in
theorem ggX0_loudest_X0_farAgo : GoodIn wsX0_loudest wsX0_farAgo := goodIn_r _ [12, 13, 14, 15, 16, 17, 18, 19, 20, 21, 22, 23, 24, 25] (by decide +kernel) (by decide +kernel)
set_option maxRecDepth 20000 in
theorem gX0_loudest_X0_farAgo : GoodIn wsX0_loudest (wsV RX0 104 RX0 yX0_farAgo wsX0_farAgo) := goodIn_app (goodIn_of _ (by decide +kernel)) ggX0_loudest_X0_farAgo
theorem dX0_loudest_0 : decode cX0_loudest 0 = .ok (.iconst 0, 1) := by decide +kernel
theorem dX0_loudest_1 : decode cX0_loudest 1 = .ok (.istore_n 1, 1) := by decide +kernel
theorem dX0_loudest_2 : decode cX0_loudest 2 = .ok (.iconst 0, 1) := by decide +kernel
theorem dX0_loudest_3 : decode cX0_loudest 3 = .ok (.istore_n 2, 1) := by decide +kernel
theorem dX0_loudest_4 : decode cX0_loudest 4 = .ok (.iload_n 2, 1) := by decide +kernel
theorem dX0_loudest_5 : decode cX0_loudest 5 = .ok (.bipush 24, 2) := by decide +kernel
theorem dX0_loudest_7 : decode cX0_loudest 7 = .ok (.if_icmp .ge 22, 3) := by decide +kernel
theorem dX0_loudest_10 : decode cX0_loudest 10 = .ok (.iload_n 1, 1) := by decide +kernel
theorem dX0_loudest_11 : decode cX0_loudest 11 = .ok (.aload_n 0, 1) := by decide +kernel
theorem dX0_loudest_12 : decode cX0_loudest 12 = .ok (.iload_n 2, 1) := by decide +kernel
theorem dX0_loudest_13 : decode cX0_loudest 13 = .ok (.invokevirtual 104, 3) := by decide +kernel
theorem dX0_loudest_16 : decode cX0_loudest 16 = .ok (.invokestatic 67, 3) := by decide +kernel
theorem dX0_loudest_19 : decode cX0_loudest 19 = .ok (.invokestatic 110, 3) := by decide +kernel
theorem dX0_loudest_22 : decode cX0_loudest 22 = .ok (.istore_n 1, 1) := by decide +kernel
theorem dX0_loudest_23 : decode cX0_loudest 23 = .ok (.iinc 2 1, 3) := by decide +kernel
theorem dX0_loudest_26 : decode cX0_loudest 26 = .ok (.goto (-22), 3) := by decide +kernel
theorem dX0_loudest_29 : decode cX0_loudest 29 = .ok (.iload_n 1, 1) := by decide +kernel
theorem dX0_loudest_30 : decode cX0_loudest 30 = .ok (.ireturn, 1) := by decide +kernel
theorem dX0_holdBy_0 : decode cX0_holdBy 0 = .ok (.iload_n 1, 1) := by decide +kernel
theorem dX0_holdBy_1 : decode cX0_holdBy 1 = .ok (.ifCond .eq 16, 3) := by decide +kernel
theorem dX0_holdBy_4 : decode cX0_holdBy 4 = .ok (.aload_n 0, 1) := by decide +kernel
theorem dX0_holdBy_5 : decode cX0_holdBy 5 = .ok (.aload_n 0, 1) := by decide +kernel
theorem dX0_holdBy_6 : decode cX0_holdBy 6 = .ok (.getfield 18, 3) := by decide +kernel
theorem dX0_holdBy_9 : decode cX0_holdBy 9 = .ok (.iconst 1, 1) := by decide +kernel
theorem dX0_holdBy_10 : decode cX0_holdBy 10 = .ok (.iaload, 1) := by decide +kernel
theorem dX0_holdBy_11 : decode cX0_holdBy 11 = .ok (.putfield 54, 3) := by decide +kernel
theorem dX0_holdBy_14 : decode cX0_holdBy 14 = .ok (.goto 20, 3) := by decide +kernel
theorem dX0_holdBy_17 : decode cX0_holdBy 17 = .ok (.aload_n 0, 1) := by decide +kernel
theorem dX0_holdBy_18 : decode cX0_holdBy 18 = .ok (.getfield 54, 3) := by decide +kernel
theorem dX0_holdBy_21 : decode cX0_holdBy 21 = .ok (.ifCond .le 13, 3) := by decide +kernel
theorem dX0_holdBy_24 : decode cX0_holdBy 24 = .ok (.aload_n 0, 1) := by decide +kernel
theorem dX0_holdBy_25 : decode cX0_holdBy 25 = .ok (.dup, 1) := by decide +kernel
theorem dX0_holdBy_26 : decode cX0_holdBy 26 = .ok (.getfield 54, 3) := by decide +kernel
theorem dX0_holdBy_29 : decode cX0_holdBy 29 = .ok (.iconst 1, 1) := by decide +kernel
theorem dX0_holdBy_30 : decode cX0_holdBy 30 = .ok (.isub, 1) := by decide +kernel
theorem dX0_holdBy_31 : decode cX0_holdBy 31 = .ok (.putfield 54, 3) := by decide +kernel
theorem dX0_holdBy_34 : decode cX0_holdBy 34 = .ok (.return_, 1) := by decide +kernel
set_option maxRecDepth 20000 in
theorem ggX0_tonePeriod_X0_silent : GoodIn wsX0_tonePeriod wsX0_silent := goodIn_r _ [5, 6, 7, 8, 4, 9, 10, 11, 16, 17, 18, 19, 20, 21, 22, 23, 24, 25, 26] (by decide +kernel) (by decide +kernel)
set_option maxRecDepth 20000 in
theorem gX0_tonePeriod_X0_silent : GoodIn wsX0_tonePeriod (wsV RX0 114 RX0 yX0_silent wsX0_silent) := goodIn_app (goodIn_of _ (by decide +kernel)) ggX0_tonePeriod_X0_silent
set_option maxRecDepth 20000 in
theorem ggX0_tonePeriod_X0_repeatsBy : GoodIn wsX0_tonePeriod wsX0_repeatsBy := goodIn_r _ [15, 6, 7, 8, 4, 9, 10, 11, 16, 17, 18, 19, 20, 21, 22, 23, 24, 25, 26] (by decide +kernel) (by decide +kernel)
set_option maxRecDepth 20000 in
theorem gX0_tonePeriod_X0_repeatsBy : GoodIn wsX0_tonePeriod (wsV RX0 118 RX0 yX0_repeatsBy wsX0_repeatsBy) := goodIn_app (goodIn_of _ (by decide +kernel)) ggX0_tonePeriod_X0_repeatsBy
theorem dX0_tonePeriod_0 : decode cX0_tonePeriod 0 = .ok (.aload_n 0, 1) := by decide +kernel
theorem dX0_tonePeriod_1 : decode cX0_tonePeriod 1 = .ok (.invokevirtual 114, 3) := by decide +kernel
theorem dX0_tonePeriod_4 : decode cX0_tonePeriod 4 = .ok (.ifCond .eq 5, 3) := by decide +kernel
theorem dX0_tonePeriod_7 : decode cX0_tonePeriod 7 = .ok (.iconst 0, 1) := by decide +kernel
theorem dX0_tonePeriod_8 : decode cX0_tonePeriod 8 = .ok (.ireturn, 1) := by decide +kernel
theorem dX0_tonePeriod_9 : decode cX0_tonePeriod 9 = .ok (.iconst 1, 1) := by decide +kernel
theorem dX0_tonePeriod_10 : decode cX0_tonePeriod 10 = .ok (.istore_n 1, 1) := by decide +kernel
theorem dX0_tonePeriod_11 : decode cX0_tonePeriod 11 = .ok (.iload_n 1, 1) := by decide +kernel
theorem dX0_tonePeriod_12 : decode cX0_tonePeriod 12 = .ok (.bipush 8, 2) := by decide +kernel
theorem dX0_tonePeriod_14 : decode cX0_tonePeriod 14 = .ok (.if_icmp .gt 19, 3) := by decide +kernel
theorem dX0_tonePeriod_17 : decode cX0_tonePeriod 17 = .ok (.aload_n 0, 1) := by decide +kernel
theorem dX0_tonePeriod_18 : decode cX0_tonePeriod 18 = .ok (.iload_n 1, 1) := by decide +kernel
theorem dX0_tonePeriod_19 : decode cX0_tonePeriod 19 = .ok (.invokevirtual 118, 3) := by decide +kernel
theorem dX0_tonePeriod_22 : decode cX0_tonePeriod 22 = .ok (.ifCond .eq 5, 3) := by decide +kernel
theorem dX0_tonePeriod_25 : decode cX0_tonePeriod 25 = .ok (.iload_n 1, 1) := by decide +kernel
theorem dX0_tonePeriod_26 : decode cX0_tonePeriod 26 = .ok (.ireturn, 1) := by decide +kernel
theorem dX0_tonePeriod_27 : decode cX0_tonePeriod 27 = .ok (.iinc 1 1, 3) := by decide +kernel
theorem dX0_tonePeriod_30 : decode cX0_tonePeriod 30 = .ok (.goto (-19), 3) := by decide +kernel
theorem dX0_tonePeriod_33 : decode cX0_tonePeriod 33 = .ok (.iconst 0, 1) := by decide +kernel
theorem dX0_tonePeriod_34 : decode cX0_tonePeriod 34 = .ok (.ireturn, 1) := by decide +kernel
set_option maxRecDepth 20000 in
theorem ggX0_silent_X0_farAgo : GoodIn wsX0_silent wsX0_farAgo := goodIn_r _ [5, 6, 7, 8, 9, 10, 11, 12, 13, 14, 15, 16, 17, 18] (by decide +kernel) (by decide +kernel)
set_option maxRecDepth 20000 in
theorem gX0_silent_X0_farAgo : GoodIn wsX0_silent (wsV RX0 104 RX0 yX0_farAgo wsX0_farAgo) := goodIn_app (goodIn_of _ (by decide +kernel)) ggX0_silent_X0_farAgo
theorem dX0_silent_0 : decode cX0_silent 0 = .ok (.iconst 0, 1) := by decide +kernel
theorem dX0_silent_1 : decode cX0_silent 1 = .ok (.istore_n 1, 1) := by decide +kernel
theorem dX0_silent_2 : decode cX0_silent 2 = .ok (.iload_n 1, 1) := by decide +kernel
theorem dX0_silent_3 : decode cX0_silent 3 = .ok (.bipush 16, 2) := by decide +kernel
theorem dX0_silent_5 : decode cX0_silent 5 = .ok (.if_icmp .ge 19, 3) := by decide +kernel
theorem dX0_silent_8 : decode cX0_silent 8 = .ok (.aload_n 0, 1) := by decide +kernel
theorem dX0_silent_9 : decode cX0_silent 9 = .ok (.iload_n 1, 1) := by decide +kernel
theorem dX0_silent_10 : decode cX0_silent 10 = .ok (.invokevirtual 104, 3) := by decide +kernel
theorem dX0_silent_13 : decode cX0_silent 13 = .ok (.ifCond .eq 5, 3) := by decide +kernel
theorem dX0_silent_16 : decode cX0_silent 16 = .ok (.iconst 0, 1) := by decide +kernel
theorem dX0_silent_17 : decode cX0_silent 17 = .ok (.ireturn, 1) := by decide +kernel
theorem dX0_silent_18 : decode cX0_silent 18 = .ok (.iinc 1 1, 3) := by decide +kernel
theorem dX0_silent_21 : decode cX0_silent 21 = .ok (.goto (-19), 3) := by decide +kernel
theorem dX0_silent_24 : decode cX0_silent 24 = .ok (.iconst 1, 1) := by decide +kernel
theorem dX0_silent_25 : decode cX0_silent 25 = .ok (.ireturn, 1) := by decide +kernel
set_option maxRecDepth 20000 in
theorem ggX0_repeatsBy_X0_farAgo : GoodIn wsX0_repeatsBy wsX0_farAgo := goodIn_r _ [5, 6, 7, 8, 9, 10, 11, 12, 13, 14, 15, 16, 17, 18] (by decide +kernel) (by decide +kernel)
set_option maxRecDepth 20000 in
theorem gX0_repeatsBy_X0_farAgo : GoodIn wsX0_repeatsBy (wsV RX0 104 RX0 yX0_farAgo wsX0_farAgo) := goodIn_app (goodIn_of _ (by decide +kernel)) ggX0_repeatsBy_X0_farAgo
theorem dX0_repeatsBy_0 : decode cX0_repeatsBy 0 = .ok (.iconst 0, 1) := by decide +kernel
theorem dX0_repeatsBy_1 : decode cX0_repeatsBy 1 = .ok (.istore_n 2, 1) := by decide +kernel
theorem dX0_repeatsBy_2 : decode cX0_repeatsBy 2 = .ok (.iload_n 2, 1) := by decide +kernel
theorem dX0_repeatsBy_3 : decode cX0_repeatsBy 3 = .ok (.iload_n 1, 1) := by decide +kernel
theorem dX0_repeatsBy_4 : decode cX0_repeatsBy 4 = .ok (.iadd, 1) := by decide +kernel
theorem dX0_repeatsBy_5 : decode cX0_repeatsBy 5 = .ok (.bipush 16, 2) := by decide +kernel
theorem dX0_repeatsBy_7 : decode cX0_repeatsBy 7 = .ok (.if_icmp .ge 26, 3) := by decide +kernel
theorem dX0_repeatsBy_10 : decode cX0_repeatsBy 10 = .ok (.aload_n 0, 1) := by decide +kernel
theorem dX0_repeatsBy_11 : decode cX0_repeatsBy 11 = .ok (.iload_n 2, 1) := by decide +kernel
theorem dX0_repeatsBy_12 : decode cX0_repeatsBy 12 = .ok (.invokevirtual 104, 3) := by decide +kernel
theorem dX0_repeatsBy_15 : decode cX0_repeatsBy 15 = .ok (.aload_n 0, 1) := by decide +kernel
theorem dX0_repeatsBy_16 : decode cX0_repeatsBy 16 = .ok (.iload_n 2, 1) := by decide +kernel
theorem dX0_repeatsBy_17 : decode cX0_repeatsBy 17 = .ok (.iload_n 1, 1) := by decide +kernel
theorem dX0_repeatsBy_18 : decode cX0_repeatsBy 18 = .ok (.iadd, 1) := by decide +kernel
theorem dX0_repeatsBy_19 : decode cX0_repeatsBy 19 = .ok (.invokevirtual 104, 3) := by decide +kernel
theorem dX0_repeatsBy_22 : decode cX0_repeatsBy 22 = .ok (.if_icmp .eq 5, 3) := by decide +kernel
theorem dX0_repeatsBy_25 : decode cX0_repeatsBy 25 = .ok (.iconst 0, 1) := by decide +kernel
theorem dX0_repeatsBy_26 : decode cX0_repeatsBy 26 = .ok (.ireturn, 1) := by decide +kernel
theorem dX0_repeatsBy_27 : decode cX0_repeatsBy 27 = .ok (.iinc 2 1, 3) := by decide +kernel
theorem dX0_repeatsBy_30 : decode cX0_repeatsBy 30 = .ok (.goto (-28), 3) := by decide +kernel
theorem dX0_repeatsBy_33 : decode cX0_repeatsBy 33 = .ok (.iconst 1, 1) := by decide +kernel
theorem dX0_repeatsBy_34 : decode cX0_repeatsBy 34 = .ok (.ireturn, 1) := by decide +kernel
set_option maxRecDepth 20000 in
theorem ggX0_powerSeen_X0_seenBy : GoodIn wsX0_powerSeen wsX0_seenBy := goodIn_r _ [5, 6, 7, 8, 9, 4, 10, 11, 12, 13, 14, 15, 16, 17, 18, 19, 20, 21, 22, 23] (by decide +kernel) (by decide +kernel)
set_option maxRecDepth 20000 in
theorem gX0_powerSeen_X0_seenBy : GoodIn wsX0_powerSeen (wsV RX0 107 RX0 yX0_seenBy wsX0_seenBy) := goodIn_app (goodIn_of _ (by decide +kernel)) ggX0_powerSeen_X0_seenBy
theorem dX0_powerSeen_0 : decode cX0_powerSeen 0 = .ok (.iconst 0, 1) := by decide +kernel
theorem dX0_powerSeen_1 : decode cX0_powerSeen 1 = .ok (.istore_n 1, 1) := by decide +kernel
theorem dX0_powerSeen_2 : decode cX0_powerSeen 2 = .ok (.iconst 0, 1) := by decide +kernel
theorem dX0_powerSeen_3 : decode cX0_powerSeen 3 = .ok (.istore_n 2, 1) := by decide +kernel
theorem dX0_powerSeen_4 : decode cX0_powerSeen 4 = .ok (.iload_n 2, 1) := by decide +kernel
theorem dX0_powerSeen_5 : decode cX0_powerSeen 5 = .ok (.bipush 8, 2) := by decide +kernel
theorem dX0_powerSeen_7 : decode cX0_powerSeen 7 = .ok (.if_icmp .ge 21, 3) := by decide +kernel
theorem dX0_powerSeen_10 : decode cX0_powerSeen 10 = .ok (.aload_n 0, 1) := by decide +kernel
theorem dX0_powerSeen_11 : decode cX0_powerSeen 11 = .ok (.iload_n 2, 1) := by decide +kernel
theorem dX0_powerSeen_12 : decode cX0_powerSeen 12 = .ok (.invokevirtual 107, 3) := by decide +kernel
theorem dX0_powerSeen_15 : decode cX0_powerSeen 15 = .ok (.istore_n 3, 1) := by decide +kernel
theorem dX0_powerSeen_16 : decode cX0_powerSeen 16 = .ok (.iload_n 1, 1) := by decide +kernel
theorem dX0_powerSeen_17 : decode cX0_powerSeen 17 = .ok (.iload_n 3, 1) := by decide +kernel
theorem dX0_powerSeen_18 : decode cX0_powerSeen 18 = .ok (.iload_n 3, 1) := by decide +kernel
theorem dX0_powerSeen_19 : decode cX0_powerSeen 19 = .ok (.imul, 1) := by decide +kernel
theorem dX0_powerSeen_20 : decode cX0_powerSeen 20 = .ok (.iadd, 1) := by decide +kernel
theorem dX0_powerSeen_21 : decode cX0_powerSeen 21 = .ok (.istore_n 1, 1) := by decide +kernel
theorem dX0_powerSeen_22 : decode cX0_powerSeen 22 = .ok (.iinc 2 1, 3) := by decide +kernel
theorem dX0_powerSeen_25 : decode cX0_powerSeen 25 = .ok (.goto (-21), 3) := by decide +kernel
theorem dX0_powerSeen_28 : decode cX0_powerSeen 28 = .ok (.iload_n 1, 1) := by decide +kernel
theorem dX0_powerSeen_29 : decode cX0_powerSeen 29 = .ok (.ireturn, 1) := by decide +kernel
set_option maxRecDepth 20000 in
theorem ggX0_learn_X0_seenBy : GoodIn wsX0_learn wsX0_seenBy := goodIn_r _ [16, 1, 17, 18, 19, 15, 20, 21, 22, 23, 24, 25, 26, 27, 28, 29, 30, 31, 32, 33] (by decide +kernel) (by decide +kernel)
set_option maxRecDepth 20000 in
theorem gX0_learn_X0_seenBy : GoodIn wsX0_learn (wsV RX0 107 RX0 yX0_seenBy wsX0_seenBy) := goodIn_app (goodIn_of _ (by decide +kernel)) ggX0_learn_X0_seenBy
theorem dX0_learn_0 : decode cX0_learn 0 = .ok (.iload_n 2, 1) := by decide +kernel
theorem dX0_learn_1 : decode cX0_learn 1 = .ok (.ifCond .gt 4, 3) := by decide +kernel
theorem dX0_learn_4 : decode cX0_learn 4 = .ok (.return_, 1) := by decide +kernel
theorem dX0_learn_5 : decode cX0_learn 5 = .ok (.aload_n 0, 1) := by decide +kernel
theorem dX0_learn_6 : decode cX0_learn 6 = .ok (.getfield 18, 3) := by decide +kernel
theorem dX0_learn_9 : decode cX0_learn 9 = .ok (.iconst 0, 1) := by decide +kernel
theorem dX0_learn_10 : decode cX0_learn 10 = .ok (.iaload, 1) := by decide +kernel
theorem dX0_learn_11 : decode cX0_learn 11 = .ok (.i2l, 1) := by decide +kernel
theorem dX0_learn_12 : decode cX0_learn 12 = .ok (.iload_n 1, 1) := by decide +kernel
theorem dX0_learn_13 : decode cX0_learn 13 = .ok (.i2l, 1) := by decide +kernel
theorem dX0_learn_14 : decode cX0_learn 14 = .ok (.lmul, 1) := by decide +kernel
theorem dX0_learn_15 : decode cX0_learn 15 = .ok (.lstore_n 3, 1) := by decide +kernel
theorem dX0_learn_16 : decode cX0_learn 16 = .ok (.iconst 0, 1) := by decide +kernel
theorem dX0_learn_17 : decode cX0_learn 17 = .ok (.istore 5, 2) := by decide +kernel
theorem dX0_learn_19 : decode cX0_learn 19 = .ok (.iload 5, 2) := by decide +kernel
theorem dX0_learn_21 : decode cX0_learn 21 = .ok (.bipush 8, 2) := by decide +kernel
theorem dX0_learn_23 : decode cX0_learn 23 = .ok (.if_icmp .ge 54, 3) := by decide +kernel
theorem dX0_learn_26 : decode cX0_learn 26 = .ok (.lload_n 3, 1) := by decide +kernel
theorem dX0_learn_27 : decode cX0_learn 27 = .ok (.aload_n 0, 1) := by decide +kernel
theorem dX0_learn_28 : decode cX0_learn 28 = .ok (.iload 5, 2) := by decide +kernel
theorem dX0_learn_30 : decode cX0_learn 30 = .ok (.invokevirtual 107, 3) := by decide +kernel
theorem dX0_learn_33 : decode cX0_learn 33 = .ok (.i2l, 1) := by decide +kernel
theorem dX0_learn_34 : decode cX0_learn 34 = .ok (.lmul, 1) := by decide +kernel
theorem dX0_learn_35 : decode cX0_learn 35 = .ok (.iload_n 2, 1) := by decide +kernel
theorem dX0_learn_36 : decode cX0_learn 36 = .ok (.i2l, 1) := by decide +kernel
theorem dX0_learn_37 : decode cX0_learn 37 = .ok (.ldiv, 1) := by decide +kernel
theorem dX0_learn_38 : decode cX0_learn 38 = .ok (.lstore 6, 2) := by decide +kernel
theorem dX0_learn_40 : decode cX0_learn 40 = .ok (.aload_n 0, 1) := by decide +kernel
theorem dX0_learn_41 : decode cX0_learn 41 = .ok (.getfield 23, 3) := by decide +kernel
theorem dX0_learn_44 : decode cX0_learn 44 = .ok (.iload 5, 2) := by decide +kernel
theorem dX0_learn_46 : decode cX0_learn 46 = .ok (.ldc2_w 122, 3) := by decide +kernel
theorem dX0_learn_49 : decode cX0_learn 49 = .ok (.ldc2_w 124, 3) := by decide +kernel
theorem dX0_learn_52 : decode cX0_learn 52 = .ok (.aload_n 0, 1) := by decide +kernel
theorem dX0_learn_53 : decode cX0_learn 53 = .ok (.getfield 23, 3) := by decide +kernel
theorem dX0_learn_56 : decode cX0_learn 56 = .ok (.iload 5, 2) := by decide +kernel
theorem dX0_learn_58 : decode cX0_learn 58 = .ok (.iaload, 1) := by decide +kernel
theorem dX0_learn_59 : decode cX0_learn 59 = .ok (.i2l, 1) := by decide +kernel
theorem dX0_learn_60 : decode cX0_learn 60 = .ok (.lload 6, 2) := by decide +kernel
theorem dX0_learn_62 : decode cX0_learn 62 = .ok (.ladd, 1) := by decide +kernel
theorem dX0_learn_63 : decode cX0_learn 63 = .ok (.invokestatic 126, 3) := by decide +kernel
theorem dX0_learn_66 : decode cX0_learn 66 = .ok (.invokestatic 130, 3) := by decide +kernel
theorem dX0_learn_69 : decode cX0_learn 69 = .ok (.l2i, 1) := by decide +kernel
theorem dX0_learn_70 : decode cX0_learn 70 = .ok (.iastore, 1) := by decide +kernel
theorem dX0_learn_71 : decode cX0_learn 71 = .ok (.iinc 5 1, 3) := by decide +kernel
theorem dX0_learn_74 : decode cX0_learn 74 = .ok (.goto (-55), 3) := by decide +kernel
theorem dX0_learn_77 : decode cX0_learn 77 = .ok (.return_, 1) := by decide +kernel
set_option maxRecDepth 20000 in
theorem ggX0_softened_X1_limited : GoodIn wsX0_softened wsX1_limited := goodIn_r _ [9, 10, 11, 3, 12, 13, 14, 15] (by decide +kernel) (by decide +kernel)
set_option maxRecDepth 20000 in
theorem gX0_softened_X1_limited_n97 : GoodIn wsX0_softened (wsX1_limited) := ggX0_softened_X1_limited
set_option maxRecDepth 20000 in
theorem ggX0_softened_X1_nextSeed : GoodIn wsX0_softened wsX1_nextSeed := goodIn_r _ [17, 18] (by decide +kernel) (by decide +kernel)
set_option maxRecDepth 20000 in
theorem gX0_softened_X1_nextSeed_n132 : GoodIn wsX0_softened (wsX1_nextSeed) := ggX0_softened_X1_nextSeed
set_option maxRecDepth 20000 in
theorem ggX0_softened_X1_centred : GoodIn wsX0_softened wsX1_centred := goodIn_r _ [20] (by decide +kernel) (by decide +kernel)
set_option maxRecDepth 20000 in
theorem gX0_softened_X1_centred_n135 : GoodIn wsX0_softened (wsX1_centred) := ggX0_softened_X1_centred
theorem dX0_softened_0 : decode cX0_softened 0 = .ok (.iload_n 1, 1) := by decide +kernel
theorem dX0_softened_1 : decode cX0_softened 1 = .ok (.invokestatic 67, 3) := by decide +kernel
theorem dX0_softened_4 : decode cX0_softened 4 = .ok (.aload_n 0, 1) := by decide +kernel
theorem dX0_softened_5 : decode cX0_softened 5 = .ok (.getfield 18, 3) := by decide +kernel
theorem dX0_softened_8 : decode cX0_softened 8 = .ok (.iconst 2, 1) := by decide +kernel
theorem dX0_softened_9 : decode cX0_softened 9 = .ok (.iaload, 1) := by decide +kernel
theorem dX0_softened_10 : decode cX0_softened 10 = .ok (.if_icmp .lt 14, 3) := by decide +kernel
theorem dX0_softened_13 : decode cX0_softened 13 = .ok (.iload_n 1, 1) := by decide +kernel
theorem dX0_softened_14 : decode cX0_softened 14 = .ok (.sipush (-2000), 3) := by decide +kernel
theorem dX0_softened_17 : decode cX0_softened 17 = .ok (.sipush 2000, 3) := by decide +kernel
theorem dX0_softened_20 : decode cX0_softened 20 = .ok (.invokestatic 97, 3) := by decide +kernel
theorem dX0_softened_23 : decode cX0_softened 23 = .ok (.ireturn, 1) := by decide +kernel
theorem dX0_softened_24 : decode cX0_softened 24 = .ok (.aload_n 0, 1) := by decide +kernel
theorem dX0_softened_25 : decode cX0_softened 25 = .ok (.aload_n 0, 1) := by decide +kernel
theorem dX0_softened_26 : decode cX0_softened 26 = .ok (.getfield 57, 3) := by decide +kernel
theorem dX0_softened_29 : decode cX0_softened 29 = .ok (.invokestatic 132, 3) := by decide +kernel
theorem dX0_softened_32 : decode cX0_softened 32 = .ok (.putfield 57, 3) := by decide +kernel
theorem dX0_softened_35 : decode cX0_softened 35 = .ok (.aload_n 0, 1) := by decide +kernel
theorem dX0_softened_36 : decode cX0_softened 36 = .ok (.getfield 57, 3) := by decide +kernel
theorem dX0_softened_39 : decode cX0_softened 39 = .ok (.aload_n 0, 1) := by decide +kernel
theorem dX0_softened_40 : decode cX0_softened 40 = .ok (.getfield 18, 3) := by decide +kernel
theorem dX0_softened_43 : decode cX0_softened 43 = .ok (.iconst 3, 1) := by decide +kernel
theorem dX0_softened_44 : decode cX0_softened 44 = .ok (.iaload, 1) := by decide +kernel
theorem dX0_softened_45 : decode cX0_softened 45 = .ok (.invokestatic 135, 3) := by decide +kernel
theorem dX0_softened_48 : decode cX0_softened 48 = .ok (.ireturn, 1) := by decide +kernel
set_option maxRecDepth 20000 in
theorem ggX0_likenessOf_X0_nearAgo : GoodIn wsX0_likenessOf wsX0_nearAgo := goodIn_r _ [5, 6, 7, 13, 14, 15, 16, 17, 18, 19, 20, 21, 22, 23] (by decide +kernel) (by decide +kernel)
set_option maxRecDepth 20000 in
theorem gX0_likenessOf_X0_nearAgo : GoodIn wsX0_likenessOf (wsV RX0 138 RX0 yX0_nearAgo wsX0_nearAgo) := goodIn_app (goodIn_of _ (by decide +kernel)) ggX0_likenessOf_X0_nearAgo
set_option maxRecDepth 20000 in
theorem ggX0_likenessOf_X0_farAgo : GoodIn wsX0_likenessOf wsX0_farAgo := goodIn_r _ [11, 12, 7, 13, 14, 15, 16, 17, 18, 19, 20, 21, 22, 23] (by decide +kernel) (by decide +kernel)
set_option maxRecDepth 20000 in
theorem gX0_likenessOf_X0_farAgo : GoodIn wsX0_likenessOf (wsV RX0 104 RX0 yX0_farAgo wsX0_farAgo) := goodIn_app (goodIn_of _ (by decide +kernel)) ggX0_likenessOf_X0_farAgo
theorem dX0_likenessOf_0 : decode cX0_likenessOf 0 = .ok (.iconst 0, 1) := by decide +kernel
theorem dX0_likenessOf_1 : decode cX0_likenessOf 1 = .ok (.istore_n 2, 1) := by decide +kernel
theorem dX0_likenessOf_2 : decode cX0_likenessOf 2 = .ok (.iconst 0, 1) := by decide +kernel
theorem dX0_likenessOf_3 : decode cX0_likenessOf 3 = .ok (.istore_n 3, 1) := by decide +kernel
theorem dX0_likenessOf_4 : decode cX0_likenessOf 4 = .ok (.iload_n 3, 1) := by decide +kernel
theorem dX0_likenessOf_5 : decode cX0_likenessOf 5 = .ok (.bipush 24, 2) := by decide +kernel
theorem dX0_likenessOf_7 : decode cX0_likenessOf 7 = .ok (.if_icmp .ge 25, 3) := by decide +kernel
theorem dX0_likenessOf_10 : decode cX0_likenessOf 10 = .ok (.iload_n 2, 1) := by decide +kernel
theorem dX0_likenessOf_11 : decode cX0_likenessOf 11 = .ok (.aload_n 0, 1) := by decide +kernel
theorem dX0_likenessOf_12 : decode cX0_likenessOf 12 = .ok (.iload_n 3, 1) := by decide +kernel
theorem dX0_likenessOf_13 : decode cX0_likenessOf 13 = .ok (.invokevirtual 138, 3) := by decide +kernel
theorem dX0_likenessOf_16 : decode cX0_likenessOf 16 = .ok (.aload_n 0, 1) := by decide +kernel
theorem dX0_likenessOf_17 : decode cX0_likenessOf 17 = .ok (.iload_n 3, 1) := by decide +kernel
theorem dX0_likenessOf_18 : decode cX0_likenessOf 18 = .ok (.iload_n 1, 1) := by decide +kernel
theorem dX0_likenessOf_19 : decode cX0_likenessOf 19 = .ok (.iadd, 1) := by decide +kernel
theorem dX0_likenessOf_20 : decode cX0_likenessOf 20 = .ok (.invokevirtual 104, 3) := by decide +kernel
theorem dX0_likenessOf_23 : decode cX0_likenessOf 23 = .ok (.imul, 1) := by decide +kernel
theorem dX0_likenessOf_24 : decode cX0_likenessOf 24 = .ok (.iadd, 1) := by decide +kernel
theorem dX0_likenessOf_25 : decode cX0_likenessOf 25 = .ok (.istore_n 2, 1) := by decide +kernel
theorem dX0_likenessOf_26 : decode cX0_likenessOf 26 = .ok (.iinc 3 1, 3) := by decide +kernel
theorem dX0_likenessOf_29 : decode cX0_likenessOf 29 = .ok (.goto (-25), 3) := by decide +kernel
theorem dX0_likenessOf_32 : decode cX0_likenessOf 32 = .ok (.iload_n 2, 1) := by decide +kernel
theorem dX0_likenessOf_33 : decode cX0_likenessOf 33 = .ok (.ireturn, 1) := by decide +kernel
theorem dX0_startAnew_0 : decode cX0_startAnew 0 = .ok (.aload_n 0, 1) := by decide +kernel
theorem dX0_startAnew_1 : decode cX0_startAnew 1 = .ok (.getfield 18, 3) := by decide +kernel
theorem dX0_startAnew_4 : decode cX0_startAnew 4 = .ok (.iconst 4, 1) := by decide +kernel
theorem dX0_startAnew_5 : decode cX0_startAnew 5 = .ok (.iload_n 1, 1) := by decide +kernel
theorem dX0_startAnew_6 : decode cX0_startAnew 6 = .ok (.iastore, 1) := by decide +kernel
theorem dX0_startAnew_7 : decode cX0_startAnew 7 = .ok (.iconst 0, 1) := by decide +kernel
theorem dX0_startAnew_8 : decode cX0_startAnew 8 = .ok (.istore_n 2, 1) := by decide +kernel
theorem dX0_startAnew_9 : decode cX0_startAnew 9 = .ok (.iload_n 2, 1) := by decide +kernel
theorem dX0_startAnew_10 : decode cX0_startAnew 10 = .ok (.bipush 8, 2) := by decide +kernel
theorem dX0_startAnew_12 : decode cX0_startAnew 12 = .ok (.if_icmp .ge 16, 3) := by decide +kernel
theorem dX0_startAnew_15 : decode cX0_startAnew 15 = .ok (.aload_n 0, 1) := by decide +kernel
theorem dX0_startAnew_16 : decode cX0_startAnew 16 = .ok (.getfield 23, 3) := by decide +kernel
theorem dX0_startAnew_19 : decode cX0_startAnew 19 = .ok (.iload_n 2, 1) := by decide +kernel
theorem dX0_startAnew_20 : decode cX0_startAnew 20 = .ok (.iconst 0, 1) := by decide +kernel
theorem dX0_startAnew_21 : decode cX0_startAnew 21 = .ok (.iastore, 1) := by decide +kernel
theorem dX0_startAnew_22 : decode cX0_startAnew 22 = .ok (.iinc 2 1, 3) := by decide +kernel
theorem dX0_startAnew_25 : decode cX0_startAnew 25 = .ok (.goto (-16), 3) := by decide +kernel
theorem dX0_startAnew_28 : decode cX0_startAnew 28 = .ok (.return_, 1) := by decide +kernel
set_option maxRecDepth 20000 in
theorem ggX0_nearSquares_X0_nearAgo : GoodIn wsX0_nearSquares wsX0_nearAgo := goodIn_r _ [5, 6, 7, 8, 9, 10, 11, 12, 13, 14, 15, 16, 17, 18] (by decide +kernel) (by decide +kernel)
set_option maxRecDepth 20000 in
theorem gX0_nearSquares_X0_nearAgo : GoodIn wsX0_nearSquares (wsV RX0 138 RX0 yX0_nearAgo wsX0_nearAgo) := goodIn_app (goodIn_of _ (by decide +kernel)) ggX0_nearSquares_X0_nearAgo
theorem dX0_nearSquares_0 : decode cX0_nearSquares 0 = .ok (.iconst 0, 1) := by decide +kernel
theorem dX0_nearSquares_1 : decode cX0_nearSquares 1 = .ok (.istore_n 1, 1) := by decide +kernel
theorem dX0_nearSquares_2 : decode cX0_nearSquares 2 = .ok (.iconst 0, 1) := by decide +kernel
theorem dX0_nearSquares_3 : decode cX0_nearSquares 3 = .ok (.istore_n 2, 1) := by decide +kernel
theorem dX0_nearSquares_4 : decode cX0_nearSquares 4 = .ok (.iload_n 2, 1) := by decide +kernel
theorem dX0_nearSquares_5 : decode cX0_nearSquares 5 = .ok (.bipush 32, 2) := by decide +kernel
theorem dX0_nearSquares_7 : decode cX0_nearSquares 7 = .ok (.if_icmp .ge 23, 3) := by decide +kernel
theorem dX0_nearSquares_10 : decode cX0_nearSquares 10 = .ok (.iload_n 1, 1) := by decide +kernel
theorem dX0_nearSquares_11 : decode cX0_nearSquares 11 = .ok (.aload_n 0, 1) := by decide +kernel
theorem dX0_nearSquares_12 : decode cX0_nearSquares 12 = .ok (.iload_n 2, 1) := by decide +kernel
theorem dX0_nearSquares_13 : decode cX0_nearSquares 13 = .ok (.invokevirtual 138, 3) := by decide +kernel
theorem dX0_nearSquares_16 : decode cX0_nearSquares 16 = .ok (.aload_n 0, 1) := by decide +kernel
theorem dX0_nearSquares_17 : decode cX0_nearSquares 17 = .ok (.iload_n 2, 1) := by decide +kernel
theorem dX0_nearSquares_18 : decode cX0_nearSquares 18 = .ok (.invokevirtual 138, 3) := by decide +kernel
theorem dX0_nearSquares_21 : decode cX0_nearSquares 21 = .ok (.imul, 1) := by decide +kernel
theorem dX0_nearSquares_22 : decode cX0_nearSquares 22 = .ok (.iadd, 1) := by decide +kernel
theorem dX0_nearSquares_23 : decode cX0_nearSquares 23 = .ok (.istore_n 1, 1) := by decide +kernel
theorem dX0_nearSquares_24 : decode cX0_nearSquares 24 = .ok (.iinc 2 1, 3) := by decide +kernel
theorem dX0_nearSquares_27 : decode cX0_nearSquares 27 = .ok (.goto (-23), 3) := by decide +kernel
theorem dX0_nearSquares_30 : decode cX0_nearSquares 30 = .ok (.iload_n 1, 1) := by decide +kernel
theorem dX0_nearSquares_31 : decode cX0_nearSquares 31 = .ok (.ireturn, 1) := by decide +kernel
set_option maxRecDepth 20000 in
theorem ggX0_outSquares_X0_outAgo : GoodIn wsX0_outSquares wsX0_outAgo := goodIn_r _ [5, 6, 7, 8, 9, 10, 11, 12, 13, 14, 15, 16, 17, 18] (by decide +kernel) (by decide +kernel)
set_option maxRecDepth 20000 in
theorem gX0_outSquares_X0_outAgo : GoodIn wsX0_outSquares (wsV RX0 141 RX0 yX0_outAgo wsX0_outAgo) := goodIn_app (goodIn_of _ (by decide +kernel)) ggX0_outSquares_X0_outAgo
theorem dX0_outSquares_0 : decode cX0_outSquares 0 = .ok (.iconst 0, 1) := by decide +kernel
theorem dX0_outSquares_1 : decode cX0_outSquares 1 = .ok (.istore_n 1, 1) := by decide +kernel
theorem dX0_outSquares_2 : decode cX0_outSquares 2 = .ok (.iconst 0, 1) := by decide +kernel
theorem dX0_outSquares_3 : decode cX0_outSquares 3 = .ok (.istore_n 2, 1) := by decide +kernel
theorem dX0_outSquares_4 : decode cX0_outSquares 4 = .ok (.iload_n 2, 1) := by decide +kernel
theorem dX0_outSquares_5 : decode cX0_outSquares 5 = .ok (.bipush 32, 2) := by decide +kernel
theorem dX0_outSquares_7 : decode cX0_outSquares 7 = .ok (.if_icmp .ge 23, 3) := by decide +kernel
theorem dX0_outSquares_10 : decode cX0_outSquares 10 = .ok (.iload_n 1, 1) := by decide +kernel
theorem dX0_outSquares_11 : decode cX0_outSquares 11 = .ok (.aload_n 0, 1) := by decide +kernel
theorem dX0_outSquares_12 : decode cX0_outSquares 12 = .ok (.iload_n 2, 1) := by decide +kernel
theorem dX0_outSquares_13 : decode cX0_outSquares 13 = .ok (.invokevirtual 141, 3) := by decide +kernel
theorem dX0_outSquares_16 : decode cX0_outSquares 16 = .ok (.aload_n 0, 1) := by decide +kernel
theorem dX0_outSquares_17 : decode cX0_outSquares 17 = .ok (.iload_n 2, 1) := by decide +kernel
theorem dX0_outSquares_18 : decode cX0_outSquares 18 = .ok (.invokevirtual 141, 3) := by decide +kernel
theorem dX0_outSquares_21 : decode cX0_outSquares 21 = .ok (.imul, 1) := by decide +kernel
theorem dX0_outSquares_22 : decode cX0_outSquares 22 = .ok (.iadd, 1) := by decide +kernel
theorem dX0_outSquares_23 : decode cX0_outSquares 23 = .ok (.istore_n 1, 1) := by decide +kernel
theorem dX0_outSquares_24 : decode cX0_outSquares 24 = .ok (.iinc 2 1, 3) := by decide +kernel
theorem dX0_outSquares_27 : decode cX0_outSquares 27 = .ok (.goto (-23), 3) := by decide +kernel
theorem dX0_outSquares_30 : decode cX0_outSquares 30 = .ok (.iload_n 1, 1) := by decide +kernel
theorem dX0_outSquares_31 : decode cX0_outSquares 31 = .ok (.ireturn, 1) := by decide +kernel
set_option maxRecDepth 20000 in
theorem ggX0_beginning_X0_beginsAt : GoodIn wsX0_beginning wsX0_beginsAt := goodIn_r _ [6, 7, 8, 9, 10, 11, 12, 13, 14, 15, 16, 17, 18] (by decide +kernel) (by decide +kernel)
set_option maxRecDepth 20000 in
theorem gX0_beginning_X0_beginsAt : GoodIn wsX0_beginning (wsV RX0 144 RX0 yX0_beginsAt wsX0_beginsAt) := goodIn_app (goodIn_of _ (by decide +kernel)) ggX0_beginning_X0_beginsAt
theorem dX0_beginning_0 : decode cX0_beginning 0 = .ok (.iconst 0, 1) := by decide +kernel
theorem dX0_beginning_1 : decode cX0_beginning 1 = .ok (.istore_n 3, 1) := by decide +kernel
theorem dX0_beginning_2 : decode cX0_beginning 2 = .ok (.sipush 199, 3) := by decide +kernel
theorem dX0_beginning_5 : decode cX0_beginning 5 = .ok (.istore 4, 2) := by decide +kernel
theorem dX0_beginning_7 : decode cX0_beginning 7 = .ok (.iload 4, 2) := by decide +kernel
theorem dX0_beginning_9 : decode cX0_beginning 9 = .ok (.ifCond .lt 49, 3) := by decide +kernel
theorem dX0_beginning_12 : decode cX0_beginning 12 = .ok (.iload 4, 2) := by decide +kernel
theorem dX0_beginning_14 : decode cX0_beginning 14 = .ok (.aload_n 0, 1) := by decide +kernel
theorem dX0_beginning_15 : decode cX0_beginning 15 = .ok (.getfield 50, 3) := by decide +kernel
theorem dX0_beginning_18 : decode cX0_beginning 18 = .ok (.if_icmp .ge 34, 3) := by decide +kernel
theorem dX0_beginning_21 : decode cX0_beginning 21 = .ok (.aload_n 0, 1) := by decide +kernel
theorem dX0_beginning_22 : decode cX0_beginning 22 = .ok (.aload_n 0, 1) := by decide +kernel
theorem dX0_beginning_23 : decode cX0_beginning 23 = .ok (.getfield 50, 3) := by decide +kernel
theorem dX0_beginning_26 : decode cX0_beginning 26 = .ok (.iload 4, 2) := by decide +kernel
theorem dX0_beginning_28 : decode cX0_beginning 28 = .ok (.isub, 1) := by decide +kernel
theorem dX0_beginning_29 : decode cX0_beginning 29 = .ok (.iload_n 2, 1) := by decide +kernel
theorem dX0_beginning_30 : decode cX0_beginning 30 = .ok (.invokevirtual 144, 3) := by decide +kernel
theorem dX0_beginning_33 : decode cX0_beginning 33 = .ok (.ifCond .eq 19, 3) := by decide +kernel
theorem dX0_beginning_36 : decode cX0_beginning 36 = .ok (.iload_n 3, 1) := by decide +kernel
theorem dX0_beginning_37 : decode cX0_beginning 37 = .ok (.iload_n 1, 1) := by decide +kernel
theorem dX0_beginning_38 : decode cX0_beginning 38 = .ok (.if_icmp .ne 11, 3) := by decide +kernel
theorem dX0_beginning_41 : decode cX0_beginning 41 = .ok (.aload_n 0, 1) := by decide +kernel
theorem dX0_beginning_42 : decode cX0_beginning 42 = .ok (.getfield 50, 3) := by decide +kernel
theorem dX0_beginning_45 : decode cX0_beginning 45 = .ok (.iload 4, 2) := by decide +kernel
theorem dX0_beginning_47 : decode cX0_beginning 47 = .ok (.isub, 1) := by decide +kernel
theorem dX0_beginning_48 : decode cX0_beginning 48 = .ok (.ireturn, 1) := by decide +kernel
theorem dX0_beginning_49 : decode cX0_beginning 49 = .ok (.iinc 3 1, 3) := by decide +kernel
theorem dX0_beginning_52 : decode cX0_beginning 52 = .ok (.iinc 4 (-1), 3) := by decide +kernel
theorem dX0_beginning_55 : decode cX0_beginning 55 = .ok (.goto (-48), 3) := by decide +kernel
theorem dX0_beginning_58 : decode cX0_beginning 58 = .ok (.iload_n 1, 1) := by decide +kernel
theorem dX0_beginning_59 : decode cX0_beginning 59 = .ok (.iconst (-1), 1) := by decide +kernel
theorem dX0_beginning_60 : decode cX0_beginning 60 = .ok (.if_icmp .ne 7, 3) := by decide +kernel
theorem dX0_beginning_63 : decode cX0_beginning 63 = .ok (.iload_n 3, 1) := by decide +kernel
theorem dX0_beginning_64 : decode cX0_beginning 64 = .ok (.goto 5, 3) := by decide +kernel
theorem dX0_beginning_67 : decode cX0_beginning 67 = .ok (.bipush (-6), 2) := by decide +kernel
theorem dX0_beginning_69 : decode cX0_beginning 69 = .ok (.ireturn, 1) := by decide +kernel
theorem dX0_beginsAt_0 : decode cX0_beginsAt 0 = .ok (.aload_n 0, 1) := by decide +kernel
theorem dX0_beginsAt_1 : decode cX0_beginsAt 1 = .ok (.getfield 38, 3) := by decide +kernel
theorem dX0_beginsAt_4 : decode cX0_beginsAt 4 = .ok (.iload_n 1, 1) := by decide +kernel
theorem dX0_beginsAt_5 : decode cX0_beginsAt 5 = .ok (.sipush 255, 3) := by decide +kernel
theorem dX0_beginsAt_8 : decode cX0_beginsAt 8 = .ok (.iand, 1) := by decide +kernel
theorem dX0_beginsAt_9 : decode cX0_beginsAt 9 = .ok (.iaload, 1) := by decide +kernel
theorem dX0_beginsAt_10 : decode cX0_beginsAt 10 = .ok (.iload_n 2, 1) := by decide +kernel
theorem dX0_beginsAt_11 : decode cX0_beginsAt 11 = .ok (.iand, 1) := by decide +kernel
theorem dX0_beginsAt_12 : decode cX0_beginsAt 12 = .ok (.ifCond .eq 24, 3) := by decide +kernel
theorem dX0_beginsAt_15 : decode cX0_beginsAt 15 = .ok (.aload_n 0, 1) := by decide +kernel
theorem dX0_beginsAt_16 : decode cX0_beginsAt 16 = .ok (.getfield 38, 3) := by decide +kernel
theorem dX0_beginsAt_19 : decode cX0_beginsAt 19 = .ok (.iload_n 1, 1) := by decide +kernel
theorem dX0_beginsAt_20 : decode cX0_beginsAt 20 = .ok (.iconst 1, 1) := by decide +kernel
theorem dX0_beginsAt_21 : decode cX0_beginsAt 21 = .ok (.isub, 1) := by decide +kernel
theorem dX0_beginsAt_22 : decode cX0_beginsAt 22 = .ok (.sipush 255, 3) := by decide +kernel
theorem dX0_beginsAt_25 : decode cX0_beginsAt 25 = .ok (.iand, 1) := by decide +kernel
theorem dX0_beginsAt_26 : decode cX0_beginsAt 26 = .ok (.iaload, 1) := by decide +kernel
theorem dX0_beginsAt_27 : decode cX0_beginsAt 27 = .ok (.iload_n 2, 1) := by decide +kernel
theorem dX0_beginsAt_28 : decode cX0_beginsAt 28 = .ok (.iand, 1) := by decide +kernel
theorem dX0_beginsAt_29 : decode cX0_beginsAt 29 = .ok (.ifCond .ne 7, 3) := by decide +kernel
theorem dX0_beginsAt_32 : decode cX0_beginsAt 32 = .ok (.iconst 1, 1) := by decide +kernel
theorem dX0_beginsAt_33 : decode cX0_beginsAt 33 = .ok (.goto 4, 3) := by decide +kernel
theorem dX0_beginsAt_36 : decode cX0_beginsAt 36 = .ok (.iconst 0, 1) := by decide +kernel
theorem dX0_beginsAt_37 : decode cX0_beginsAt 37 = .ok (.ireturn, 1) := by decide +kernel
theorem dX0_tapSizes_0 : decode cX0_tapSizes 0 = .ok (.iconst 0, 1) := by decide +kernel
theorem dX0_tapSizes_1 : decode cX0_tapSizes 1 = .ok (.istore_n 1, 1) := by decide +kernel
theorem dX0_tapSizes_2 : decode cX0_tapSizes 2 = .ok (.iconst 0, 1) := by decide +kernel
theorem dX0_tapSizes_3 : decode cX0_tapSizes 3 = .ok (.istore_n 2, 1) := by decide +kernel
theorem dX0_tapSizes_4 : decode cX0_tapSizes 4 = .ok (.iload_n 2, 1) := by decide +kernel
theorem dX0_tapSizes_5 : decode cX0_tapSizes 5 = .ok (.bipush 8, 2) := by decide +kernel
theorem dX0_tapSizes_7 : decode cX0_tapSizes 7 = .ok (.if_icmp .ge 21, 3) := by decide +kernel
theorem dX0_tapSizes_10 : decode cX0_tapSizes 10 = .ok (.iload_n 1, 1) := by decide +kernel
theorem dX0_tapSizes_11 : decode cX0_tapSizes 11 = .ok (.aload_n 0, 1) := by decide +kernel
theorem dX0_tapSizes_12 : decode cX0_tapSizes 12 = .ok (.getfield 23, 3) := by decide +kernel
theorem dX0_tapSizes_15 : decode cX0_tapSizes 15 = .ok (.iload_n 2, 1) := by decide +kernel
theorem dX0_tapSizes_16 : decode cX0_tapSizes 16 = .ok (.iaload, 1) := by decide +kernel
theorem dX0_tapSizes_17 : decode cX0_tapSizes 17 = .ok (.invokestatic 67, 3) := by decide +kernel
theorem dX0_tapSizes_20 : decode cX0_tapSizes 20 = .ok (.iadd, 1) := by decide +kernel
theorem dX0_tapSizes_21 : decode cX0_tapSizes 21 = .ok (.istore_n 1, 1) := by decide +kernel
theorem dX0_tapSizes_22 : decode cX0_tapSizes 22 = .ok (.iinc 2 1, 3) := by decide +kernel
theorem dX0_tapSizes_25 : decode cX0_tapSizes 25 = .ok (.goto (-21), 3) := by decide +kernel
theorem dX0_tapSizes_28 : decode cX0_tapSizes 28 = .ok (.iload_n 1, 1) := by decide +kernel
theorem dX0_tapSizes_29 : decode cX0_tapSizes 29 = .ok (.ireturn, 1) := by decide +kernel
set_option maxRecDepth 20000 in
theorem ggX1_init_X0_init : GoodIn wsX1_init wsX0_init := goodIn_r _ [12, 13, 2, 3, 14, 15, 16, 17, 18, 19, 20, 21, 22, 23, 24, 25, 26, 27, 28, 29, 30, 31, 32, 33, 34, 35, 36, 37, 38, 39] (by decide +kernel) (by decide +kernel)
set_option maxRecDepth 20000 in
theorem gX1_init_X0_init : GoodIn wsX1_init (wsX0_init) := ggX1_init_X0_init
end
section
theorem dX1_init_0 : decode cX1_init 0 = .ok (.aload_n 0, 1) := by decide +kernel
theorem dX1_init_1 : decode cX1_init 1 = .ok (.invokespecial 3, 3) := by decide +kernel
theorem dX1_init_4 : decode cX1_init 4 = .ok (.aload_n 0, 1) := by decide +kernel
theorem dX1_init_5 : decode cX1_init 5 = .ok (.new 9, 3) := by decide +kernel
theorem dX1_init_8 : decode cX1_init 8 = .ok (.dup, 1) := by decide +kernel
theorem dX1_init_9 : decode cX1_init 9 = .ok (.invokespecial 11, 3) := by decide +kernel
theorem dX1_init_12 : decode cX1_init 12 = .ok (.putfield 12, 3) := by decide +kernel
theorem dX1_init_15 : decode cX1_init 15 = .ok (.aload_n 0, 1) := by decide +kernel
theorem dX1_init_16 : decode cX1_init 16 = .ok (.new 9, 3) := by decide +kernel
theorem dX1_init_19 : decode cX1_init 19 = .ok (.dup, 1) := by decide +kernel
theorem dX1_init_20 : decode cX1_init 20 = .ok (.invokespecial 11, 3) := by decide +kernel
theorem dX1_init_23 : decode cX1_init 23 = .ok (.putfield 16, 3) := by decide +kernel
theorem dX1_init_26 : decode cX1_init 26 = .ok (.aload_n 0, 1) := by decide +kernel
theorem dX1_init_27 : decode cX1_init 27 = .ok (.iconst 2, 1) := by decide +kernel
theorem dX1_init_28 : decode cX1_init 28 = .ok (.anewarray 9, 3) := by decide +kernel
theorem dX1_init_31 : decode cX1_init 31 = .ok (.dup, 1) := by decide +kernel
theorem dX1_init_32 : decode cX1_init 32 = .ok (.iconst 0, 1) := by decide +kernel
theorem dX1_init_33 : decode cX1_init 33 = .ok (.new 9, 3) := by decide +kernel
theorem dX1_init_36 : decode cX1_init 36 = .ok (.dup, 1) := by decide +kernel
theorem dX1_init_37 : decode cX1_init 37 = .ok (.invokespecial 11, 3) := by decide +kernel
theorem dX1_init_40 : decode cX1_init 40 = .ok (.aastore, 1) := by decide +kernel
theorem dX1_init_41 : decode cX1_init 41 = .ok (.dup, 1) := by decide +kernel
theorem dX1_init_42 : decode cX1_init 42 = .ok (.iconst 1, 1) := by decide +kernel
theorem dX1_init_43 : decode cX1_init 43 = .ok (.new 9, 3) := by decide +kernel
theorem dX1_init_46 : decode cX1_init 46 = .ok (.dup, 1) := by decide +kernel
theorem dX1_init_47 : decode cX1_init 47 = .ok (.invokespecial 11, 3) := by decide +kernel
theorem dX1_init_50 : decode cX1_init 50 = .ok (.aastore, 1) := by decide +kernel
theorem dX1_init_51 : decode cX1_init 51 = .ok (.putfield 19, 3) := by decide +kernel
theorem dX1_init_54 : decode cX1_init 54 = .ok (.return_, 1) := by decide +kernel
set_option maxRecDepth 20000 in
theorem ggX1_rule_X1_within : GoodIn wsX1_rule wsX1_within := goodIn_r _ [7] (by decide +kernel) (by decide +kernel)
set_option maxRecDepth 20000 in
theorem gX1_rule_X1_within : GoodIn wsX1_rule (va_wsS RX1 23 yX1_within wsX1_within) := goodIn_app (goodIn_of _ (by decide +kernel)) ggX1_rule_X1_within
theorem dX1_rule_0 : decode cX1_rule 0 = .ok (.iload_n 1, 1) := by decide +kernel
theorem dX1_rule_1 : decode cX1_rule 1 = .ok (.iconst 0, 1) := by decide +kernel
theorem dX1_rule_2 : decode cX1_rule 2 = .ok (.iconst 4, 1) := by decide +kernel
theorem dX1_rule_3 : decode cX1_rule 3 = .ok (.invokestatic 23, 3) := by decide +kernel
theorem dX1_rule_6 : decode cX1_rule 6 = .ok (.ifCond .eq 16, 3) := by decide +kernel
theorem dX1_rule_9 : decode cX1_rule 9 = .ok (.iload_n 2, 1) := by decide +kernel
theorem dX1_rule_10 : decode cX1_rule 10 = .ok (.iconst 0, 1) := by decide +kernel
theorem dX1_rule_11 : decode cX1_rule 11 = .ok (.getstatic 27, 3) := by decide +kernel
theorem dX1_rule_14 : decode cX1_rule 14 = .ok (.iload_n 1, 1) := by decide +kernel
theorem dX1_rule_15 : decode cX1_rule 15 = .ok (.iaload, 1) := by decide +kernel
theorem dX1_rule_16 : decode cX1_rule 16 = .ok (.invokestatic 23, 3) := by decide +kernel
theorem dX1_rule_19 : decode cX1_rule 19 = .ok (.ifCond .ne 6, 3) := by decide +kernel
theorem dX1_rule_22 : decode cX1_rule 22 = .ok (.bipush (-2), 2) := by decide +kernel
theorem dX1_rule_24 : decode cX1_rule 24 = .ok (.ireturn, 1) := by decide +kernel
theorem dX1_rule_25 : decode cX1_rule 25 = .ok (.aload_n 0, 1) := by decide +kernel
theorem dX1_rule_26 : decode cX1_rule 26 = .ok (.getfield 12, 3) := by decide +kernel
theorem dX1_rule_29 : decode cX1_rule 29 = .ok (.getfield 31, 3) := by decide +kernel
theorem dX1_rule_32 : decode cX1_rule 32 = .ok (.iload_n 1, 1) := by decide +kernel
theorem dX1_rule_33 : decode cX1_rule 33 = .ok (.iaload, 1) := by decide +kernel
theorem dX1_rule_34 : decode cX1_rule 34 = .ok (.istore_n 3, 1) := by decide +kernel
theorem dX1_rule_35 : decode cX1_rule 35 = .ok (.aload_n 0, 1) := by decide +kernel
theorem dX1_rule_36 : decode cX1_rule 36 = .ok (.getfield 12, 3) := by decide +kernel
theorem dX1_rule_39 : decode cX1_rule 39 = .ok (.getfield 31, 3) := by decide +kernel
theorem dX1_rule_42 : decode cX1_rule 42 = .ok (.iload_n 1, 1) := by decide +kernel
theorem dX1_rule_43 : decode cX1_rule 43 = .ok (.iload_n 2, 1) := by decide +kernel
theorem dX1_rule_44 : decode cX1_rule 44 = .ok (.iastore, 1) := by decide +kernel
theorem dX1_rule_45 : decode cX1_rule 45 = .ok (.iload_n 3, 1) := by decide +kernel
theorem dX1_rule_46 : decode cX1_rule 46 = .ok (.ireturn, 1) := by decide +kernel
set_option maxRecDepth 20000 in
theorem ggX1_tick_X1_within : GoodIn wsX1_tick wsX1_within := goodIn_r _ [6] (by decide +kernel) (by decide +kernel)
set_option maxRecDepth 20000 in
theorem gX1_tick_X1_within : GoodIn wsX1_tick (va_wsS RX1 23 yX1_within wsX1_within) := goodIn_app (goodIn_of _ (by decide +kernel)) ggX1_tick_X1_within
set_option maxRecDepth 20000 in
theorem ggX1_tick_X0_takeFar : GoodIn wsX1_tick wsX0_takeFar := goodIn_r _ [11, 12, 13, 100, 101, 102, 103, 104, 105, 106, 107, 108, 109, 110] (by decide +kernel) (by decide +kernel)
set_option maxRecDepth 20000 in
theorem gX1_tick_X0_takeFar : GoodIn wsX1_tick (wsV RX1 35 RX0 yX0_takeFar wsX0_takeFar) := goodIn_app (goodIn_of _ (by decide +kernel)) ggX1_tick_X0_takeFar
set_option maxRecDepth 20000 in
theorem ggX1_tick_X0_takeNear : GoodIn wsX1_tick wsX0_takeNear := goodIn_r _ [17, 18, 12, 19, 20, 21, 22, 23, 24, 25, 26, 27, 28, 29, 10, 30, 31, 32, 33, 34, 35, 36, 37, 38, 39, 40, 13, 41, 42, 43, 44, 45, 46, 47, 48, 49, 50, 51, 52, 53, 54, 55, 56, 57, 58, 59, 60, 61, 62, 63, 64, 65, 66, 67, 68, 69, 70, 71, 72, 73, 74, 75, 76, 77, 78, 79, 80, 81, 82, 83, 84, 85, 5, 86, 87, 88, 89, 90, 91, 92, 93, 94, 95, 100, 101, 102, 103, 104, 105, 106, 107, 108, 109, 110] (by decide +kernel) (by decide +kernel)
set_option maxRecDepth 20000 in
theorem gX1_tick_X0_takeNear : GoodIn wsX1_tick (wsV RX1 39 RX0 yX0_takeNear wsX0_takeNear) := goodIn_app (goodIn_of _ (by decide +kernel)) ggX1_tick_X0_takeNear
theorem dX1_tick_0 : decode cX1_tick 0 = .ok (.iload_n 1, 1) := by decide +kernel
theorem dX1_tick_1 : decode cX1_tick 1 = .ok (.sipush (-1000), 3) := by decide +kernel
theorem dX1_tick_4 : decode cX1_tick 4 = .ok (.sipush 1000, 3) := by decide +kernel
theorem dX1_tick_7 : decode cX1_tick 7 = .ok (.invokestatic 23, 3) := by decide +kernel
theorem dX1_tick_10 : decode cX1_tick 10 = .ok (.ifCond .eq 16, 3) := by decide +kernel
theorem dX1_tick_13 : decode cX1_tick 13 = .ok (.iload_n 2, 1) := by decide +kernel
theorem dX1_tick_14 : decode cX1_tick 14 = .ok (.sipush (-2000), 3) := by decide +kernel
theorem dX1_tick_17 : decode cX1_tick 17 = .ok (.sipush 2000, 3) := by decide +kernel
theorem dX1_tick_20 : decode cX1_tick 20 = .ok (.invokestatic 23, 3) := by decide +kernel
theorem dX1_tick_23 : decode cX1_tick 23 = .ok (.ifCond .ne 6, 3) := by decide +kernel
theorem dX1_tick_26 : decode cX1_tick 26 = .ok (.ldc 34, 2) := by decide +kernel
theorem dX1_tick_28 : decode cX1_tick 28 = .ok (.ireturn, 1) := by decide +kernel
theorem dX1_tick_29 : decode cX1_tick 29 = .ok (.aload_n 0, 1) := by decide +kernel
theorem dX1_tick_30 : decode cX1_tick 30 = .ok (.getfield 12, 3) := by decide +kernel
theorem dX1_tick_33 : decode cX1_tick 33 = .ok (.iload_n 1, 1) := by decide +kernel
theorem dX1_tick_34 : decode cX1_tick 34 = .ok (.invokevirtual 35, 3) := by decide +kernel
theorem dX1_tick_37 : decode cX1_tick 37 = .ok (.aload_n 0, 1) := by decide +kernel
theorem dX1_tick_38 : decode cX1_tick 38 = .ok (.getfield 12, 3) := by decide +kernel
theorem dX1_tick_41 : decode cX1_tick 41 = .ok (.iload_n 2, 1) := by decide +kernel
theorem dX1_tick_42 : decode cX1_tick 42 = .ok (.invokevirtual 39, 3) := by decide +kernel
theorem dX1_tick_45 : decode cX1_tick 45 = .ok (.ireturn, 1) := by decide +kernel
set_option maxRecDepth 20000 in
theorem ggX1_tap_X1_within : GoodIn wsX1_tap wsX1_within := goodIn_r _ [7] (by decide +kernel) (by decide +kernel)
set_option maxRecDepth 20000 in
theorem gX1_tap_X1_within : GoodIn wsX1_tap (va_wsS RX1 23 yX1_within wsX1_within) := goodIn_app (goodIn_of _ (by decide +kernel)) ggX1_tap_X1_within
theorem dX1_tap_0 : decode cX1_tap 0 = .ok (.iload_n 1, 1) := by decide +kernel
theorem dX1_tap_1 : decode cX1_tap 1 = .ok (.iconst 0, 1) := by decide +kernel
theorem dX1_tap_2 : decode cX1_tap 2 = .ok (.bipush 7, 2) := by decide +kernel
theorem dX1_tap_4 : decode cX1_tap 4 = .ok (.invokestatic 23, 3) := by decide +kernel
theorem dX1_tap_7 : decode cX1_tap 7 = .ok (.ifCond .eq 15, 3) := by decide +kernel
theorem dX1_tap_10 : decode cX1_tap 10 = .ok (.aload_n 0, 1) := by decide +kernel
theorem dX1_tap_11 : decode cX1_tap 11 = .ok (.getfield 12, 3) := by decide +kernel
theorem dX1_tap_14 : decode cX1_tap 14 = .ok (.getfield 43, 3) := by decide +kernel
theorem dX1_tap_17 : decode cX1_tap 17 = .ok (.iload_n 1, 1) := by decide +kernel
theorem dX1_tap_18 : decode cX1_tap 18 = .ok (.iaload, 1) := by decide +kernel
theorem dX1_tap_19 : decode cX1_tap 19 = .ok (.goto 5, 3) := by decide +kernel
theorem dX1_tap_22 : decode cX1_tap 22 = .ok (.ldc 34, 2) := by decide +kernel
theorem dX1_tap_24 : decode cX1_tap 24 = .ok (.ireturn, 1) := by decide +kernel
set_option maxRecDepth 20000 in
theorem ggX1_last_X1_within : GoodIn wsX1_last wsX1_within := goodIn_r _ [9] (by decide +kernel) (by decide +kernel)
set_option maxRecDepth 20000 in
theorem gX1_last_X1_within : GoodIn wsX1_last (va_wsS RX1 23 yX1_within wsX1_within) := goodIn_app (goodIn_of _ (by decide +kernel)) ggX1_last_X1_within
theorem dX1_last_0 : decode cX1_last 0 = .ok (.iload_n 1, 1) := by decide +kernel
theorem dX1_last_1 : decode cX1_last 1 = .ok (.iconst 0, 1) := by decide +kernel
theorem dX1_last_2 : decode cX1_last 2 = .ok (.bipush 7, 2) := by decide +kernel
theorem dX1_last_4 : decode cX1_last 4 = .ok (.invokestatic 23, 3) := by decide +kernel
theorem dX1_last_7 : decode cX1_last 7 = .ok (.ifCond .ne 6, 3) := by decide +kernel
theorem dX1_last_10 : decode cX1_last 10 = .ok (.ldc 34, 2) := by decide +kernel
theorem dX1_last_12 : decode cX1_last 12 = .ok (.ireturn, 1) := by decide +kernel
theorem dX1_last_13 : decode cX1_last 13 = .ok (.aload_n 0, 1) := by decide +kernel
theorem dX1_last_14 : decode cX1_last 14 = .ok (.getfield 12, 3) := by decide +kernel
theorem dX1_last_17 : decode cX1_last 17 = .ok (.getfield 46, 3) := by decide +kernel
theorem dX1_last_20 : decode cX1_last 20 = .ok (.ifCond .ne 8, 3) := by decide +kernel
theorem dX1_last_23 : decode cX1_last 23 = .ok (.ldc 50, 2) := by decide +kernel
theorem dX1_last_25 : decode cX1_last 25 = .ok (.goto 12, 3) := by decide +kernel
theorem dX1_last_28 : decode cX1_last 28 = .ok (.aload_n 0, 1) := by decide +kernel
theorem dX1_last_29 : decode cX1_last 29 = .ok (.getfield 12, 3) := by decide +kernel
theorem dX1_last_32 : decode cX1_last 32 = .ok (.getfield 51, 3) := by decide +kernel
theorem dX1_last_35 : decode cX1_last 35 = .ok (.iload_n 1, 1) := by decide +kernel
theorem dX1_last_36 : decode cX1_last 36 = .ok (.iaload, 1) := by decide +kernel
theorem dX1_last_37 : decode cX1_last 37 = .ok (.ireturn, 1) := by decide +kernel
set_option maxRecDepth 20000 in
theorem ggX1_ago_X1_within : GoodIn wsX1_ago wsX1_within := goodIn_r _ [8] (by decide +kernel) (by decide +kernel)
set_option maxRecDepth 20000 in
theorem gX1_ago_X1_within : GoodIn wsX1_ago (va_wsS RX1 23 yX1_within wsX1_within) := goodIn_app (goodIn_of _ (by decide +kernel)) ggX1_ago_X1_within
set_option maxRecDepth 20000 in
theorem ggX1_ago_X0_farAgo : GoodIn wsX1_ago wsX0_farAgo := goodIn_r _ [13, 14, 15, 30, 31, 32, 33, 34, 35, 36, 37, 38, 39, 40] (by decide +kernel) (by decide +kernel)
set_option maxRecDepth 20000 in
theorem gX1_ago_X0_farAgo : GoodIn wsX1_ago (wsV RX1 55 RX0 yX0_farAgo wsX0_farAgo) := goodIn_app (goodIn_of _ (by decide +kernel)) ggX1_ago_X0_farAgo
set_option maxRecDepth 20000 in
theorem ggX1_ago_X0_nearAgo : GoodIn wsX1_ago wsX0_nearAgo := goodIn_r _ [19, 20, 15, 30, 31, 32, 33, 34, 35, 36, 37, 38, 39, 40] (by decide +kernel) (by decide +kernel)
set_option maxRecDepth 20000 in
theorem gX1_ago_X0_nearAgo : GoodIn wsX1_ago (wsV RX1 58 RX0 yX0_nearAgo wsX0_nearAgo) := goodIn_app (goodIn_of _ (by decide +kernel)) ggX1_ago_X0_nearAgo
set_option maxRecDepth 20000 in
theorem ggX1_ago_X0_outAgo : GoodIn wsX1_ago wsX0_outAgo := goodIn_r _ [24, 25, 15, 30, 31, 32, 33, 34, 35, 36, 37, 38, 39, 40] (by decide +kernel) (by decide +kernel)
set_option maxRecDepth 20000 in
theorem gX1_ago_X0_outAgo : GoodIn wsX1_ago (wsV RX1 61 RX0 yX0_outAgo wsX0_outAgo) := goodIn_app (goodIn_of _ (by decide +kernel)) ggX1_ago_X0_outAgo
theorem dX1_ago_0 : decode cX1_ago 0 = .ok (.iload_n 1, 1) := by decide +kernel
theorem dX1_ago_1 : decode cX1_ago 1 = .ok (.iconst 0, 1) := by decide +kernel
theorem dX1_ago_2 : decode cX1_ago 2 = .ok (.bipush 31, 2) := by decide +kernel
theorem dX1_ago_4 : decode cX1_ago 4 = .ok (.invokestatic 23, 3) := by decide +kernel
theorem dX1_ago_7 : decode cX1_ago 7 = .ok (.ifCond .eq 12, 3) := by decide +kernel
theorem dX1_ago_10 : decode cX1_ago 10 = .ok (.iload_n 2, 1) := by decide +kernel
theorem dX1_ago_11 : decode cX1_ago 11 = .ok (.iconst 0, 1) := by decide +kernel
theorem dX1_ago_12 : decode cX1_ago 12 = .ok (.iconst 2, 1) := by decide +kernel
theorem dX1_ago_13 : decode cX1_ago 13 = .ok (.invokestatic 23, 3) := by decide +kernel
theorem dX1_ago_16 : decode cX1_ago 16 = .ok (.ifCond .ne 6, 3) := by decide +kernel
theorem dX1_ago_19 : decode cX1_ago 19 = .ok (.ldc 34, 2) := by decide +kernel
theorem dX1_ago_21 : decode cX1_ago 21 = .ok (.ireturn, 1) := by decide +kernel
theorem dX1_ago_22 : decode cX1_ago 22 = .ok (.iload_n 1, 1) := by decide +kernel
theorem dX1_ago_23 : decode cX1_ago 23 = .ok (.aload_n 0, 1) := by decide +kernel
theorem dX1_ago_24 : decode cX1_ago 24 = .ok (.getfield 12, 3) := by decide +kernel
theorem dX1_ago_27 : decode cX1_ago 27 = .ok (.getfield 46, 3) := by decide +kernel
theorem dX1_ago_30 : decode cX1_ago 30 = .ok (.if_icmp .lt 6, 3) := by decide +kernel
theorem dX1_ago_33 : decode cX1_ago 33 = .ok (.ldc 54, 2) := by decide +kernel
theorem dX1_ago_35 : decode cX1_ago 35 = .ok (.ireturn, 1) := by decide +kernel
theorem dX1_ago_36 : decode cX1_ago 36 = .ok (.iload_n 2, 1) := by decide +kernel
theorem dX1_ago_37 : decode cX1_ago 37 = .ok (.ifCond .ne 14, 3) := by decide +kernel
theorem dX1_ago_40 : decode cX1_ago 40 = .ok (.aload_n 0, 1) := by decide +kernel
theorem dX1_ago_41 : decode cX1_ago 41 = .ok (.getfield 12, 3) := by decide +kernel
theorem dX1_ago_44 : decode cX1_ago 44 = .ok (.iload_n 1, 1) := by decide +kernel
theorem dX1_ago_45 : decode cX1_ago 45 = .ok (.invokevirtual 55, 3) := by decide +kernel
theorem dX1_ago_48 : decode cX1_ago 48 = .ok (.goto 27, 3) := by decide +kernel
theorem dX1_ago_51 : decode cX1_ago 51 = .ok (.iload_n 2, 1) := by decide +kernel
theorem dX1_ago_52 : decode cX1_ago 52 = .ok (.iconst 1, 1) := by decide +kernel
theorem dX1_ago_53 : decode cX1_ago 53 = .ok (.if_icmp .ne 14, 3) := by decide +kernel
theorem dX1_ago_56 : decode cX1_ago 56 = .ok (.aload_n 0, 1) := by decide +kernel
theorem dX1_ago_57 : decode cX1_ago 57 = .ok (.getfield 12, 3) := by decide +kernel
theorem dX1_ago_60 : decode cX1_ago 60 = .ok (.iload_n 1, 1) := by decide +kernel
theorem dX1_ago_61 : decode cX1_ago 61 = .ok (.invokevirtual 58, 3) := by decide +kernel
theorem dX1_ago_64 : decode cX1_ago 64 = .ok (.goto 11, 3) := by decide +kernel
theorem dX1_ago_67 : decode cX1_ago 67 = .ok (.aload_n 0, 1) := by decide +kernel
theorem dX1_ago_68 : decode cX1_ago 68 = .ok (.getfield 12, 3) := by decide +kernel
theorem dX1_ago_71 : decode cX1_ago 71 = .ok (.iload_n 1, 1) := by decide +kernel
theorem dX1_ago_72 : decode cX1_ago 72 = .ok (.invokevirtual 61, 3) := by decide +kernel
theorem dX1_ago_75 : decode cX1_ago 75 = .ok (.ireturn, 1) := by decide +kernel
set_option maxRecDepth 20000 in
theorem ggX1_part_X1_within : GoodIn wsX1_part wsX1_within := goodIn_r _ [7] (by decide +kernel) (by decide +kernel)
set_option maxRecDepth 20000 in
theorem gX1_part_X1_within : GoodIn wsX1_part (va_wsS RX1 23 yX1_within wsX1_within) := goodIn_app (goodIn_of _ (by decide +kernel)) ggX1_part_X1_within
theorem dX1_part_0 : decode cX1_part 0 = .ok (.iload_n 1, 1) := by decide +kernel
theorem dX1_part_1 : decode cX1_part 1 = .ok (.iconst 0, 1) := by decide +kernel
theorem dX1_part_2 : decode cX1_part 2 = .ok (.bipush 8, 2) := by decide +kernel
theorem dX1_part_4 : decode cX1_part 4 = .ok (.invokestatic 23, 3) := by decide +kernel
theorem dX1_part_7 : decode cX1_part 7 = .ok (.ifCond .ne 6, 3) := by decide +kernel
theorem dX1_part_10 : decode cX1_part 10 = .ok (.ldc 34, 2) := by decide +kernel
theorem dX1_part_12 : decode cX1_part 12 = .ok (.ireturn, 1) := by decide +kernel
theorem dX1_part_13 : decode cX1_part 13 = .ok (.iload_n 1, 1) := by decide +kernel
theorem dX1_part_14 : decode cX1_part 14 = .ok (.bipush 8, 2) := by decide +kernel
theorem dX1_part_16 : decode cX1_part 16 = .ok (.if_icmp .ne 13, 3) := by decide +kernel
theorem dX1_part_19 : decode cX1_part 19 = .ok (.iload_n 2, 1) := by decide +kernel
theorem dX1_part_20 : decode cX1_part 20 = .ok (.iconst 0, 1) := by decide +kernel
theorem dX1_part_21 : decode cX1_part 21 = .ok (.bipush 15, 2) := by decide +kernel
theorem dX1_part_23 : decode cX1_part 23 = .ok (.invokestatic 23, 3) := by decide +kernel
theorem dX1_part_26 : decode cX1_part 26 = .ok (.goto 13, 3) := by decide +kernel
theorem dX1_part_29 : decode cX1_part 29 = .ok (.iload_n 2, 1) := by decide +kernel
theorem dX1_part_30 : decode cX1_part 30 = .ok (.sipush (-1024), 3) := by decide +kernel
theorem dX1_part_33 : decode cX1_part 33 = .ok (.sipush 1023, 3) := by decide +kernel
theorem dX1_part_36 : decode cX1_part 36 = .ok (.invokestatic 23, 3) := by decide +kernel
theorem dX1_part_39 : decode cX1_part 39 = .ok (.istore_n 3, 1) := by decide +kernel
theorem dX1_part_40 : decode cX1_part 40 = .ok (.iload_n 3, 1) := by decide +kernel
theorem dX1_part_41 : decode cX1_part 41 = .ok (.ifCond .ne 6, 3) := by decide +kernel
theorem dX1_part_44 : decode cX1_part 44 = .ok (.ldc 34, 2) := by decide +kernel
theorem dX1_part_46 : decode cX1_part 46 = .ok (.ireturn, 1) := by decide +kernel
theorem dX1_part_47 : decode cX1_part 47 = .ok (.aload_n 0, 1) := by decide +kernel
theorem dX1_part_48 : decode cX1_part 48 = .ok (.getfield 12, 3) := by decide +kernel
theorem dX1_part_51 : decode cX1_part 51 = .ok (.getfield 64, 3) := by decide +kernel
theorem dX1_part_54 : decode cX1_part 54 = .ok (.iload_n 1, 1) := by decide +kernel
theorem dX1_part_55 : decode cX1_part 55 = .ok (.iaload, 1) := by decide +kernel
theorem dX1_part_56 : decode cX1_part 56 = .ok (.istore 4, 2) := by decide +kernel
theorem dX1_part_58 : decode cX1_part 58 = .ok (.aload_n 0, 1) := by decide +kernel
theorem dX1_part_59 : decode cX1_part 59 = .ok (.getfield 12, 3) := by decide +kernel
theorem dX1_part_62 : decode cX1_part 62 = .ok (.getfield 64, 3) := by decide +kernel
theorem dX1_part_65 : decode cX1_part 65 = .ok (.iload_n 1, 1) := by decide +kernel
theorem dX1_part_66 : decode cX1_part 66 = .ok (.iload_n 2, 1) := by decide +kernel
theorem dX1_part_67 : decode cX1_part 67 = .ok (.iastore, 1) := by decide +kernel
theorem dX1_part_68 : decode cX1_part 68 = .ok (.iload 4, 2) := by decide +kernel
theorem dX1_part_70 : decode cX1_part 70 = .ok (.ireturn, 1) := by decide +kernel
set_option maxRecDepth 20000 in
theorem ggX1_speak_X1_within : GoodIn wsX1_speak wsX1_within := goodIn_r _ [6] (by decide +kernel) (by decide +kernel)
set_option maxRecDepth 20000 in
theorem gX1_speak_X1_within : GoodIn wsX1_speak (va_wsS RX1 23 yX1_within wsX1_within) := goodIn_app (goodIn_of _ (by decide +kernel)) ggX1_speak_X1_within
set_option maxRecDepth 20000 in
theorem ggX1_speak_X0_hearSpeech : GoodIn wsX1_speak wsX0_hearSpeech := goodIn_r _ [11, 12, 13, 14, 10, 15, 16, 17, 18, 19, 20, 21, 22, 23, 24, 25, 26, 27, 5, 28, 29, 30, 31, 32, 33, 34, 35, 36, 37, 38, 39, 40, 41, 42, 43, 44, 45, 46, 47, 48, 49, 50, 51, 52, 53, 54, 55, 56, 57, 58, 59, 60, 61, 62, 63, 64, 65, 66, 67, 68, 69, 70, 71, 72, 73, 74, 75, 76, 77, 78, 79, 80, 81, 82, 83, 84, 85, 86, 87, 88, 89, 90, 91, 92, 93, 94, 95, 96, 97, 98, 99, 100, 101, 102, 103, 104, 109, 110, 111, 112, 113, 114, 115, 116, 117, 118, 119] (by decide +kernel) (by decide +kernel)
set_option maxRecDepth 20000 in
theorem gX1_speak_X0_hearSpeech : GoodIn wsX1_speak (wsV RX1 67 RX0 yX0_hearSpeech wsX0_hearSpeech) := goodIn_app (goodIn_of _ (by decide +kernel)) ggX1_speak_X0_hearSpeech
theorem dX1_speak_0 : decode cX1_speak 0 = .ok (.iload_n 1, 1) := by decide +kernel
theorem dX1_speak_1 : decode cX1_speak 1 = .ok (.sipush (-1000), 3) := by decide +kernel
theorem dX1_speak_4 : decode cX1_speak 4 = .ok (.sipush 1000, 3) := by decide +kernel
theorem dX1_speak_7 : decode cX1_speak 7 = .ok (.invokestatic 23, 3) := by decide +kernel
theorem dX1_speak_10 : decode cX1_speak 10 = .ok (.ifCond .eq 16, 3) := by decide +kernel
theorem dX1_speak_13 : decode cX1_speak 13 = .ok (.iload_n 2, 1) := by decide +kernel
theorem dX1_speak_14 : decode cX1_speak 14 = .ok (.sipush (-2000), 3) := by decide +kernel
theorem dX1_speak_17 : decode cX1_speak 17 = .ok (.sipush 2000, 3) := by decide +kernel
theorem dX1_speak_20 : decode cX1_speak 20 = .ok (.invokestatic 23, 3) := by decide +kernel
theorem dX1_speak_23 : decode cX1_speak 23 = .ok (.ifCond .ne 6, 3) := by decide +kernel
theorem dX1_speak_26 : decode cX1_speak 26 = .ok (.ldc 34, 2) := by decide +kernel
theorem dX1_speak_28 : decode cX1_speak 28 = .ok (.ireturn, 1) := by decide +kernel
theorem dX1_speak_29 : decode cX1_speak 29 = .ok (.aload_n 0, 1) := by decide +kernel
theorem dX1_speak_30 : decode cX1_speak 30 = .ok (.getfield 12, 3) := by decide +kernel
theorem dX1_speak_33 : decode cX1_speak 33 = .ok (.iload_n 1, 1) := by decide +kernel
theorem dX1_speak_34 : decode cX1_speak 34 = .ok (.iload_n 2, 1) := by decide +kernel
theorem dX1_speak_35 : decode cX1_speak 35 = .ok (.invokevirtual 67, 3) := by decide +kernel
theorem dX1_speak_38 : decode cX1_speak 38 = .ok (.ireturn, 1) := by decide +kernel
set_option maxRecDepth 20000 in
theorem ggX1_run_X1_startsRun : GoodIn wsX1_run wsX1_startsRun := goodIn_r _ [10, 11, 12, 13, 9, 14] (by decide +kernel) (by decide +kernel)
set_option maxRecDepth 20000 in
theorem gX1_run_X1_startsRun : GoodIn wsX1_run (va_wsS RX1 71 yX1_startsRun wsX1_startsRun) := goodIn_app (goodIn_of _ (by decide +kernel)) ggX1_run_X1_startsRun
set_option maxRecDepth 20000 in
theorem ggX1_run_X1_within : GoodIn wsX1_run wsX1_within := goodIn_r _ [14] (by decide +kernel) (by decide +kernel)
set_option maxRecDepth 20000 in
theorem gX1_run_X1_within : GoodIn wsX1_run (va_wsS RX1 23 yX1_within wsX1_within) := goodIn_app (goodIn_of _ (by decide +kernel)) ggX1_run_X1_within
set_option maxRecDepth 20000 in
theorem ggX1_run_X1_nextSeed : GoodIn wsX1_run wsX1_nextSeed := goodIn_r _ [17, 18] (by decide +kernel) (by decide +kernel)
set_option maxRecDepth 20000 in
theorem gX1_run_X1_nextSeed : GoodIn wsX1_run (va_wsS RX1 75 yX1_nextSeed wsX1_nextSeed) := goodIn_app (goodIn_of _ (by decide +kernel)) ggX1_run_X1_nextSeed
set_option maxRecDepth 20000 in
theorem ggX1_run_X1_centred : GoodIn wsX1_run wsX1_centred := goodIn_r _ [21] (by decide +kernel) (by decide +kernel)
set_option maxRecDepth 20000 in
theorem gX1_run_X1_centred : GoodIn wsX1_run (va_wsS RX1 78 yX1_centred wsX1_centred) := goodIn_app (goodIn_of _ (by decide +kernel)) ggX1_run_X1_centred
set_option maxRecDepth 20000 in
theorem ggX1_run_X0_hearSpeech : GoodIn wsX1_run wsX0_hearSpeech := goodIn_r _ [26, 27, 28, 29, 25, 30, 31, 32, 33, 34, 35, 36, 37, 38, 39, 40, 41, 42, 9, 43, 44, 45, 5, 46, 47, 48, 49, 50, 51, 52, 53, 54, 55, 4, 6, 56, 57, 58, 59, 60, 61, 62, 63, 64, 65, 66, 67, 68, 69, 70, 71, 72, 73, 74, 75, 76, 77, 78, 79, 80, 81, 82, 83, 84, 85, 86, 87, 88, 89, 90, 91, 92, 93, 94, 95, 96, 97, 98, 99, 100, 101, 102, 103, 104, 105, 106, 107, 108, 109, 110, 111, 16, 17, 18, 20, 21, 116, 117, 118, 119, 120, 121, 122, 123, 124, 125, 126] (by decide +kernel) (by decide +kernel)
set_option maxRecDepth 20000 in
theorem gX1_run_X0_hearSpeech : GoodIn wsX1_run (wsV RX1 67 RX0 yX0_hearSpeech wsX0_hearSpeech) := goodIn_app (goodIn_of _ (by decide +kernel)) ggX1_run_X0_hearSpeech
theorem dX1_run_0 : decode cX1_run 0 = .ok (.iload_n 1, 1) := by decide +kernel
theorem dX1_run_1 : decode cX1_run 1 = .ok (.iload_n 3, 1) := by decide +kernel
theorem dX1_run_2 : decode cX1_run 2 = .ok (.invokestatic 71, 3) := by decide +kernel
theorem dX1_run_5 : decode cX1_run 5 = .ok (.ifCond .eq 13, 3) := by decide +kernel
theorem dX1_run_8 : decode cX1_run 8 = .ok (.iload_n 2, 1) := by decide +kernel
theorem dX1_run_9 : decode cX1_run 9 = .ok (.iconst 1, 1) := by decide +kernel
theorem dX1_run_10 : decode cX1_run 10 = .ok (.bipush 60, 2) := by decide +kernel
theorem dX1_run_12 : decode cX1_run 12 = .ok (.invokestatic 23, 3) := by decide +kernel
theorem dX1_run_15 : decode cX1_run 15 = .ok (.ifCond .ne 6, 3) := by decide +kernel
theorem dX1_run_18 : decode cX1_run 18 = .ok (.bipush (-2), 2) := by decide +kernel
theorem dX1_run_20 : decode cX1_run 20 = .ok (.ireturn, 1) := by decide +kernel
theorem dX1_run_21 : decode cX1_run 21 = .ok (.iload_n 1, 1) := by decide +kernel
theorem dX1_run_22 : decode cX1_run 22 = .ok (.istore 4, 2) := by decide +kernel
theorem dX1_run_24 : decode cX1_run 24 = .ok (.iconst 0, 1) := by decide +kernel
theorem dX1_run_25 : decode cX1_run 25 = .ok (.istore 5, 2) := by decide +kernel
theorem dX1_run_27 : decode cX1_run 27 = .ok (.iconst 0, 1) := by decide +kernel
theorem dX1_run_28 : decode cX1_run 28 = .ok (.istore 6, 2) := by decide +kernel
theorem dX1_run_30 : decode cX1_run 30 = .ok (.iload 6, 2) := by decide +kernel
theorem dX1_run_32 : decode cX1_run 32 = .ok (.iload_n 2, 1) := by decide +kernel
theorem dX1_run_33 : decode cX1_run 33 = .ok (.if_icmp .ge 48, 3) := by decide +kernel
theorem dX1_run_36 : decode cX1_run 36 = .ok (.iload 4, 2) := by decide +kernel
theorem dX1_run_38 : decode cX1_run 38 = .ok (.invokestatic 75, 3) := by decide +kernel
theorem dX1_run_41 : decode cX1_run 41 = .ok (.istore 4, 2) := by decide +kernel
theorem dX1_run_43 : decode cX1_run 43 = .ok (.aload_n 0, 1) := by decide +kernel
theorem dX1_run_44 : decode cX1_run 44 = .ok (.getfield 12, 3) := by decide +kernel
theorem dX1_run_47 : decode cX1_run 47 = .ok (.iload 4, 2) := by decide +kernel
theorem dX1_run_49 : decode cX1_run 49 = .ok (.iload_n 3, 1) := by decide +kernel
theorem dX1_run_50 : decode cX1_run 50 = .ok (.invokestatic 78, 3) := by decide +kernel
theorem dX1_run_53 : decode cX1_run 53 = .ok (.iconst 0, 1) := by decide +kernel
theorem dX1_run_54 : decode cX1_run 54 = .ok (.invokevirtual 67, 3) := by decide +kernel
theorem dX1_run_57 : decode cX1_run 57 = .ok (.pop, 1) := by decide +kernel
theorem dX1_run_58 : decode cX1_run 58 = .ok (.iload 5, 2) := by decide +kernel
theorem dX1_run_60 : decode cX1_run 60 = .ok (.aload_n 0, 1) := by decide +kernel
theorem dX1_run_61 : decode cX1_run 61 = .ok (.getfield 12, 3) := by decide +kernel
theorem dX1_run_64 : decode cX1_run 64 = .ok (.getfield 51, 3) := by decide +kernel
theorem dX1_run_67 : decode cX1_run 67 = .ok (.iconst 1, 1) := by decide +kernel
theorem dX1_run_68 : decode cX1_run 68 = .ok (.iaload, 1) := by decide +kernel
theorem dX1_run_69 : decode cX1_run 69 = .ok (.invokestatic 81, 3) := by decide +kernel
theorem dX1_run_72 : decode cX1_run 72 = .ok (.iadd, 1) := by decide +kernel
theorem dX1_run_73 : decode cX1_run 73 = .ok (.istore 5, 2) := by decide +kernel
theorem dX1_run_75 : decode cX1_run 75 = .ok (.iinc 6 1, 3) := by decide +kernel
theorem dX1_run_78 : decode cX1_run 78 = .ok (.goto (-48), 3) := by decide +kernel
theorem dX1_run_81 : decode cX1_run 81 = .ok (.iload 5, 2) := by decide +kernel
theorem dX1_run_83 : decode cX1_run 83 = .ok (.ireturn, 1) := by decide +kernel
set_option maxRecDepth 20000 in
theorem ggX1_learnt_X1_startsRun : GoodIn wsX1_learnt wsX1_startsRun := goodIn_r _ [11, 12, 13, 14, 10, 15] (by decide +kernel) (by decide +kernel)
set_option maxRecDepth 20000 in
theorem gX1_learnt_X1_startsRun : GoodIn wsX1_learnt (va_wsS RX1 71 yX1_startsRun wsX1_startsRun) := goodIn_app (goodIn_of _ (by decide +kernel)) ggX1_learnt_X1_startsRun
set_option maxRecDepth 20000 in
theorem ggX1_learnt_X1_within : GoodIn wsX1_learnt wsX1_within := goodIn_r _ [15] (by decide +kernel) (by decide +kernel)
set_option maxRecDepth 20000 in
theorem gX1_learnt_X1_within : GoodIn wsX1_learnt (va_wsS RX1 23 yX1_within wsX1_within) := goodIn_app (goodIn_of _ (by decide +kernel)) ggX1_learnt_X1_within
set_option maxRecDepth 20000 in
theorem ggX1_learnt_X0_copyFrom : GoodIn wsX1_learnt wsX0_copyFrom := goodIn_r _ [20, 21, 22, 23, 24, 25, 26, 27, 28, 29, 30, 31, 32, 33, 34, 35, 125, 126, 127, 128, 129, 130, 131, 132, 133, 134, 135] (by decide +kernel) (by decide +kernel)
set_option maxRecDepth 20000 in
theorem gX1_learnt_X0_copyFrom : GoodIn wsX1_learnt (wsV RX1 86 RX0 yX0_copyFrom wsX0_copyFrom) := goodIn_app (goodIn_of _ (by decide +kernel)) ggX1_learnt_X0_copyFrom
set_option maxRecDepth 20000 in
theorem ggX1_learnt_X1_nextSeed : GoodIn wsX1_learnt wsX1_nextSeed := goodIn_r _ [38, 39] (by decide +kernel) (by decide +kernel)
set_option maxRecDepth 20000 in
theorem gX1_learnt_X1_nextSeed : GoodIn wsX1_learnt (va_wsS RX1 75 yX1_nextSeed wsX1_nextSeed) := goodIn_app (goodIn_of _ (by decide +kernel)) ggX1_learnt_X1_nextSeed
set_option maxRecDepth 20000 in
theorem ggX1_learnt_X1_centred : GoodIn wsX1_learnt wsX1_centred := goodIn_r _ [42] (by decide +kernel) (by decide +kernel)
set_option maxRecDepth 20000 in
theorem gX1_learnt_X1_centred : GoodIn wsX1_learnt (va_wsS RX1 78 yX1_centred wsX1_centred) := goodIn_app (goodIn_of _ (by decide +kernel)) ggX1_learnt_X1_centred
set_option maxRecDepth 20000 in
theorem ggX1_learnt_X0_hearSpeech : GoodIn wsX1_learnt wsX0_hearSpeech := goodIn_r _ [46, 47, 48, 49, 19, 50, 33, 28, 51, 52, 53, 54, 27, 55, 56, 57, 58, 59, 10, 60, 61, 62, 6, 63, 64, 65, 66, 67, 68, 69, 70, 29, 71, 5, 7, 34, 30, 31, 32, 72, 73, 74, 75, 26, 76, 77, 78, 79, 21, 80, 81, 82, 83, 84, 85, 86, 87, 88, 89, 90, 91, 92, 93, 94, 95, 96, 97, 98, 99, 100, 101, 102, 103, 104, 105, 106, 107, 108, 109, 110, 111, 112, 113, 114, 115, 116, 117, 118, 119, 120, 35, 37, 38, 39, 41, 42, 125, 126, 127, 128, 129, 130, 131, 132, 133, 134, 135] (by decide +kernel) (by decide +kernel)
set_option maxRecDepth 20000 in
theorem gX1_learnt_X0_hearSpeech : GoodIn wsX1_learnt (wsV RX1 67 RX0 yX0_hearSpeech wsX0_hearSpeech) := goodIn_app (goodIn_of _ (by decide +kernel)) ggX1_learnt_X0_hearSpeech
theorem dX1_learnt_0 : decode cX1_learnt 0 = .ok (.iload_n 1, 1) := by decide +kernel
theorem dX1_learnt_1 : decode cX1_learnt 1 = .ok (.iload_n 2, 1) := by decide +kernel
theorem dX1_learnt_2 : decode cX1_learnt 2 = .ok (.invokestatic 71, 3) := by decide +kernel
theorem dX1_learnt_5 : decode cX1_learnt 5 = .ok (.ifCond .eq 14, 3) := by decide +kernel
theorem dX1_learnt_8 : decode cX1_learnt 8 = .ok (.iload_n 3, 1) := by decide +kernel
theorem dX1_learnt_9 : decode cX1_learnt 9 = .ok (.iconst 0, 1) := by decide +kernel
theorem dX1_learnt_10 : decode cX1_learnt 10 = .ok (.sipush 999, 3) := by decide +kernel
theorem dX1_learnt_13 : decode cX1_learnt 13 = .ok (.invokestatic 23, 3) := by decide +kernel
theorem dX1_learnt_16 : decode cX1_learnt 16 = .ok (.ifCond .ne 6, 3) := by decide +kernel
theorem dX1_learnt_19 : decode cX1_learnt 19 = .ok (.bipush (-2), 2) := by decide +kernel
theorem dX1_learnt_21 : decode cX1_learnt 21 = .ok (.ireturn, 1) := by decide +kernel
theorem dX1_learnt_22 : decode cX1_learnt 22 = .ok (.aload_n 0, 1) := by decide +kernel
theorem dX1_learnt_23 : decode cX1_learnt 23 = .ok (.getfield 16, 3) := by decide +kernel
theorem dX1_learnt_26 : decode cX1_learnt 26 = .ok (.aload_n 0, 1) := by decide +kernel
theorem dX1_learnt_27 : decode cX1_learnt 27 = .ok (.getfield 12, 3) := by decide +kernel
theorem dX1_learnt_30 : decode cX1_learnt 30 = .ok (.invokevirtual 86, 3) := by decide +kernel
theorem dX1_learnt_33 : decode cX1_learnt 33 = .ok (.iload_n 1, 1) := by decide +kernel
theorem dX1_learnt_34 : decode cX1_learnt 34 = .ok (.istore 4, 2) := by decide +kernel
theorem dX1_learnt_36 : decode cX1_learnt 36 = .ok (.iconst 0, 1) := by decide +kernel
theorem dX1_learnt_37 : decode cX1_learnt 37 = .ok (.istore 5, 2) := by decide +kernel
theorem dX1_learnt_39 : decode cX1_learnt 39 = .ok (.iconst 1, 1) := by decide +kernel
theorem dX1_learnt_40 : decode cX1_learnt 40 = .ok (.istore 6, 2) := by decide +kernel
theorem dX1_learnt_42 : decode cX1_learnt 42 = .ok (.iload 6, 2) := by decide +kernel
theorem dX1_learnt_44 : decode cX1_learnt 44 = .ok (.sipush 200, 3) := by decide +kernel
theorem dX1_learnt_47 : decode cX1_learnt 47 = .ok (.if_icmp .gt 67, 3) := by decide +kernel
theorem dX1_learnt_50 : decode cX1_learnt 50 = .ok (.iload 4, 2) := by decide +kernel
theorem dX1_learnt_52 : decode cX1_learnt 52 = .ok (.invokestatic 75, 3) := by decide +kernel
theorem dX1_learnt_55 : decode cX1_learnt 55 = .ok (.istore 4, 2) := by decide +kernel
theorem dX1_learnt_57 : decode cX1_learnt 57 = .ok (.aload_n 0, 1) := by decide +kernel
theorem dX1_learnt_58 : decode cX1_learnt 58 = .ok (.getfield 16, 3) := by decide +kernel
theorem dX1_learnt_61 : decode cX1_learnt 61 = .ok (.iload 4, 2) := by decide +kernel
theorem dX1_learnt_63 : decode cX1_learnt 63 = .ok (.iload_n 2, 1) := by decide +kernel
theorem dX1_learnt_64 : decode cX1_learnt 64 = .ok (.invokestatic 78, 3) := by decide +kernel
theorem dX1_learnt_67 : decode cX1_learnt 67 = .ok (.iconst 0, 1) := by decide +kernel
theorem dX1_learnt_68 : decode cX1_learnt 68 = .ok (.invokevirtual 67, 3) := by decide +kernel
theorem dX1_learnt_71 : decode cX1_learnt 71 = .ok (.pop, 1) := by decide +kernel
theorem dX1_learnt_72 : decode cX1_learnt 72 = .ok (.aload_n 0, 1) := by decide +kernel
theorem dX1_learnt_73 : decode cX1_learnt 73 = .ok (.getfield 16, 3) := by decide +kernel
theorem dX1_learnt_76 : decode cX1_learnt 76 = .ok (.getfield 51, 3) := by decide +kernel
theorem dX1_learnt_79 : decode cX1_learnt 79 = .ok (.iconst 1, 1) := by decide +kernel
theorem dX1_learnt_80 : decode cX1_learnt 80 = .ok (.iaload, 1) := by decide +kernel
theorem dX1_learnt_81 : decode cX1_learnt 81 = .ok (.invokestatic 81, 3) := by decide +kernel
theorem dX1_learnt_84 : decode cX1_learnt 84 = .ok (.iload_n 3, 1) := by decide +kernel
theorem dX1_learnt_85 : decode cX1_learnt 85 = .ok (.if_icmp .gt 10, 3) := by decide +kernel
theorem dX1_learnt_88 : decode cX1_learnt 88 = .ok (.iload 5, 2) := by decide +kernel
theorem dX1_learnt_90 : decode cX1_learnt 90 = .ok (.iconst 1, 1) := by decide +kernel
theorem dX1_learnt_91 : decode cX1_learnt 91 = .ok (.iadd, 1) := by decide +kernel
theorem dX1_learnt_92 : decode cX1_learnt 92 = .ok (.goto 4, 3) := by decide +kernel
theorem dX1_learnt_95 : decode cX1_learnt 95 = .ok (.iconst 0, 1) := by decide +kernel
theorem dX1_learnt_96 : decode cX1_learnt 96 = .ok (.istore 5, 2) := by decide +kernel
theorem dX1_learnt_98 : decode cX1_learnt 98 = .ok (.iload 5, 2) := by decide +kernel
theorem dX1_learnt_100 : decode cX1_learnt 100 = .ok (.bipush 8, 2) := by decide +kernel
theorem dX1_learnt_102 : decode cX1_learnt 102 = .ok (.if_icmp .lt 6, 3) := by decide +kernel
theorem dX1_learnt_105 : decode cX1_learnt 105 = .ok (.iload 6, 2) := by decide +kernel
theorem dX1_learnt_107 : decode cX1_learnt 107 = .ok (.ireturn, 1) := by decide +kernel
theorem dX1_learnt_108 : decode cX1_learnt 108 = .ok (.iinc 6 1, 3) := by decide +kernel
theorem dX1_learnt_111 : decode cX1_learnt 111 = .ok (.goto (-69), 3) := by decide +kernel
theorem dX1_learnt_114 : decode cX1_learnt 114 = .ok (.bipush (-6), 2) := by decide +kernel
theorem dX1_learnt_116 : decode cX1_learnt 116 = .ok (.ireturn, 1) := by decide +kernel
set_option maxRecDepth 20000 in
theorem ggX1_likeness_X1_within : GoodIn wsX1_likeness wsX1_within := goodIn_r _ [6] (by decide +kernel) (by decide +kernel)
set_option maxRecDepth 20000 in
theorem gX1_likeness_X1_within : GoodIn wsX1_likeness (va_wsS RX1 23 yX1_within wsX1_within) := goodIn_app (goodIn_of _ (by decide +kernel)) ggX1_likeness_X1_within
set_option maxRecDepth 20000 in
theorem ggX1_likeness_X0_likenessOf : GoodIn wsX1_likeness wsX0_likenessOf := goodIn_r _ [11, 12, 13, 14, 10, 15, 16, 17, 18, 19, 20, 21, 22, 27, 28, 29, 30, 31, 32, 33, 34, 35, 36, 37] (by decide +kernel) (by decide +kernel)
set_option maxRecDepth 20000 in
theorem gX1_likeness_X0_likenessOf : GoodIn wsX1_likeness (wsV RX1 90 RX0 yX0_likenessOf wsX0_likenessOf) := goodIn_app (goodIn_of _ (by decide +kernel)) ggX1_likeness_X0_likenessOf
theorem dX1_likeness_0 : decode cX1_likeness 0 = .ok (.iload_n 1, 1) := by decide +kernel
theorem dX1_likeness_1 : decode cX1_likeness 1 = .ok (.iconst 0, 1) := by decide +kernel
theorem dX1_likeness_2 : decode cX1_likeness 2 = .ok (.bipush 15, 2) := by decide +kernel
theorem dX1_likeness_4 : decode cX1_likeness 4 = .ok (.invokestatic 23, 3) := by decide +kernel
theorem dX1_likeness_7 : decode cX1_likeness 7 = .ok (.ifCond .eq 14, 3) := by decide +kernel
theorem dX1_likeness_10 : decode cX1_likeness 10 = .ok (.aload_n 0, 1) := by decide +kernel
theorem dX1_likeness_11 : decode cX1_likeness 11 = .ok (.getfield 12, 3) := by decide +kernel
theorem dX1_likeness_14 : decode cX1_likeness 14 = .ok (.iload_n 1, 1) := by decide +kernel
theorem dX1_likeness_15 : decode cX1_likeness 15 = .ok (.invokevirtual 90, 3) := by decide +kernel
theorem dX1_likeness_18 : decode cX1_likeness 18 = .ok (.goto 5, 3) := by decide +kernel
theorem dX1_likeness_21 : decode cX1_likeness 21 = .ok (.ldc 34, 2) := by decide +kernel
theorem dX1_likeness_23 : decode cX1_likeness 23 = .ok (.ireturn, 1) := by decide +kernel
set_option maxRecDepth 20000 in
theorem ggX1_seek_X0_likenessOf : GoodIn wsX1_seek wsX0_likenessOf := goodIn_r _ [10, 11, 12, 13, 9, 14, 15, 16, 17, 18, 19, 20, 21, 32, 33, 34, 35, 36, 37, 38, 39, 40, 41, 42] (by decide +kernel) (by decide +kernel)
set_option maxRecDepth 20000 in
theorem gX1_seek_X0_likenessOf : GoodIn wsX1_seek (wsV RX1 90 RX0 yX0_likenessOf wsX0_likenessOf) := goodIn_app (goodIn_of _ (by decide +kernel)) ggX1_seek_X0_likenessOf
set_option maxRecDepth 20000 in
theorem ggX1_seek_X0_startAnew : GoodIn wsX1_seek wsX0_startAnew := goodIn_r _ [25, 26, 27, 32, 33, 34, 35, 36, 37, 38, 39, 40, 41, 42] (by decide +kernel) (by decide +kernel)
set_option maxRecDepth 20000 in
theorem gX1_seek_X0_startAnew : GoodIn wsX1_seek (wsV RX1 93 RX0 yX0_startAnew wsX0_startAnew) := goodIn_app (goodIn_of _ (by decide +kernel)) ggX1_seek_X0_startAnew
theorem dX1_seek_0 : decode cX1_seek 0 = .ok (.iconst 0, 1) := by decide +kernel
theorem dX1_seek_1 : decode cX1_seek 1 = .ok (.istore_n 1, 1) := by decide +kernel
theorem dX1_seek_2 : decode cX1_seek 2 = .ok (.iconst 0, 1) := by decide +kernel
theorem dX1_seek_3 : decode cX1_seek 3 = .ok (.istore_n 2, 1) := by decide +kernel
theorem dX1_seek_4 : decode cX1_seek 4 = .ok (.iconst 0, 1) := by decide +kernel
theorem dX1_seek_5 : decode cX1_seek 5 = .ok (.istore_n 3, 1) := by decide +kernel
theorem dX1_seek_6 : decode cX1_seek 6 = .ok (.iload_n 3, 1) := by decide +kernel
theorem dX1_seek_7 : decode cX1_seek 7 = .ok (.bipush 15, 2) := by decide +kernel
theorem dX1_seek_9 : decode cX1_seek 9 = .ok (.if_icmp .gt 33, 3) := by decide +kernel
theorem dX1_seek_12 : decode cX1_seek 12 = .ok (.aload_n 0, 1) := by decide +kernel
theorem dX1_seek_13 : decode cX1_seek 13 = .ok (.getfield 12, 3) := by decide +kernel
theorem dX1_seek_16 : decode cX1_seek 16 = .ok (.iload_n 3, 1) := by decide +kernel
theorem dX1_seek_17 : decode cX1_seek 17 = .ok (.invokevirtual 90, 3) := by decide +kernel
theorem dX1_seek_20 : decode cX1_seek 20 = .ok (.invokestatic 81, 3) := by decide +kernel
theorem dX1_seek_23 : decode cX1_seek 23 = .ok (.istore 4, 2) := by decide +kernel
theorem dX1_seek_25 : decode cX1_seek 25 = .ok (.iload 4, 2) := by decide +kernel
theorem dX1_seek_27 : decode cX1_seek 27 = .ok (.iload_n 2, 1) := by decide +kernel
theorem dX1_seek_28 : decode cX1_seek 28 = .ok (.if_icmp .le 8, 3) := by decide +kernel
theorem dX1_seek_31 : decode cX1_seek 31 = .ok (.iload 4, 2) := by decide +kernel
theorem dX1_seek_33 : decode cX1_seek 33 = .ok (.istore_n 2, 1) := by decide +kernel
theorem dX1_seek_34 : decode cX1_seek 34 = .ok (.iload_n 3, 1) := by decide +kernel
theorem dX1_seek_35 : decode cX1_seek 35 = .ok (.istore_n 1, 1) := by decide +kernel
theorem dX1_seek_36 : decode cX1_seek 36 = .ok (.iinc 3 1, 3) := by decide +kernel
theorem dX1_seek_39 : decode cX1_seek 39 = .ok (.goto (-33), 3) := by decide +kernel
theorem dX1_seek_42 : decode cX1_seek 42 = .ok (.iload_n 2, 1) := by decide +kernel
theorem dX1_seek_43 : decode cX1_seek 43 = .ok (.ifCond .ne 6, 3) := by decide +kernel
theorem dX1_seek_46 : decode cX1_seek 46 = .ok (.bipush (-3), 2) := by decide +kernel
theorem dX1_seek_48 : decode cX1_seek 48 = .ok (.ireturn, 1) := by decide +kernel
theorem dX1_seek_49 : decode cX1_seek 49 = .ok (.aload_n 0, 1) := by decide +kernel
theorem dX1_seek_50 : decode cX1_seek 50 = .ok (.getfield 12, 3) := by decide +kernel
theorem dX1_seek_53 : decode cX1_seek 53 = .ok (.iload_n 1, 1) := by decide +kernel
theorem dX1_seek_54 : decode cX1_seek 54 = .ok (.invokevirtual 93, 3) := by decide +kernel
theorem dX1_seek_57 : decode cX1_seek 57 = .ok (.iload_n 1, 1) := by decide +kernel
theorem dX1_seek_58 : decode cX1_seek 58 = .ok (.ireturn, 1) := by decide +kernel
set_option maxRecDepth 20000 in
theorem ggX1_gain_X1_within : GoodIn wsX1_gain wsX1_within := goodIn_r _ [5] (by decide +kernel) (by decide +kernel)
set_option maxRecDepth 20000 in
theorem gX1_gain_X1_within : GoodIn wsX1_gain (va_wsS RX1 23 yX1_within wsX1_within) := goodIn_app (goodIn_of _ (by decide +kernel)) ggX1_gain_X1_within
set_option maxRecDepth 20000 in
theorem ggX1_gain_X0_nearSquares : GoodIn wsX1_gain wsX0_nearSquares := goodIn_r _ [10, 11, 12, 13, 9, 14, 15, 16, 33, 34, 35, 36, 37, 38, 39, 40, 41, 42, 43] (by decide +kernel) (by decide +kernel)
set_option maxRecDepth 20000 in
theorem gX1_gain_X0_nearSquares : GoodIn wsX1_gain (wsV RX1 96 RX0 yX0_nearSquares wsX0_nearSquares) := goodIn_app (goodIn_of _ (by decide +kernel)) ggX1_gain_X0_nearSquares
set_option maxRecDepth 20000 in
theorem ggX1_gain_X0_outSquares : GoodIn wsX1_gain wsX0_outSquares := goodIn_r _ [20, 21, 22, 23, 9, 24, 25, 16, 33, 34, 35, 36, 37, 38, 39, 40, 41, 42, 43] (by decide +kernel) (by decide +kernel)
set_option maxRecDepth 20000 in
theorem gX1_gain_X0_outSquares : GoodIn wsX1_gain (wsV RX1 100 RX0 yX0_outSquares wsX0_outSquares) := goodIn_app (goodIn_of _ (by decide +kernel)) ggX1_gain_X0_outSquares
set_option maxRecDepth 20000 in
theorem ggX1_gain_X1_greatestDivisor : GoodIn wsX1_gain wsX1_greatestDivisor := goodIn_r _ [28] (by decide +kernel) (by decide +kernel)
set_option maxRecDepth 20000 in
theorem gX1_gain_X1_greatestDivisor : GoodIn wsX1_gain (va_wsS RX1 103 yX1_greatestDivisor wsX1_greatestDivisor) := goodIn_app (goodIn_of _ (by decide +kernel)) ggX1_gain_X1_greatestDivisor
theorem dX1_gain_0 : decode cX1_gain 0 = .ok (.iload_n 1, 1) := by decide +kernel
theorem dX1_gain_1 : decode cX1_gain 1 = .ok (.iconst 0, 1) := by decide +kernel
theorem dX1_gain_2 : decode cX1_gain 2 = .ok (.iconst 1, 1) := by decide +kernel
theorem dX1_gain_3 : decode cX1_gain 3 = .ok (.invokestatic 23, 3) := by decide +kernel
theorem dX1_gain_6 : decode cX1_gain 6 = .ok (.ifCond .ne 6, 3) := by decide +kernel
theorem dX1_gain_9 : decode cX1_gain 9 = .ok (.bipush (-2), 2) := by decide +kernel
theorem dX1_gain_11 : decode cX1_gain 11 = .ok (.ireturn, 1) := by decide +kernel
theorem dX1_gain_12 : decode cX1_gain 12 = .ok (.aload_n 0, 1) := by decide +kernel
theorem dX1_gain_13 : decode cX1_gain 13 = .ok (.getfield 12, 3) := by decide +kernel
theorem dX1_gain_16 : decode cX1_gain 16 = .ok (.invokevirtual 96, 3) := by decide +kernel
theorem dX1_gain_19 : decode cX1_gain 19 = .ok (.istore_n 2, 1) := by decide +kernel
theorem dX1_gain_20 : decode cX1_gain 20 = .ok (.aload_n 0, 1) := by decide +kernel
theorem dX1_gain_21 : decode cX1_gain 21 = .ok (.getfield 12, 3) := by decide +kernel
theorem dX1_gain_24 : decode cX1_gain 24 = .ok (.invokevirtual 100, 3) := by decide +kernel
theorem dX1_gain_27 : decode cX1_gain 27 = .ok (.istore_n 3, 1) := by decide +kernel
theorem dX1_gain_28 : decode cX1_gain 28 = .ok (.iload_n 2, 1) := by decide +kernel
theorem dX1_gain_29 : decode cX1_gain 29 = .ok (.iload_n 3, 1) := by decide +kernel
theorem dX1_gain_30 : decode cX1_gain 30 = .ok (.invokestatic 103, 3) := by decide +kernel
theorem dX1_gain_33 : decode cX1_gain 33 = .ok (.istore 4, 2) := by decide +kernel
theorem dX1_gain_35 : decode cX1_gain 35 = .ok (.iload_n 3, 1) := by decide +kernel
theorem dX1_gain_36 : decode cX1_gain 36 = .ok (.ifCond .eq 8, 3) := by decide +kernel
theorem dX1_gain_39 : decode cX1_gain 39 = .ok (.iload 4, 2) := by decide +kernel
theorem dX1_gain_41 : decode cX1_gain 41 = .ok (.ifCond .ne 6, 3) := by decide +kernel
theorem dX1_gain_44 : decode cX1_gain 44 = .ok (.bipush (-3), 2) := by decide +kernel
theorem dX1_gain_46 : decode cX1_gain 46 = .ok (.ireturn, 1) := by decide +kernel
theorem dX1_gain_47 : decode cX1_gain 47 = .ok (.iload_n 1, 1) := by decide +kernel
theorem dX1_gain_48 : decode cX1_gain 48 = .ok (.ifCond .ne 7, 3) := by decide +kernel
theorem dX1_gain_51 : decode cX1_gain 51 = .ok (.iload_n 2, 1) := by decide +kernel
theorem dX1_gain_52 : decode cX1_gain 52 = .ok (.goto 4, 3) := by decide +kernel
theorem dX1_gain_55 : decode cX1_gain 55 = .ok (.iload_n 3, 1) := by decide +kernel
theorem dX1_gain_56 : decode cX1_gain 56 = .ok (.iload 4, 2) := by decide +kernel
theorem dX1_gain_58 : decode cX1_gain 58 = .ok (.idiv, 1) := by decide +kernel
theorem dX1_gain_59 : decode cX1_gain 59 = .ok (.ireturn, 1) := by decide +kernel
set_option maxRecDepth 20000 in
theorem ggX1_began_X1_within : GoodIn wsX1_began wsX1_within := goodIn_r _ [5] (by decide +kernel) (by decide +kernel)
set_option maxRecDepth 20000 in
theorem gX1_began_X1_within : GoodIn wsX1_began (va_wsS RX1 23 yX1_within wsX1_within) := goodIn_app (goodIn_of _ (by decide +kernel)) ggX1_began_X1_within
set_option maxRecDepth 20000 in
theorem ggX1_began_X0_beginning : GoodIn wsX1_began wsX0_beginning := goodIn_r _ [10, 11, 12, 13, 14, 9, 15, 16, 21, 22, 23, 24, 25, 26, 27, 28, 29, 30, 31] (by decide +kernel) (by decide +kernel)
set_option maxRecDepth 20000 in
theorem gX1_began_X0_beginning : GoodIn wsX1_began (wsV RX1 106 RX0 yX0_beginning wsX0_beginning) := goodIn_app (goodIn_of _ (by decide +kernel)) ggX1_began_X0_beginning
theorem dX1_began_0 : decode cX1_began 0 = .ok (.iload_n 2, 1) := by decide +kernel
theorem dX1_began_1 : decode cX1_began 1 = .ok (.iconst 0, 1) := by decide +kernel
theorem dX1_began_2 : decode cX1_began 2 = .ok (.iconst 1, 1) := by decide +kernel
theorem dX1_began_3 : decode cX1_began 3 = .ok (.invokestatic 23, 3) := by decide +kernel
theorem dX1_began_6 : decode cX1_began 6 = .ok (.ifCond .ne 6, 3) := by decide +kernel
theorem dX1_began_9 : decode cX1_began 9 = .ok (.bipush (-2), 2) := by decide +kernel
theorem dX1_began_11 : decode cX1_began 11 = .ok (.ireturn, 1) := by decide +kernel
theorem dX1_began_12 : decode cX1_began 12 = .ok (.aload_n 0, 1) := by decide +kernel
theorem dX1_began_13 : decode cX1_began 13 = .ok (.getfield 12, 3) := by decide +kernel
theorem dX1_began_16 : decode cX1_began 16 = .ok (.iload_n 1, 1) := by decide +kernel
theorem dX1_began_17 : decode cX1_began 17 = .ok (.iload_n 2, 1) := by decide +kernel
theorem dX1_began_18 : decode cX1_began 18 = .ok (.ifCond .ne 7, 3) := by decide +kernel
theorem dX1_began_21 : decode cX1_began 21 = .ok (.iconst 1, 1) := by decide +kernel
theorem dX1_began_22 : decode cX1_began 22 = .ok (.goto 4, 3) := by decide +kernel
theorem dX1_began_25 : decode cX1_began 25 = .ok (.iconst 2, 1) := by decide +kernel
theorem dX1_began_26 : decode cX1_began 26 = .ok (.invokevirtual 106, 3) := by decide +kernel
theorem dX1_began_29 : decode cX1_began 29 = .ok (.ireturn, 1) := by decide +kernel
set_option maxRecDepth 20000 in
theorem ggX1_image_X1_within : GoodIn wsX1_image wsX1_within := goodIn_r _ [7] (by decide +kernel) (by decide +kernel)
set_option maxRecDepth 20000 in
theorem gX1_image_X1_within : GoodIn wsX1_image (va_wsS RX1 23 yX1_within wsX1_within) := goodIn_app (goodIn_of _ (by decide +kernel)) ggX1_image_X1_within
set_option maxRecDepth 20000 in
theorem ggX1_image_X0_copyFrom : GoodIn wsX1_image wsX0_copyFrom := goodIn_r _ [12, 13, 14, 15, 16, 17, 18, 19, 20, 21, 22, 23, 24, 25, 26, 27, 32, 33, 34, 35, 36, 37, 38, 39, 40, 41, 42] (by decide +kernel) (by decide +kernel)
set_option maxRecDepth 20000 in
theorem gX1_image_X0_copyFrom : GoodIn wsX1_image (wsV RX1 86 RX0 yX0_copyFrom wsX0_copyFrom) := goodIn_app (goodIn_of _ (by decide +kernel)) ggX1_image_X0_copyFrom
theorem dX1_image_0 : decode cX1_image 0 = .ok (.iload_n 1, 1) := by decide +kernel
theorem dX1_image_1 : decode cX1_image 1 = .ok (.iconst 0, 1) := by decide +kernel
theorem dX1_image_2 : decode cX1_image 2 = .ok (.iconst 1, 1) := by decide +kernel
theorem dX1_image_3 : decode cX1_image 3 = .ok (.invokestatic 23, 3) := by decide +kernel
theorem dX1_image_6 : decode cX1_image 6 = .ok (.ifCond .ne 6, 3) := by decide +kernel
theorem dX1_image_9 : decode cX1_image 9 = .ok (.bipush (-2), 2) := by decide +kernel
theorem dX1_image_11 : decode cX1_image 11 = .ok (.ireturn, 1) := by decide +kernel
theorem dX1_image_12 : decode cX1_image 12 = .ok (.aload_n 0, 1) := by decide +kernel
theorem dX1_image_13 : decode cX1_image 13 = .ok (.getfield 19, 3) := by decide +kernel
theorem dX1_image_16 : decode cX1_image 16 = .ok (.iload_n 1, 1) := by decide +kernel
theorem dX1_image_17 : decode cX1_image 17 = .ok (.aaload, 1) := by decide +kernel
theorem dX1_image_18 : decode cX1_image 18 = .ok (.aload_n 0, 1) := by decide +kernel
theorem dX1_image_19 : decode cX1_image 19 = .ok (.getfield 12, 3) := by decide +kernel
theorem dX1_image_22 : decode cX1_image 22 = .ok (.invokevirtual 86, 3) := by decide +kernel
theorem dX1_image_25 : decode cX1_image 25 = .ok (.aload_n 0, 1) := by decide +kernel
theorem dX1_image_26 : decode cX1_image 26 = .ok (.dup, 1) := by decide +kernel
theorem dX1_image_27 : decode cX1_image 27 = .ok (.getfield 109, 3) := by decide +kernel
theorem dX1_image_30 : decode cX1_image 30 = .ok (.iconst 1, 1) := by decide +kernel
theorem dX1_image_31 : decode cX1_image 31 = .ok (.iload_n 1, 1) := by decide +kernel
theorem dX1_image_32 : decode cX1_image 32 = .ok (.ishl, 1) := by decide +kernel
theorem dX1_image_33 : decode cX1_image 33 = .ok (.ior, 1) := by decide +kernel
theorem dX1_image_34 : decode cX1_image 34 = .ok (.putfield 109, 3) := by decide +kernel
theorem dX1_image_37 : decode cX1_image 37 = .ok (.iconst 1, 1) := by decide +kernel
theorem dX1_image_38 : decode cX1_image 38 = .ok (.ireturn, 1) := by decide +kernel
set_option maxRecDepth 20000 in
theorem ggX1_restore_X1_within : GoodIn wsX1_restore wsX1_within := goodIn_r _ [7] (by decide +kernel) (by decide +kernel)
set_option maxRecDepth 20000 in
theorem gX1_restore_X1_within : GoodIn wsX1_restore (va_wsS RX1 23 yX1_within wsX1_within) := goodIn_app (goodIn_of _ (by decide +kernel)) ggX1_restore_X1_within
set_option maxRecDepth 20000 in
theorem ggX1_restore_X0_copyFrom : GoodIn wsX1_restore wsX0_copyFrom := goodIn_r _ [12, 13, 14, 15, 16, 17, 18, 19, 20, 21, 22, 23, 24, 25, 26, 27, 32, 33, 34, 35, 36, 37, 38, 39, 40, 41, 42] (by decide +kernel) (by decide +kernel)
set_option maxRecDepth 20000 in
theorem gX1_restore_X0_copyFrom : GoodIn wsX1_restore (wsV RX1 86 RX0 yX0_copyFrom wsX0_copyFrom) := goodIn_app (goodIn_of _ (by decide +kernel)) ggX1_restore_X0_copyFrom
theorem dX1_restore_0 : decode cX1_restore 0 = .ok (.iload_n 1, 1) := by decide +kernel
theorem dX1_restore_1 : decode cX1_restore 1 = .ok (.iconst 0, 1) := by decide +kernel
theorem dX1_restore_2 : decode cX1_restore 2 = .ok (.iconst 1, 1) := by decide +kernel
theorem dX1_restore_3 : decode cX1_restore 3 = .ok (.invokestatic 23, 3) := by decide +kernel
theorem dX1_restore_6 : decode cX1_restore 6 = .ok (.ifCond .ne 6, 3) := by decide +kernel
theorem dX1_restore_9 : decode cX1_restore 9 = .ok (.bipush (-2), 2) := by decide +kernel
theorem dX1_restore_11 : decode cX1_restore 11 = .ok (.ireturn, 1) := by decide +kernel
theorem dX1_restore_12 : decode cX1_restore 12 = .ok (.aload_n 0, 1) := by decide +kernel
theorem dX1_restore_13 : decode cX1_restore 13 = .ok (.getfield 109, 3) := by decide +kernel
theorem dX1_restore_16 : decode cX1_restore 16 = .ok (.iconst 1, 1) := by decide +kernel
theorem dX1_restore_17 : decode cX1_restore 17 = .ok (.iload_n 1, 1) := by decide +kernel
theorem dX1_restore_18 : decode cX1_restore 18 = .ok (.ishl, 1) := by decide +kernel
theorem dX1_restore_19 : decode cX1_restore 19 = .ok (.iand, 1) := by decide +kernel
theorem dX1_restore_20 : decode cX1_restore 20 = .ok (.ifCond .ne 6, 3) := by decide +kernel
theorem dX1_restore_23 : decode cX1_restore 23 = .ok (.bipush (-3), 2) := by decide +kernel
theorem dX1_restore_25 : decode cX1_restore 25 = .ok (.ireturn, 1) := by decide +kernel
theorem dX1_restore_26 : decode cX1_restore 26 = .ok (.aload_n 0, 1) := by decide +kernel
theorem dX1_restore_27 : decode cX1_restore 27 = .ok (.getfield 12, 3) := by decide +kernel
theorem dX1_restore_30 : decode cX1_restore 30 = .ok (.aload_n 0, 1) := by decide +kernel
theorem dX1_restore_31 : decode cX1_restore 31 = .ok (.getfield 19, 3) := by decide +kernel
theorem dX1_restore_34 : decode cX1_restore 34 = .ok (.iload_n 1, 1) := by decide +kernel
theorem dX1_restore_35 : decode cX1_restore 35 = .ok (.aaload, 1) := by decide +kernel
theorem dX1_restore_36 : decode cX1_restore 36 = .ok (.invokevirtual 86, 3) := by decide +kernel
theorem dX1_restore_39 : decode cX1_restore 39 = .ok (.iconst 1, 1) := by decide +kernel
theorem dX1_restore_40 : decode cX1_restore 40 = .ok (.ireturn, 1) := by decide +kernel
set_option maxRecDepth 20000 in
theorem ggX1_count_X1_within : GoodIn wsX1_count wsX1_within := goodIn_r _ [11] (by decide +kernel) (by decide +kernel)
set_option maxRecDepth 20000 in
theorem gX1_count_X1_within : GoodIn wsX1_count (va_wsS RX1 23 yX1_within wsX1_within) := goodIn_app (goodIn_of _ (by decide +kernel)) ggX1_count_X1_within
set_option maxRecDepth 20000 in
theorem ggX1_count_X0_tapSizes : GoodIn wsX1_count wsX0_tapSizes := goodIn_r _ [16, 17, 18, 19, 20, 21, 26, 27, 28, 29, 30, 31, 32, 33, 34, 35, 36] (by decide +kernel) (by decide +kernel)
set_option maxRecDepth 20000 in
theorem gX1_count_X0_tapSizes : GoodIn wsX1_count (wsV RX1 118 RX0 yX0_tapSizes wsX0_tapSizes) := goodIn_app (goodIn_of _ (by decide +kernel)) ggX1_count_X0_tapSizes
theorem dX1_count_0 : decode cX1_count 0 = .ok (.iload_n 1, 1) := by decide +kernel
theorem dX1_count_1 : decode cX1_count 1 = .ok (.bipush 10, 2) := by decide +kernel
theorem dX1_count_3 : decode cX1_count 3 = .ok (.bipush 14, 2) := by decide +kernel
theorem dX1_count_5 : decode cX1_count 5 = .ok (.invokestatic 23, 3) := by decide +kernel
theorem dX1_count_8 : decode cX1_count 8 = .ok (.ifCond .eq 16, 3) := by decide +kernel
theorem dX1_count_11 : decode cX1_count 11 = .ok (.aload_n 0, 1) := by decide +kernel
theorem dX1_count_12 : decode cX1_count 12 = .ok (.getfield 12, 3) := by decide +kernel
theorem dX1_count_15 : decode cX1_count 15 = .ok (.getfield 31, 3) := by decide +kernel
theorem dX1_count_18 : decode cX1_count 18 = .ok (.iload_n 1, 1) := by decide +kernel
theorem dX1_count_19 : decode cX1_count 19 = .ok (.bipush 10, 2) := by decide +kernel
theorem dX1_count_21 : decode cX1_count 21 = .ok (.isub, 1) := by decide +kernel
theorem dX1_count_22 : decode cX1_count 22 = .ok (.iaload, 1) := by decide +kernel
theorem dX1_count_23 : decode cX1_count 23 = .ok (.ireturn, 1) := by decide +kernel
theorem dX1_count_24 : decode cX1_count 24 = .ok (.iload_n 1, 1) := by decide +kernel
theorem dX1_count_25 : decode cX1_count 25 = .ok (.tableswitch 87 0 5 #[39, 47, 55, 63, 71, 82], 39) := by decide +kernel
theorem dX1_count_64 : decode cX1_count 64 = .ok (.aload_n 0, 1) := by decide +kernel
theorem dX1_count_65 : decode cX1_count 65 = .ok (.getfield 12, 3) := by decide +kernel
theorem dX1_count_68 : decode cX1_count 68 = .ok (.getfield 46, 3) := by decide +kernel
theorem dX1_count_71 : decode cX1_count 71 = .ok (.ireturn, 1) := by decide +kernel
theorem dX1_count_72 : decode cX1_count 72 = .ok (.aload_n 0, 1) := by decide +kernel
theorem dX1_count_73 : decode cX1_count 73 = .ok (.getfield 12, 3) := by decide +kernel
theorem dX1_count_76 : decode cX1_count 76 = .ok (.getfield 112, 3) := by decide +kernel
theorem dX1_count_79 : decode cX1_count 79 = .ok (.ireturn, 1) := by decide +kernel
theorem dX1_count_80 : decode cX1_count 80 = .ok (.aload_n 0, 1) := by decide +kernel
theorem dX1_count_81 : decode cX1_count 81 = .ok (.getfield 12, 3) := by decide +kernel
theorem dX1_count_84 : decode cX1_count 84 = .ok (.getfield 115, 3) := by decide +kernel
theorem dX1_count_87 : decode cX1_count 87 = .ok (.ireturn, 1) := by decide +kernel
theorem dX1_count_88 : decode cX1_count 88 = .ok (.aload_n 0, 1) := by decide +kernel
theorem dX1_count_89 : decode cX1_count 89 = .ok (.getfield 12, 3) := by decide +kernel
theorem dX1_count_92 : decode cX1_count 92 = .ok (.invokevirtual 118, 3) := by decide +kernel
theorem dX1_count_95 : decode cX1_count 95 = .ok (.ireturn, 1) := by decide +kernel
theorem dX1_count_96 : decode cX1_count 96 = .ok (.aload_n 0, 1) := by decide +kernel
theorem dX1_count_97 : decode cX1_count 97 = .ok (.getfield 12, 3) := by decide +kernel
theorem dX1_count_100 : decode cX1_count 100 = .ok (.getfield 64, 3) := by decide +kernel
theorem dX1_count_103 : decode cX1_count 103 = .ok (.bipush 8, 2) := by decide +kernel
theorem dX1_count_105 : decode cX1_count 105 = .ok (.iaload, 1) := by decide +kernel
theorem dX1_count_106 : decode cX1_count 106 = .ok (.ireturn, 1) := by decide +kernel
theorem dX1_count_107 : decode cX1_count 107 = .ok (.aload_n 0, 1) := by decide +kernel
theorem dX1_count_108 : decode cX1_count 108 = .ok (.getfield 109, 3) := by decide +kernel
theorem dX1_count_111 : decode cX1_count 111 = .ok (.ireturn, 1) := by decide +kernel
theorem dX1_count_112 : decode cX1_count 112 = .ok (.bipush (-2), 2) := by decide +kernel
theorem dX1_count_114 : decode cX1_count 114 = .ok (.ireturn, 1) := by decide +kernel
theorem dX1_within_0 : decode cX1_within 0 = .ok (.iload_n 1, 1) := by decide +kernel
theorem dX1_within_1 : decode cX1_within 1 = .ok (.iload_n 0, 1) := by decide +kernel
theorem dX1_within_2 : decode cX1_within 2 = .ok (.if_icmp .gt 12, 3) := by decide +kernel
theorem dX1_within_5 : decode cX1_within 5 = .ok (.iload_n 0, 1) := by decide +kernel
theorem dX1_within_6 : decode cX1_within 6 = .ok (.iload_n 2, 1) := by decide +kernel
theorem dX1_within_7 : decode cX1_within 7 = .ok (.if_icmp .gt 7, 3) := by decide +kernel
theorem dX1_within_10 : decode cX1_within 10 = .ok (.iconst 1, 1) := by decide +kernel
theorem dX1_within_11 : decode cX1_within 11 = .ok (.goto 4, 3) := by decide +kernel
theorem dX1_within_14 : decode cX1_within 14 = .ok (.iconst 0, 1) := by decide +kernel
theorem dX1_within_15 : decode cX1_within 15 = .ok (.ireturn, 1) := by decide +kernel
theorem dX1_limited_0 : decode cX1_limited 0 = .ok (.iload_n 1, 1) := by decide +kernel
theorem dX1_limited_1 : decode cX1_limited 1 = .ok (.iload_n 2, 1) := by decide +kernel
theorem dX1_limited_2 : decode cX1_limited 2 = .ok (.iload_n 0, 1) := by decide +kernel
theorem dX1_limited_3 : decode cX1_limited 3 = .ok (.invokestatic 121, 3) := by decide +kernel
theorem dX1_limited_6 : decode cX1_limited 6 = .ok (.invokestatic 124, 3) := by decide +kernel
theorem dX1_limited_9 : decode cX1_limited 9 = .ok (.ireturn, 1) := by decide +kernel
set_option maxRecDepth 20000 in
theorem ggX1_startsRun_X1_within : GoodIn wsX1_startsRun wsX1_within := goodIn_r _ [5] (by decide +kernel) (by decide +kernel)
set_option maxRecDepth 20000 in
theorem gX1_startsRun_X1_within : GoodIn wsX1_startsRun (va_wsS RX1 23 yX1_within wsX1_within) := goodIn_app (goodIn_of _ (by decide +kernel)) ggX1_startsRun_X1_within
theorem dX1_startsRun_0 : decode cX1_startsRun 0 = .ok (.iload_n 0, 1) := by decide +kernel
theorem dX1_startsRun_1 : decode cX1_startsRun 1 = .ok (.iconst 0, 1) := by decide +kernel
theorem dX1_startsRun_2 : decode cX1_startsRun 2 = .ok (.ldc 127, 2) := by decide +kernel
theorem dX1_startsRun_4 : decode cX1_startsRun 4 = .ok (.invokestatic 23, 3) := by decide +kernel
theorem dX1_startsRun_7 : decode cX1_startsRun 7 = .ok (.ifCond .eq 18, 3) := by decide +kernel
theorem dX1_startsRun_10 : decode cX1_startsRun 10 = .ok (.iload_n 1, 1) := by decide +kernel
theorem dX1_startsRun_11 : decode cX1_startsRun 11 = .ok (.iconst 0, 1) := by decide +kernel
theorem dX1_startsRun_12 : decode cX1_startsRun 12 = .ok (.sipush 1000, 3) := by decide +kernel
theorem dX1_startsRun_15 : decode cX1_startsRun 15 = .ok (.invokestatic 23, 3) := by decide +kernel
theorem dX1_startsRun_18 : decode cX1_startsRun 18 = .ok (.ifCond .eq 7, 3) := by decide +kernel
theorem dX1_startsRun_21 : decode cX1_startsRun 21 = .ok (.iconst 1, 1) := by decide +kernel
theorem dX1_startsRun_22 : decode cX1_startsRun 22 = .ok (.goto 4, 3) := by decide +kernel
theorem dX1_startsRun_25 : decode cX1_startsRun 25 = .ok (.iconst 0, 1) := by decide +kernel
theorem dX1_startsRun_26 : decode cX1_startsRun 26 = .ok (.ireturn, 1) := by decide +kernel
theorem dX1_nextSeed_0 : decode cX1_nextSeed 0 = .ok (.bipush 75, 2) := by decide +kernel
theorem dX1_nextSeed_2 : decode cX1_nextSeed 2 = .ok (.iload_n 0, 1) := by decide +kernel
theorem dX1_nextSeed_3 : decode cX1_nextSeed 3 = .ok (.imul, 1) := by decide +kernel
theorem dX1_nextSeed_4 : decode cX1_nextSeed 4 = .ok (.bipush 74, 2) := by decide +kernel
theorem dX1_nextSeed_6 : decode cX1_nextSeed 6 = .ok (.iadd, 1) := by decide +kernel
theorem dX1_nextSeed_7 : decode cX1_nextSeed 7 = .ok (.ldc 128, 2) := by decide +kernel
theorem dX1_nextSeed_9 : decode cX1_nextSeed 9 = .ok (.irem, 1) := by decide +kernel
theorem dX1_nextSeed_10 : decode cX1_nextSeed 10 = .ok (.ireturn, 1) := by decide +kernel
theorem dX1_centred_0 : decode cX1_centred 0 = .ok (.iload_n 0, 1) := by decide +kernel
theorem dX1_centred_1 : decode cX1_centred 1 = .ok (.iconst 2, 1) := by decide +kernel
theorem dX1_centred_2 : decode cX1_centred 2 = .ok (.iload_n 1, 1) := by decide +kernel
theorem dX1_centred_3 : decode cX1_centred 3 = .ok (.imul, 1) := by decide +kernel
theorem dX1_centred_4 : decode cX1_centred 4 = .ok (.iconst 1, 1) := by decide +kernel
theorem dX1_centred_5 : decode cX1_centred 5 = .ok (.iadd, 1) := by decide +kernel
theorem dX1_centred_6 : decode cX1_centred 6 = .ok (.irem, 1) := by decide +kernel
theorem dX1_centred_7 : decode cX1_centred 7 = .ok (.iload_n 1, 1) := by decide +kernel
theorem dX1_centred_8 : decode cX1_centred 8 = .ok (.isub, 1) := by decide +kernel
theorem dX1_centred_9 : decode cX1_centred 9 = .ok (.ireturn, 1) := by decide +kernel
theorem dX1_greatestDivisor_0 : decode cX1_greatestDivisor 0 = .ok (.iload_n 0, 1) := by decide +kernel
theorem dX1_greatestDivisor_1 : decode cX1_greatestDivisor 1 = .ok (.istore_n 2, 1) := by decide +kernel
theorem dX1_greatestDivisor_2 : decode cX1_greatestDivisor 2 = .ok (.iload_n 1, 1) := by decide +kernel
theorem dX1_greatestDivisor_3 : decode cX1_greatestDivisor 3 = .ok (.istore_n 3, 1) := by decide +kernel
theorem dX1_greatestDivisor_4 : decode cX1_greatestDivisor 4 = .ok (.iconst 0, 1) := by decide +kernel
theorem dX1_greatestDivisor_5 : decode cX1_greatestDivisor 5 = .ok (.istore 4, 2) := by decide +kernel
theorem dX1_greatestDivisor_7 : decode cX1_greatestDivisor 7 = .ok (.iload 4, 2) := by decide +kernel
theorem dX1_greatestDivisor_9 : decode cX1_greatestDivisor 9 = .ok (.bipush 64, 2) := by decide +kernel
theorem dX1_greatestDivisor_11 : decode cX1_greatestDivisor 11 = .ok (.if_icmp .ge 23, 3) := by decide +kernel
theorem dX1_greatestDivisor_14 : decode cX1_greatestDivisor 14 = .ok (.iload_n 3, 1) := by decide +kernel
theorem dX1_greatestDivisor_15 : decode cX1_greatestDivisor 15 = .ok (.ifCond .eq 19, 3) := by decide +kernel
theorem dX1_greatestDivisor_18 : decode cX1_greatestDivisor 18 = .ok (.iload_n 2, 1) := by decide +kernel
theorem dX1_greatestDivisor_19 : decode cX1_greatestDivisor 19 = .ok (.iload_n 3, 1) := by decide +kernel
theorem dX1_greatestDivisor_20 : decode cX1_greatestDivisor 20 = .ok (.irem, 1) := by decide +kernel
theorem dX1_greatestDivisor_21 : decode cX1_greatestDivisor 21 = .ok (.istore 5, 2) := by decide +kernel
theorem dX1_greatestDivisor_23 : decode cX1_greatestDivisor 23 = .ok (.iload_n 3, 1) := by decide +kernel
theorem dX1_greatestDivisor_24 : decode cX1_greatestDivisor 24 = .ok (.istore_n 2, 1) := by decide +kernel
theorem dX1_greatestDivisor_25 : decode cX1_greatestDivisor 25 = .ok (.iload 5, 2) := by decide +kernel
theorem dX1_greatestDivisor_27 : decode cX1_greatestDivisor 27 = .ok (.istore_n 3, 1) := by decide +kernel
theorem dX1_greatestDivisor_28 : decode cX1_greatestDivisor 28 = .ok (.iinc 4 1, 3) := by decide +kernel
theorem dX1_greatestDivisor_31 : decode cX1_greatestDivisor 31 = .ok (.goto (-24), 3) := by decide +kernel
theorem dX1_greatestDivisor_34 : decode cX1_greatestDivisor 34 = .ok (.iload_n 2, 1) := by decide +kernel
theorem dX1_greatestDivisor_35 : decode cX1_greatestDivisor 35 = .ok (.ireturn, 1) := by decide +kernel
end
section
theorem dX2_init_0 : decode cX2_init 0 = .ok (.aload_n 0, 1) := by decide +kernel
theorem dX2_init_1 : decode cX2_init 1 = .ok (.invokespecial 1, 3) := by decide +kernel
theorem dX2_init_4 : decode cX2_init 4 = .ok (.aload_n 0, 1) := by decide +kernel
theorem dX2_init_5 : decode cX2_init 5 = .ok (.sipush 555, 3) := by decide +kernel
theorem dX2_init_8 : decode cX2_init 8 = .ok (.newarray .int, 2) := by decide +kernel
theorem dX2_init_10 : decode cX2_init 10 = .ok (.putfield 7, 3) := by decide +kernel
theorem dX2_init_13 : decode cX2_init 13 = .ok (.aload_n 0, 1) := by decide +kernel
theorem dX2_init_14 : decode cX2_init 14 = .ok (.sipush 1665, 3) := by decide +kernel
theorem dX2_init_17 : decode cX2_init 17 = .ok (.newarray .int, 2) := by decide +kernel
theorem dX2_init_19 : decode cX2_init 19 = .ok (.putfield 13, 3) := by decide +kernel
theorem dX2_init_22 : decode cX2_init 22 = .ok (.aload_n 0, 1) := by decide +kernel
theorem dX2_init_23 : decode cX2_init 23 = .ok (.iconst 2, 1) := by decide +kernel
theorem dX2_init_24 : decode cX2_init 24 = .ok (.newarray .boolean, 2) := by decide +kernel
theorem dX2_init_26 : decode cX2_init 26 = .ok (.putfield 16, 3) := by decide +kernel
theorem dX2_init_29 : decode cX2_init 29 = .ok (.aload_n 0, 1) := by decide +kernel
theorem dX2_init_30 : decode cX2_init 30 = .ok (.getfield 7, 3) := by decide +kernel
theorem dX2_init_33 : decode cX2_init 33 = .ok (.iconst 0, 1) := by decide +kernel
theorem dX2_init_34 : decode cX2_init 34 = .ok (.sipush 512, 3) := by decide +kernel
theorem dX2_init_37 : decode cX2_init 37 = .ok (.iastore, 1) := by decide +kernel
theorem dX2_init_38 : decode cX2_init 38 = .ok (.aload_n 0, 1) := by decide +kernel
theorem dX2_init_39 : decode cX2_init 39 = .ok (.getfield 7, 3) := by decide +kernel
theorem dX2_init_42 : decode cX2_init 42 = .ok (.iconst 1, 1) := by decide +kernel
theorem dX2_init_43 : decode cX2_init 43 = .ok (.iconst 5, 1) := by decide +kernel
theorem dX2_init_44 : decode cX2_init 44 = .ok (.iastore, 1) := by decide +kernel
theorem dX2_init_45 : decode cX2_init 45 = .ok (.return_, 1) := by decide +kernel
theorem dX2_in_0 : decode cX2_in 0 = .ok (.iload_n 0, 1) := by decide +kernel
theorem dX2_in_1 : decode cX2_in 1 = .ok (.iload_n 1, 1) := by decide +kernel
theorem dX2_in_2 : decode cX2_in 2 = .ok (.if_icmp .lt 12, 3) := by decide +kernel
theorem dX2_in_5 : decode cX2_in 5 = .ok (.iload_n 0, 1) := by decide +kernel
theorem dX2_in_6 : decode cX2_in 6 = .ok (.iload_n 2, 1) := by decide +kernel
theorem dX2_in_7 : decode cX2_in 7 = .ok (.if_icmp .gt 7, 3) := by decide +kernel
theorem dX2_in_10 : decode cX2_in 10 = .ok (.iconst 1, 1) := by decide +kernel
theorem dX2_in_11 : decode cX2_in 11 = .ok (.goto 4, 3) := by decide +kernel
theorem dX2_in_14 : decode cX2_in 14 = .ok (.iconst 0, 1) := by decide +kernel
theorem dX2_in_15 : decode cX2_in 15 = .ok (.ireturn, 1) := by decide +kernel
theorem dX2_size_0 : decode cX2_size 0 = .ok (.iload_n 0, 1) := by decide +kernel
theorem dX2_size_1 : decode cX2_size 1 = .ok (.ifCond .ge 8, 3) := by decide +kernel
theorem dX2_size_4 : decode cX2_size 4 = .ok (.iload_n 0, 1) := by decide +kernel
theorem dX2_size_5 : decode cX2_size 5 = .ok (.ineg, 1) := by decide +kernel
theorem dX2_size_6 : decode cX2_size 6 = .ok (.goto 4, 3) := by decide +kernel
theorem dX2_size_9 : decode cX2_size 9 = .ok (.iload_n 0, 1) := by decide +kernel
theorem dX2_size_10 : decode cX2_size 10 = .ok (.ireturn, 1) := by decide +kernel
theorem dX2_within_0 : decode cX2_within 0 = .ok (.iload_n 0, 1) := by decide +kernel
theorem dX2_within_1 : decode cX2_within 1 = .ok (.iload_n 1, 1) := by decide +kernel
theorem dX2_within_2 : decode cX2_within 2 = .ok (.if_icmp .ge 7, 3) := by decide +kernel
theorem dX2_within_5 : decode cX2_within 5 = .ok (.iload_n 1, 1) := by decide +kernel
theorem dX2_within_6 : decode cX2_within 6 = .ok (.goto 13, 3) := by decide +kernel
theorem dX2_within_9 : decode cX2_within 9 = .ok (.iload_n 0, 1) := by decide +kernel
theorem dX2_within_10 : decode cX2_within 10 = .ok (.iload_n 2, 1) := by decide +kernel
theorem dX2_within_11 : decode cX2_within 11 = .ok (.if_icmp .le 7, 3) := by decide +kernel
theorem dX2_within_14 : decode cX2_within 14 = .ok (.iload_n 2, 1) := by decide +kernel
theorem dX2_within_15 : decode cX2_within 15 = .ok (.goto 4, 3) := by decide +kernel
theorem dX2_within_18 : decode cX2_within 18 = .ok (.iload_n 0, 1) := by decide +kernel
theorem dX2_within_19 : decode cX2_within 19 = .ok (.ireturn, 1) := by decide +kernel
theorem dX2_most_0 : decode cX2_most 0 = .ok (.iload_n 0, 1) := by decide +kernel
theorem dX2_most_1 : decode cX2_most 1 = .ok (.tableswitch 45 0 3 #[31, 35, 38, 42], 31) := by decide +kernel
theorem dX2_most_32 : decode cX2_most 32 = .ok (.sipush 1024, 3) := by decide +kernel
theorem dX2_most_35 : decode cX2_most 35 = .ok (.ireturn, 1) := by decide +kernel
theorem dX2_most_36 : decode cX2_most 36 = .ok (.bipush 20, 2) := by decide +kernel
theorem dX2_most_38 : decode cX2_most 38 = .ok (.ireturn, 1) := by decide +kernel
theorem dX2_most_39 : decode cX2_most 39 = .ok (.sipush 500, 3) := by decide +kernel
theorem dX2_most_42 : decode cX2_most 42 = .ok (.ireturn, 1) := by decide +kernel
theorem dX2_most_43 : decode cX2_most 43 = .ok (.bipush 50, 2) := by decide +kernel
theorem dX2_most_45 : decode cX2_most 45 = .ok (.ireturn, 1) := by decide +kernel
theorem dX2_most_46 : decode cX2_most 46 = .ok (.bipush 15, 2) := by decide +kernel
theorem dX2_most_48 : decode cX2_most 48 = .ok (.ireturn, 1) := by decide +kernel
set_option maxRecDepth 20000 in
theorem ggX2_rule_X2_in : GoodIn wsX2_rule wsX2_in := goodIn_r _ [5] (by decide +kernel) (by decide +kernel)
set_option maxRecDepth 20000 in
theorem gX2_rule_X2_in : GoodIn wsX2_rule (va_wsS RX2 20 yX2_in wsX2_in) := goodIn_app (goodIn_of _ (by decide +kernel)) ggX2_rule_X2_in
set_option maxRecDepth 20000 in
theorem ggX2_rule_X2_most : GoodIn wsX2_rule wsX2_most := goodIn_r _ [8] (by decide +kernel) (by decide +kernel)
set_option maxRecDepth 20000 in
theorem gX2_rule_X2_most : GoodIn wsX2_rule (va_wsS RX2 24 yX2_most wsX2_most) := goodIn_app (goodIn_of _ (by decide +kernel)) ggX2_rule_X2_most
theorem dX2_rule_0 : decode cX2_rule 0 = .ok (.iload_n 1, 1) := by decide +kernel
theorem dX2_rule_1 : decode cX2_rule 1 = .ok (.iconst 0, 1) := by decide +kernel
theorem dX2_rule_2 : decode cX2_rule 2 = .ok (.iconst 4, 1) := by decide +kernel
theorem dX2_rule_3 : decode cX2_rule 3 = .ok (.invokestatic 20, 3) := by decide +kernel
theorem dX2_rule_6 : decode cX2_rule 6 = .ok (.ifCond .eq 15, 3) := by decide +kernel
theorem dX2_rule_9 : decode cX2_rule 9 = .ok (.iload_n 2, 1) := by decide +kernel
theorem dX2_rule_10 : decode cX2_rule 10 = .ok (.iconst 0, 1) := by decide +kernel
theorem dX2_rule_11 : decode cX2_rule 11 = .ok (.iload_n 1, 1) := by decide +kernel
theorem dX2_rule_12 : decode cX2_rule 12 = .ok (.invokestatic 24, 3) := by decide +kernel
theorem dX2_rule_15 : decode cX2_rule 15 = .ok (.invokestatic 20, 3) := by decide +kernel
theorem dX2_rule_18 : decode cX2_rule 18 = .ok (.ifCond .ne 6, 3) := by decide +kernel
theorem dX2_rule_21 : decode cX2_rule 21 = .ok (.bipush (-2), 2) := by decide +kernel
theorem dX2_rule_23 : decode cX2_rule 23 = .ok (.ireturn, 1) := by decide +kernel
theorem dX2_rule_24 : decode cX2_rule 24 = .ok (.aload_n 0, 1) := by decide +kernel
theorem dX2_rule_25 : decode cX2_rule 25 = .ok (.getfield 7, 3) := by decide +kernel
theorem dX2_rule_28 : decode cX2_rule 28 = .ok (.iconst 0, 1) := by decide +kernel
theorem dX2_rule_29 : decode cX2_rule 29 = .ok (.iload_n 1, 1) := by decide +kernel
theorem dX2_rule_30 : decode cX2_rule 30 = .ok (.iadd, 1) := by decide +kernel
theorem dX2_rule_31 : decode cX2_rule 31 = .ok (.iaload, 1) := by decide +kernel
theorem dX2_rule_32 : decode cX2_rule 32 = .ok (.istore_n 3, 1) := by decide +kernel
theorem dX2_rule_33 : decode cX2_rule 33 = .ok (.aload_n 0, 1) := by decide +kernel
theorem dX2_rule_34 : decode cX2_rule 34 = .ok (.getfield 7, 3) := by decide +kernel
theorem dX2_rule_37 : decode cX2_rule 37 = .ok (.iconst 0, 1) := by decide +kernel
theorem dX2_rule_38 : decode cX2_rule 38 = .ok (.iload_n 1, 1) := by decide +kernel
theorem dX2_rule_39 : decode cX2_rule 39 = .ok (.iadd, 1) := by decide +kernel
theorem dX2_rule_40 : decode cX2_rule 40 = .ok (.iload_n 2, 1) := by decide +kernel
theorem dX2_rule_41 : decode cX2_rule 41 = .ok (.iastore, 1) := by decide +kernel
theorem dX2_rule_42 : decode cX2_rule 42 = .ok (.iload_n 3, 1) := by decide +kernel
theorem dX2_rule_43 : decode cX2_rule 43 = .ok (.ireturn, 1) := by decide +kernel
theorem dX2_shift_0 : decode cX2_shift 0 = .ok (.iload_n 2, 1) := by decide +kernel
theorem dX2_shift_1 : decode cX2_shift 1 = .ok (.iconst 1, 1) := by decide +kernel
theorem dX2_shift_2 : decode cX2_shift 2 = .ok (.isub, 1) := by decide +kernel
theorem dX2_shift_3 : decode cX2_shift 3 = .ok (.istore 4, 2) := by decide +kernel
theorem dX2_shift_5 : decode cX2_shift 5 = .ok (.iload 4, 2) := by decide +kernel
theorem dX2_shift_7 : decode cX2_shift 7 = .ok (.ifCond .le 29, 3) := by decide +kernel
theorem dX2_shift_10 : decode cX2_shift 10 = .ok (.aload_n 0, 1) := by decide +kernel
theorem dX2_shift_11 : decode cX2_shift 11 = .ok (.getfield 7, 3) := by decide +kernel
theorem dX2_shift_14 : decode cX2_shift 14 = .ok (.iload_n 1, 1) := by decide +kernel
theorem dX2_shift_15 : decode cX2_shift 15 = .ok (.iload 4, 2) := by decide +kernel
theorem dX2_shift_17 : decode cX2_shift 17 = .ok (.iadd, 1) := by decide +kernel
theorem dX2_shift_18 : decode cX2_shift 18 = .ok (.aload_n 0, 1) := by decide +kernel
theorem dX2_shift_19 : decode cX2_shift 19 = .ok (.getfield 7, 3) := by decide +kernel
theorem dX2_shift_22 : decode cX2_shift 22 = .ok (.iload_n 1, 1) := by decide +kernel
theorem dX2_shift_23 : decode cX2_shift 23 = .ok (.iload 4, 2) := by decide +kernel
theorem dX2_shift_25 : decode cX2_shift 25 = .ok (.iadd, 1) := by decide +kernel
theorem dX2_shift_26 : decode cX2_shift 26 = .ok (.iconst 1, 1) := by decide +kernel
theorem dX2_shift_27 : decode cX2_shift 27 = .ok (.isub, 1) := by decide +kernel
theorem dX2_shift_28 : decode cX2_shift 28 = .ok (.iaload, 1) := by decide +kernel
theorem dX2_shift_29 : decode cX2_shift 29 = .ok (.iastore, 1) := by decide +kernel
theorem dX2_shift_30 : decode cX2_shift 30 = .ok (.iinc 4 (-1), 3) := by decide +kernel
theorem dX2_shift_33 : decode cX2_shift 33 = .ok (.goto (-28), 3) := by decide +kernel
theorem dX2_shift_36 : decode cX2_shift 36 = .ok (.aload_n 0, 1) := by decide +kernel
theorem dX2_shift_37 : decode cX2_shift 37 = .ok (.getfield 7, 3) := by decide +kernel
theorem dX2_shift_40 : decode cX2_shift 40 = .ok (.iload_n 1, 1) := by decide +kernel
theorem dX2_shift_41 : decode cX2_shift 41 = .ok (.iload_n 3, 1) := by decide +kernel
theorem dX2_shift_42 : decode cX2_shift 42 = .ok (.iastore, 1) := by decide +kernel
theorem dX2_shift_43 : decode cX2_shift 43 = .ok (.return_, 1) := by decide +kernel
theorem dX2_seen_0 : decode cX2_seen 0 = .ok (.aload_n 0, 1) := by decide +kernel
theorem dX2_seen_1 : decode cX2_seen 1 = .ok (.getfield 7, 3) := by decide +kernel
theorem dX2_seen_4 : decode cX2_seen 4 = .ok (.bipush 33, 2) := by decide +kernel
theorem dX2_seen_6 : decode cX2_seen 6 = .ok (.iload_n 1, 1) := by decide +kernel
theorem dX2_seen_7 : decode cX2_seen 7 = .ok (.iadd, 1) := by decide +kernel
theorem dX2_seen_8 : decode cX2_seen 8 = .ok (.aload_n 0, 1) := by decide +kernel
theorem dX2_seen_9 : decode cX2_seen 9 = .ok (.getfield 7, 3) := by decide +kernel
theorem dX2_seen_12 : decode cX2_seen 12 = .ok (.iconst 4, 1) := by decide +kernel
theorem dX2_seen_13 : decode cX2_seen 13 = .ok (.iaload, 1) := by decide +kernel
theorem dX2_seen_14 : decode cX2_seen 14 = .ok (.iadd, 1) := by decide +kernel
theorem dX2_seen_15 : decode cX2_seen 15 = .ok (.iaload, 1) := by decide +kernel
theorem dX2_seen_16 : decode cX2_seen 16 = .ok (.ireturn, 1) := by decide +kernel
set_option maxRecDepth 20000 in
theorem ggX2_estimate_X2_seen : GoodIn wsX2_estimate wsX2_seen := goodIn_r _ [6, 1, 7, 8, 9] (by decide +kernel) (by decide +kernel)
set_option maxRecDepth 20000 in
theorem gX2_estimate_X2_seen : GoodIn wsX2_estimate (wsV RX2 28 RX2 yX2_seen wsX2_seen) := goodIn_app (goodIn_of _ (by decide +kernel)) ggX2_estimate_X2_seen
theorem dX2_estimate_0 : decode cX2_estimate 0 = .ok (.iconst 0, 1) := by decide +kernel
theorem dX2_estimate_1 : decode cX2_estimate 1 = .ok (.istore_n 1, 1) := by decide +kernel
theorem dX2_estimate_2 : decode cX2_estimate 2 = .ok (.iconst 0, 1) := by decide +kernel
theorem dX2_estimate_3 : decode cX2_estimate 3 = .ok (.istore_n 2, 1) := by decide +kernel
theorem dX2_estimate_4 : decode cX2_estimate 4 = .ok (.iload_n 2, 1) := by decide +kernel
theorem dX2_estimate_5 : decode cX2_estimate 5 = .ok (.bipush 8, 2) := by decide +kernel
theorem dX2_estimate_7 : decode cX2_estimate 7 = .ok (.if_icmp .ge 26, 3) := by decide +kernel
theorem dX2_estimate_10 : decode cX2_estimate 10 = .ok (.iload_n 1, 1) := by decide +kernel
theorem dX2_estimate_11 : decode cX2_estimate 11 = .ok (.aload_n 0, 1) := by decide +kernel
theorem dX2_estimate_12 : decode cX2_estimate 12 = .ok (.getfield 7, 3) := by decide +kernel
theorem dX2_estimate_15 : decode cX2_estimate 15 = .ok (.iconst 5, 1) := by decide +kernel
theorem dX2_estimate_16 : decode cX2_estimate 16 = .ok (.iload_n 2, 1) := by decide +kernel
theorem dX2_estimate_17 : decode cX2_estimate 17 = .ok (.iadd, 1) := by decide +kernel
theorem dX2_estimate_18 : decode cX2_estimate 18 = .ok (.iaload, 1) := by decide +kernel
theorem dX2_estimate_19 : decode cX2_estimate 19 = .ok (.aload_n 0, 1) := by decide +kernel
theorem dX2_estimate_20 : decode cX2_estimate 20 = .ok (.iload_n 2, 1) := by decide +kernel
theorem dX2_estimate_21 : decode cX2_estimate 21 = .ok (.invokevirtual 28, 3) := by decide +kernel
theorem dX2_estimate_24 : decode cX2_estimate 24 = .ok (.imul, 1) := by decide +kernel
theorem dX2_estimate_25 : decode cX2_estimate 25 = .ok (.iadd, 1) := by decide +kernel
theorem dX2_estimate_26 : decode cX2_estimate 26 = .ok (.istore_n 1, 1) := by decide +kernel
theorem dX2_estimate_27 : decode cX2_estimate 27 = .ok (.iinc 2 1, 3) := by decide +kernel
theorem dX2_estimate_30 : decode cX2_estimate 30 = .ok (.goto (-26), 3) := by decide +kernel
theorem dX2_estimate_33 : decode cX2_estimate 33 = .ok (.iload_n 1, 1) := by decide +kernel
theorem dX2_estimate_34 : decode cX2_estimate 34 = .ok (.sipush 1024, 3) := by decide +kernel
theorem dX2_estimate_37 : decode cX2_estimate 37 = .ok (.idiv, 1) := by decide +kernel
theorem dX2_estimate_38 : decode cX2_estimate 38 = .ok (.ireturn, 1) := by decide +kernel
set_option maxRecDepth 20000 in
theorem ggX2_loud_X2_size : GoodIn wsX2_loud wsX2_size := goodIn_r _ [5] (by decide +kernel) (by decide +kernel)
set_option maxRecDepth 20000 in
theorem gX2_loud_X2_size : GoodIn wsX2_loud (va_wsS RX2 31 yX2_size wsX2_size) := goodIn_app (goodIn_of _ (by decide +kernel)) ggX2_loud_X2_size
theorem dX2_loud_0 : decode cX2_loud 0 = .ok (.iconst 0, 1) := by decide +kernel
theorem dX2_loud_1 : decode cX2_loud 1 = .ok (.istore_n 1, 1) := by decide +kernel
theorem dX2_loud_2 : decode cX2_loud 2 = .ok (.iconst 0, 1) := by decide +kernel
theorem dX2_loud_3 : decode cX2_loud 3 = .ok (.istore_n 2, 1) := by decide +kernel
theorem dX2_loud_4 : decode cX2_loud 4 = .ok (.iload_n 2, 1) := by decide +kernel
theorem dX2_loud_5 : decode cX2_loud 5 = .ok (.bipush 24, 2) := by decide +kernel
theorem dX2_loud_7 : decode cX2_loud 7 = .ok (.if_icmp .ge 42, 3) := by decide +kernel
theorem dX2_loud_10 : decode cX2_loud 10 = .ok (.aload_n 0, 1) := by decide +kernel
theorem dX2_loud_11 : decode cX2_loud 11 = .ok (.getfield 7, 3) := by decide +kernel
theorem dX2_loud_14 : decode cX2_loud 14 = .ok (.bipush 33, 2) := by decide +kernel
theorem dX2_loud_16 : decode cX2_loud 16 = .ok (.iload_n 2, 1) := by decide +kernel
theorem dX2_loud_17 : decode cX2_loud 17 = .ok (.iadd, 1) := by decide +kernel
theorem dX2_loud_18 : decode cX2_loud 18 = .ok (.iaload, 1) := by decide +kernel
theorem dX2_loud_19 : decode cX2_loud 19 = .ok (.invokestatic 31, 3) := by decide +kernel
theorem dX2_loud_22 : decode cX2_loud 22 = .ok (.iload_n 1, 1) := by decide +kernel
theorem dX2_loud_23 : decode cX2_loud 23 = .ok (.if_icmp .le 18, 3) := by decide +kernel
theorem dX2_loud_26 : decode cX2_loud 26 = .ok (.aload_n 0, 1) := by decide +kernel
theorem dX2_loud_27 : decode cX2_loud 27 = .ok (.getfield 7, 3) := by decide +kernel
theorem dX2_loud_30 : decode cX2_loud 30 = .ok (.bipush 33, 2) := by decide +kernel
theorem dX2_loud_32 : decode cX2_loud 32 = .ok (.iload_n 2, 1) := by decide +kernel
theorem dX2_loud_33 : decode cX2_loud 33 = .ok (.iadd, 1) := by decide +kernel
theorem dX2_loud_34 : decode cX2_loud 34 = .ok (.iaload, 1) := by decide +kernel
theorem dX2_loud_35 : decode cX2_loud 35 = .ok (.invokestatic 31, 3) := by decide +kernel
theorem dX2_loud_38 : decode cX2_loud 38 = .ok (.goto 4, 3) := by decide +kernel
theorem dX2_loud_41 : decode cX2_loud 41 = .ok (.iload_n 1, 1) := by decide +kernel
theorem dX2_loud_42 : decode cX2_loud 42 = .ok (.istore_n 1, 1) := by decide +kernel
theorem dX2_loud_43 : decode cX2_loud 43 = .ok (.iinc 2 1, 3) := by decide +kernel
theorem dX2_loud_46 : decode cX2_loud 46 = .ok (.goto (-42), 3) := by decide +kernel
theorem dX2_loud_49 : decode cX2_loud 49 = .ok (.iload_n 1, 1) := by decide +kernel
theorem dX2_loud_50 : decode cX2_loud 50 = .ok (.ireturn, 1) := by decide +kernel
set_option maxRecDepth 20000 in
theorem ggX2_power_X2_seen : GoodIn wsX2_power wsX2_seen := goodIn_r _ [5, 6, 7, 8, 9] (by decide +kernel) (by decide +kernel)
set_option maxRecDepth 20000 in
theorem gX2_power_X2_seen : GoodIn wsX2_power (wsV RX2 28 RX2 yX2_seen wsX2_seen) := goodIn_app (goodIn_of _ (by decide +kernel)) ggX2_power_X2_seen
theorem dX2_power_0 : decode cX2_power 0 = .ok (.iconst 0, 1) := by decide +kernel
theorem dX2_power_1 : decode cX2_power 1 = .ok (.istore_n 1, 1) := by decide +kernel
theorem dX2_power_2 : decode cX2_power 2 = .ok (.iconst 0, 1) := by decide +kernel
theorem dX2_power_3 : decode cX2_power 3 = .ok (.istore_n 2, 1) := by decide +kernel
theorem dX2_power_4 : decode cX2_power 4 = .ok (.iload_n 2, 1) := by decide +kernel
theorem dX2_power_5 : decode cX2_power 5 = .ok (.bipush 8, 2) := by decide +kernel
theorem dX2_power_7 : decode cX2_power 7 = .ok (.if_icmp .ge 23, 3) := by decide +kernel
theorem dX2_power_10 : decode cX2_power 10 = .ok (.iload_n 1, 1) := by decide +kernel
theorem dX2_power_11 : decode cX2_power 11 = .ok (.aload_n 0, 1) := by decide +kernel
theorem dX2_power_12 : decode cX2_power 12 = .ok (.iload_n 2, 1) := by decide +kernel
theorem dX2_power_13 : decode cX2_power 13 = .ok (.invokevirtual 28, 3) := by decide +kernel
theorem dX2_power_16 : decode cX2_power 16 = .ok (.aload_n 0, 1) := by decide +kernel
theorem dX2_power_17 : decode cX2_power 17 = .ok (.iload_n 2, 1) := by decide +kernel
theorem dX2_power_18 : decode cX2_power 18 = .ok (.invokevirtual 28, 3) := by decide +kernel
theorem dX2_power_21 : decode cX2_power 21 = .ok (.imul, 1) := by decide +kernel
theorem dX2_power_22 : decode cX2_power 22 = .ok (.iadd, 1) := by decide +kernel
theorem dX2_power_23 : decode cX2_power 23 = .ok (.istore_n 1, 1) := by decide +kernel
theorem dX2_power_24 : decode cX2_power 24 = .ok (.iinc 2 1, 3) := by decide +kernel
theorem dX2_power_27 : decode cX2_power 27 = .ok (.goto (-23), 3) := by decide +kernel
theorem dX2_power_30 : decode cX2_power 30 = .ok (.iload_n 1, 1) := by decide +kernel
theorem dX2_power_31 : decode cX2_power 31 = .ok (.ireturn, 1) := by decide +kernel
theorem dX2_comesRound_0 : decode cX2_comesRound 0 = .ok (.iconst 1, 1) := by decide +kernel
theorem dX2_comesRound_1 : decode cX2_comesRound 1 = .ok (.istore_n 2, 1) := by decide +kernel
theorem dX2_comesRound_2 : decode cX2_comesRound 2 = .ok (.iconst 0, 1) := by decide +kernel
theorem dX2_comesRound_3 : decode cX2_comesRound 3 = .ok (.istore_n 3, 1) := by decide +kernel
theorem dX2_comesRound_4 : decode cX2_comesRound 4 = .ok (.iload_n 3, 1) := by decide +kernel
theorem dX2_comesRound_5 : decode cX2_comesRound 5 = .ok (.iload_n 1, 1) := by decide +kernel
theorem dX2_comesRound_6 : decode cX2_comesRound 6 = .ok (.iadd, 1) := by decide +kernel
theorem dX2_comesRound_7 : decode cX2_comesRound 7 = .ok (.bipush 16, 2) := by decide +kernel
theorem dX2_comesRound_9 : decode cX2_comesRound 9 = .ok (.if_icmp .ge 42, 3) := by decide +kernel
theorem dX2_comesRound_12 : decode cX2_comesRound 12 = .ok (.iload_n 2, 1) := by decide +kernel
theorem dX2_comesRound_13 : decode cX2_comesRound 13 = .ok (.ifCond .eq 30, 3) := by decide +kernel
theorem dX2_comesRound_16 : decode cX2_comesRound 16 = .ok (.aload_n 0, 1) := by decide +kernel
theorem dX2_comesRound_17 : decode cX2_comesRound 17 = .ok (.getfield 7, 3) := by decide +kernel
theorem dX2_comesRound_20 : decode cX2_comesRound 20 = .ok (.bipush 33, 2) := by decide +kernel
theorem dX2_comesRound_22 : decode cX2_comesRound 22 = .ok (.iload_n 3, 1) := by decide +kernel
theorem dX2_comesRound_23 : decode cX2_comesRound 23 = .ok (.iadd, 1) := by decide +kernel
theorem dX2_comesRound_24 : decode cX2_comesRound 24 = .ok (.iaload, 1) := by decide +kernel
theorem dX2_comesRound_25 : decode cX2_comesRound 25 = .ok (.aload_n 0, 1) := by decide +kernel
theorem dX2_comesRound_26 : decode cX2_comesRound 26 = .ok (.getfield 7, 3) := by decide +kernel
theorem dX2_comesRound_29 : decode cX2_comesRound 29 = .ok (.bipush 33, 2) := by decide +kernel
theorem dX2_comesRound_31 : decode cX2_comesRound 31 = .ok (.iload_n 3, 1) := by decide +kernel
theorem dX2_comesRound_32 : decode cX2_comesRound 32 = .ok (.iadd, 1) := by decide +kernel
theorem dX2_comesRound_33 : decode cX2_comesRound 33 = .ok (.iload_n 1, 1) := by decide +kernel
theorem dX2_comesRound_34 : decode cX2_comesRound 34 = .ok (.iadd, 1) := by decide +kernel
theorem dX2_comesRound_35 : decode cX2_comesRound 35 = .ok (.iaload, 1) := by decide +kernel
theorem dX2_comesRound_36 : decode cX2_comesRound 36 = .ok (.if_icmp .ne 7, 3) := by decide +kernel
theorem dX2_comesRound_39 : decode cX2_comesRound 39 = .ok (.iconst 1, 1) := by decide +kernel
theorem dX2_comesRound_40 : decode cX2_comesRound 40 = .ok (.goto 4, 3) := by decide +kernel
theorem dX2_comesRound_43 : decode cX2_comesRound 43 = .ok (.iconst 0, 1) := by decide +kernel
theorem dX2_comesRound_44 : decode cX2_comesRound 44 = .ok (.istore_n 2, 1) := by decide +kernel
theorem dX2_comesRound_45 : decode cX2_comesRound 45 = .ok (.iinc 3 1, 3) := by decide +kernel
theorem dX2_comesRound_48 : decode cX2_comesRound 48 = .ok (.goto (-44), 3) := by decide +kernel
theorem dX2_comesRound_51 : decode cX2_comesRound 51 = .ok (.iload_n 2, 1) := by decide +kernel
theorem dX2_comesRound_52 : decode cX2_comesRound 52 = .ok (.ireturn, 1) := by decide +kernel
set_option maxRecDepth 20000 in
theorem ggX2_tone_X2_comesRound : GoodIn wsX2_tone wsX2_comesRound := goodIn_r _ [6, 1, 7, 8, 9] (by decide +kernel) (by decide +kernel)
set_option maxRecDepth 20000 in
theorem gX2_tone_X2_comesRound : GoodIn wsX2_tone (wsV RX2 34 RX2 yX2_comesRound wsX2_comesRound) := goodIn_app (goodIn_of _ (by decide +kernel)) ggX2_tone_X2_comesRound
theorem dX2_tone_0 : decode cX2_tone 0 = .ok (.iconst 0, 1) := by decide +kernel
theorem dX2_tone_1 : decode cX2_tone 1 = .ok (.istore_n 1, 1) := by decide +kernel
theorem dX2_tone_2 : decode cX2_tone 2 = .ok (.iconst 0, 1) := by decide +kernel
theorem dX2_tone_3 : decode cX2_tone 3 = .ok (.istore_n 2, 1) := by decide +kernel
theorem dX2_tone_4 : decode cX2_tone 4 = .ok (.iload_n 2, 1) := by decide +kernel
theorem dX2_tone_5 : decode cX2_tone 5 = .ok (.bipush 16, 2) := by decide +kernel
theorem dX2_tone_7 : decode cX2_tone 7 = .ok (.if_icmp .ge 31, 3) := by decide +kernel
theorem dX2_tone_10 : decode cX2_tone 10 = .ok (.iload_n 1, 1) := by decide +kernel
theorem dX2_tone_11 : decode cX2_tone 11 = .ok (.ifCond .ne 15, 3) := by decide +kernel
theorem dX2_tone_14 : decode cX2_tone 14 = .ok (.aload_n 0, 1) := by decide +kernel
theorem dX2_tone_15 : decode cX2_tone 15 = .ok (.getfield 7, 3) := by decide +kernel
theorem dX2_tone_18 : decode cX2_tone 18 = .ok (.bipush 33, 2) := by decide +kernel
theorem dX2_tone_20 : decode cX2_tone 20 = .ok (.iload_n 2, 1) := by decide +kernel
theorem dX2_tone_21 : decode cX2_tone 21 = .ok (.iadd, 1) := by decide +kernel
theorem dX2_tone_22 : decode cX2_tone 22 = .ok (.iaload, 1) := by decide +kernel
theorem dX2_tone_23 : decode cX2_tone 23 = .ok (.ifCond .eq 7, 3) := by decide +kernel
theorem dX2_tone_26 : decode cX2_tone 26 = .ok (.iconst 1, 1) := by decide +kernel
theorem dX2_tone_27 : decode cX2_tone 27 = .ok (.goto 4, 3) := by decide +kernel
theorem dX2_tone_30 : decode cX2_tone 30 = .ok (.iconst 0, 1) := by decide +kernel
theorem dX2_tone_31 : decode cX2_tone 31 = .ok (.istore_n 1, 1) := by decide +kernel
theorem dX2_tone_32 : decode cX2_tone 32 = .ok (.iinc 2 1, 3) := by decide +kernel
theorem dX2_tone_35 : decode cX2_tone 35 = .ok (.goto (-31), 3) := by decide +kernel
theorem dX2_tone_38 : decode cX2_tone 38 = .ok (.iload_n 1, 1) := by decide +kernel
theorem dX2_tone_39 : decode cX2_tone 39 = .ok (.ifCond .eq 27, 3) := by decide +kernel
theorem dX2_tone_42 : decode cX2_tone 42 = .ok (.iconst 1, 1) := by decide +kernel
theorem dX2_tone_43 : decode cX2_tone 43 = .ok (.istore_n 2, 1) := by decide +kernel
theorem dX2_tone_44 : decode cX2_tone 44 = .ok (.iload_n 2, 1) := by decide +kernel
theorem dX2_tone_45 : decode cX2_tone 45 = .ok (.bipush 8, 2) := by decide +kernel
theorem dX2_tone_47 : decode cX2_tone 47 = .ok (.if_icmp .gt 19, 3) := by decide +kernel
theorem dX2_tone_50 : decode cX2_tone 50 = .ok (.aload_n 0, 1) := by decide +kernel
theorem dX2_tone_51 : decode cX2_tone 51 = .ok (.iload_n 2, 1) := by decide +kernel
theorem dX2_tone_52 : decode cX2_tone 52 = .ok (.invokevirtual 34, 3) := by decide +kernel
theorem dX2_tone_55 : decode cX2_tone 55 = .ok (.ifCond .eq 5, 3) := by decide +kernel
theorem dX2_tone_58 : decode cX2_tone 58 = .ok (.iload_n 2, 1) := by decide +kernel
theorem dX2_tone_59 : decode cX2_tone 59 = .ok (.ireturn, 1) := by decide +kernel
theorem dX2_tone_60 : decode cX2_tone 60 = .ok (.iinc 2 1, 3) := by decide +kernel
theorem dX2_tone_63 : decode cX2_tone 63 = .ok (.goto (-19), 3) := by decide +kernel
theorem dX2_tone_66 : decode cX2_tone 66 = .ok (.iconst 0, 1) := by decide +kernel
theorem dX2_tone_67 : decode cX2_tone 67 = .ok (.ireturn, 1) := by decide +kernel
theorem dX2_hold_0 : decode cX2_hold 0 = .ok (.aload_n 0, 1) := by decide +kernel
theorem dX2_hold_1 : decode cX2_hold 1 = .ok (.getfield 7, 3) := by decide +kernel
theorem dX2_hold_4 : decode cX2_hold 4 = .ok (.bipush 30, 2) := by decide +kernel
theorem dX2_hold_6 : decode cX2_hold 6 = .ok (.iaload, 1) := by decide +kernel
theorem dX2_hold_7 : decode cX2_hold 7 = .ok (.iconst 1, 1) := by decide +kernel
theorem dX2_hold_8 : decode cX2_hold 8 = .ok (.if_icmp .ne 19, 3) := by decide +kernel
theorem dX2_hold_11 : decode cX2_hold 11 = .ok (.aload_n 0, 1) := by decide +kernel
theorem dX2_hold_12 : decode cX2_hold 12 = .ok (.getfield 7, 3) := by decide +kernel
theorem dX2_hold_15 : decode cX2_hold 15 = .ok (.bipush 22, 2) := by decide +kernel
theorem dX2_hold_17 : decode cX2_hold 17 = .ok (.aload_n 0, 1) := by decide +kernel
theorem dX2_hold_18 : decode cX2_hold 18 = .ok (.getfield 7, 3) := by decide +kernel
theorem dX2_hold_21 : decode cX2_hold 21 = .ok (.iconst 1, 1) := by decide +kernel
theorem dX2_hold_22 : decode cX2_hold 22 = .ok (.iaload, 1) := by decide +kernel
theorem dX2_hold_23 : decode cX2_hold 23 = .ok (.iastore, 1) := by decide +kernel
theorem dX2_hold_24 : decode cX2_hold 24 = .ok (.goto 24, 3) := by decide +kernel
theorem dX2_hold_27 : decode cX2_hold 27 = .ok (.aload_n 0, 1) := by decide +kernel
theorem dX2_hold_28 : decode cX2_hold 28 = .ok (.getfield 7, 3) := by decide +kernel
theorem dX2_hold_31 : decode cX2_hold 31 = .ok (.bipush 22, 2) := by decide +kernel
theorem dX2_hold_33 : decode cX2_hold 33 = .ok (.iaload, 1) := by decide +kernel
theorem dX2_hold_34 : decode cX2_hold 34 = .ok (.ifCond .le 14, 3) := by decide +kernel
theorem dX2_hold_37 : decode cX2_hold 37 = .ok (.aload_n 0, 1) := by decide +kernel
theorem dX2_hold_38 : decode cX2_hold 38 = .ok (.getfield 7, 3) := by decide +kernel
theorem dX2_hold_41 : decode cX2_hold 41 = .ok (.bipush 22, 2) := by decide +kernel
theorem dX2_hold_43 : decode cX2_hold 43 = .ok (.dup2, 1) := by decide +kernel
theorem dX2_hold_44 : decode cX2_hold 44 = .ok (.iaload, 1) := by decide +kernel
theorem dX2_hold_45 : decode cX2_hold 45 = .ok (.iconst 1, 1) := by decide +kernel
theorem dX2_hold_46 : decode cX2_hold 46 = .ok (.isub, 1) := by decide +kernel
theorem dX2_hold_47 : decode cX2_hold 47 = .ok (.iastore, 1) := by decide +kernel
theorem dX2_hold_48 : decode cX2_hold 48 = .ok (.return_, 1) := by decide +kernel
set_option maxRecDepth 20000 in
theorem ggX2_learn_X2_seen : GoodIn wsX2_learn wsX2_seen := goodIn_r _ [6, 1, 10, 11, 12] (by decide +kernel) (by decide +kernel)
set_option maxRecDepth 20000 in
theorem gX2_learn_X2_seen : GoodIn wsX2_learn (wsV RX2 28 RX2 yX2_seen wsX2_seen) := goodIn_app (goodIn_of _ (by decide +kernel)) ggX2_learn_X2_seen
set_option maxRecDepth 20000 in
theorem ggX2_learn_X2_within : GoodIn wsX2_learn wsX2_within := goodIn_r _ [9] (by decide +kernel) (by decide +kernel)
set_option maxRecDepth 20000 in
theorem gX2_learn_X2_within : GoodIn wsX2_learn (va_wsS RX2 38 yX2_within wsX2_within) := goodIn_app (goodIn_of _ (by decide +kernel)) ggX2_learn_X2_within
theorem dX2_learn_0 : decode cX2_learn 0 = .ok (.iconst 0, 1) := by decide +kernel
theorem dX2_learn_1 : decode cX2_learn 1 = .ok (.istore_n 1, 1) := by decide +kernel
theorem dX2_learn_2 : decode cX2_learn 2 = .ok (.iload_n 1, 1) := by decide +kernel
theorem dX2_learn_3 : decode cX2_learn 3 = .ok (.bipush 8, 2) := by decide +kernel
theorem dX2_learn_5 : decode cX2_learn 5 = .ok (.if_icmp .ge 70, 3) := by decide +kernel
theorem dX2_learn_8 : decode cX2_learn 8 = .ok (.aload_n 0, 1) := by decide +kernel
theorem dX2_learn_9 : decode cX2_learn 9 = .ok (.getfield 7, 3) := by decide +kernel
theorem dX2_learn_12 : decode cX2_learn 12 = .ok (.iconst 0, 1) := by decide +kernel
theorem dX2_learn_13 : decode cX2_learn 13 = .ok (.iaload, 1) := by decide +kernel
theorem dX2_learn_14 : decode cX2_learn 14 = .ok (.i2l, 1) := by decide +kernel
theorem dX2_learn_15 : decode cX2_learn 15 = .ok (.aload_n 0, 1) := by decide +kernel
theorem dX2_learn_16 : decode cX2_learn 16 = .ok (.getfield 7, 3) := by decide +kernel
theorem dX2_learn_19 : decode cX2_learn 19 = .ok (.bipush 26, 2) := by decide +kernel
theorem dX2_learn_21 : decode cX2_learn 21 = .ok (.iaload, 1) := by decide +kernel
theorem dX2_learn_22 : decode cX2_learn 22 = .ok (.i2l, 1) := by decide +kernel
theorem dX2_learn_23 : decode cX2_learn 23 = .ok (.lmul, 1) := by decide +kernel
theorem dX2_learn_24 : decode cX2_learn 24 = .ok (.aload_n 0, 1) := by decide +kernel
theorem dX2_learn_25 : decode cX2_learn 25 = .ok (.iload_n 1, 1) := by decide +kernel
theorem dX2_learn_26 : decode cX2_learn 26 = .ok (.invokevirtual 28, 3) := by decide +kernel
theorem dX2_learn_29 : decode cX2_learn 29 = .ok (.i2l, 1) := by decide +kernel
theorem dX2_learn_30 : decode cX2_learn 30 = .ok (.lmul, 1) := by decide +kernel
theorem dX2_learn_31 : decode cX2_learn 31 = .ok (.aload_n 0, 1) := by decide +kernel
theorem dX2_learn_32 : decode cX2_learn 32 = .ok (.getfield 7, 3) := by decide +kernel
theorem dX2_learn_35 : decode cX2_learn 35 = .ok (.bipush 29, 2) := by decide +kernel
theorem dX2_learn_37 : decode cX2_learn 37 = .ok (.iaload, 1) := by decide +kernel
theorem dX2_learn_38 : decode cX2_learn 38 = .ok (.i2l, 1) := by decide +kernel
theorem dX2_learn_39 : decode cX2_learn 39 = .ok (.ldiv, 1) := by decide +kernel
theorem dX2_learn_40 : decode cX2_learn 40 = .ok (.lstore_n 2, 1) := by decide +kernel
theorem dX2_learn_41 : decode cX2_learn 41 = .ok (.aload_n 0, 1) := by decide +kernel
theorem dX2_learn_42 : decode cX2_learn 42 = .ok (.getfield 7, 3) := by decide +kernel
theorem dX2_learn_45 : decode cX2_learn 45 = .ok (.iconst 5, 1) := by decide +kernel
theorem dX2_learn_46 : decode cX2_learn 46 = .ok (.iload_n 1, 1) := by decide +kernel
theorem dX2_learn_47 : decode cX2_learn 47 = .ok (.iadd, 1) := by decide +kernel
theorem dX2_learn_48 : decode cX2_learn 48 = .ok (.aload_n 0, 1) := by decide +kernel
theorem dX2_learn_49 : decode cX2_learn 49 = .ok (.getfield 7, 3) := by decide +kernel
theorem dX2_learn_52 : decode cX2_learn 52 = .ok (.iconst 5, 1) := by decide +kernel
theorem dX2_learn_53 : decode cX2_learn 53 = .ok (.iload_n 1, 1) := by decide +kernel
theorem dX2_learn_54 : decode cX2_learn 54 = .ok (.iadd, 1) := by decide +kernel
theorem dX2_learn_55 : decode cX2_learn 55 = .ok (.iaload, 1) := by decide +kernel
theorem dX2_learn_56 : decode cX2_learn 56 = .ok (.lload_n 2, 1) := by decide +kernel
theorem dX2_learn_57 : decode cX2_learn 57 = .ok (.l2i, 1) := by decide +kernel
theorem dX2_learn_58 : decode cX2_learn 58 = .ok (.iadd, 1) := by decide +kernel
theorem dX2_learn_59 : decode cX2_learn 59 = .ok (.sipush (-4096), 3) := by decide +kernel
theorem dX2_learn_62 : decode cX2_learn 62 = .ok (.sipush 4095, 3) := by decide +kernel
theorem dX2_learn_65 : decode cX2_learn 65 = .ok (.invokestatic 38, 3) := by decide +kernel
theorem dX2_learn_68 : decode cX2_learn 68 = .ok (.iastore, 1) := by decide +kernel
theorem dX2_learn_69 : decode cX2_learn 69 = .ok (.iinc 1 1, 3) := by decide +kernel
theorem dX2_learn_72 : decode cX2_learn 72 = .ok (.goto (-70), 3) := by decide +kernel
theorem dX2_learn_75 : decode cX2_learn 75 = .ok (.return_, 1) := by decide +kernel
theorem dX2_next_0 : decode cX2_next 0 = .ok (.bipush 75, 2) := by decide +kernel
theorem dX2_next_2 : decode cX2_next 2 = .ok (.iload_n 0, 1) := by decide +kernel
theorem dX2_next_3 : decode cX2_next 3 = .ok (.imul, 1) := by decide +kernel
theorem dX2_next_4 : decode cX2_next 4 = .ok (.bipush 74, 2) := by decide +kernel
theorem dX2_next_6 : decode cX2_next 6 = .ok (.iadd, 1) := by decide +kernel
theorem dX2_next_7 : decode cX2_next 7 = .ok (.ldc 42, 2) := by decide +kernel
theorem dX2_next_9 : decode cX2_next 9 = .ok (.irem, 1) := by decide +kernel
theorem dX2_next_10 : decode cX2_next 10 = .ok (.ireturn, 1) := by decide +kernel
set_option maxRecDepth 20000 in
theorem ggX2_noise_X2_next : GoodIn wsX2_noise wsX2_next := goodIn_r _ [5, 6] (by decide +kernel) (by decide +kernel)
set_option maxRecDepth 20000 in
theorem gX2_noise_X2_next : GoodIn wsX2_noise (va_wsS RX2 43 yX2_next wsX2_next) := goodIn_app (goodIn_of _ (by decide +kernel)) ggX2_noise_X2_next
theorem dX2_noise_0 : decode cX2_noise 0 = .ok (.aload_n 0, 1) := by decide +kernel
theorem dX2_noise_1 : decode cX2_noise 1 = .ok (.getfield 7, 3) := by decide +kernel
theorem dX2_noise_4 : decode cX2_noise 4 = .ok (.bipush 23, 2) := by decide +kernel
theorem dX2_noise_6 : decode cX2_noise 6 = .ok (.aload_n 0, 1) := by decide +kernel
theorem dX2_noise_7 : decode cX2_noise 7 = .ok (.getfield 7, 3) := by decide +kernel
theorem dX2_noise_10 : decode cX2_noise 10 = .ok (.bipush 23, 2) := by decide +kernel
theorem dX2_noise_12 : decode cX2_noise 12 = .ok (.iaload, 1) := by decide +kernel
theorem dX2_noise_13 : decode cX2_noise 13 = .ok (.invokestatic 43, 3) := by decide +kernel
theorem dX2_noise_16 : decode cX2_noise 16 = .ok (.iastore, 1) := by decide +kernel
theorem dX2_noise_17 : decode cX2_noise 17 = .ok (.aload_n 0, 1) := by decide +kernel
theorem dX2_noise_18 : decode cX2_noise 18 = .ok (.getfield 7, 3) := by decide +kernel
theorem dX2_noise_21 : decode cX2_noise 21 = .ok (.bipush 23, 2) := by decide +kernel
theorem dX2_noise_23 : decode cX2_noise 23 = .ok (.iaload, 1) := by decide +kernel
theorem dX2_noise_24 : decode cX2_noise 24 = .ok (.iconst 2, 1) := by decide +kernel
theorem dX2_noise_25 : decode cX2_noise 25 = .ok (.aload_n 0, 1) := by decide +kernel
theorem dX2_noise_26 : decode cX2_noise 26 = .ok (.getfield 7, 3) := by decide +kernel
theorem dX2_noise_29 : decode cX2_noise 29 = .ok (.iconst 3, 1) := by decide +kernel
theorem dX2_noise_30 : decode cX2_noise 30 = .ok (.iaload, 1) := by decide +kernel
theorem dX2_noise_31 : decode cX2_noise 31 = .ok (.imul, 1) := by decide +kernel
theorem dX2_noise_32 : decode cX2_noise 32 = .ok (.iconst 1, 1) := by decide +kernel
theorem dX2_noise_33 : decode cX2_noise 33 = .ok (.iadd, 1) := by decide +kernel
theorem dX2_noise_34 : decode cX2_noise 34 = .ok (.irem, 1) := by decide +kernel
theorem dX2_noise_35 : decode cX2_noise 35 = .ok (.aload_n 0, 1) := by decide +kernel
theorem dX2_noise_36 : decode cX2_noise 36 = .ok (.getfield 7, 3) := by decide +kernel
theorem dX2_noise_39 : decode cX2_noise 39 = .ok (.iconst 3, 1) := by decide +kernel
theorem dX2_noise_40 : decode cX2_noise 40 = .ok (.iaload, 1) := by decide +kernel
theorem dX2_noise_41 : decode cX2_noise 41 = .ok (.isub, 1) := by decide +kernel
theorem dX2_noise_42 : decode cX2_noise 42 = .ok (.ireturn, 1) := by decide +kernel
set_option maxRecDepth 20000 in
theorem ggX2_outNow_X2_size : GoodIn wsX2_outNow wsX2_size := goodIn_r _ [5] (by decide +kernel) (by decide +kernel)
set_option maxRecDepth 20000 in
theorem gX2_outNow_X2_size : GoodIn wsX2_outNow (va_wsS RX2 31 yX2_size wsX2_size) := goodIn_app (goodIn_of _ (by decide +kernel)) ggX2_outNow_X2_size
set_option maxRecDepth 20000 in
theorem ggX2_outNow_X2_noise : GoodIn wsX2_outNow wsX2_noise := goodIn_r _ [9, 1, 10, 11, 4, 12, 13, 17, 18, 19] (by decide +kernel) (by decide +kernel)
set_option maxRecDepth 20000 in
theorem gX2_outNow_X2_noise : GoodIn wsX2_outNow (wsV RX2 46 RX2 yX2_noise wsX2_noise) := goodIn_app (goodIn_of _ (by decide +kernel)) ggX2_outNow_X2_noise
set_option maxRecDepth 20000 in
theorem ggX2_outNow_X2_within : GoodIn wsX2_outNow wsX2_within := goodIn_r _ [16] (by decide +kernel) (by decide +kernel)
set_option maxRecDepth 20000 in
theorem gX2_outNow_X2_within : GoodIn wsX2_outNow (va_wsS RX2 38 yX2_within wsX2_within) := goodIn_app (goodIn_of _ (by decide +kernel)) ggX2_outNow_X2_within
theorem dX2_outNow_0 : decode cX2_outNow 0 = .ok (.aload_n 0, 1) := by decide +kernel
theorem dX2_outNow_1 : decode cX2_outNow 1 = .ok (.getfield 7, 3) := by decide +kernel
theorem dX2_outNow_4 : decode cX2_outNow 4 = .ok (.bipush 31, 2) := by decide +kernel
theorem dX2_outNow_6 : decode cX2_outNow 6 = .ok (.iaload, 1) := by decide +kernel
theorem dX2_outNow_7 : decode cX2_outNow 7 = .ok (.ifCond .le 11, 3) := by decide +kernel
theorem dX2_outNow_10 : decode cX2_outNow 10 = .ok (.aload_n 0, 1) := by decide +kernel
theorem dX2_outNow_11 : decode cX2_outNow 11 = .ok (.getfield 7, 3) := by decide +kernel
theorem dX2_outNow_14 : decode cX2_outNow 14 = .ok (.bipush 73, 2) := by decide +kernel
theorem dX2_outNow_16 : decode cX2_outNow 16 = .ok (.iaload, 1) := by decide +kernel
theorem dX2_outNow_17 : decode cX2_outNow 17 = .ok (.ireturn, 1) := by decide +kernel
theorem dX2_outNow_18 : decode cX2_outNow 18 = .ok (.aload_n 0, 1) := by decide +kernel
theorem dX2_outNow_19 : decode cX2_outNow 19 = .ok (.getfield 7, 3) := by decide +kernel
theorem dX2_outNow_22 : decode cX2_outNow 22 = .ok (.bipush 26, 2) := by decide +kernel
theorem dX2_outNow_24 : decode cX2_outNow 24 = .ok (.iaload, 1) := by decide +kernel
theorem dX2_outNow_25 : decode cX2_outNow 25 = .ok (.invokestatic 31, 3) := by decide +kernel
theorem dX2_outNow_28 : decode cX2_outNow 28 = .ok (.aload_n 0, 1) := by decide +kernel
theorem dX2_outNow_29 : decode cX2_outNow 29 = .ok (.getfield 7, 3) := by decide +kernel
theorem dX2_outNow_32 : decode cX2_outNow 32 = .ok (.iconst 2, 1) := by decide +kernel
theorem dX2_outNow_33 : decode cX2_outNow 33 = .ok (.iaload, 1) := by decide +kernel
theorem dX2_outNow_34 : decode cX2_outNow 34 = .ok (.if_icmp .ge 10, 3) := by decide +kernel
theorem dX2_outNow_37 : decode cX2_outNow 37 = .ok (.aload_n 0, 1) := by decide +kernel
theorem dX2_outNow_38 : decode cX2_outNow 38 = .ok (.invokevirtual 46, 3) := by decide +kernel
theorem dX2_outNow_41 : decode cX2_outNow 41 = .ok (.goto 19, 3) := by decide +kernel
theorem dX2_outNow_44 : decode cX2_outNow 44 = .ok (.aload_n 0, 1) := by decide +kernel
theorem dX2_outNow_45 : decode cX2_outNow 45 = .ok (.getfield 7, 3) := by decide +kernel
theorem dX2_outNow_48 : decode cX2_outNow 48 = .ok (.bipush 26, 2) := by decide +kernel
theorem dX2_outNow_50 : decode cX2_outNow 50 = .ok (.iaload, 1) := by decide +kernel
theorem dX2_outNow_51 : decode cX2_outNow 51 = .ok (.sipush (-2000), 3) := by decide +kernel
theorem dX2_outNow_54 : decode cX2_outNow 54 = .ok (.sipush 2000, 3) := by decide +kernel
theorem dX2_outNow_57 : decode cX2_outNow 57 = .ok (.invokestatic 38, 3) := by decide +kernel
theorem dX2_outNow_60 : decode cX2_outNow 60 = .ok (.ireturn, 1) := by decide +kernel
set_option maxRecDepth 20000 in
theorem ggX2_tickOf_X2_shift : GoodIn wsX2_tickOf wsX2_shift := goodIn_r _ [6, 1, 57, 58, 59] (by decide +kernel) (by decide +kernel)
set_option maxRecDepth 20000 in
theorem gX2_tickOf_X2_shift : GoodIn wsX2_tickOf (wsV RX2 50 RX2 yX2_shift wsX2_shift) := goodIn_app (goodIn_of _ (by decide +kernel)) ggX2_tickOf_X2_shift
set_option maxRecDepth 20000 in
theorem ggX2_tickOf_X2_estimate : GoodIn wsX2_tickOf wsX2_estimate := goodIn_r _ [10, 1, 11, 12, 13, 5, 14, 57, 58, 59] (by decide +kernel) (by decide +kernel)
set_option maxRecDepth 20000 in
theorem gX2_tickOf_X2_estimate : GoodIn wsX2_tickOf (wsV RX2 54 RX2 yX2_estimate wsX2_estimate) := goodIn_app (goodIn_of _ (by decide +kernel)) ggX2_tickOf_X2_estimate
set_option maxRecDepth 20000 in
theorem ggX2_tickOf_X2_loud : GoodIn wsX2_tickOf wsX2_loud := goodIn_r _ [18, 1, 19, 20, 5, 21, 57, 58, 59] (by decide +kernel) (by decide +kernel)
set_option maxRecDepth 20000 in
theorem gX2_tickOf_X2_loud : GoodIn wsX2_tickOf (wsV RX2 57 RX2 yX2_loud wsX2_loud) := goodIn_app (goodIn_of _ (by decide +kernel)) ggX2_tickOf_X2_loud
set_option maxRecDepth 20000 in
theorem ggX2_tickOf_X2_power : GoodIn wsX2_tickOf wsX2_power := goodIn_r _ [25, 11, 12, 13, 5, 14, 1, 57, 58, 59] (by decide +kernel) (by decide +kernel)
set_option maxRecDepth 20000 in
theorem gX2_tickOf_X2_power : GoodIn wsX2_tickOf (wsV RX2 60 RX2 yX2_power wsX2_power) := goodIn_app (goodIn_of _ (by decide +kernel)) ggX2_tickOf_X2_power
set_option maxRecDepth 20000 in
theorem ggX2_tickOf_X2_size : GoodIn wsX2_tickOf wsX2_size := goodIn_r _ [21] (by decide +kernel) (by decide +kernel)
set_option maxRecDepth 20000 in
theorem gX2_tickOf_X2_size : GoodIn wsX2_tickOf (va_wsS RX2 31 yX2_size wsX2_size) := goodIn_app (goodIn_of _ (by decide +kernel)) ggX2_tickOf_X2_size
set_option maxRecDepth 20000 in
theorem ggX2_tickOf_X2_hold : GoodIn wsX2_tickOf wsX2_hold := goodIn_r _ [29, 1, 57, 58, 59] (by decide +kernel) (by decide +kernel)
set_option maxRecDepth 20000 in
theorem gX2_tickOf_X2_hold : GoodIn wsX2_tickOf (wsV RX2 63 RX2 yX2_hold wsX2_hold) := goodIn_app (goodIn_of _ (by decide +kernel)) ggX2_tickOf_X2_hold
set_option maxRecDepth 20000 in
theorem ggX2_tickOf_X2_tone : GoodIn wsX2_tickOf wsX2_tone := goodIn_r _ [33, 1, 34, 35, 36, 5, 37, 57, 58, 59] (by decide +kernel) (by decide +kernel)
set_option maxRecDepth 20000 in
theorem gX2_tickOf_X2_tone : GoodIn wsX2_tickOf (wsV RX2 66 RX2 yX2_tone wsX2_tone) := goodIn_app (goodIn_of _ (by decide +kernel)) ggX2_tickOf_X2_tone
set_option maxRecDepth 20000 in
theorem ggX2_tickOf_X2_learn : GoodIn wsX2_tickOf wsX2_learn := goodIn_r _ [41, 1, 11, 12, 13, 5, 14, 42, 43, 44, 57, 58, 59] (by decide +kernel) (by decide +kernel)
set_option maxRecDepth 20000 in
theorem gX2_tickOf_X2_learn : GoodIn wsX2_tickOf (wsV RX2 69 RX2 yX2_learn wsX2_learn) := goodIn_app (goodIn_of _ (by decide +kernel)) ggX2_tickOf_X2_learn
set_option maxRecDepth 20000 in
theorem ggX2_tickOf_X2_outNow : GoodIn wsX2_tickOf wsX2_outNow := goodIn_r _ [48, 1, 19, 20, 5, 21, 49, 50, 51, 52, 53, 54, 55, 56, 42, 43, 44, 57, 58, 59] (by decide +kernel) (by decide +kernel)
set_option maxRecDepth 20000 in
theorem gX2_tickOf_X2_outNow : GoodIn wsX2_tickOf (wsV RX2 72 RX2 yX2_outNow wsX2_outNow) := goodIn_app (goodIn_of _ (by decide +kernel)) ggX2_tickOf_X2_outNow
theorem dX2_tickOf_0 : decode cX2_tickOf 0 = .ok (.aload_n 0, 1) := by decide +kernel
theorem dX2_tickOf_1 : decode cX2_tickOf 1 = .ok (.bipush 33, 2) := by decide +kernel
theorem dX2_tickOf_3 : decode cX2_tickOf 3 = .ok (.bipush 40, 2) := by decide +kernel
theorem dX2_tickOf_5 : decode cX2_tickOf 5 = .ok (.iload_n 1, 1) := by decide +kernel
theorem dX2_tickOf_6 : decode cX2_tickOf 6 = .ok (.invokevirtual 50, 3) := by decide +kernel
theorem dX2_tickOf_9 : decode cX2_tickOf 9 = .ok (.aload_n 0, 1) := by decide +kernel
theorem dX2_tickOf_10 : decode cX2_tickOf 10 = .ok (.bipush 73, 2) := by decide +kernel
theorem dX2_tickOf_12 : decode cX2_tickOf 12 = .ok (.bipush 40, 2) := by decide +kernel
theorem dX2_tickOf_14 : decode cX2_tickOf 14 = .ok (.iload_n 2, 1) := by decide +kernel
theorem dX2_tickOf_15 : decode cX2_tickOf 15 = .ok (.invokevirtual 50, 3) := by decide +kernel
theorem dX2_tickOf_18 : decode cX2_tickOf 18 = .ok (.aload_n 0, 1) := by decide +kernel
theorem dX2_tickOf_19 : decode cX2_tickOf 19 = .ok (.getfield 7, 3) := by decide +kernel
theorem dX2_tickOf_22 : decode cX2_tickOf 22 = .ok (.bipush 24, 2) := by decide +kernel
theorem dX2_tickOf_24 : decode cX2_tickOf 24 = .ok (.dup2, 1) := by decide +kernel
theorem dX2_tickOf_25 : decode cX2_tickOf 25 = .ok (.iaload, 1) := by decide +kernel
theorem dX2_tickOf_26 : decode cX2_tickOf 26 = .ok (.iconst 1, 1) := by decide +kernel
theorem dX2_tickOf_27 : decode cX2_tickOf 27 = .ok (.iadd, 1) := by decide +kernel
theorem dX2_tickOf_28 : decode cX2_tickOf 28 = .ok (.iastore, 1) := by decide +kernel
theorem dX2_tickOf_29 : decode cX2_tickOf 29 = .ok (.aload_n 0, 1) := by decide +kernel
theorem dX2_tickOf_30 : decode cX2_tickOf 30 = .ok (.getfield 7, 3) := by decide +kernel
theorem dX2_tickOf_33 : decode cX2_tickOf 33 = .ok (.bipush 25, 2) := by decide +kernel
theorem dX2_tickOf_35 : decode cX2_tickOf 35 = .ok (.aload_n 0, 1) := by decide +kernel
theorem dX2_tickOf_36 : decode cX2_tickOf 36 = .ok (.invokevirtual 54, 3) := by decide +kernel
theorem dX2_tickOf_39 : decode cX2_tickOf 39 = .ok (.iastore, 1) := by decide +kernel
theorem dX2_tickOf_40 : decode cX2_tickOf 40 = .ok (.aload_n 0, 1) := by decide +kernel
theorem dX2_tickOf_41 : decode cX2_tickOf 41 = .ok (.getfield 7, 3) := by decide +kernel
theorem dX2_tickOf_44 : decode cX2_tickOf 44 = .ok (.bipush 26, 2) := by decide +kernel
theorem dX2_tickOf_46 : decode cX2_tickOf 46 = .ok (.iload_n 2, 1) := by decide +kernel
theorem dX2_tickOf_47 : decode cX2_tickOf 47 = .ok (.aload_n 0, 1) := by decide +kernel
theorem dX2_tickOf_48 : decode cX2_tickOf 48 = .ok (.getfield 7, 3) := by decide +kernel
theorem dX2_tickOf_51 : decode cX2_tickOf 51 = .ok (.bipush 25, 2) := by decide +kernel
theorem dX2_tickOf_53 : decode cX2_tickOf 53 = .ok (.iaload, 1) := by decide +kernel
theorem dX2_tickOf_54 : decode cX2_tickOf 54 = .ok (.isub, 1) := by decide +kernel
theorem dX2_tickOf_55 : decode cX2_tickOf 55 = .ok (.iastore, 1) := by decide +kernel
theorem dX2_tickOf_56 : decode cX2_tickOf 56 = .ok (.aload_n 0, 1) := by decide +kernel
theorem dX2_tickOf_57 : decode cX2_tickOf 57 = .ok (.getfield 7, 3) := by decide +kernel
theorem dX2_tickOf_60 : decode cX2_tickOf 60 = .ok (.bipush 28, 2) := by decide +kernel
theorem dX2_tickOf_62 : decode cX2_tickOf 62 = .ok (.aload_n 0, 1) := by decide +kernel
theorem dX2_tickOf_63 : decode cX2_tickOf 63 = .ok (.invokevirtual 57, 3) := by decide +kernel
theorem dX2_tickOf_66 : decode cX2_tickOf 66 = .ok (.iastore, 1) := by decide +kernel
theorem dX2_tickOf_67 : decode cX2_tickOf 67 = .ok (.aload_n 0, 1) := by decide +kernel
theorem dX2_tickOf_68 : decode cX2_tickOf 68 = .ok (.getfield 7, 3) := by decide +kernel
theorem dX2_tickOf_71 : decode cX2_tickOf 71 = .ok (.bipush 29, 2) := by decide +kernel
theorem dX2_tickOf_73 : decode cX2_tickOf 73 = .ok (.aload_n 0, 1) := by decide +kernel
theorem dX2_tickOf_74 : decode cX2_tickOf 74 = .ok (.invokevirtual 60, 3) := by decide +kernel
theorem dX2_tickOf_77 : decode cX2_tickOf 77 = .ok (.iastore, 1) := by decide +kernel
theorem dX2_tickOf_78 : decode cX2_tickOf 78 = .ok (.aload_n 0, 1) := by decide +kernel
theorem dX2_tickOf_79 : decode cX2_tickOf 79 = .ok (.getfield 7, 3) := by decide +kernel
theorem dX2_tickOf_82 : decode cX2_tickOf 82 = .ok (.bipush 30, 2) := by decide +kernel
theorem dX2_tickOf_84 : decode cX2_tickOf 84 = .ok (.iconst 2, 1) := by decide +kernel
theorem dX2_tickOf_85 : decode cX2_tickOf 85 = .ok (.iload_n 2, 1) := by decide +kernel
theorem dX2_tickOf_86 : decode cX2_tickOf 86 = .ok (.invokestatic 31, 3) := by decide +kernel
theorem dX2_tickOf_89 : decode cX2_tickOf 89 = .ok (.imul, 1) := by decide +kernel
theorem dX2_tickOf_90 : decode cX2_tickOf 90 = .ok (.aload_n 0, 1) := by decide +kernel
theorem dX2_tickOf_91 : decode cX2_tickOf 91 = .ok (.getfield 7, 3) := by decide +kernel
theorem dX2_tickOf_94 : decode cX2_tickOf 94 = .ok (.bipush 28, 2) := by decide +kernel
theorem dX2_tickOf_96 : decode cX2_tickOf 96 = .ok (.iaload, 1) := by decide +kernel
theorem dX2_tickOf_97 : decode cX2_tickOf 97 = .ok (.if_icmp .le 7, 3) := by decide +kernel
theorem dX2_tickOf_100 : decode cX2_tickOf 100 = .ok (.iconst 1, 1) := by decide +kernel
theorem dX2_tickOf_101 : decode cX2_tickOf 101 = .ok (.goto 4, 3) := by decide +kernel
theorem dX2_tickOf_104 : decode cX2_tickOf 104 = .ok (.iconst 0, 1) := by decide +kernel
theorem dX2_tickOf_105 : decode cX2_tickOf 105 = .ok (.iastore, 1) := by decide +kernel
theorem dX2_tickOf_106 : decode cX2_tickOf 106 = .ok (.aload_n 0, 1) := by decide +kernel
theorem dX2_tickOf_107 : decode cX2_tickOf 107 = .ok (.invokevirtual 63, 3) := by decide +kernel
theorem dX2_tickOf_110 : decode cX2_tickOf 110 = .ok (.aload_n 0, 1) := by decide +kernel
theorem dX2_tickOf_111 : decode cX2_tickOf 111 = .ok (.getfield 7, 3) := by decide +kernel
theorem dX2_tickOf_114 : decode cX2_tickOf 114 = .ok (.bipush 31, 2) := by decide +kernel
theorem dX2_tickOf_116 : decode cX2_tickOf 116 = .ok (.aload_n 0, 1) := by decide +kernel
theorem dX2_tickOf_117 : decode cX2_tickOf 117 = .ok (.invokevirtual 66, 3) := by decide +kernel
theorem dX2_tickOf_120 : decode cX2_tickOf 120 = .ok (.iastore, 1) := by decide +kernel
theorem dX2_tickOf_121 : decode cX2_tickOf 121 = .ok (.aload_n 0, 1) := by decide +kernel
theorem dX2_tickOf_122 : decode cX2_tickOf 122 = .ok (.getfield 7, 3) := by decide +kernel
theorem dX2_tickOf_125 : decode cX2_tickOf 125 = .ok (.bipush 22, 2) := by decide +kernel
theorem dX2_tickOf_127 : decode cX2_tickOf 127 = .ok (.iaload, 1) := by decide +kernel
theorem dX2_tickOf_128 : decode cX2_tickOf 128 = .ok (.ifCond .ne 27, 3) := by decide +kernel
theorem dX2_tickOf_131 : decode cX2_tickOf 131 = .ok (.aload_n 0, 1) := by decide +kernel
theorem dX2_tickOf_132 : decode cX2_tickOf 132 = .ok (.getfield 7, 3) := by decide +kernel
theorem dX2_tickOf_135 : decode cX2_tickOf 135 = .ok (.bipush 31, 2) := by decide +kernel
theorem dX2_tickOf_137 : decode cX2_tickOf 137 = .ok (.iaload, 1) := by decide +kernel
theorem dX2_tickOf_138 : decode cX2_tickOf 138 = .ok (.ifCond .ne 17, 3) := by decide +kernel
theorem dX2_tickOf_141 : decode cX2_tickOf 141 = .ok (.aload_n 0, 1) := by decide +kernel
theorem dX2_tickOf_142 : decode cX2_tickOf 142 = .ok (.getfield 7, 3) := by decide +kernel
theorem dX2_tickOf_145 : decode cX2_tickOf 145 = .ok (.bipush 29, 2) := by decide +kernel
theorem dX2_tickOf_147 : decode cX2_tickOf 147 = .ok (.iaload, 1) := by decide +kernel
theorem dX2_tickOf_148 : decode cX2_tickOf 148 = .ok (.ifCond .le 7, 3) := by decide +kernel
theorem dX2_tickOf_151 : decode cX2_tickOf 151 = .ok (.iconst 1, 1) := by decide +kernel
theorem dX2_tickOf_152 : decode cX2_tickOf 152 = .ok (.goto 4, 3) := by decide +kernel
theorem dX2_tickOf_155 : decode cX2_tickOf 155 = .ok (.iconst 0, 1) := by decide +kernel
theorem dX2_tickOf_156 : decode cX2_tickOf 156 = .ok (.istore_n 3, 1) := by decide +kernel
theorem dX2_tickOf_157 : decode cX2_tickOf 157 = .ok (.aload_n 0, 1) := by decide +kernel
theorem dX2_tickOf_158 : decode cX2_tickOf 158 = .ok (.getfield 7, 3) := by decide +kernel
theorem dX2_tickOf_161 : decode cX2_tickOf 161 = .ok (.bipush 32, 2) := by decide +kernel
theorem dX2_tickOf_163 : decode cX2_tickOf 163 = .ok (.iload_n 3, 1) := by decide +kernel
theorem dX2_tickOf_164 : decode cX2_tickOf 164 = .ok (.ifCond .eq 7, 3) := by decide +kernel
theorem dX2_tickOf_167 : decode cX2_tickOf 167 = .ok (.iconst 1, 1) := by decide +kernel
theorem dX2_tickOf_168 : decode cX2_tickOf 168 = .ok (.goto 4, 3) := by decide +kernel
theorem dX2_tickOf_171 : decode cX2_tickOf 171 = .ok (.iconst 0, 1) := by decide +kernel
theorem dX2_tickOf_172 : decode cX2_tickOf 172 = .ok (.iastore, 1) := by decide +kernel
theorem dX2_tickOf_173 : decode cX2_tickOf 173 = .ok (.iload_n 3, 1) := by decide +kernel
theorem dX2_tickOf_174 : decode cX2_tickOf 174 = .ok (.ifCond .eq 7, 3) := by decide +kernel
theorem dX2_tickOf_177 : decode cX2_tickOf 177 = .ok (.aload_n 0, 1) := by decide +kernel
theorem dX2_tickOf_178 : decode cX2_tickOf 178 = .ok (.invokevirtual 69, 3) := by decide +kernel
theorem dX2_tickOf_181 : decode cX2_tickOf 181 = .ok (.aload_n 0, 1) := by decide +kernel
theorem dX2_tickOf_182 : decode cX2_tickOf 182 = .ok (.getfield 7, 3) := by decide +kernel
theorem dX2_tickOf_185 : decode cX2_tickOf 185 = .ok (.bipush 27, 2) := by decide +kernel
theorem dX2_tickOf_187 : decode cX2_tickOf 187 = .ok (.aload_n 0, 1) := by decide +kernel
theorem dX2_tickOf_188 : decode cX2_tickOf 188 = .ok (.invokevirtual 72, 3) := by decide +kernel
theorem dX2_tickOf_191 : decode cX2_tickOf 191 = .ok (.iastore, 1) := by decide +kernel
theorem dX2_tickOf_192 : decode cX2_tickOf 192 = .ok (.aload_n 0, 1) := by decide +kernel
theorem dX2_tickOf_193 : decode cX2_tickOf 193 = .ok (.bipush 113, 2) := by decide +kernel
theorem dX2_tickOf_195 : decode cX2_tickOf 195 = .ok (.bipush 40, 2) := by decide +kernel
theorem dX2_tickOf_197 : decode cX2_tickOf 197 = .ok (.aload_n 0, 1) := by decide +kernel
theorem dX2_tickOf_198 : decode cX2_tickOf 198 = .ok (.getfield 7, 3) := by decide +kernel
theorem dX2_tickOf_201 : decode cX2_tickOf 201 = .ok (.bipush 27, 2) := by decide +kernel
theorem dX2_tickOf_203 : decode cX2_tickOf 203 = .ok (.iaload, 1) := by decide +kernel
theorem dX2_tickOf_204 : decode cX2_tickOf 204 = .ok (.invokevirtual 50, 3) := by decide +kernel
theorem dX2_tickOf_207 : decode cX2_tickOf 207 = .ok (.aload_n 0, 1) := by decide +kernel
theorem dX2_tickOf_208 : decode cX2_tickOf 208 = .ok (.sipush 153, 3) := by decide +kernel
theorem dX2_tickOf_211 : decode cX2_tickOf 211 = .ok (.sipush 201, 3) := by decide +kernel
theorem dX2_tickOf_214 : decode cX2_tickOf 214 = .ok (.aload_n 0, 1) := by decide +kernel
theorem dX2_tickOf_215 : decode cX2_tickOf 215 = .ok (.getfield 7, 3) := by decide +kernel
theorem dX2_tickOf_218 : decode cX2_tickOf 218 = .ok (.bipush 30, 2) := by decide +kernel
theorem dX2_tickOf_220 : decode cX2_tickOf 220 = .ok (.iaload, 1) := by decide +kernel
theorem dX2_tickOf_221 : decode cX2_tickOf 221 = .ok (.invokevirtual 50, 3) := by decide +kernel
theorem dX2_tickOf_224 : decode cX2_tickOf 224 = .ok (.aload_n 0, 1) := by decide +kernel
theorem dX2_tickOf_225 : decode cX2_tickOf 225 = .ok (.sipush 354, 3) := by decide +kernel
theorem dX2_tickOf_228 : decode cX2_tickOf 228 = .ok (.sipush 201, 3) := by decide +kernel
theorem dX2_tickOf_231 : decode cX2_tickOf 231 = .ok (.aload_n 0, 1) := by decide +kernel
theorem dX2_tickOf_232 : decode cX2_tickOf 232 = .ok (.getfield 7, 3) := by decide +kernel
theorem dX2_tickOf_235 : decode cX2_tickOf 235 = .ok (.bipush 31, 2) := by decide +kernel
theorem dX2_tickOf_237 : decode cX2_tickOf 237 = .ok (.iaload, 1) := by decide +kernel
theorem dX2_tickOf_238 : decode cX2_tickOf 238 = .ok (.ifCond .le 7, 3) := by decide +kernel
theorem dX2_tickOf_241 : decode cX2_tickOf 241 = .ok (.iconst 1, 1) := by decide +kernel
theorem dX2_tickOf_242 : decode cX2_tickOf 242 = .ok (.goto 4, 3) := by decide +kernel
theorem dX2_tickOf_245 : decode cX2_tickOf 245 = .ok (.iconst 0, 1) := by decide +kernel
theorem dX2_tickOf_246 : decode cX2_tickOf 246 = .ok (.invokevirtual 50, 3) := by decide +kernel
theorem dX2_tickOf_249 : decode cX2_tickOf 249 = .ok (.aload_n 0, 1) := by decide +kernel
theorem dX2_tickOf_250 : decode cX2_tickOf 250 = .ok (.getfield 7, 3) := by decide +kernel
theorem dX2_tickOf_253 : decode cX2_tickOf 253 = .ok (.bipush 27, 2) := by decide +kernel
theorem dX2_tickOf_255 : decode cX2_tickOf 255 = .ok (.iaload, 1) := by decide +kernel
theorem dX2_tickOf_256 : decode cX2_tickOf 256 = .ok (.ireturn, 1) := by decide +kernel
set_option maxRecDepth 20000 in
theorem ggX2_tick_X2_in : GoodIn wsX2_tick wsX2_in := goodIn_r _ [5] (by decide +kernel) (by decide +kernel)
set_option maxRecDepth 20000 in
theorem gX2_tick_X2_in : GoodIn wsX2_tick (va_wsS RX2 20 yX2_in wsX2_in) := goodIn_app (goodIn_of _ (by decide +kernel)) ggX2_tick_X2_in
set_option maxRecDepth 20000 in
theorem ggX2_tick_X2_tickOf : GoodIn wsX2_tick wsX2_tickOf := goodIn_r _ [9, 10, 11, 12, 13, 4, 14, 15, 16, 17, 18, 19, 20, 21, 22, 23, 24, 25, 26, 27, 28, 29, 30, 31, 32, 33, 34, 35, 36, 37, 38, 39, 40, 41, 42, 43, 44, 45, 46, 47, 48, 49, 50, 51, 52, 53, 54, 55, 56, 57, 58, 59, 60, 61, 62, 63, 64, 65, 66, 67] (by decide +kernel) (by decide +kernel)
set_option maxRecDepth 20000 in
theorem gX2_tick_X2_tickOf : GoodIn wsX2_tick (wsV RX2 75 RX2 yX2_tickOf wsX2_tickOf) := goodIn_app (goodIn_of _ (by decide +kernel)) ggX2_tick_X2_tickOf
theorem dX2_tick_0 : decode cX2_tick 0 = .ok (.iload_n 1, 1) := by decide +kernel
theorem dX2_tick_1 : decode cX2_tick 1 = .ok (.sipush (-1000), 3) := by decide +kernel
theorem dX2_tick_4 : decode cX2_tick 4 = .ok (.sipush 1000, 3) := by decide +kernel
theorem dX2_tick_7 : decode cX2_tick 7 = .ok (.invokestatic 20, 3) := by decide +kernel
theorem dX2_tick_10 : decode cX2_tick 10 = .ok (.ifCond .eq 25, 3) := by decide +kernel
theorem dX2_tick_13 : decode cX2_tick 13 = .ok (.iload_n 2, 1) := by decide +kernel
theorem dX2_tick_14 : decode cX2_tick 14 = .ok (.sipush (-2000), 3) := by decide +kernel
theorem dX2_tick_17 : decode cX2_tick 17 = .ok (.sipush 2000, 3) := by decide +kernel
theorem dX2_tick_20 : decode cX2_tick 20 = .ok (.invokestatic 20, 3) := by decide +kernel
theorem dX2_tick_23 : decode cX2_tick 23 = .ok (.ifCond .eq 12, 3) := by decide +kernel
theorem dX2_tick_26 : decode cX2_tick 26 = .ok (.aload_n 0, 1) := by decide +kernel
theorem dX2_tick_27 : decode cX2_tick 27 = .ok (.iload_n 1, 1) := by decide +kernel
theorem dX2_tick_28 : decode cX2_tick 28 = .ok (.iload_n 2, 1) := by decide +kernel
theorem dX2_tick_29 : decode cX2_tick 29 = .ok (.invokevirtual 75, 3) := by decide +kernel
theorem dX2_tick_32 : decode cX2_tick 32 = .ok (.goto 5, 3) := by decide +kernel
theorem dX2_tick_35 : decode cX2_tick 35 = .ok (.ldc 79, 2) := by decide +kernel
theorem dX2_tick_37 : decode cX2_tick 37 = .ok (.ireturn, 1) := by decide +kernel
set_option maxRecDepth 20000 in
theorem ggX2_tap_X2_in : GoodIn wsX2_tap wsX2_in := goodIn_r _ [6] (by decide +kernel) (by decide +kernel)
set_option maxRecDepth 20000 in
theorem gX2_tap_X2_in : GoodIn wsX2_tap (va_wsS RX2 20 yX2_in wsX2_in) := goodIn_app (goodIn_of _ (by decide +kernel)) ggX2_tap_X2_in
theorem dX2_tap_0 : decode cX2_tap 0 = .ok (.iload_n 1, 1) := by decide +kernel
theorem dX2_tap_1 : decode cX2_tap 1 = .ok (.iconst 0, 1) := by decide +kernel
theorem dX2_tap_2 : decode cX2_tap 2 = .ok (.bipush 7, 2) := by decide +kernel
theorem dX2_tap_4 : decode cX2_tap 4 = .ok (.invokestatic 20, 3) := by decide +kernel
theorem dX2_tap_7 : decode cX2_tap 7 = .ok (.ifCond .eq 14, 3) := by decide +kernel
theorem dX2_tap_10 : decode cX2_tap 10 = .ok (.aload_n 0, 1) := by decide +kernel
theorem dX2_tap_11 : decode cX2_tap 11 = .ok (.getfield 7, 3) := by decide +kernel
theorem dX2_tap_14 : decode cX2_tap 14 = .ok (.iconst 5, 1) := by decide +kernel
theorem dX2_tap_15 : decode cX2_tap 15 = .ok (.iload_n 1, 1) := by decide +kernel
theorem dX2_tap_16 : decode cX2_tap 16 = .ok (.iadd, 1) := by decide +kernel
theorem dX2_tap_17 : decode cX2_tap 17 = .ok (.iaload, 1) := by decide +kernel
theorem dX2_tap_18 : decode cX2_tap 18 = .ok (.goto 5, 3) := by decide +kernel
theorem dX2_tap_21 : decode cX2_tap 21 = .ok (.ldc 79, 2) := by decide +kernel
theorem dX2_tap_23 : decode cX2_tap 23 = .ok (.ireturn, 1) := by decide +kernel
set_option maxRecDepth 20000 in
theorem ggX2_last_X2_in : GoodIn wsX2_last wsX2_in := goodIn_r _ [7] (by decide +kernel) (by decide +kernel)
set_option maxRecDepth 20000 in
theorem gX2_last_X2_in : GoodIn wsX2_last (va_wsS RX2 20 yX2_in wsX2_in) := goodIn_app (goodIn_of _ (by decide +kernel)) ggX2_last_X2_in
theorem dX2_last_0 : decode cX2_last 0 = .ok (.iload_n 1, 1) := by decide +kernel
theorem dX2_last_1 : decode cX2_last 1 = .ok (.iconst 0, 1) := by decide +kernel
theorem dX2_last_2 : decode cX2_last 2 = .ok (.bipush 7, 2) := by decide +kernel
theorem dX2_last_4 : decode cX2_last 4 = .ok (.invokestatic 20, 3) := by decide +kernel
theorem dX2_last_7 : decode cX2_last 7 = .ok (.ifCond .ne 6, 3) := by decide +kernel
theorem dX2_last_10 : decode cX2_last 10 = .ok (.ldc 79, 2) := by decide +kernel
theorem dX2_last_12 : decode cX2_last 12 = .ok (.ireturn, 1) := by decide +kernel
theorem dX2_last_13 : decode cX2_last 13 = .ok (.aload_n 0, 1) := by decide +kernel
theorem dX2_last_14 : decode cX2_last 14 = .ok (.getfield 7, 3) := by decide +kernel
theorem dX2_last_17 : decode cX2_last 17 = .ok (.bipush 24, 2) := by decide +kernel
theorem dX2_last_19 : decode cX2_last 19 = .ok (.iaload, 1) := by decide +kernel
theorem dX2_last_20 : decode cX2_last 20 = .ok (.ifCond .ne 8, 3) := by decide +kernel
theorem dX2_last_23 : decode cX2_last 23 = .ok (.ldc 80, 2) := by decide +kernel
theorem dX2_last_25 : decode cX2_last 25 = .ok (.goto 12, 3) := by decide +kernel
theorem dX2_last_28 : decode cX2_last 28 = .ok (.aload_n 0, 1) := by decide +kernel
theorem dX2_last_29 : decode cX2_last 29 = .ok (.getfield 7, 3) := by decide +kernel
theorem dX2_last_32 : decode cX2_last 32 = .ok (.bipush 25, 2) := by decide +kernel
theorem dX2_last_34 : decode cX2_last 34 = .ok (.iload_n 1, 1) := by decide +kernel
theorem dX2_last_35 : decode cX2_last 35 = .ok (.iadd, 1) := by decide +kernel
theorem dX2_last_36 : decode cX2_last 36 = .ok (.iaload, 1) := by decide +kernel
theorem dX2_last_37 : decode cX2_last 37 = .ok (.ireturn, 1) := by decide +kernel
set_option maxRecDepth 20000 in
theorem ggX2_ago_X2_in : GoodIn wsX2_ago wsX2_in := goodIn_r _ [7] (by decide +kernel) (by decide +kernel)
set_option maxRecDepth 20000 in
theorem gX2_ago_X2_in : GoodIn wsX2_ago (va_wsS RX2 20 yX2_in wsX2_in) := goodIn_app (goodIn_of _ (by decide +kernel)) ggX2_ago_X2_in
theorem dX2_ago_0 : decode cX2_ago 0 = .ok (.iload_n 1, 1) := by decide +kernel
theorem dX2_ago_1 : decode cX2_ago 1 = .ok (.iconst 0, 1) := by decide +kernel
theorem dX2_ago_2 : decode cX2_ago 2 = .ok (.bipush 31, 2) := by decide +kernel
theorem dX2_ago_4 : decode cX2_ago 4 = .ok (.invokestatic 20, 3) := by decide +kernel
theorem dX2_ago_7 : decode cX2_ago 7 = .ok (.ifCond .eq 12, 3) := by decide +kernel
theorem dX2_ago_10 : decode cX2_ago 10 = .ok (.iload_n 2, 1) := by decide +kernel
theorem dX2_ago_11 : decode cX2_ago 11 = .ok (.iconst 0, 1) := by decide +kernel
theorem dX2_ago_12 : decode cX2_ago 12 = .ok (.iconst 2, 1) := by decide +kernel
theorem dX2_ago_13 : decode cX2_ago 13 = .ok (.invokestatic 20, 3) := by decide +kernel
theorem dX2_ago_16 : decode cX2_ago 16 = .ok (.ifCond .ne 6, 3) := by decide +kernel
theorem dX2_ago_19 : decode cX2_ago 19 = .ok (.ldc 79, 2) := by decide +kernel
theorem dX2_ago_21 : decode cX2_ago 21 = .ok (.ireturn, 1) := by decide +kernel
theorem dX2_ago_22 : decode cX2_ago 22 = .ok (.iload_n 1, 1) := by decide +kernel
theorem dX2_ago_23 : decode cX2_ago 23 = .ok (.aload_n 0, 1) := by decide +kernel
theorem dX2_ago_24 : decode cX2_ago 24 = .ok (.getfield 7, 3) := by decide +kernel
theorem dX2_ago_27 : decode cX2_ago 27 = .ok (.bipush 24, 2) := by decide +kernel
theorem dX2_ago_29 : decode cX2_ago 29 = .ok (.iaload, 1) := by decide +kernel
theorem dX2_ago_30 : decode cX2_ago 30 = .ok (.if_icmp .lt 8, 3) := by decide +kernel
theorem dX2_ago_33 : decode cX2_ago 33 = .ok (.ldc 81, 2) := by decide +kernel
theorem dX2_ago_35 : decode cX2_ago 35 = .ok (.goto 17, 3) := by decide +kernel
theorem dX2_ago_38 : decode cX2_ago 38 = .ok (.aload_n 0, 1) := by decide +kernel
theorem dX2_ago_39 : decode cX2_ago 39 = .ok (.getfield 7, 3) := by decide +kernel
theorem dX2_ago_42 : decode cX2_ago 42 = .ok (.bipush 33, 2) := by decide +kernel
theorem dX2_ago_44 : decode cX2_ago 44 = .ok (.bipush 40, 2) := by decide +kernel
theorem dX2_ago_46 : decode cX2_ago 46 = .ok (.iload_n 2, 1) := by decide +kernel
theorem dX2_ago_47 : decode cX2_ago 47 = .ok (.imul, 1) := by decide +kernel
theorem dX2_ago_48 : decode cX2_ago 48 = .ok (.iadd, 1) := by decide +kernel
theorem dX2_ago_49 : decode cX2_ago 49 = .ok (.iload_n 1, 1) := by decide +kernel
theorem dX2_ago_50 : decode cX2_ago 50 = .ok (.iadd, 1) := by decide +kernel
theorem dX2_ago_51 : decode cX2_ago 51 = .ok (.iaload, 1) := by decide +kernel
theorem dX2_ago_52 : decode cX2_ago 52 = .ok (.ireturn, 1) := by decide +kernel
set_option maxRecDepth 20000 in
theorem ggX2_part_X2_in : GoodIn wsX2_part wsX2_in := goodIn_r _ [6] (by decide +kernel) (by decide +kernel)
set_option maxRecDepth 20000 in
theorem gX2_part_X2_in : GoodIn wsX2_part (va_wsS RX2 20 yX2_in wsX2_in) := goodIn_app (goodIn_of _ (by decide +kernel)) ggX2_part_X2_in
theorem dX2_part_0 : decode cX2_part 0 = .ok (.iload_n 1, 1) := by decide +kernel
theorem dX2_part_1 : decode cX2_part 1 = .ok (.iconst 0, 1) := by decide +kernel
theorem dX2_part_2 : decode cX2_part 2 = .ok (.bipush 8, 2) := by decide +kernel
theorem dX2_part_4 : decode cX2_part 4 = .ok (.invokestatic 20, 3) := by decide +kernel
theorem dX2_part_7 : decode cX2_part 7 = .ok (.ifCond .eq 37, 3) := by decide +kernel
theorem dX2_part_10 : decode cX2_part 10 = .ok (.iload_n 2, 1) := by decide +kernel
theorem dX2_part_11 : decode cX2_part 11 = .ok (.iload_n 1, 1) := by decide +kernel
theorem dX2_part_12 : decode cX2_part 12 = .ok (.bipush 8, 2) := by decide +kernel
theorem dX2_part_14 : decode cX2_part 14 = .ok (.if_icmp .ne 7, 3) := by decide +kernel
theorem dX2_part_17 : decode cX2_part 17 = .ok (.iconst 0, 1) := by decide +kernel
end
section
theorem dX2_part_18 : decode cX2_part 18 = .ok (.goto 6, 3) := by decide +kernel
theorem dX2_part_21 : decode cX2_part 21 = .ok (.sipush (-1024), 3) := by decide +kernel
theorem dX2_part_24 : decode cX2_part 24 = .ok (.iload_n 1, 1) := by decide +kernel
theorem dX2_part_25 : decode cX2_part 25 = .ok (.bipush 8, 2) := by decide +kernel
theorem dX2_part_27 : decode cX2_part 27 = .ok (.if_icmp .ne 8, 3) := by decide +kernel
theorem dX2_part_30 : decode cX2_part 30 = .ok (.bipush 15, 2) := by decide +kernel
theorem dX2_part_32 : decode cX2_part 32 = .ok (.goto 6, 3) := by decide +kernel
theorem dX2_part_35 : decode cX2_part 35 = .ok (.sipush 1023, 3) := by decide +kernel
theorem dX2_part_38 : decode cX2_part 38 = .ok (.invokestatic 20, 3) := by decide +kernel
theorem dX2_part_41 : decode cX2_part 41 = .ok (.ifCond .ne 6, 3) := by decide +kernel
theorem dX2_part_44 : decode cX2_part 44 = .ok (.ldc 79, 2) := by decide +kernel
theorem dX2_part_46 : decode cX2_part 46 = .ok (.ireturn, 1) := by decide +kernel
theorem dX2_part_47 : decode cX2_part 47 = .ok (.aload_n 0, 1) := by decide +kernel
theorem dX2_part_48 : decode cX2_part 48 = .ok (.getfield 7, 3) := by decide +kernel
theorem dX2_part_51 : decode cX2_part 51 = .ok (.bipush 13, 2) := by decide +kernel
theorem dX2_part_53 : decode cX2_part 53 = .ok (.iload_n 1, 1) := by decide +kernel
theorem dX2_part_54 : decode cX2_part 54 = .ok (.iadd, 1) := by decide +kernel
theorem dX2_part_55 : decode cX2_part 55 = .ok (.iaload, 1) := by decide +kernel
theorem dX2_part_56 : decode cX2_part 56 = .ok (.istore_n 3, 1) := by decide +kernel
theorem dX2_part_57 : decode cX2_part 57 = .ok (.aload_n 0, 1) := by decide +kernel
theorem dX2_part_58 : decode cX2_part 58 = .ok (.getfield 7, 3) := by decide +kernel
theorem dX2_part_61 : decode cX2_part 61 = .ok (.bipush 13, 2) := by decide +kernel
theorem dX2_part_63 : decode cX2_part 63 = .ok (.iload_n 1, 1) := by decide +kernel
theorem dX2_part_64 : decode cX2_part 64 = .ok (.iadd, 1) := by decide +kernel
theorem dX2_part_65 : decode cX2_part 65 = .ok (.iload_n 2, 1) := by decide +kernel
theorem dX2_part_66 : decode cX2_part 66 = .ok (.iastore, 1) := by decide +kernel
theorem dX2_part_67 : decode cX2_part 67 = .ok (.iload_n 3, 1) := by decide +kernel
theorem dX2_part_68 : decode cX2_part 68 = .ok (.ireturn, 1) := by decide +kernel
theorem dX2_echo_0 : decode cX2_echo 0 = .ok (.iconst 0, 1) := by decide +kernel
theorem dX2_echo_1 : decode cX2_echo 1 = .ok (.istore_n 2, 1) := by decide +kernel
theorem dX2_echo_2 : decode cX2_echo 2 = .ok (.iconst 0, 1) := by decide +kernel
theorem dX2_echo_3 : decode cX2_echo 3 = .ok (.istore_n 3, 1) := by decide +kernel
theorem dX2_echo_4 : decode cX2_echo 4 = .ok (.iload_n 3, 1) := by decide +kernel
theorem dX2_echo_5 : decode cX2_echo 5 = .ok (.bipush 8, 2) := by decide +kernel
theorem dX2_echo_7 : decode cX2_echo 7 = .ok (.if_icmp .ge 54, 3) := by decide +kernel
theorem dX2_echo_10 : decode cX2_echo 10 = .ok (.iload_n 3, 1) := by decide +kernel
theorem dX2_echo_11 : decode cX2_echo 11 = .ok (.aload_n 0, 1) := by decide +kernel
theorem dX2_echo_12 : decode cX2_echo 12 = .ok (.getfield 7, 3) := by decide +kernel
theorem dX2_echo_15 : decode cX2_echo 15 = .ok (.bipush 21, 2) := by decide +kernel
theorem dX2_echo_17 : decode cX2_echo 17 = .ok (.iaload, 1) := by decide +kernel
theorem dX2_echo_18 : decode cX2_echo 18 = .ok (.iadd, 1) := by decide +kernel
theorem dX2_echo_19 : decode cX2_echo 19 = .ok (.istore 4, 2) := by decide +kernel
theorem dX2_echo_21 : decode cX2_echo 21 = .ok (.iload_n 2, 1) := by decide +kernel
theorem dX2_echo_22 : decode cX2_echo 22 = .ok (.aload_n 0, 1) := by decide +kernel
theorem dX2_echo_23 : decode cX2_echo 23 = .ok (.getfield 7, 3) := by decide +kernel
theorem dX2_echo_26 : decode cX2_echo 26 = .ok (.bipush 13, 2) := by decide +kernel
theorem dX2_echo_28 : decode cX2_echo 28 = .ok (.iload_n 3, 1) := by decide +kernel
theorem dX2_echo_29 : decode cX2_echo 29 = .ok (.iadd, 1) := by decide +kernel
theorem dX2_echo_30 : decode cX2_echo 30 = .ok (.iaload, 1) := by decide +kernel
theorem dX2_echo_31 : decode cX2_echo 31 = .ok (.iload 4, 2) := by decide +kernel
theorem dX2_echo_33 : decode cX2_echo 33 = .ok (.ifCond .ne 7, 3) := by decide +kernel
theorem dX2_echo_36 : decode cX2_echo 36 = .ok (.iload_n 1, 1) := by decide +kernel
theorem dX2_echo_37 : decode cX2_echo 37 = .ok (.goto 15, 3) := by decide +kernel
theorem dX2_echo_40 : decode cX2_echo 40 = .ok (.aload_n 0, 1) := by decide +kernel
theorem dX2_echo_41 : decode cX2_echo 41 = .ok (.getfield 7, 3) := by decide +kernel
theorem dX2_echo_44 : decode cX2_echo 44 = .ok (.bipush 33, 2) := by decide +kernel
theorem dX2_echo_46 : decode cX2_echo 46 = .ok (.iload 4, 2) := by decide +kernel
theorem dX2_echo_48 : decode cX2_echo 48 = .ok (.iadd, 1) := by decide +kernel
theorem dX2_echo_49 : decode cX2_echo 49 = .ok (.iconst 1, 1) := by decide +kernel
theorem dX2_echo_50 : decode cX2_echo 50 = .ok (.isub, 1) := by decide +kernel
theorem dX2_echo_51 : decode cX2_echo 51 = .ok (.iaload, 1) := by decide +kernel
theorem dX2_echo_52 : decode cX2_echo 52 = .ok (.imul, 1) := by decide +kernel
theorem dX2_echo_53 : decode cX2_echo 53 = .ok (.iadd, 1) := by decide +kernel
theorem dX2_echo_54 : decode cX2_echo 54 = .ok (.istore_n 2, 1) := by decide +kernel
theorem dX2_echo_55 : decode cX2_echo 55 = .ok (.iinc 3 1, 3) := by decide +kernel
theorem dX2_echo_58 : decode cX2_echo 58 = .ok (.goto (-54), 3) := by decide +kernel
theorem dX2_echo_61 : decode cX2_echo 61 = .ok (.iload_n 2, 1) := by decide +kernel
theorem dX2_echo_62 : decode cX2_echo 62 = .ok (.sipush 1024, 3) := by decide +kernel
theorem dX2_echo_65 : decode cX2_echo 65 = .ok (.idiv, 1) := by decide +kernel
theorem dX2_echo_66 : decode cX2_echo 66 = .ok (.ireturn, 1) := by decide +kernel
set_option maxRecDepth 20000 in
theorem ggX2_speakOf_X2_echo : GoodIn wsX2_speakOf wsX2_echo := goodIn_r _ [5, 6, 65, 66, 67] (by decide +kernel) (by decide +kernel)
set_option maxRecDepth 20000 in
theorem gX2_speakOf_X2_echo : GoodIn wsX2_speakOf (wsV RX2 82 RX2 yX2_echo wsX2_echo) := goodIn_app (goodIn_of _ (by decide +kernel)) ggX2_speakOf_X2_echo
set_option maxRecDepth 20000 in
theorem ggX2_speakOf_X2_within : GoodIn wsX2_speakOf wsX2_within := goodIn_r _ [9] (by decide +kernel) (by decide +kernel)
set_option maxRecDepth 20000 in
theorem gX2_speakOf_X2_within : GoodIn wsX2_speakOf (va_wsS RX2 38 yX2_within wsX2_within) := goodIn_app (goodIn_of _ (by decide +kernel)) ggX2_speakOf_X2_within
set_option maxRecDepth 20000 in
theorem ggX2_speakOf_X2_tickOf : GoodIn wsX2_speakOf wsX2_tickOf := goodIn_r _ [13, 6, 14, 15, 16, 4, 17, 18, 19, 20, 21, 22, 23, 24, 25, 26, 27, 28, 29, 30, 31, 32, 33, 34, 35, 36, 37, 38, 39, 40, 41, 42, 43, 44, 45, 46, 47, 48, 49, 50, 51, 52, 7, 8, 9, 53, 54, 55, 56, 57, 58, 59, 60, 61, 62, 63, 64, 65, 66, 67] (by decide +kernel) (by decide +kernel)
set_option maxRecDepth 20000 in
theorem gX2_speakOf_X2_tickOf : GoodIn wsX2_speakOf (wsV RX2 75 RX2 yX2_tickOf wsX2_tickOf) := goodIn_app (goodIn_of _ (by decide +kernel)) ggX2_speakOf_X2_tickOf
theorem dX2_speakOf_0 : decode cX2_speakOf 0 = .ok (.aload_n 0, 1) := by decide +kernel
theorem dX2_speakOf_1 : decode cX2_speakOf 1 = .ok (.iload_n 1, 1) := by decide +kernel
theorem dX2_speakOf_2 : decode cX2_speakOf 2 = .ok (.aload_n 0, 1) := by decide +kernel
theorem dX2_speakOf_3 : decode cX2_speakOf 3 = .ok (.iload_n 1, 1) := by decide +kernel
theorem dX2_speakOf_4 : decode cX2_speakOf 4 = .ok (.invokevirtual 82, 3) := by decide +kernel
theorem dX2_speakOf_7 : decode cX2_speakOf 7 = .ok (.iload_n 2, 1) := by decide +kernel
theorem dX2_speakOf_8 : decode cX2_speakOf 8 = .ok (.iadd, 1) := by decide +kernel
theorem dX2_speakOf_9 : decode cX2_speakOf 9 = .ok (.sipush (-2000), 3) := by decide +kernel
theorem dX2_speakOf_12 : decode cX2_speakOf 12 = .ok (.sipush 2000, 3) := by decide +kernel
theorem dX2_speakOf_15 : decode cX2_speakOf 15 = .ok (.invokestatic 38, 3) := by decide +kernel
theorem dX2_speakOf_18 : decode cX2_speakOf 18 = .ok (.invokevirtual 75, 3) := by decide +kernel
theorem dX2_speakOf_21 : decode cX2_speakOf 21 = .ok (.ireturn, 1) := by decide +kernel
set_option maxRecDepth 20000 in
theorem ggX2_speak_X2_in : GoodIn wsX2_speak wsX2_in := goodIn_r _ [5] (by decide +kernel) (by decide +kernel)
set_option maxRecDepth 20000 in
theorem gX2_speak_X2_in : GoodIn wsX2_speak (va_wsS RX2 20 yX2_in wsX2_in) := goodIn_app (goodIn_of _ (by decide +kernel)) ggX2_speak_X2_in
set_option maxRecDepth 20000 in
theorem ggX2_speak_X2_speakOf : GoodIn wsX2_speak wsX2_speakOf := goodIn_r _ [9, 10, 11, 12, 4, 13, 14, 15, 16, 17, 18, 19, 20, 21, 22, 23, 24, 25, 26, 27, 28, 29, 30, 31, 32, 33, 34, 35, 36, 37, 38, 39, 40, 41, 42, 43, 44, 45, 46, 47, 48, 49, 50, 51, 52, 53, 54, 55, 56, 57, 58, 59, 60, 61, 62, 63, 64, 65, 66, 67, 68, 69, 70, 71, 72, 73, 74, 75] (by decide +kernel) (by decide +kernel)
set_option maxRecDepth 20000 in
theorem gX2_speak_X2_speakOf : GoodIn wsX2_speak (wsV RX2 85 RX2 yX2_speakOf wsX2_speakOf) := goodIn_app (goodIn_of _ (by decide +kernel)) ggX2_speak_X2_speakOf
theorem dX2_speak_0 : decode cX2_speak 0 = .ok (.iload_n 1, 1) := by decide +kernel
theorem dX2_speak_1 : decode cX2_speak 1 = .ok (.sipush (-1000), 3) := by decide +kernel
theorem dX2_speak_4 : decode cX2_speak 4 = .ok (.sipush 1000, 3) := by decide +kernel
theorem dX2_speak_7 : decode cX2_speak 7 = .ok (.invokestatic 20, 3) := by decide +kernel
theorem dX2_speak_10 : decode cX2_speak 10 = .ok (.ifCond .eq 25, 3) := by decide +kernel
theorem dX2_speak_13 : decode cX2_speak 13 = .ok (.iload_n 2, 1) := by decide +kernel
theorem dX2_speak_14 : decode cX2_speak 14 = .ok (.sipush (-2000), 3) := by decide +kernel
theorem dX2_speak_17 : decode cX2_speak 17 = .ok (.sipush 2000, 3) := by decide +kernel
theorem dX2_speak_20 : decode cX2_speak 20 = .ok (.invokestatic 20, 3) := by decide +kernel
theorem dX2_speak_23 : decode cX2_speak 23 = .ok (.ifCond .eq 12, 3) := by decide +kernel
theorem dX2_speak_26 : decode cX2_speak 26 = .ok (.aload_n 0, 1) := by decide +kernel
theorem dX2_speak_27 : decode cX2_speak 27 = .ok (.iload_n 1, 1) := by decide +kernel
theorem dX2_speak_28 : decode cX2_speak 28 = .ok (.iload_n 2, 1) := by decide +kernel
theorem dX2_speak_29 : decode cX2_speak 29 = .ok (.invokevirtual 85, 3) := by decide +kernel
theorem dX2_speak_32 : decode cX2_speak 32 = .ok (.goto 5, 3) := by decide +kernel
theorem dX2_speak_35 : decode cX2_speak 35 = .ok (.ldc 79, 2) := by decide +kernel
theorem dX2_speak_37 : decode cX2_speak 37 = .ok (.ireturn, 1) := by decide +kernel
set_option maxRecDepth 20000 in
theorem ggX2_run_X2_in : GoodIn wsX2_run wsX2_in := goodIn_r _ [6] (by decide +kernel) (by decide +kernel)
set_option maxRecDepth 20000 in
theorem gX2_run_X2_in : GoodIn wsX2_run (va_wsS RX2 20 yX2_in wsX2_in) := goodIn_app (goodIn_of _ (by decide +kernel)) ggX2_run_X2_in
set_option maxRecDepth 20000 in
theorem ggX2_run_X2_next : GoodIn wsX2_run wsX2_next := goodIn_r _ [9, 10] (by decide +kernel) (by decide +kernel)
set_option maxRecDepth 20000 in
theorem gX2_run_X2_next : GoodIn wsX2_run (va_wsS RX2 43 yX2_next wsX2_next) := goodIn_app (goodIn_of _ (by decide +kernel)) ggX2_run_X2_next
set_option maxRecDepth 20000 in
theorem ggX2_run_X2_speakOf : GoodIn wsX2_run wsX2_speakOf := goodIn_r _ [14, 15, 16, 17, 5, 18, 2, 19, 20, 21, 22, 23, 24, 25, 26, 27, 28, 29, 30, 31, 32, 33, 34, 35, 36, 37, 38, 39, 40, 41, 42, 43, 44, 45, 46, 47, 48, 49, 50, 51, 52, 53, 54, 55, 56, 57, 58, 59, 60, 61, 62, 63, 64, 65, 66, 67, 68, 69, 70, 71, 72, 7, 8, 9, 10, 73, 74, 75] (by decide +kernel) (by decide +kernel)
set_option maxRecDepth 20000 in
theorem gX2_run_X2_speakOf : GoodIn wsX2_run (wsV RX2 85 RX2 yX2_speakOf wsX2_speakOf) := goodIn_app (goodIn_of _ (by decide +kernel)) ggX2_run_X2_speakOf
set_option maxRecDepth 20000 in
theorem ggX2_run_X2_size : GoodIn wsX2_run wsX2_size := goodIn_r _ [44] (by decide +kernel) (by decide +kernel)
set_option maxRecDepth 20000 in
theorem gX2_run_X2_size : GoodIn wsX2_run (va_wsS RX2 31 yX2_size wsX2_size) := goodIn_app (goodIn_of _ (by decide +kernel)) ggX2_run_X2_size
theorem dX2_run_0 : decode cX2_run 0 = .ok (.iload_n 1, 1) := by decide +kernel
theorem dX2_run_1 : decode cX2_run 1 = .ok (.iconst 0, 1) := by decide +kernel
theorem dX2_run_2 : decode cX2_run 2 = .ok (.ldc 88, 2) := by decide +kernel
theorem dX2_run_4 : decode cX2_run 4 = .ok (.invokestatic 20, 3) := by decide +kernel
theorem dX2_run_7 : decode cX2_run 7 = .ok (.ifCond .eq 24, 3) := by decide +kernel
theorem dX2_run_10 : decode cX2_run 10 = .ok (.iload_n 2, 1) := by decide +kernel
theorem dX2_run_11 : decode cX2_run 11 = .ok (.iconst 1, 1) := by decide +kernel
theorem dX2_run_12 : decode cX2_run 12 = .ok (.bipush 60, 2) := by decide +kernel
theorem dX2_run_14 : decode cX2_run 14 = .ok (.invokestatic 20, 3) := by decide +kernel
theorem dX2_run_17 : decode cX2_run 17 = .ok (.ifCond .eq 14, 3) := by decide +kernel
theorem dX2_run_20 : decode cX2_run 20 = .ok (.iload_n 3, 1) := by decide +kernel
theorem dX2_run_21 : decode cX2_run 21 = .ok (.iconst 0, 1) := by decide +kernel
theorem dX2_run_22 : decode cX2_run 22 = .ok (.sipush 1000, 3) := by decide +kernel
theorem dX2_run_25 : decode cX2_run 25 = .ok (.invokestatic 20, 3) := by decide +kernel
theorem dX2_run_28 : decode cX2_run 28 = .ok (.ifCond .ne 6, 3) := by decide +kernel
theorem dX2_run_31 : decode cX2_run 31 = .ok (.bipush (-2), 2) := by decide +kernel
theorem dX2_run_33 : decode cX2_run 33 = .ok (.ireturn, 1) := by decide +kernel
theorem dX2_run_34 : decode cX2_run 34 = .ok (.iload_n 1, 1) := by decide +kernel
theorem dX2_run_35 : decode cX2_run 35 = .ok (.istore 4, 2) := by decide +kernel
theorem dX2_run_37 : decode cX2_run 37 = .ok (.iconst 0, 1) := by decide +kernel
theorem dX2_run_38 : decode cX2_run 38 = .ok (.istore 5, 2) := by decide +kernel
theorem dX2_run_40 : decode cX2_run 40 = .ok (.iconst 0, 1) := by decide +kernel
theorem dX2_run_41 : decode cX2_run 41 = .ok (.istore 6, 2) := by decide +kernel
theorem dX2_run_43 : decode cX2_run 43 = .ok (.iload 6, 2) := by decide +kernel
theorem dX2_run_45 : decode cX2_run 45 = .ok (.iload_n 2, 1) := by decide +kernel
theorem dX2_run_46 : decode cX2_run 46 = .ok (.if_icmp .ge 47, 3) := by decide +kernel
theorem dX2_run_49 : decode cX2_run 49 = .ok (.iload 4, 2) := by decide +kernel
theorem dX2_run_51 : decode cX2_run 51 = .ok (.invokestatic 43, 3) := by decide +kernel
theorem dX2_run_54 : decode cX2_run 54 = .ok (.istore 4, 2) := by decide +kernel
theorem dX2_run_56 : decode cX2_run 56 = .ok (.aload_n 0, 1) := by decide +kernel
theorem dX2_run_57 : decode cX2_run 57 = .ok (.iload 4, 2) := by decide +kernel
theorem dX2_run_59 : decode cX2_run 59 = .ok (.iconst 2, 1) := by decide +kernel
theorem dX2_run_60 : decode cX2_run 60 = .ok (.iload_n 3, 1) := by decide +kernel
theorem dX2_run_61 : decode cX2_run 61 = .ok (.imul, 1) := by decide +kernel
theorem dX2_run_62 : decode cX2_run 62 = .ok (.iconst 1, 1) := by decide +kernel
theorem dX2_run_63 : decode cX2_run 63 = .ok (.iadd, 1) := by decide +kernel
theorem dX2_run_64 : decode cX2_run 64 = .ok (.irem, 1) := by decide +kernel
theorem dX2_run_65 : decode cX2_run 65 = .ok (.iload_n 3, 1) := by decide +kernel
theorem dX2_run_66 : decode cX2_run 66 = .ok (.isub, 1) := by decide +kernel
theorem dX2_run_67 : decode cX2_run 67 = .ok (.iconst 0, 1) := by decide +kernel
theorem dX2_run_68 : decode cX2_run 68 = .ok (.invokevirtual 85, 3) := by decide +kernel
theorem dX2_run_71 : decode cX2_run 71 = .ok (.pop, 1) := by decide +kernel
theorem dX2_run_72 : decode cX2_run 72 = .ok (.iload 5, 2) := by decide +kernel
theorem dX2_run_74 : decode cX2_run 74 = .ok (.aload_n 0, 1) := by decide +kernel
theorem dX2_run_75 : decode cX2_run 75 = .ok (.getfield 7, 3) := by decide +kernel
theorem dX2_run_78 : decode cX2_run 78 = .ok (.bipush 26, 2) := by decide +kernel
theorem dX2_run_80 : decode cX2_run 80 = .ok (.iaload, 1) := by decide +kernel
theorem dX2_run_81 : decode cX2_run 81 = .ok (.invokestatic 31, 3) := by decide +kernel
theorem dX2_run_84 : decode cX2_run 84 = .ok (.iadd, 1) := by decide +kernel
theorem dX2_run_85 : decode cX2_run 85 = .ok (.istore 5, 2) := by decide +kernel
theorem dX2_run_87 : decode cX2_run 87 = .ok (.iinc 6 1, 3) := by decide +kernel
theorem dX2_run_90 : decode cX2_run 90 = .ok (.goto (-47), 3) := by decide +kernel
theorem dX2_run_93 : decode cX2_run 93 = .ok (.iload 5, 2) := by decide +kernel
theorem dX2_run_95 : decode cX2_run 95 = .ok (.ireturn, 1) := by decide +kernel
theorem dX2_save_0 : decode cX2_save 0 = .ok (.iconst 0, 1) := by decide +kernel
theorem dX2_save_1 : decode cX2_save 1 = .ok (.istore_n 2, 1) := by decide +kernel
theorem dX2_save_2 : decode cX2_save 2 = .ok (.iload_n 2, 1) := by decide +kernel
theorem dX2_save_3 : decode cX2_save 3 = .ok (.sipush 555, 3) := by decide +kernel
theorem dX2_save_6 : decode cX2_save 6 = .ok (.if_icmp .ge 27, 3) := by decide +kernel
theorem dX2_save_9 : decode cX2_save 9 = .ok (.aload_n 0, 1) := by decide +kernel
theorem dX2_save_10 : decode cX2_save 10 = .ok (.getfield 13, 3) := by decide +kernel
theorem dX2_save_13 : decode cX2_save 13 = .ok (.sipush 555, 3) := by decide +kernel
theorem dX2_save_16 : decode cX2_save 16 = .ok (.iload_n 1, 1) := by decide +kernel
theorem dX2_save_17 : decode cX2_save 17 = .ok (.imul, 1) := by decide +kernel
theorem dX2_save_18 : decode cX2_save 18 = .ok (.iload_n 2, 1) := by decide +kernel
theorem dX2_save_19 : decode cX2_save 19 = .ok (.iadd, 1) := by decide +kernel
theorem dX2_save_20 : decode cX2_save 20 = .ok (.aload_n 0, 1) := by decide +kernel
theorem dX2_save_21 : decode cX2_save 21 = .ok (.getfield 7, 3) := by decide +kernel
theorem dX2_save_24 : decode cX2_save 24 = .ok (.iload_n 2, 1) := by decide +kernel
theorem dX2_save_25 : decode cX2_save 25 = .ok (.iaload, 1) := by decide +kernel
theorem dX2_save_26 : decode cX2_save 26 = .ok (.iastore, 1) := by decide +kernel
theorem dX2_save_27 : decode cX2_save 27 = .ok (.iinc 2 1, 3) := by decide +kernel
theorem dX2_save_30 : decode cX2_save 30 = .ok (.goto (-28), 3) := by decide +kernel
theorem dX2_save_33 : decode cX2_save 33 = .ok (.return_, 1) := by decide +kernel
theorem dX2_load_0 : decode cX2_load 0 = .ok (.iconst 0, 1) := by decide +kernel
theorem dX2_load_1 : decode cX2_load 1 = .ok (.istore_n 2, 1) := by decide +kernel
theorem dX2_load_2 : decode cX2_load 2 = .ok (.iload_n 2, 1) := by decide +kernel
theorem dX2_load_3 : decode cX2_load 3 = .ok (.sipush 555, 3) := by decide +kernel
theorem dX2_load_6 : decode cX2_load 6 = .ok (.if_icmp .ge 27, 3) := by decide +kernel
theorem dX2_load_9 : decode cX2_load 9 = .ok (.aload_n 0, 1) := by decide +kernel
theorem dX2_load_10 : decode cX2_load 10 = .ok (.getfield 7, 3) := by decide +kernel
theorem dX2_load_13 : decode cX2_load 13 = .ok (.iload_n 2, 1) := by decide +kernel
theorem dX2_load_14 : decode cX2_load 14 = .ok (.aload_n 0, 1) := by decide +kernel
theorem dX2_load_15 : decode cX2_load 15 = .ok (.getfield 13, 3) := by decide +kernel
theorem dX2_load_18 : decode cX2_load 18 = .ok (.sipush 555, 3) := by decide +kernel
theorem dX2_load_21 : decode cX2_load 21 = .ok (.iload_n 1, 1) := by decide +kernel
theorem dX2_load_22 : decode cX2_load 22 = .ok (.imul, 1) := by decide +kernel
theorem dX2_load_23 : decode cX2_load 23 = .ok (.iload_n 2, 1) := by decide +kernel
theorem dX2_load_24 : decode cX2_load 24 = .ok (.iadd, 1) := by decide +kernel
theorem dX2_load_25 : decode cX2_load 25 = .ok (.iaload, 1) := by decide +kernel
theorem dX2_load_26 : decode cX2_load 26 = .ok (.iastore, 1) := by decide +kernel
theorem dX2_load_27 : decode cX2_load 27 = .ok (.iinc 2 1, 3) := by decide +kernel
theorem dX2_load_30 : decode cX2_load 30 = .ok (.goto (-28), 3) := by decide +kernel
theorem dX2_load_33 : decode cX2_load 33 = .ok (.return_, 1) := by decide +kernel
set_option maxRecDepth 20000 in
theorem ggX2_learnt_X2_in : GoodIn wsX2_learnt wsX2_in := goodIn_r _ [6] (by decide +kernel) (by decide +kernel)
set_option maxRecDepth 20000 in
theorem gX2_learnt_X2_in : GoodIn wsX2_learnt (va_wsS RX2 20 yX2_in wsX2_in) := goodIn_app (goodIn_of _ (by decide +kernel)) ggX2_learnt_X2_in
set_option maxRecDepth 20000 in
theorem ggX2_learnt_X2_save : GoodIn wsX2_learnt wsX2_save := goodIn_r _ [10, 11, 2, 82, 83, 84] (by decide +kernel) (by decide +kernel)
set_option maxRecDepth 20000 in
theorem gX2_learnt_X2_save : GoodIn wsX2_learnt (wsV RX2 89 RX2 yX2_save wsX2_save) := goodIn_app (goodIn_of _ (by decide +kernel)) ggX2_learnt_X2_save
set_option maxRecDepth 20000 in
theorem ggX2_learnt_X2_next : GoodIn wsX2_learnt wsX2_next := goodIn_r _ [14, 15] (by decide +kernel) (by decide +kernel)
set_option maxRecDepth 20000 in
theorem gX2_learnt_X2_next : GoodIn wsX2_learnt (va_wsS RX2 43 yX2_next wsX2_next) := goodIn_app (goodIn_of _ (by decide +kernel)) ggX2_learnt_X2_next
set_option maxRecDepth 20000 in
theorem ggX2_learnt_X2_speakOf : GoodIn wsX2_learnt wsX2_speakOf := goodIn_r _ [19, 20, 21, 22, 5, 23, 2, 24, 25, 26, 27, 28, 29, 30, 31, 32, 33, 34, 35, 36, 37, 38, 39, 40, 41, 42, 43, 44, 45, 46, 47, 48, 49, 50, 51, 52, 53, 54, 55, 56, 57, 58, 59, 60, 61, 62, 63, 64, 65, 66, 67, 68, 69, 70, 71, 72, 73, 74, 75, 76, 77, 12, 13, 14, 15, 82, 83, 84] (by decide +kernel) (by decide +kernel)
set_option maxRecDepth 20000 in
theorem gX2_learnt_X2_speakOf : GoodIn wsX2_learnt (wsV RX2 85 RX2 yX2_speakOf wsX2_speakOf) := goodIn_app (goodIn_of _ (by decide +kernel)) ggX2_learnt_X2_speakOf
set_option maxRecDepth 20000 in
theorem ggX2_learnt_X2_size : GoodIn wsX2_learnt wsX2_size := goodIn_r _ [49] (by decide +kernel) (by decide +kernel)
set_option maxRecDepth 20000 in
theorem gX2_learnt_X2_size : GoodIn wsX2_learnt (va_wsS RX2 31 yX2_size wsX2_size) := goodIn_app (goodIn_of _ (by decide +kernel)) ggX2_learnt_X2_size
set_option maxRecDepth 20000 in
theorem ggX2_learnt_X2_load : GoodIn wsX2_learnt wsX2_load := goodIn_r _ [81, 2, 11, 82, 83, 84] (by decide +kernel) (by decide +kernel)
set_option maxRecDepth 20000 in
theorem gX2_learnt_X2_load : GoodIn wsX2_learnt (wsV RX2 93 RX2 yX2_load wsX2_load) := goodIn_app (goodIn_of _ (by decide +kernel)) ggX2_learnt_X2_load
theorem dX2_learnt_0 : decode cX2_learnt 0 = .ok (.iload_n 1, 1) := by decide +kernel
theorem dX2_learnt_1 : decode cX2_learnt 1 = .ok (.iconst 0, 1) := by decide +kernel
theorem dX2_learnt_2 : decode cX2_learnt 2 = .ok (.ldc 88, 2) := by decide +kernel
theorem dX2_learnt_4 : decode cX2_learnt 4 = .ok (.invokestatic 20, 3) := by decide +kernel
theorem dX2_learnt_7 : decode cX2_learnt 7 = .ok (.ifCond .eq 25, 3) := by decide +kernel
theorem dX2_learnt_10 : decode cX2_learnt 10 = .ok (.iload_n 2, 1) := by decide +kernel
theorem dX2_learnt_11 : decode cX2_learnt 11 = .ok (.iconst 0, 1) := by decide +kernel
theorem dX2_learnt_12 : decode cX2_learnt 12 = .ok (.sipush 1000, 3) := by decide +kernel
theorem dX2_learnt_15 : decode cX2_learnt 15 = .ok (.invokestatic 20, 3) := by decide +kernel
theorem dX2_learnt_18 : decode cX2_learnt 18 = .ok (.ifCond .eq 14, 3) := by decide +kernel
theorem dX2_learnt_21 : decode cX2_learnt 21 = .ok (.iload_n 3, 1) := by decide +kernel
theorem dX2_learnt_22 : decode cX2_learnt 22 = .ok (.iconst 0, 1) := by decide +kernel
theorem dX2_learnt_23 : decode cX2_learnt 23 = .ok (.sipush 999, 3) := by decide +kernel
theorem dX2_learnt_26 : decode cX2_learnt 26 = .ok (.invokestatic 20, 3) := by decide +kernel
theorem dX2_learnt_29 : decode cX2_learnt 29 = .ok (.ifCond .ne 6, 3) := by decide +kernel
theorem dX2_learnt_32 : decode cX2_learnt 32 = .ok (.bipush (-2), 2) := by decide +kernel
theorem dX2_learnt_34 : decode cX2_learnt 34 = .ok (.ireturn, 1) := by decide +kernel
theorem dX2_learnt_35 : decode cX2_learnt 35 = .ok (.aload_n 0, 1) := by decide +kernel
theorem dX2_learnt_36 : decode cX2_learnt 36 = .ok (.iconst 2, 1) := by decide +kernel
theorem dX2_learnt_37 : decode cX2_learnt 37 = .ok (.invokevirtual 89, 3) := by decide +kernel
theorem dX2_learnt_40 : decode cX2_learnt 40 = .ok (.iload_n 1, 1) := by decide +kernel
theorem dX2_learnt_41 : decode cX2_learnt 41 = .ok (.istore 4, 2) := by decide +kernel
theorem dX2_learnt_43 : decode cX2_learnt 43 = .ok (.iconst 0, 1) := by decide +kernel
theorem dX2_learnt_44 : decode cX2_learnt 44 = .ok (.istore 5, 2) := by decide +kernel
theorem dX2_learnt_46 : decode cX2_learnt 46 = .ok (.iconst 0, 1) := by decide +kernel
theorem dX2_learnt_47 : decode cX2_learnt 47 = .ok (.istore 6, 2) := by decide +kernel
theorem dX2_learnt_49 : decode cX2_learnt 49 = .ok (.iload 5, 2) := by decide +kernel
theorem dX2_learnt_51 : decode cX2_learnt 51 = .ok (.sipush 200, 3) := by decide +kernel
theorem dX2_learnt_54 : decode cX2_learnt 54 = .ok (.if_icmp .ge 63, 3) := by decide +kernel
theorem dX2_learnt_57 : decode cX2_learnt 57 = .ok (.iload 6, 2) := by decide +kernel
theorem dX2_learnt_59 : decode cX2_learnt 59 = .ok (.bipush 8, 2) := by decide +kernel
theorem dX2_learnt_61 : decode cX2_learnt 61 = .ok (.if_icmp .ge 56, 3) := by decide +kernel
theorem dX2_learnt_64 : decode cX2_learnt 64 = .ok (.iload 4, 2) := by decide +kernel
theorem dX2_learnt_66 : decode cX2_learnt 66 = .ok (.invokestatic 43, 3) := by decide +kernel
theorem dX2_learnt_69 : decode cX2_learnt 69 = .ok (.istore 4, 2) := by decide +kernel
theorem dX2_learnt_71 : decode cX2_learnt 71 = .ok (.aload_n 0, 1) := by decide +kernel
theorem dX2_learnt_72 : decode cX2_learnt 72 = .ok (.iload 4, 2) := by decide +kernel
theorem dX2_learnt_74 : decode cX2_learnt 74 = .ok (.iconst 2, 1) := by decide +kernel
theorem dX2_learnt_75 : decode cX2_learnt 75 = .ok (.iload_n 2, 1) := by decide +kernel
theorem dX2_learnt_76 : decode cX2_learnt 76 = .ok (.imul, 1) := by decide +kernel
theorem dX2_learnt_77 : decode cX2_learnt 77 = .ok (.iconst 1, 1) := by decide +kernel
theorem dX2_learnt_78 : decode cX2_learnt 78 = .ok (.iadd, 1) := by decide +kernel
theorem dX2_learnt_79 : decode cX2_learnt 79 = .ok (.irem, 1) := by decide +kernel
theorem dX2_learnt_80 : decode cX2_learnt 80 = .ok (.iload_n 2, 1) := by decide +kernel
theorem dX2_learnt_81 : decode cX2_learnt 81 = .ok (.isub, 1) := by decide +kernel
theorem dX2_learnt_82 : decode cX2_learnt 82 = .ok (.iconst 0, 1) := by decide +kernel
theorem dX2_learnt_83 : decode cX2_learnt 83 = .ok (.invokevirtual 85, 3) := by decide +kernel
theorem dX2_learnt_86 : decode cX2_learnt 86 = .ok (.pop, 1) := by decide +kernel
theorem dX2_learnt_87 : decode cX2_learnt 87 = .ok (.aload_n 0, 1) := by decide +kernel
theorem dX2_learnt_88 : decode cX2_learnt 88 = .ok (.getfield 7, 3) := by decide +kernel
theorem dX2_learnt_91 : decode cX2_learnt 91 = .ok (.bipush 26, 2) := by decide +kernel
theorem dX2_learnt_93 : decode cX2_learnt 93 = .ok (.iaload, 1) := by decide +kernel
theorem dX2_learnt_94 : decode cX2_learnt 94 = .ok (.invokestatic 31, 3) := by decide +kernel
theorem dX2_learnt_97 : decode cX2_learnt 97 = .ok (.iload_n 3, 1) := by decide +kernel
theorem dX2_learnt_98 : decode cX2_learnt 98 = .ok (.if_icmp .gt 10, 3) := by decide +kernel
theorem dX2_learnt_101 : decode cX2_learnt 101 = .ok (.iload 6, 2) := by decide +kernel
theorem dX2_learnt_103 : decode cX2_learnt 103 = .ok (.iconst 1, 1) := by decide +kernel
theorem dX2_learnt_104 : decode cX2_learnt 104 = .ok (.iadd, 1) := by decide +kernel
theorem dX2_learnt_105 : decode cX2_learnt 105 = .ok (.goto 4, 3) := by decide +kernel
theorem dX2_learnt_108 : decode cX2_learnt 108 = .ok (.iconst 0, 1) := by decide +kernel
theorem dX2_learnt_109 : decode cX2_learnt 109 = .ok (.istore 6, 2) := by decide +kernel
theorem dX2_learnt_111 : decode cX2_learnt 111 = .ok (.iinc 5 1, 3) := by decide +kernel
theorem dX2_learnt_114 : decode cX2_learnt 114 = .ok (.goto (-65), 3) := by decide +kernel
theorem dX2_learnt_117 : decode cX2_learnt 117 = .ok (.aload_n 0, 1) := by decide +kernel
theorem dX2_learnt_118 : decode cX2_learnt 118 = .ok (.iconst 2, 1) := by decide +kernel
theorem dX2_learnt_119 : decode cX2_learnt 119 = .ok (.invokevirtual 93, 3) := by decide +kernel
theorem dX2_learnt_122 : decode cX2_learnt 122 = .ok (.iload 6, 2) := by decide +kernel
theorem dX2_learnt_124 : decode cX2_learnt 124 = .ok (.bipush 8, 2) := by decide +kernel
theorem dX2_learnt_126 : decode cX2_learnt 126 = .ok (.if_icmp .ne 8, 3) := by decide +kernel
theorem dX2_learnt_129 : decode cX2_learnt 129 = .ok (.iload 5, 2) := by decide +kernel
theorem dX2_learnt_131 : decode cX2_learnt 131 = .ok (.goto 5, 3) := by decide +kernel
theorem dX2_learnt_134 : decode cX2_learnt 134 = .ok (.bipush (-6), 2) := by decide +kernel
theorem dX2_learnt_136 : decode cX2_learnt 136 = .ok (.ireturn, 1) := by decide +kernel
theorem dX2_likenessOf_0 : decode cX2_likenessOf 0 = .ok (.iconst 0, 1) := by decide +kernel
theorem dX2_likenessOf_1 : decode cX2_likenessOf 1 = .ok (.istore_n 2, 1) := by decide +kernel
theorem dX2_likenessOf_2 : decode cX2_likenessOf 2 = .ok (.iconst 0, 1) := by decide +kernel
theorem dX2_likenessOf_3 : decode cX2_likenessOf 3 = .ok (.istore_n 3, 1) := by decide +kernel
theorem dX2_likenessOf_4 : decode cX2_likenessOf 4 = .ok (.iload_n 3, 1) := by decide +kernel
theorem dX2_likenessOf_5 : decode cX2_likenessOf 5 = .ok (.bipush 24, 2) := by decide +kernel
theorem dX2_likenessOf_7 : decode cX2_likenessOf 7 = .ok (.if_icmp .ge 33, 3) := by decide +kernel
theorem dX2_likenessOf_10 : decode cX2_likenessOf 10 = .ok (.iload_n 2, 1) := by decide +kernel
theorem dX2_likenessOf_11 : decode cX2_likenessOf 11 = .ok (.aload_n 0, 1) := by decide +kernel
theorem dX2_likenessOf_12 : decode cX2_likenessOf 12 = .ok (.getfield 7, 3) := by decide +kernel
theorem dX2_likenessOf_15 : decode cX2_likenessOf 15 = .ok (.bipush 73, 2) := by decide +kernel
theorem dX2_likenessOf_17 : decode cX2_likenessOf 17 = .ok (.iload_n 3, 1) := by decide +kernel
theorem dX2_likenessOf_18 : decode cX2_likenessOf 18 = .ok (.iadd, 1) := by decide +kernel
theorem dX2_likenessOf_19 : decode cX2_likenessOf 19 = .ok (.iaload, 1) := by decide +kernel
theorem dX2_likenessOf_20 : decode cX2_likenessOf 20 = .ok (.aload_n 0, 1) := by decide +kernel
theorem dX2_likenessOf_21 : decode cX2_likenessOf 21 = .ok (.getfield 7, 3) := by decide +kernel
theorem dX2_likenessOf_24 : decode cX2_likenessOf 24 = .ok (.bipush 33, 2) := by decide +kernel
theorem dX2_likenessOf_26 : decode cX2_likenessOf 26 = .ok (.iload_n 3, 1) := by decide +kernel
theorem dX2_likenessOf_27 : decode cX2_likenessOf 27 = .ok (.iadd, 1) := by decide +kernel
theorem dX2_likenessOf_28 : decode cX2_likenessOf 28 = .ok (.iload_n 1, 1) := by decide +kernel
theorem dX2_likenessOf_29 : decode cX2_likenessOf 29 = .ok (.iadd, 1) := by decide +kernel
theorem dX2_likenessOf_30 : decode cX2_likenessOf 30 = .ok (.iaload, 1) := by decide +kernel
theorem dX2_likenessOf_31 : decode cX2_likenessOf 31 = .ok (.imul, 1) := by decide +kernel
theorem dX2_likenessOf_32 : decode cX2_likenessOf 32 = .ok (.iadd, 1) := by decide +kernel
theorem dX2_likenessOf_33 : decode cX2_likenessOf 33 = .ok (.istore_n 2, 1) := by decide +kernel
theorem dX2_likenessOf_34 : decode cX2_likenessOf 34 = .ok (.iinc 3 1, 3) := by decide +kernel
theorem dX2_likenessOf_37 : decode cX2_likenessOf 37 = .ok (.goto (-33), 3) := by decide +kernel
theorem dX2_likenessOf_40 : decode cX2_likenessOf 40 = .ok (.iload_n 2, 1) := by decide +kernel
theorem dX2_likenessOf_41 : decode cX2_likenessOf 41 = .ok (.ireturn, 1) := by decide +kernel
set_option maxRecDepth 20000 in
theorem ggX2_likeness_X2_in : GoodIn wsX2_likeness wsX2_in := goodIn_r _ [5] (by decide +kernel) (by decide +kernel)
set_option maxRecDepth 20000 in
theorem gX2_likeness_X2_in : GoodIn wsX2_likeness (va_wsS RX2 20 yX2_in wsX2_in) := goodIn_app (goodIn_of _ (by decide +kernel)) ggX2_likeness_X2_in
set_option maxRecDepth 20000 in
theorem ggX2_likeness_X2_likenessOf : GoodIn wsX2_likeness wsX2_likenessOf := goodIn_r _ [9, 10, 11, 12, 13] (by decide +kernel) (by decide +kernel)
set_option maxRecDepth 20000 in
theorem gX2_likeness_X2_likenessOf : GoodIn wsX2_likeness (wsV RX2 96 RX2 yX2_likenessOf wsX2_likenessOf) := goodIn_app (goodIn_of _ (by decide +kernel)) ggX2_likeness_X2_likenessOf
theorem dX2_likeness_0 : decode cX2_likeness 0 = .ok (.iload_n 1, 1) := by decide +kernel
theorem dX2_likeness_1 : decode cX2_likeness 1 = .ok (.iconst 0, 1) := by decide +kernel
theorem dX2_likeness_2 : decode cX2_likeness 2 = .ok (.bipush 15, 2) := by decide +kernel
theorem dX2_likeness_4 : decode cX2_likeness 4 = .ok (.invokestatic 20, 3) := by decide +kernel
theorem dX2_likeness_7 : decode cX2_likeness 7 = .ok (.ifCond .eq 11, 3) := by decide +kernel
theorem dX2_likeness_10 : decode cX2_likeness 10 = .ok (.aload_n 0, 1) := by decide +kernel
theorem dX2_likeness_11 : decode cX2_likeness 11 = .ok (.iload_n 1, 1) := by decide +kernel
theorem dX2_likeness_12 : decode cX2_likeness 12 = .ok (.invokevirtual 96, 3) := by decide +kernel
theorem dX2_likeness_15 : decode cX2_likeness 15 = .ok (.goto 5, 3) := by decide +kernel
theorem dX2_likeness_18 : decode cX2_likeness 18 = .ok (.ldc 79, 2) := by decide +kernel
theorem dX2_likeness_20 : decode cX2_likeness 20 = .ok (.ireturn, 1) := by decide +kernel
set_option maxRecDepth 20000 in
theorem ggX2_seek_X2_likenessOf : GoodIn wsX2_seek wsX2_likenessOf := goodIn_r _ [6, 1, 10, 11, 12] (by decide +kernel) (by decide +kernel)
set_option maxRecDepth 20000 in
theorem gX2_seek_X2_likenessOf : GoodIn wsX2_seek (wsV RX2 96 RX2 yX2_likenessOf wsX2_likenessOf) := goodIn_app (goodIn_of _ (by decide +kernel)) ggX2_seek_X2_likenessOf
set_option maxRecDepth 20000 in
theorem ggX2_seek_X2_size : GoodIn wsX2_seek wsX2_size := goodIn_r _ [9] (by decide +kernel) (by decide +kernel)
set_option maxRecDepth 20000 in
theorem gX2_seek_X2_size : GoodIn wsX2_seek (va_wsS RX2 31 yX2_size wsX2_size) := goodIn_app (goodIn_of _ (by decide +kernel)) ggX2_seek_X2_size
theorem dX2_seek_0 : decode cX2_seek 0 = .ok (.iconst 0, 1) := by decide +kernel
theorem dX2_seek_1 : decode cX2_seek 1 = .ok (.istore_n 1, 1) := by decide +kernel
theorem dX2_seek_2 : decode cX2_seek 2 = .ok (.iconst 1, 1) := by decide +kernel
theorem dX2_seek_3 : decode cX2_seek 3 = .ok (.istore_n 2, 1) := by decide +kernel
theorem dX2_seek_4 : decode cX2_seek 4 = .ok (.iload_n 2, 1) := by decide +kernel
theorem dX2_seek_5 : decode cX2_seek 5 = .ok (.bipush 15, 2) := by decide +kernel
theorem dX2_seek_7 : decode cX2_seek 7 = .ok (.if_icmp .gt 34, 3) := by decide +kernel
theorem dX2_seek_10 : decode cX2_seek 10 = .ok (.aload_n 0, 1) := by decide +kernel
theorem dX2_seek_11 : decode cX2_seek 11 = .ok (.iload_n 2, 1) := by decide +kernel
theorem dX2_seek_12 : decode cX2_seek 12 = .ok (.invokevirtual 96, 3) := by decide +kernel
theorem dX2_seek_15 : decode cX2_seek 15 = .ok (.invokestatic 31, 3) := by decide +kernel
theorem dX2_seek_18 : decode cX2_seek 18 = .ok (.aload_n 0, 1) := by decide +kernel
theorem dX2_seek_19 : decode cX2_seek 19 = .ok (.iload_n 1, 1) := by decide +kernel
theorem dX2_seek_20 : decode cX2_seek 20 = .ok (.invokevirtual 96, 3) := by decide +kernel
theorem dX2_seek_23 : decode cX2_seek 23 = .ok (.invokestatic 31, 3) := by decide +kernel
theorem dX2_seek_26 : decode cX2_seek 26 = .ok (.if_icmp .le 7, 3) := by decide +kernel
theorem dX2_seek_29 : decode cX2_seek 29 = .ok (.iload_n 2, 1) := by decide +kernel
theorem dX2_seek_30 : decode cX2_seek 30 = .ok (.goto 4, 3) := by decide +kernel
theorem dX2_seek_33 : decode cX2_seek 33 = .ok (.iload_n 1, 1) := by decide +kernel
theorem dX2_seek_34 : decode cX2_seek 34 = .ok (.istore_n 1, 1) := by decide +kernel
theorem dX2_seek_35 : decode cX2_seek 35 = .ok (.iinc 2 1, 3) := by decide +kernel
theorem dX2_seek_38 : decode cX2_seek 38 = .ok (.goto (-34), 3) := by decide +kernel
theorem dX2_seek_41 : decode cX2_seek 41 = .ok (.aload_n 0, 1) := by decide +kernel
theorem dX2_seek_42 : decode cX2_seek 42 = .ok (.iload_n 1, 1) := by decide +kernel
theorem dX2_seek_43 : decode cX2_seek 43 = .ok (.invokevirtual 96, 3) := by decide +kernel
theorem dX2_seek_46 : decode cX2_seek 46 = .ok (.ifCond .ne 6, 3) := by decide +kernel
theorem dX2_seek_49 : decode cX2_seek 49 = .ok (.bipush (-3), 2) := by decide +kernel
theorem dX2_seek_51 : decode cX2_seek 51 = .ok (.ireturn, 1) := by decide +kernel
theorem dX2_seek_52 : decode cX2_seek 52 = .ok (.aload_n 0, 1) := by decide +kernel
theorem dX2_seek_53 : decode cX2_seek 53 = .ok (.getfield 7, 3) := by decide +kernel
theorem dX2_seek_56 : decode cX2_seek 56 = .ok (.iconst 4, 1) := by decide +kernel
theorem dX2_seek_57 : decode cX2_seek 57 = .ok (.iload_n 1, 1) := by decide +kernel
theorem dX2_seek_58 : decode cX2_seek 58 = .ok (.iastore, 1) := by decide +kernel
theorem dX2_seek_59 : decode cX2_seek 59 = .ok (.iconst 0, 1) := by decide +kernel
theorem dX2_seek_60 : decode cX2_seek 60 = .ok (.istore_n 2, 1) := by decide +kernel
theorem dX2_seek_61 : decode cX2_seek 61 = .ok (.iload_n 2, 1) := by decide +kernel
theorem dX2_seek_62 : decode cX2_seek 62 = .ok (.bipush 8, 2) := by decide +kernel
theorem dX2_seek_64 : decode cX2_seek 64 = .ok (.if_icmp .ge 18, 3) := by decide +kernel
theorem dX2_seek_67 : decode cX2_seek 67 = .ok (.aload_n 0, 1) := by decide +kernel
theorem dX2_seek_68 : decode cX2_seek 68 = .ok (.getfield 7, 3) := by decide +kernel
theorem dX2_seek_71 : decode cX2_seek 71 = .ok (.iconst 5, 1) := by decide +kernel
theorem dX2_seek_72 : decode cX2_seek 72 = .ok (.iload_n 2, 1) := by decide +kernel
theorem dX2_seek_73 : decode cX2_seek 73 = .ok (.iadd, 1) := by decide +kernel
theorem dX2_seek_74 : decode cX2_seek 74 = .ok (.iconst 0, 1) := by decide +kernel
theorem dX2_seek_75 : decode cX2_seek 75 = .ok (.iastore, 1) := by decide +kernel
theorem dX2_seek_76 : decode cX2_seek 76 = .ok (.iinc 2 1, 3) := by decide +kernel
theorem dX2_seek_79 : decode cX2_seek 79 = .ok (.goto (-18), 3) := by decide +kernel
theorem dX2_seek_82 : decode cX2_seek 82 = .ok (.iload_n 1, 1) := by decide +kernel
theorem dX2_seek_83 : decode cX2_seek 83 = .ok (.ireturn, 1) := by decide +kernel
theorem dX2_squares_0 : decode cX2_squares 0 = .ok (.iconst 0, 1) := by decide +kernel
theorem dX2_squares_1 : decode cX2_squares 1 = .ok (.istore_n 2, 1) := by decide +kernel
theorem dX2_squares_2 : decode cX2_squares 2 = .ok (.iconst 0, 1) := by decide +kernel
theorem dX2_squares_3 : decode cX2_squares 3 = .ok (.istore_n 3, 1) := by decide +kernel
theorem dX2_squares_4 : decode cX2_squares 4 = .ok (.iload_n 3, 1) := by decide +kernel
theorem dX2_squares_5 : decode cX2_squares 5 = .ok (.bipush 32, 2) := by decide +kernel
theorem dX2_squares_7 : decode cX2_squares 7 = .ok (.if_icmp .ge 29, 3) := by decide +kernel
theorem dX2_squares_10 : decode cX2_squares 10 = .ok (.iload_n 2, 1) := by decide +kernel
theorem dX2_squares_11 : decode cX2_squares 11 = .ok (.aload_n 0, 1) := by decide +kernel
theorem dX2_squares_12 : decode cX2_squares 12 = .ok (.getfield 7, 3) := by decide +kernel
theorem dX2_squares_15 : decode cX2_squares 15 = .ok (.iload_n 1, 1) := by decide +kernel
theorem dX2_squares_16 : decode cX2_squares 16 = .ok (.iload_n 3, 1) := by decide +kernel
theorem dX2_squares_17 : decode cX2_squares 17 = .ok (.iadd, 1) := by decide +kernel
theorem dX2_squares_18 : decode cX2_squares 18 = .ok (.iaload, 1) := by decide +kernel
theorem dX2_squares_19 : decode cX2_squares 19 = .ok (.aload_n 0, 1) := by decide +kernel
theorem dX2_squares_20 : decode cX2_squares 20 = .ok (.getfield 7, 3) := by decide +kernel
theorem dX2_squares_23 : decode cX2_squares 23 = .ok (.iload_n 1, 1) := by decide +kernel
theorem dX2_squares_24 : decode cX2_squares 24 = .ok (.iload_n 3, 1) := by decide +kernel
theorem dX2_squares_25 : decode cX2_squares 25 = .ok (.iadd, 1) := by decide +kernel
theorem dX2_squares_26 : decode cX2_squares 26 = .ok (.iaload, 1) := by decide +kernel
theorem dX2_squares_27 : decode cX2_squares 27 = .ok (.imul, 1) := by decide +kernel
theorem dX2_squares_28 : decode cX2_squares 28 = .ok (.iadd, 1) := by decide +kernel
theorem dX2_squares_29 : decode cX2_squares 29 = .ok (.istore_n 2, 1) := by decide +kernel
theorem dX2_squares_30 : decode cX2_squares 30 = .ok (.iinc 3 1, 3) := by decide +kernel
theorem dX2_squares_33 : decode cX2_squares 33 = .ok (.goto (-29), 3) := by decide +kernel
theorem dX2_squares_36 : decode cX2_squares 36 = .ok (.iload_n 2, 1) := by decide +kernel
theorem dX2_squares_37 : decode cX2_squares 37 = .ok (.ireturn, 1) := by decide +kernel
theorem dX2_common_0 : decode cX2_common 0 = .ok (.iload_n 0, 1) := by decide +kernel
theorem dX2_common_1 : decode cX2_common 1 = .ok (.istore_n 2, 1) := by decide +kernel
theorem dX2_common_2 : decode cX2_common 2 = .ok (.iload_n 1, 1) := by decide +kernel
theorem dX2_common_3 : decode cX2_common 3 = .ok (.istore_n 3, 1) := by decide +kernel
theorem dX2_common_4 : decode cX2_common 4 = .ok (.iload_n 3, 1) := by decide +kernel
theorem dX2_common_5 : decode cX2_common 5 = .ok (.ifCond .eq 16, 3) := by decide +kernel
theorem dX2_common_8 : decode cX2_common 8 = .ok (.iload_n 2, 1) := by decide +kernel
theorem dX2_common_9 : decode cX2_common 9 = .ok (.iload_n 3, 1) := by decide +kernel
theorem dX2_common_10 : decode cX2_common 10 = .ok (.irem, 1) := by decide +kernel
theorem dX2_common_11 : decode cX2_common 11 = .ok (.istore 4, 2) := by decide +kernel
theorem dX2_common_13 : decode cX2_common 13 = .ok (.iload_n 3, 1) := by decide +kernel
theorem dX2_common_14 : decode cX2_common 14 = .ok (.istore_n 2, 1) := by decide +kernel
theorem dX2_common_15 : decode cX2_common 15 = .ok (.iload 4, 2) := by decide +kernel
theorem dX2_common_17 : decode cX2_common 17 = .ok (.istore_n 3, 1) := by decide +kernel
theorem dX2_common_18 : decode cX2_common 18 = .ok (.goto (-14), 3) := by decide +kernel
theorem dX2_common_21 : decode cX2_common 21 = .ok (.iload_n 2, 1) := by decide +kernel
theorem dX2_common_22 : decode cX2_common 22 = .ok (.ireturn, 1) := by decide +kernel
set_option maxRecDepth 20000 in
theorem ggX2_gain_X2_in : GoodIn wsX2_gain wsX2_in := goodIn_r _ [4] (by decide +kernel) (by decide +kernel)
set_option maxRecDepth 20000 in
theorem gX2_gain_X2_in : GoodIn wsX2_gain (va_wsS RX2 20 yX2_in wsX2_in) := goodIn_app (goodIn_of _ (by decide +kernel)) ggX2_gain_X2_in
set_option maxRecDepth 20000 in
theorem ggX2_gain_X2_squares : GoodIn wsX2_gain wsX2_squares := goodIn_r _ [8, 9, 13, 14, 15] (by decide +kernel) (by decide +kernel)
set_option maxRecDepth 20000 in
theorem gX2_gain_X2_squares : GoodIn wsX2_gain (wsV RX2 99 RX2 yX2_squares wsX2_squares) := goodIn_app (goodIn_of _ (by decide +kernel)) ggX2_gain_X2_squares
set_option maxRecDepth 20000 in
theorem ggX2_gain_X2_common : GoodIn wsX2_gain wsX2_common := goodIn_r _ [12] (by decide +kernel) (by decide +kernel)
set_option maxRecDepth 20000 in
theorem gX2_gain_X2_common : GoodIn wsX2_gain (va_wsS RX2 102 yX2_common wsX2_common) := goodIn_app (goodIn_of _ (by decide +kernel)) ggX2_gain_X2_common
theorem dX2_gain_0 : decode cX2_gain 0 = .ok (.iload_n 1, 1) := by decide +kernel
theorem dX2_gain_1 : decode cX2_gain 1 = .ok (.iconst 0, 1) := by decide +kernel
theorem dX2_gain_2 : decode cX2_gain 2 = .ok (.iconst 1, 1) := by decide +kernel
theorem dX2_gain_3 : decode cX2_gain 3 = .ok (.invokestatic 20, 3) := by decide +kernel
theorem dX2_gain_6 : decode cX2_gain 6 = .ok (.ifCond .ne 6, 3) := by decide +kernel
theorem dX2_gain_9 : decode cX2_gain 9 = .ok (.bipush (-2), 2) := by decide +kernel
theorem dX2_gain_11 : decode cX2_gain 11 = .ok (.ireturn, 1) := by decide +kernel
theorem dX2_gain_12 : decode cX2_gain 12 = .ok (.aload_n 0, 1) := by decide +kernel
theorem dX2_gain_13 : decode cX2_gain 13 = .ok (.bipush 73, 2) := by decide +kernel
theorem dX2_gain_15 : decode cX2_gain 15 = .ok (.invokevirtual 99, 3) := by decide +kernel
theorem dX2_gain_18 : decode cX2_gain 18 = .ok (.istore_n 2, 1) := by decide +kernel
theorem dX2_gain_19 : decode cX2_gain 19 = .ok (.aload_n 0, 1) := by decide +kernel
theorem dX2_gain_20 : decode cX2_gain 20 = .ok (.bipush 113, 2) := by decide +kernel
theorem dX2_gain_22 : decode cX2_gain 22 = .ok (.invokevirtual 99, 3) := by decide +kernel
theorem dX2_gain_25 : decode cX2_gain 25 = .ok (.istore_n 3, 1) := by decide +kernel
theorem dX2_gain_26 : decode cX2_gain 26 = .ok (.iload_n 3, 1) := by decide +kernel
theorem dX2_gain_27 : decode cX2_gain 27 = .ok (.ifCond .ne 6, 3) := by decide +kernel
theorem dX2_gain_30 : decode cX2_gain 30 = .ok (.bipush (-3), 2) := by decide +kernel
theorem dX2_gain_32 : decode cX2_gain 32 = .ok (.ireturn, 1) := by decide +kernel
theorem dX2_gain_33 : decode cX2_gain 33 = .ok (.iload_n 1, 1) := by decide +kernel
theorem dX2_gain_34 : decode cX2_gain 34 = .ok (.ifCond .ne 7, 3) := by decide +kernel
theorem dX2_gain_37 : decode cX2_gain 37 = .ok (.iload_n 2, 1) := by decide +kernel
theorem dX2_gain_38 : decode cX2_gain 38 = .ok (.goto 4, 3) := by decide +kernel
theorem dX2_gain_41 : decode cX2_gain 41 = .ok (.iload_n 3, 1) := by decide +kernel
theorem dX2_gain_42 : decode cX2_gain 42 = .ok (.iload_n 3, 1) := by decide +kernel
theorem dX2_gain_43 : decode cX2_gain 43 = .ok (.iload_n 2, 1) := by decide +kernel
theorem dX2_gain_44 : decode cX2_gain 44 = .ok (.invokestatic 102, 3) := by decide +kernel
theorem dX2_gain_47 : decode cX2_gain 47 = .ok (.idiv, 1) := by decide +kernel
theorem dX2_gain_48 : decode cX2_gain 48 = .ok (.ireturn, 1) := by decide +kernel
set_option maxRecDepth 20000 in
theorem ggX2_began_X2_in : GoodIn wsX2_began wsX2_in := goodIn_r _ [5] (by decide +kernel) (by decide +kernel)
set_option maxRecDepth 20000 in
theorem gX2_began_X2_in : GoodIn wsX2_began (va_wsS RX2 20 yX2_in wsX2_in) := goodIn_app (goodIn_of _ (by decide +kernel)) ggX2_began_X2_in
theorem dX2_began_0 : decode cX2_began 0 = .ok (.iload_n 2, 1) := by decide +kernel
theorem dX2_began_1 : decode cX2_began 1 = .ok (.iconst 0, 1) := by decide +kernel
theorem dX2_began_2 : decode cX2_began 2 = .ok (.iconst 1, 1) := by decide +kernel
theorem dX2_began_3 : decode cX2_began 3 = .ok (.invokestatic 20, 3) := by decide +kernel
theorem dX2_began_6 : decode cX2_began 6 = .ok (.ifCond .ne 6, 3) := by decide +kernel
theorem dX2_began_9 : decode cX2_began 9 = .ok (.bipush (-2), 2) := by decide +kernel
theorem dX2_began_11 : decode cX2_began 11 = .ok (.ireturn, 1) := by decide +kernel
theorem dX2_began_12 : decode cX2_began 12 = .ok (.iload_n 2, 1) := by decide +kernel
theorem dX2_began_13 : decode cX2_began 13 = .ok (.ifCond .ne 9, 3) := by decide +kernel
theorem dX2_began_16 : decode cX2_began 16 = .ok (.sipush 153, 3) := by decide +kernel
theorem dX2_began_19 : decode cX2_began 19 = .ok (.goto 6, 3) := by decide +kernel
theorem dX2_began_22 : decode cX2_began 22 = .ok (.sipush 354, 3) := by decide +kernel
theorem dX2_began_25 : decode cX2_began 25 = .ok (.istore_n 3, 1) := by decide +kernel
theorem dX2_began_26 : decode cX2_began 26 = .ok (.aload_n 0, 1) := by decide +kernel
theorem dX2_began_27 : decode cX2_began 27 = .ok (.getfield 7, 3) := by decide +kernel
theorem dX2_began_30 : decode cX2_began 30 = .ok (.bipush 24, 2) := by decide +kernel
theorem dX2_began_32 : decode cX2_began 32 = .ok (.iaload, 1) := by decide +kernel
theorem dX2_began_33 : decode cX2_began 33 = .ok (.sipush 200, 3) := by decide +kernel
theorem dX2_began_36 : decode cX2_began 36 = .ok (.if_icmp .ge 13, 3) := by decide +kernel
theorem dX2_began_39 : decode cX2_began 39 = .ok (.aload_n 0, 1) := by decide +kernel
theorem dX2_began_40 : decode cX2_began 40 = .ok (.getfield 7, 3) := by decide +kernel
theorem dX2_began_43 : decode cX2_began 43 = .ok (.bipush 24, 2) := by decide +kernel
theorem dX2_began_45 : decode cX2_began 45 = .ok (.iaload, 1) := by decide +kernel
theorem dX2_began_46 : decode cX2_began 46 = .ok (.goto 6, 3) := by decide +kernel
theorem dX2_began_49 : decode cX2_began 49 = .ok (.sipush 200, 3) := by decide +kernel
theorem dX2_began_52 : decode cX2_began 52 = .ok (.istore 4, 2) := by decide +kernel
theorem dX2_began_54 : decode cX2_began 54 = .ok (.iconst 0, 1) := by decide +kernel
theorem dX2_began_55 : decode cX2_began 55 = .ok (.istore 5, 2) := by decide +kernel
theorem dX2_began_57 : decode cX2_began 57 = .ok (.iload 4, 2) := by decide +kernel
theorem dX2_began_59 : decode cX2_began 59 = .ok (.iconst 1, 1) := by decide +kernel
theorem dX2_began_60 : decode cX2_began 60 = .ok (.isub, 1) := by decide +kernel
theorem dX2_began_61 : decode cX2_began 61 = .ok (.istore 6, 2) := by decide +kernel
theorem dX2_began_63 : decode cX2_began 63 = .ok (.iload 6, 2) := by decide +kernel
theorem dX2_began_65 : decode cX2_began 65 = .ok (.ifCond .lt 56, 3) := by decide +kernel
theorem dX2_began_68 : decode cX2_began 68 = .ok (.aload_n 0, 1) := by decide +kernel
theorem dX2_began_69 : decode cX2_began 69 = .ok (.getfield 7, 3) := by decide +kernel
theorem dX2_began_72 : decode cX2_began 72 = .ok (.iload_n 3, 1) := by decide +kernel
theorem dX2_began_73 : decode cX2_began 73 = .ok (.iload 6, 2) := by decide +kernel
theorem dX2_began_75 : decode cX2_began 75 = .ok (.iadd, 1) := by decide +kernel
theorem dX2_began_76 : decode cX2_began 76 = .ok (.iaload, 1) := by decide +kernel
theorem dX2_began_77 : decode cX2_began 77 = .ok (.iconst 1, 1) := by decide +kernel
theorem dX2_began_78 : decode cX2_began 78 = .ok (.if_icmp .ne 37, 3) := by decide +kernel
theorem dX2_began_81 : decode cX2_began 81 = .ok (.aload_n 0, 1) := by decide +kernel
theorem dX2_began_82 : decode cX2_began 82 = .ok (.getfield 7, 3) := by decide +kernel
theorem dX2_began_85 : decode cX2_began 85 = .ok (.iload_n 3, 1) := by decide +kernel
theorem dX2_began_86 : decode cX2_began 86 = .ok (.iload 6, 2) := by decide +kernel
theorem dX2_began_88 : decode cX2_began 88 = .ok (.iadd, 1) := by decide +kernel
theorem dX2_began_89 : decode cX2_began 89 = .ok (.iconst 1, 1) := by decide +kernel
theorem dX2_began_90 : decode cX2_began 90 = .ok (.iadd, 1) := by decide +kernel
theorem dX2_began_91 : decode cX2_began 91 = .ok (.iaload, 1) := by decide +kernel
theorem dX2_began_92 : decode cX2_began 92 = .ok (.ifCond .ne 23, 3) := by decide +kernel
theorem dX2_began_95 : decode cX2_began 95 = .ok (.iload 5, 2) := by decide +kernel
theorem dX2_began_97 : decode cX2_began 97 = .ok (.iload_n 1, 1) := by decide +kernel
theorem dX2_began_98 : decode cX2_began 98 = .ok (.if_icmp .ne 14, 3) := by decide +kernel
theorem dX2_began_101 : decode cX2_began 101 = .ok (.aload_n 0, 1) := by decide +kernel
theorem dX2_began_102 : decode cX2_began 102 = .ok (.getfield 7, 3) := by decide +kernel
theorem dX2_began_105 : decode cX2_began 105 = .ok (.bipush 24, 2) := by decide +kernel
theorem dX2_began_107 : decode cX2_began 107 = .ok (.iaload, 1) := by decide +kernel
theorem dX2_began_108 : decode cX2_began 108 = .ok (.iload 6, 2) := by decide +kernel
theorem dX2_began_110 : decode cX2_began 110 = .ok (.isub, 1) := by decide +kernel
theorem dX2_began_111 : decode cX2_began 111 = .ok (.ireturn, 1) := by decide +kernel
theorem dX2_began_112 : decode cX2_began 112 = .ok (.iinc 5 1, 3) := by decide +kernel
theorem dX2_began_115 : decode cX2_began 115 = .ok (.iinc 6 (-1), 3) := by decide +kernel
theorem dX2_began_118 : decode cX2_began 118 = .ok (.goto (-55), 3) := by decide +kernel
theorem dX2_began_121 : decode cX2_began 121 = .ok (.iload_n 1, 1) := by decide +kernel
theorem dX2_began_122 : decode cX2_began 122 = .ok (.iconst (-1), 1) := by decide +kernel
theorem dX2_began_123 : decode cX2_began 123 = .ok (.if_icmp .ne 8, 3) := by decide +kernel
theorem dX2_began_126 : decode cX2_began 126 = .ok (.iload 5, 2) := by decide +kernel
theorem dX2_began_128 : decode cX2_began 128 = .ok (.goto 5, 3) := by decide +kernel
theorem dX2_began_131 : decode cX2_began 131 = .ok (.bipush (-6), 2) := by decide +kernel
theorem dX2_began_133 : decode cX2_began 133 = .ok (.ireturn, 1) := by decide +kernel
set_option maxRecDepth 20000 in
theorem ggX2_image_X2_in : GoodIn wsX2_image wsX2_in := goodIn_r _ [5] (by decide +kernel) (by decide +kernel)
set_option maxRecDepth 20000 in
theorem gX2_image_X2_in : GoodIn wsX2_image (va_wsS RX2 20 yX2_in wsX2_in) := goodIn_app (goodIn_of _ (by decide +kernel)) ggX2_image_X2_in
set_option maxRecDepth 20000 in
theorem ggX2_image_X2_save : GoodIn wsX2_image wsX2_save := goodIn_r _ [9, 10, 11, 12, 13, 14] (by decide +kernel) (by decide +kernel)
set_option maxRecDepth 20000 in
theorem gX2_image_X2_save : GoodIn wsX2_image (wsV RX2 89 RX2 yX2_save wsX2_save) := goodIn_app (goodIn_of _ (by decide +kernel)) ggX2_image_X2_save
theorem dX2_image_0 : decode cX2_image 0 = .ok (.iload_n 1, 1) := by decide +kernel
theorem dX2_image_1 : decode cX2_image 1 = .ok (.iconst 0, 1) := by decide +kernel
theorem dX2_image_2 : decode cX2_image 2 = .ok (.iconst 1, 1) := by decide +kernel
theorem dX2_image_3 : decode cX2_image 3 = .ok (.invokestatic 20, 3) := by decide +kernel
theorem dX2_image_6 : decode cX2_image 6 = .ok (.ifCond .ne 6, 3) := by decide +kernel
theorem dX2_image_9 : decode cX2_image 9 = .ok (.bipush (-2), 2) := by decide +kernel
theorem dX2_image_11 : decode cX2_image 11 = .ok (.ireturn, 1) := by decide +kernel
theorem dX2_image_12 : decode cX2_image 12 = .ok (.aload_n 0, 1) := by decide +kernel
theorem dX2_image_13 : decode cX2_image 13 = .ok (.iload_n 1, 1) := by decide +kernel
theorem dX2_image_14 : decode cX2_image 14 = .ok (.invokevirtual 89, 3) := by decide +kernel
theorem dX2_image_17 : decode cX2_image 17 = .ok (.aload_n 0, 1) := by decide +kernel
theorem dX2_image_18 : decode cX2_image 18 = .ok (.getfield 16, 3) := by decide +kernel
theorem dX2_image_21 : decode cX2_image 21 = .ok (.iload_n 1, 1) := by decide +kernel
theorem dX2_image_22 : decode cX2_image 22 = .ok (.iconst 1, 1) := by decide +kernel
theorem dX2_image_23 : decode cX2_image 23 = .ok (.bastore, 1) := by decide +kernel
theorem dX2_image_24 : decode cX2_image 24 = .ok (.iconst 1, 1) := by decide +kernel
theorem dX2_image_25 : decode cX2_image 25 = .ok (.ireturn, 1) := by decide +kernel
set_option maxRecDepth 20000 in
theorem ggX2_restore_X2_in : GoodIn wsX2_restore wsX2_in := goodIn_r _ [5] (by decide +kernel) (by decide +kernel)
set_option maxRecDepth 20000 in
theorem gX2_restore_X2_in : GoodIn wsX2_restore (va_wsS RX2 20 yX2_in wsX2_in) := goodIn_app (goodIn_of _ (by decide +kernel)) ggX2_restore_X2_in
set_option maxRecDepth 20000 in
theorem ggX2_restore_X2_load : GoodIn wsX2_restore wsX2_load := goodIn_r _ [9, 10, 11, 12, 13, 14] (by decide +kernel) (by decide +kernel)
set_option maxRecDepth 20000 in
theorem gX2_restore_X2_load : GoodIn wsX2_restore (wsV RX2 93 RX2 yX2_load wsX2_load) := goodIn_app (goodIn_of _ (by decide +kernel)) ggX2_restore_X2_load
theorem dX2_restore_0 : decode cX2_restore 0 = .ok (.iload_n 1, 1) := by decide +kernel
theorem dX2_restore_1 : decode cX2_restore 1 = .ok (.iconst 0, 1) := by decide +kernel
theorem dX2_restore_2 : decode cX2_restore 2 = .ok (.iconst 1, 1) := by decide +kernel
theorem dX2_restore_3 : decode cX2_restore 3 = .ok (.invokestatic 20, 3) := by decide +kernel
theorem dX2_restore_6 : decode cX2_restore 6 = .ok (.ifCond .ne 6, 3) := by decide +kernel
theorem dX2_restore_9 : decode cX2_restore 9 = .ok (.bipush (-2), 2) := by decide +kernel
theorem dX2_restore_11 : decode cX2_restore 11 = .ok (.ireturn, 1) := by decide +kernel
theorem dX2_restore_12 : decode cX2_restore 12 = .ok (.aload_n 0, 1) := by decide +kernel
theorem dX2_restore_13 : decode cX2_restore 13 = .ok (.getfield 16, 3) := by decide +kernel
theorem dX2_restore_16 : decode cX2_restore 16 = .ok (.iload_n 1, 1) := by decide +kernel
theorem dX2_restore_17 : decode cX2_restore 17 = .ok (.baload, 1) := by decide +kernel
theorem dX2_restore_18 : decode cX2_restore 18 = .ok (.ifCond .ne 6, 3) := by decide +kernel
theorem dX2_restore_21 : decode cX2_restore 21 = .ok (.bipush (-3), 2) := by decide +kernel
theorem dX2_restore_23 : decode cX2_restore 23 = .ok (.ireturn, 1) := by decide +kernel
theorem dX2_restore_24 : decode cX2_restore 24 = .ok (.aload_n 0, 1) := by decide +kernel
theorem dX2_restore_25 : decode cX2_restore 25 = .ok (.iload_n 1, 1) := by decide +kernel
theorem dX2_restore_26 : decode cX2_restore 26 = .ok (.invokevirtual 93, 3) := by decide +kernel
theorem dX2_restore_29 : decode cX2_restore 29 = .ok (.iconst 1, 1) := by decide +kernel
theorem dX2_restore_30 : decode cX2_restore 30 = .ok (.ireturn, 1) := by decide +kernel
set_option maxRecDepth 20000 in
theorem ggX2_tapSizes_X2_size : GoodIn wsX2_tapSizes wsX2_size := goodIn_r _ [5] (by decide +kernel) (by decide +kernel)
set_option maxRecDepth 20000 in
theorem gX2_tapSizes_X2_size : GoodIn wsX2_tapSizes (va_wsS RX2 31 yX2_size wsX2_size) := goodIn_app (goodIn_of _ (by decide +kernel)) ggX2_tapSizes_X2_size
theorem dX2_tapSizes_0 : decode cX2_tapSizes 0 = .ok (.iconst 0, 1) := by decide +kernel
theorem dX2_tapSizes_1 : decode cX2_tapSizes 1 = .ok (.istore_n 1, 1) := by decide +kernel
theorem dX2_tapSizes_2 : decode cX2_tapSizes 2 = .ok (.iconst 0, 1) := by decide +kernel
theorem dX2_tapSizes_3 : decode cX2_tapSizes 3 = .ok (.istore_n 2, 1) := by decide +kernel
theorem dX2_tapSizes_4 : decode cX2_tapSizes 4 = .ok (.iload_n 2, 1) := by decide +kernel
theorem dX2_tapSizes_5 : decode cX2_tapSizes 5 = .ok (.bipush 8, 2) := by decide +kernel
theorem dX2_tapSizes_7 : decode cX2_tapSizes 7 = .ok (.if_icmp .ge 23, 3) := by decide +kernel
theorem dX2_tapSizes_10 : decode cX2_tapSizes 10 = .ok (.iload_n 1, 1) := by decide +kernel
theorem dX2_tapSizes_11 : decode cX2_tapSizes 11 = .ok (.aload_n 0, 1) := by decide +kernel
theorem dX2_tapSizes_12 : decode cX2_tapSizes 12 = .ok (.getfield 7, 3) := by decide +kernel
theorem dX2_tapSizes_15 : decode cX2_tapSizes 15 = .ok (.iconst 5, 1) := by decide +kernel
theorem dX2_tapSizes_16 : decode cX2_tapSizes 16 = .ok (.iload_n 2, 1) := by decide +kernel
theorem dX2_tapSizes_17 : decode cX2_tapSizes 17 = .ok (.iadd, 1) := by decide +kernel
theorem dX2_tapSizes_18 : decode cX2_tapSizes 18 = .ok (.iaload, 1) := by decide +kernel
theorem dX2_tapSizes_19 : decode cX2_tapSizes 19 = .ok (.invokestatic 31, 3) := by decide +kernel
theorem dX2_tapSizes_22 : decode cX2_tapSizes 22 = .ok (.iadd, 1) := by decide +kernel
theorem dX2_tapSizes_23 : decode cX2_tapSizes 23 = .ok (.istore_n 1, 1) := by decide +kernel
theorem dX2_tapSizes_24 : decode cX2_tapSizes 24 = .ok (.iinc 2 1, 3) := by decide +kernel
theorem dX2_tapSizes_27 : decode cX2_tapSizes 27 = .ok (.goto (-23), 3) := by decide +kernel
theorem dX2_tapSizes_30 : decode cX2_tapSizes 30 = .ok (.iload_n 1, 1) := by decide +kernel
theorem dX2_tapSizes_31 : decode cX2_tapSizes 31 = .ok (.ireturn, 1) := by decide +kernel
set_option maxRecDepth 20000 in
theorem ggX2_count_X2_in : GoodIn wsX2_count wsX2_in := goodIn_r _ [6] (by decide +kernel) (by decide +kernel)
set_option maxRecDepth 20000 in
theorem gX2_count_X2_in : GoodIn wsX2_count (va_wsS RX2 20 yX2_in wsX2_in) := goodIn_app (goodIn_of _ (by decide +kernel)) ggX2_count_X2_in
set_option maxRecDepth 20000 in
theorem ggX2_count_X2_tapSizes : GoodIn wsX2_count wsX2_tapSizes := goodIn_r _ [10, 1, 11, 12, 5, 13, 14, 15, 16] (by decide +kernel) (by decide +kernel)
set_option maxRecDepth 20000 in
theorem gX2_count_X2_tapSizes : GoodIn wsX2_count (wsV RX2 105 RX2 yX2_tapSizes wsX2_tapSizes) := goodIn_app (goodIn_of _ (by decide +kernel)) ggX2_count_X2_tapSizes
theorem dX2_count_0 : decode cX2_count 0 = .ok (.iload_n 1, 1) := by decide +kernel
theorem dX2_count_1 : decode cX2_count 1 = .ok (.bipush 10, 2) := by decide +kernel
theorem dX2_count_3 : decode cX2_count 3 = .ok (.bipush 14, 2) := by decide +kernel
theorem dX2_count_5 : decode cX2_count 5 = .ok (.invokestatic 20, 3) := by decide +kernel
theorem dX2_count_8 : decode cX2_count 8 = .ok (.ifCond .eq 15, 3) := by decide +kernel
theorem dX2_count_11 : decode cX2_count 11 = .ok (.aload_n 0, 1) := by decide +kernel
theorem dX2_count_12 : decode cX2_count 12 = .ok (.getfield 7, 3) := by decide +kernel
theorem dX2_count_15 : decode cX2_count 15 = .ok (.iconst 0, 1) := by decide +kernel
theorem dX2_count_16 : decode cX2_count 16 = .ok (.iload_n 1, 1) := by decide +kernel
theorem dX2_count_17 : decode cX2_count 17 = .ok (.iadd, 1) := by decide +kernel
theorem dX2_count_18 : decode cX2_count 18 = .ok (.bipush 10, 2) := by decide +kernel
theorem dX2_count_20 : decode cX2_count 20 = .ok (.isub, 1) := by decide +kernel
theorem dX2_count_21 : decode cX2_count 21 = .ok (.iaload, 1) := by decide +kernel
theorem dX2_count_22 : decode cX2_count 22 = .ok (.ireturn, 1) := by decide +kernel
theorem dX2_count_23 : decode cX2_count 23 = .ok (.iload_n 1, 1) := by decide +kernel
theorem dX2_count_24 : decode cX2_count 24 = .ok (.tableswitch 107 0 5 #[40, 48, 56, 64, 69, 77], 40) := by decide +kernel
theorem dX2_count_64 : decode cX2_count 64 = .ok (.aload_n 0, 1) := by decide +kernel
theorem dX2_count_65 : decode cX2_count 65 = .ok (.getfield 7, 3) := by decide +kernel
theorem dX2_count_68 : decode cX2_count 68 = .ok (.bipush 24, 2) := by decide +kernel
theorem dX2_count_70 : decode cX2_count 70 = .ok (.iaload, 1) := by decide +kernel
theorem dX2_count_71 : decode cX2_count 71 = .ok (.ireturn, 1) := by decide +kernel
theorem dX2_count_72 : decode cX2_count 72 = .ok (.aload_n 0, 1) := by decide +kernel
theorem dX2_count_73 : decode cX2_count 73 = .ok (.getfield 7, 3) := by decide +kernel
theorem dX2_count_76 : decode cX2_count 76 = .ok (.bipush 22, 2) := by decide +kernel
theorem dX2_count_78 : decode cX2_count 78 = .ok (.iaload, 1) := by decide +kernel
theorem dX2_count_79 : decode cX2_count 79 = .ok (.ireturn, 1) := by decide +kernel
theorem dX2_count_80 : decode cX2_count 80 = .ok (.aload_n 0, 1) := by decide +kernel
theorem dX2_count_81 : decode cX2_count 81 = .ok (.getfield 7, 3) := by decide +kernel
theorem dX2_count_84 : decode cX2_count 84 = .ok (.bipush 23, 2) := by decide +kernel
theorem dX2_count_86 : decode cX2_count 86 = .ok (.iaload, 1) := by decide +kernel
theorem dX2_count_87 : decode cX2_count 87 = .ok (.ireturn, 1) := by decide +kernel
theorem dX2_count_88 : decode cX2_count 88 = .ok (.aload_n 0, 1) := by decide +kernel
theorem dX2_count_89 : decode cX2_count 89 = .ok (.invokevirtual 105, 3) := by decide +kernel
theorem dX2_count_92 : decode cX2_count 92 = .ok (.ireturn, 1) := by decide +kernel
theorem dX2_count_93 : decode cX2_count 93 = .ok (.aload_n 0, 1) := by decide +kernel
theorem dX2_count_94 : decode cX2_count 94 = .ok (.getfield 7, 3) := by decide +kernel
theorem dX2_count_97 : decode cX2_count 97 = .ok (.bipush 21, 2) := by decide +kernel
theorem dX2_count_99 : decode cX2_count 99 = .ok (.iaload, 1) := by decide +kernel
theorem dX2_count_100 : decode cX2_count 100 = .ok (.ireturn, 1) := by decide +kernel
theorem dX2_count_101 : decode cX2_count 101 = .ok (.aload_n 0, 1) := by decide +kernel
theorem dX2_count_102 : decode cX2_count 102 = .ok (.getfield 16, 3) := by decide +kernel
theorem dX2_count_105 : decode cX2_count 105 = .ok (.iconst 0, 1) := by decide +kernel
theorem dX2_count_106 : decode cX2_count 106 = .ok (.baload, 1) := by decide +kernel
theorem dX2_count_107 : decode cX2_count 107 = .ok (.ifCond .eq 7, 3) := by decide +kernel
theorem dX2_count_110 : decode cX2_count 110 = .ok (.iconst 1, 1) := by decide +kernel
theorem dX2_count_111 : decode cX2_count 111 = .ok (.goto 4, 3) := by decide +kernel
theorem dX2_count_114 : decode cX2_count 114 = .ok (.iconst 0, 1) := by decide +kernel
theorem dX2_count_115 : decode cX2_count 115 = .ok (.aload_n 0, 1) := by decide +kernel
theorem dX2_count_116 : decode cX2_count 116 = .ok (.getfield 16, 3) := by decide +kernel
theorem dX2_count_119 : decode cX2_count 119 = .ok (.iconst 1, 1) := by decide +kernel
theorem dX2_count_120 : decode cX2_count 120 = .ok (.baload, 1) := by decide +kernel
theorem dX2_count_121 : decode cX2_count 121 = .ok (.ifCond .eq 7, 3) := by decide +kernel
theorem dX2_count_124 : decode cX2_count 124 = .ok (.iconst 2, 1) := by decide +kernel
theorem dX2_count_125 : decode cX2_count 125 = .ok (.goto 4, 3) := by decide +kernel
theorem dX2_count_128 : decode cX2_count 128 = .ok (.iconst 0, 1) := by decide +kernel
theorem dX2_count_129 : decode cX2_count 129 = .ok (.iadd, 1) := by decide +kernel
theorem dX2_count_130 : decode cX2_count 130 = .ok (.ireturn, 1) := by decide +kernel
theorem dX2_count_131 : decode cX2_count 131 = .ok (.bipush (-2), 2) := by decide +kernel
theorem dX2_count_133 : decode cX2_count 133 = .ok (.ireturn, 1) := by decide +kernel
theorem dJ9_abs_0f7a4_0 : decode cJ9_abs_0f7a4 0 = .ok (.iload_n 0, 1) := by decide +kernel
theorem dJ9_abs_0f7a4_1 : decode cJ9_abs_0f7a4 1 = .ok (.ifCond .ge 8, 3) := by decide +kernel
theorem dJ9_abs_0f7a4_4 : decode cJ9_abs_0f7a4 4 = .ok (.iload_n 0, 1) := by decide +kernel
theorem dJ9_abs_0f7a4_5 : decode cJ9_abs_0f7a4 5 = .ok (.ineg, 1) := by decide +kernel
theorem dJ9_abs_0f7a4_6 : decode cJ9_abs_0f7a4 6 = .ok (.goto 4, 3) := by decide +kernel
theorem dJ9_abs_0f7a4_9 : decode cJ9_abs_0f7a4 9 = .ok (.iload_n 0, 1) := by decide +kernel
theorem dJ9_abs_0f7a4_10 : decode cJ9_abs_0f7a4 10 = .ok (.ireturn, 1) := by decide +kernel
theorem dJ9_max_7cf53_0 : decode cJ9_max_7cf53 0 = .ok (.iload_n 0, 1) := by decide +kernel
theorem dJ9_max_7cf53_1 : decode cJ9_max_7cf53 1 = .ok (.iload_n 1, 1) := by decide +kernel
theorem dJ9_max_7cf53_2 : decode cJ9_max_7cf53 2 = .ok (.if_icmp .lt 7, 3) := by decide +kernel
theorem dJ9_max_7cf53_5 : decode cJ9_max_7cf53 5 = .ok (.iload_n 0, 1) := by decide +kernel
theorem dJ9_max_7cf53_6 : decode cJ9_max_7cf53 6 = .ok (.goto 4, 3) := by decide +kernel
theorem dJ9_max_7cf53_9 : decode cJ9_max_7cf53 9 = .ok (.iload_n 1, 1) := by decide +kernel
theorem dJ9_max_7cf53_10 : decode cJ9_max_7cf53 10 = .ok (.ireturn, 1) := by decide +kernel
theorem dJ9_max_f86c9_0 : decode cJ9_max_f86c9 0 = .ok (.lload_n 0, 1) := by decide +kernel
theorem dJ9_max_f86c9_1 : decode cJ9_max_f86c9 1 = .ok (.lload_n 2, 1) := by decide +kernel
theorem dJ9_max_f86c9_2 : decode cJ9_max_f86c9 2 = .ok (.lcmp, 1) := by decide +kernel
theorem dJ9_max_f86c9_3 : decode cJ9_max_f86c9 3 = .ok (.ifCond .lt 7, 3) := by decide +kernel
theorem dJ9_max_f86c9_6 : decode cJ9_max_f86c9 6 = .ok (.lload_n 0, 1) := by decide +kernel
theorem dJ9_max_f86c9_7 : decode cJ9_max_f86c9 7 = .ok (.goto 4, 3) := by decide +kernel
theorem dJ9_max_f86c9_10 : decode cJ9_max_f86c9 10 = .ok (.lload_n 2, 1) := by decide +kernel
theorem dJ9_max_f86c9_11 : decode cJ9_max_f86c9 11 = .ok (.lreturn, 1) := by decide +kernel
theorem dJ9_min_7cf53_0 : decode cJ9_min_7cf53 0 = .ok (.iload_n 0, 1) := by decide +kernel
theorem dJ9_min_7cf53_1 : decode cJ9_min_7cf53 1 = .ok (.iload_n 1, 1) := by decide +kernel
theorem dJ9_min_7cf53_2 : decode cJ9_min_7cf53 2 = .ok (.if_icmp .gt 7, 3) := by decide +kernel
theorem dJ9_min_7cf53_5 : decode cJ9_min_7cf53 5 = .ok (.iload_n 0, 1) := by decide +kernel
theorem dJ9_min_7cf53_6 : decode cJ9_min_7cf53 6 = .ok (.goto 4, 3) := by decide +kernel
theorem dJ9_min_7cf53_9 : decode cJ9_min_7cf53 9 = .ok (.iload_n 1, 1) := by decide +kernel
theorem dJ9_min_7cf53_10 : decode cJ9_min_7cf53 10 = .ok (.ireturn, 1) := by decide +kernel
theorem dJ9_min_f86c9_0 : decode cJ9_min_f86c9 0 = .ok (.lload_n 0, 1) := by decide +kernel
theorem dJ9_min_f86c9_1 : decode cJ9_min_f86c9 1 = .ok (.lload_n 2, 1) := by decide +kernel
theorem dJ9_min_f86c9_2 : decode cJ9_min_f86c9 2 = .ok (.lcmp, 1) := by decide +kernel
theorem dJ9_min_f86c9_3 : decode cJ9_min_f86c9 3 = .ok (.ifCond .gt 7, 3) := by decide +kernel
theorem dJ9_min_f86c9_6 : decode cJ9_min_f86c9 6 = .ok (.lload_n 0, 1) := by decide +kernel
theorem dJ9_min_f86c9_7 : decode cJ9_min_f86c9 7 = .ok (.goto 4, 3) := by decide +kernel
theorem dJ9_min_f86c9_10 : decode cJ9_min_f86c9 10 = .ok (.lload_n 2, 1) := by decide +kernel
theorem dJ9_min_f86c9_11 : decode cJ9_min_f86c9 11 = .ok (.lreturn, 1) := by decide +kernel
end
section
/-! the worlds of the system: the cells of a Line, of the reference, and what the tables say -/
abbrev St : Type := Nat → Nat → Int32
abbrev Fn : Type := Nat → Int32
abbrev LW (cA : ClassId) (h : Nat) (as : Nat → Nat) (st : St) : va_W :=
  [(h, .inr (0, [.ref (as 0), .ref (as 1), .ref (as 2), .ref (as 3), .ref (as 4), .ref (as 5), .ref (as 6), .ref (as 7), .int (st 8 0), .int (st 8 1), .int (st 8 2)])),
   (as 0, .inl (cA, 5, .inl (st 0))), (as 1, .inl (cA, 8, .inl (st 1))), (as 2, .inl (cA, 9, .inl (st 2))), (as 3, .inl (cA, 64, .inl (st 3))), (as 4, .inl (cA, 64, .inl (st 4))),
   (as 5, .inl (cA, 64, .inl (st 5))), (as 6, .inl (cA, 256, .inl (st 6))), (as 7, .inl (cA, 8, .inl (st 7)))]
abbrev MW (cA cZ : ClassId) (h : Nat) (as : Nat → Nat) (g im kp : Fn) : va_W :=
  [(h, .inr (2, [.ref (as 0), .ref (as 1), .ref (as 2)])), (as 0, .inl (cA, 555, .inl g)), (as 1, .inl (cA, 1665, .inl im)), (as 2, .inl (cZ, 2, .inl kp))]
/-- what the tables say: the classes, the array classes, the private members that a nest mate calls -/
def EK (D : va_G) (cA cZ cR : ClassId) (U : State) : Prop :=
  va_K D vwCl [(cA, .int), (cZ, .boolean), (cR, .object RX0)] U ∧ va_Nw (.methodLinkNest RX0 97 yX1_limited "EchoTaps") U ∧ va_Nw (.methodLinkNest RX0 132 yX1_nextSeed "EchoTaps") U ∧ va_Nw (.methodLinkNest RX0 135 yX1_centred "EchoTaps") U
theorem EK.warm {D : va_G} {cA cZ cR : ClassId} {s U : State} (hW : s.WarmedH U.vm) (h : EK D cA cZ cR s) : EK D cA cZ cR U :=
  ⟨va_K.moved hW.alike h.1, va_Nw.warmM hW h.2.1, va_Nw.warmM hW h.2.2.1, va_Nw.warmM hW h.2.2.2⟩
theorem EK.calling {D : va_G} {cA cZ cR : ClassId} {U : State} {g : JFrame} {mk : MethodId} {a : Array Value} (h : EK D cA cZ cR U) : EK D cA cZ cR (U.calling g mk a) :=
  ⟨va_K.moved (u := U) (U := U.calling g mk a) (Vm.Alike.refl U.vm) h.1, va_Nw.same rfl rfl h.2.1, va_Nw.same rfl rfl h.2.2.1, va_Nw.same rfl rfl h.2.2.2⟩
/-- a world is apart by its addresses alone -/
theorem va_D_adr {A : Nat → Prop} {w w' : va_W} (h : w'.map Prod.fst = w.map Prod.fst) (hD : va_D A w) : va_D A w' := by
  have key : ∀ (k : Nat) (q : Nat × va_E), w'[k]? = some q → ∃ q0, w[k]? = some q0 ∧ q0.1 = q.1 := by
    intro k q hk
    have h1 : (w'.map Prod.fst)[k]? = some q.1 := by rw [List.getElem?_map, hk]; rfl
    rw [h, List.getElem?_map] at h1
    cases hw : w[k]? with
    | none => rw [hw] at h1; cases h1
    | some q0 => rw [hw] at h1; exact ⟨q0, rfl, Option.some.inj h1⟩
  refine ⟨fun i j x y hi hj hxy => ?_, fun k q hk => ?_⟩
  · obtain ⟨x0, h1, h2⟩ := key i x hi
    obtain ⟨y0, h3, h4⟩ := key j y hj
    exact hD.1 i j x0 y0 h1 h3 (h2.trans (hxy.trans h4.symm))
  · obtain ⟨q0, h1, h2⟩ := key k q hk
    rw [← h2]
    exact hD.2 k q0 h1
/-- the middle of a world -/
theorem va_mid {α : Type} {X Y Z : List α} {k : Nat} {q : α} (h : Y[k]? = some q) : (X ++ (Y ++ Z))[X.length + k]? = some q := by
  have hl := (List.getElem?_eq_some_iff.mp h).1
  rw [List.getElem?_append_right (by omega), show X.length + k - X.length = k by omega, List.getElem?_append_left hl]
  exact h
theorem va_P_mid {D : va_G} {cl : List vw_C} {X Y Z : va_W} {H : Heap} (h : va_P D cl (X ++ (Y ++ Z)) H) : va_P D cl Y H := fun _ q hk => h _ q (va_mid hk)
theorem va_D_mid {A : Nat → Prop} {X Y Z : va_W} (h : va_D A (X ++ (Y ++ Z))) : va_D A Y :=
  ⟨fun i j p q hi hj e => by have := h.1 _ _ p q (va_mid hi) (va_mid hj) e; omega, fun _ q hk => h.2 _ q (va_mid hk)⟩
/-- behind a call on the middle of a world, which keeps its addresses -/
theorem va_jn {A0 : Nat → Prop} {D : va_G} {cl : List vw_C} {X Y Y' Z : va_W} {H H1 : Heap} (hP : va_P D cl (X ++ (Y ++ Z)) H) (hD : va_D A0 (X ++ (Y ++ Z))) (ha : Y'.map Prod.fst = Y.map Prod.fst)
    (hk : ∀ q : Nat, q < H.size → ¬ va_A Y H.size q → H1[q]? = H[q]?) (hP1 : va_P D cl Y' H1) : va_P D cl (X ++ (Y' ++ Z)) H1 ∧ va_D A0 (X ++ (Y' ++ Z)) := by
  have hln : Y'.length = Y.length := by
    have := congrArg List.length ha
    simpa using this
  have apart : ∀ (k : Nat) (q : Nat × va_E), (X ++ (Y ++ Z))[k]? = some q → (k < X.length ∨ X.length + Y.length ≤ k) → H1[q.1]? = H[q.1]? := by
    intro k q hq hc
    refine hk q.1 (hP k q hq).lt ?_
    rintro (⟨j, e, hj⟩ | hz)
    · have hjl := (List.getElem?_eq_some_iff.mp hj).1
      have := hD.1 k (X.length + j) q (q.1, e) hq (va_mid hj) rfl
      omega
    · have := (hP k q hq).lt
      omega
  refine ⟨fun k q hq => ?_, va_D_adr (by simp [ha]) hD⟩
  by_cases h1 : k < X.length
  · rw [List.getElem?_append_left h1] at hq
    have hq' : (X ++ (Y ++ Z))[k]? = some q := by rw [List.getElem?_append_left h1]; exact hq
    exact (hP k q hq').kept (apart k q hq' (Or.inl h1))
  · by_cases h2 : k < X.length + Y.length
    · rw [List.getElem?_append_right (by omega), List.getElem?_append_left (by omega)] at hq
      exact hP1 _ q hq
    · have e1 : (X ++ (Y' ++ Z))[k]? = (X ++ (Y ++ Z))[k]? := by
        rw [List.getElem?_append_right (by omega), List.getElem?_append_right (by omega), List.getElem?_append_right (by omega), List.getElem?_append_right (by omega), hln]
      rw [e1] at hq
      exact (hP k q hq).kept (apart k q hq (Or.inr (by omega)))
theorem va_fr {A0 : Nat → Prop} {X Y Z : va_W} {H0 H : Heap} {locs : List Loc} (hD : va_D A0 (X ++ (Y ++ Z))) (hS : va_S A0 H0 H locs) (hA : ∀ q, H0.size ≤ q → A0 q) : ∀ q, va_A Y H.size q → A0 q := by
  rintro q (⟨k, e, h⟩ | h)
  · exact hD.2 _ _ (va_mid h)
  · exact hA q (Nat.le_trans hS.1 h)
/-! contracts: a method of an object that reads and writes its block of cells alone, and makes nothing -/
abbrev PB (D : va_G) (cA cZ cR : ClassId) (Y : va_W) (sz : Nat) : State → Prop := fun U => U.heap.size = sz ∧ va_P D vwCl Y U.heap ∧ EK D cA cZ cR U ∧ va_D (fun _ => True) Y
abbrev QI (D : va_G) (Y' : va_W) (r : Int32) (A : Nat → Prop) : Array Value → State → Outcome → State → Prop := va_Qi (fun (r' : Int32) (_ : Unit) => r' = r) (fun _ t => va_P D vwCl Y' t.heap) A
abbrev QV (D : va_G) (Y' : va_W) (A : Nat → Prop) : Array Value → State → Outcome → State → Prop := va_Qv (fun (_ : Unit) => True) (fun _ t => va_P D vwCl Y' t.heap) A
def BMi (l : Launch) (D : va_G) (cA cZ cR : ClassId) (y : MethodName) (ws : List Cond) (rm : Room) (av : List Value) (Y Y' : va_W) (r : Int32) : Prop :=
  ∀ sz : Nat, Met l y ws rm (va_Pc av (PB D cA cZ cR Y sz)) (QI D Y' r (va_A Y sz)) 0 0 (va_A Y sz)
def BMv (l : Launch) (D : va_G) (cA cZ cR : ClassId) (y : MethodName) (ws : List Cond) (rm : Room) (av : List Value) (Y Y' : va_W) : Prop :=
  ∀ sz : Nat, Met l y ws rm (va_Pc av (PB D cA cZ cR Y sz)) (QV D Y' (va_A Y sz)) 0 0 (va_A Y sz)
/-- a static method of numbers alone -/
def SMi (l : Launch) (y : MethodName) (ws : List Cond) (rm : Room) (av : List Value) (r : Int32) : Prop :=
  Met l y ws rm (va_Pc av (fun _ => True)) (vp_Si (fun r' => r' = r)) 0 0 (fun _ => False)
theorem PB.blind {D : va_G} {cA cZ cR : ClassId} {Y : va_W} {sz : Nat} {av : List Value} : FrameBlind (va_Pc av (PB D cA cZ cR Y sz)) := by
  rintro a U g mk ⟨h0, h1, h2, h3, h4⟩
  exact ⟨h0, h1, h2, h3.calling, h4⟩
set_option maxHeartbeats 1000000 in
/-- opening a contract -/
theorem bm_open {l : Launch} {D : va_G} {cA cZ cR : ClassId} {y : MethodName} {ws ws' : List Cond} {rm : Room} {av : List Value} {Y Y' : va_W} {r : Int32} {cc : ByteArray} {maxL : Nat}
    (hy : plainName y.cls = true) (hw : ws = Cond.code y cc maxL (some .int) :: ws') (hc : rm.cells = 0) (hs : rm.slots = 0) (hn : (lg_sl av).length ≤ maxL)
    (body : ∀ (p : Program) (e : Env) (s : State) (m : MethodId) (args : Array Value) (below : List Frame) (meth : Method) (c : Code) (A : Nat → Prop) (Q : State → Prop), p.tables.exec = Jvm.exec → c.code = cc → c.maxLocals = maxL → (∀ w ∈ ws, w.before args s = true) → s.vm.findClass y.cls = some m.cls →
      EK D cA cZ cR s → va_P D vwCl Y s.heap → va_D A Y → (∀ q, s.heap.size ≤ q → A q) → va_S A s.heap s.heap [] →
      (∀ (H : Heap) (locs : List Loc) (pc : Nat) (ls : Array Slot) (v : Int32), va_P D vwCl Y' H → v = r → va_S A s.heap H locs → decode cc pc = .ok (.ireturn, 1) → W p l e rm s m args below meth c H locs 0 0 Q (F0 m pc ls [.int v])) →
      ∀ ls : Array Slot, lv_has ls maxL (lv_args 0 av) → W p l e rm s m args below meth c s.heap [] 0 0 Q (F0 m 0 ls [])) : BMi l D cA cZ cR y ws rm av Y Y' r := by
  intro sz
  refine Met.ofW (cc := cc) (maxL := maxL) (ret := some .int) hy hw ?_
  intro p e s m args below meth c s₁ B hml hv
  obtain ⟨rfl, hsz, hP, hE, hD0⟩ := hv
  subst hsz
  have hx := B.exec
  have hb := B.bytes
  have hr := B.returns
  have hts := atoms_spec (ws := ws) B.pre
  have hown : s.vm.findClass y.cls = some m.cls := findClass_of_methodNamed B.named
  have hlocks := B.notSynchronized
  have hD := hD0.self (sz := s.heap.size)
  have hl := lv_entry av (n := maxL) hn
  rw [lg_entry_eq]
  refine body p e s m av.toArray below meth c (va_A Y s.heap.size) _ hx hb hml hts hown hE hP hD (fun q h => Or.inr h) va_S.rf ?_ _ hl
  intro H locs pc ls v hP' hv hS hdg
  exact W.iret (v := v) hx hb hr (fun t ht hW => ⟨⟨v, (), rfl, hv, by show va_P D vwCl Y' t.heap; rw [ht]; exact hP'⟩, hS.F ht⟩) hS.2.2 hdg
set_option maxHeartbeats 1000000 in
/-- the same, of a method that answers a boolean -/
theorem bm_openZ {l : Launch} {D : va_G} {cA cZ cR : ClassId} {y : MethodName} {ws ws' : List Cond} {rm : Room} {av : List Value} {Y Y' : va_W} {r : Int32} {cc : ByteArray} {maxL : Nat}
    (hy : plainName y.cls = true) (hw : ws = Cond.code y cc maxL (some .boolean) :: ws') (hc : rm.cells = 0) (hs : rm.slots = 0) (hn : (lg_sl av).length ≤ maxL) (hz : narrow .boolean (.int r) = .int r)
    (body : ∀ (p : Program) (e : Env) (s : State) (m : MethodId) (args : Array Value) (below : List Frame) (meth : Method) (c : Code) (A : Nat → Prop) (Q : State → Prop), p.tables.exec = Jvm.exec → c.code = cc → c.maxLocals = maxL → (∀ w ∈ ws, w.before args s = true) → s.vm.findClass y.cls = some m.cls →
      EK D cA cZ cR s → va_P D vwCl Y s.heap → va_D A Y → (∀ q, s.heap.size ≤ q → A q) → va_S A s.heap s.heap [] →
      (∀ (H : Heap) (locs : List Loc) (pc : Nat) (ls : Array Slot) (v : Int32), va_P D vwCl Y' H → v = r → va_S A s.heap H locs → decode cc pc = .ok (.ireturn, 1) → W p l e rm s m args below meth c H locs 0 0 Q (F0 m pc ls [.int v])) →
      ∀ ls : Array Slot, lv_has ls maxL (lv_args 0 av) → W p l e rm s m args below meth c s.heap [] 0 0 Q (F0 m 0 ls [])) : BMi l D cA cZ cR y ws rm av Y Y' r := by
  intro sz
  refine Met.ofW (cc := cc) (maxL := maxL) (ret := some .boolean) hy hw ?_
  intro p e s m args below meth c s₁ B hml hv
  obtain ⟨rfl, hsz, hP, hE, hD0⟩ := hv
  subst hsz
  have hx := B.exec
  have hb := B.bytes
  have hr := B.returns
  have hts := atoms_spec (ws := ws) B.pre
  have hown : s.vm.findClass y.cls = some m.cls := findClass_of_methodNamed B.named
  have hlocks := B.notSynchronized
  have hD := hD0.self (sz := s.heap.size)
  have hl := lv_entry av (n := maxL) hn
  rw [lg_entry_eq]
  refine body p e s m av.toArray below meth c (va_A Y s.heap.size) _ hx hb hml hts hown hE hP hD (fun q h => Or.inr h) va_S.rf ?_ _ hl
  intro H locs pc ls v hP' hv hS hdg
  subst hv
  exact W.zret (v := v) hx hb hr hz (fun t ht hW => ⟨⟨v, (), rfl, rfl, by show va_P D vwCl Y' t.heap; rw [ht]; exact hP'⟩, hS.F ht⟩) hS.2.2 hdg
set_option maxHeartbeats 1000000 in
/-- the same, of a method that answers nothing -/
theorem bm_openV {l : Launch} {D : va_G} {cA cZ cR : ClassId} {y : MethodName} {ws ws' : List Cond} {rm : Room} {av : List Value} {Y Y' : va_W} {cc : ByteArray} {maxL : Nat}
    (hy : plainName y.cls = true) (hw : ws = Cond.code y cc maxL none :: ws') (hc : rm.cells = 0) (hs : rm.slots = 0) (hn : (lg_sl av).length ≤ maxL)
    (body : ∀ (p : Program) (e : Env) (s : State) (m : MethodId) (args : Array Value) (below : List Frame) (meth : Method) (c : Code) (A : Nat → Prop) (Q : State → Prop), p.tables.exec = Jvm.exec → c.code = cc → c.maxLocals = maxL → (∀ w ∈ ws, w.before args s = true) → s.vm.findClass y.cls = some m.cls →
      EK D cA cZ cR s → va_P D vwCl Y s.heap → va_D A Y → (∀ q, s.heap.size ≤ q → A q) → va_S A s.heap s.heap [] →
      (∀ (H : Heap) (locs : List Loc) (pc : Nat) (ls : Array Slot) , va_P D vwCl Y' H → va_S A s.heap H locs → decode cc pc = .ok (.return_, 1) → W p l e rm s m args below meth c H locs 0 0 Q (F0 m pc ls [])) →
      ∀ ls : Array Slot, lv_has ls maxL (lv_args 0 av) → W p l e rm s m args below meth c s.heap [] 0 0 Q (F0 m 0 ls [])) : BMv l D cA cZ cR y ws rm av Y Y' := by
  intro sz
  refine Met.ofW (cc := cc) (maxL := maxL) (ret := none) hy hw ?_
  intro p e s m args below meth c s₁ B hml hv
  obtain ⟨rfl, hsz, hP, hE, hD0⟩ := hv
  subst hsz
  have hx := B.exec
  have hb := B.bytes
  have hr := B.returns
  have hts := atoms_spec (ws := ws) B.pre
  have hown : s.vm.findClass y.cls = some m.cls := findClass_of_methodNamed B.named
  have hlocks := B.notSynchronized
  have hD := hD0.self (sz := s.heap.size)
  have hl := lv_entry av (n := maxL) hn
  rw [lg_entry_eq]
  refine body p e s m av.toArray below meth c (va_A Y s.heap.size) _ hx hb hml hts hown hE hP hD (fun q h => Or.inr h) va_S.rf ?_ _ hl
  intro H locs pc ls hP' hS hdg
  exact W.vret hx hb hr (fun t ht hW => ⟨⟨(), rfl, trivial, by show va_P D vwCl Y' t.heap; rw [ht]; exact hP'⟩, hS.F ht⟩) hS.2.2 hdg
set_option maxHeartbeats 1000000 in
/-- opening a contract of a static method of numbers -/
theorem sm_open {l : Launch} {y : MethodName} {ws ws' : List Cond} {rm : Room} {av : List Value} {r : Int32} {cc : ByteArray} {maxL : Nat}
    (hy : plainName y.cls = true) (hw : ws = Cond.code y cc maxL (some .int) :: ws') (hn : (lg_sl av).length ≤ maxL)
    (body : ∀ (p : Program) (e : Env) (s : State) (m : MethodId) (args : Array Value) (below : List Frame) (meth : Method) (c : Code) (Q : State → Prop) (H : Heap) (locs : List Loc), p.tables.exec = Jvm.exec → c.code = cc → c.maxLocals = maxL → (∀ w ∈ ws, w.before args s = true) → s.vm.findClass y.cls = some m.cls →
      (∀ (pc : Nat) (ls : Array Slot) (v : Int32), v = r → decode cc pc = .ok (.ireturn, 1) → W p l e rm s m args below meth c H locs 0 0 Q (F0 m pc ls [.int v])) →
      ∀ ls : Array Slot, lv_has ls maxL (lv_args 0 av) → W p l e rm s m args below meth c H locs 0 0 Q (F0 m 0 ls [])) : SMi l y ws rm av r := by
  refine Met.ofW (cc := cc) (maxL := maxL) (ret := some .int) hy hw ?_
  intro p e s m args below meth c s₁ B hml hv
  obtain ⟨rfl, -⟩ := hv
  have hx := B.exec
  have hb := B.bytes
  have hr := B.returns
  have hts := atoms_spec (ws := ws) B.pre
  have hown : s.vm.findClass y.cls = some m.cls := findClass_of_methodNamed B.named
  have hlocks := B.notSynchronized
  have hl := lv_entry av (n := maxL) hn
  rw [lg_entry_eq]
  refine body p e s m av.toArray below meth c _ s.heap [] hx hb hml hts hown ?_ _ hl
  intro pc ls v hv hdg
  exact W.iret (v := v) hx hb hr (fun t ht hW => ⟨v, rfl, hv, ht⟩) (fun _ h => by cases h) hdg
set_option maxHeartbeats 1000000 in
/-- opening a contract of a static method of numbers -/
theorem sm_openZ {l : Launch} {y : MethodName} {ws ws' : List Cond} {rm : Room} {av : List Value} {r : Int32} {cc : ByteArray} {maxL : Nat}
    (hy : plainName y.cls = true) (hw : ws = Cond.code y cc maxL (some .boolean) :: ws') (hn : (lg_sl av).length ≤ maxL) (hz : narrow .boolean (.int r) = .int r)
    (body : ∀ (p : Program) (e : Env) (s : State) (m : MethodId) (args : Array Value) (below : List Frame) (meth : Method) (c : Code) (Q : State → Prop) (H : Heap) (locs : List Loc), p.tables.exec = Jvm.exec → c.code = cc → c.maxLocals = maxL → (∀ w ∈ ws, w.before args s = true) → s.vm.findClass y.cls = some m.cls →
      (∀ (pc : Nat) (ls : Array Slot) (v : Int32), v = r → decode cc pc = .ok (.ireturn, 1) → W p l e rm s m args below meth c H locs 0 0 Q (F0 m pc ls [.int v])) →
      ∀ ls : Array Slot, lv_has ls maxL (lv_args 0 av) → W p l e rm s m args below meth c H locs 0 0 Q (F0 m 0 ls [])) : SMi l y ws rm av r := by
  refine Met.ofW (cc := cc) (maxL := maxL) (ret := some .boolean) hy hw ?_
  intro p e s m args below meth c s₁ B hml hv
  obtain ⟨rfl, -⟩ := hv
  have hx := B.exec
  have hb := B.bytes
  have hr := B.returns
  have hts := atoms_spec (ws := ws) B.pre
  have hown : s.vm.findClass y.cls = some m.cls := findClass_of_methodNamed B.named
  have hlocks := B.notSynchronized
  have hl := lv_entry av (n := maxL) hn
  rw [lg_entry_eq]
  refine body p e s m av.toArray below meth c _ s.heap [] hx hb hml hts hown ?_ _ hl
  intro pc ls v hv hdg
  subst hv
  exact W.zret (v := v) hx hb hr hz (fun t ht hW => ⟨v, rfl, rfl, ht⟩) (fun _ h => by cases h) hdg
/-! calls -/
section CALLS
variable {p : Program} {l : Launch} {e : Env} {R : Room} {s : State} {m : MethodId} {args : Array Value} {below : List Frame} {meth : Method} {c : Code} {H : Heap} {locs : List Loc} {cells slots : Nat} {Q : State → Prop}
variable {cc : ByteArray} {pc nL : Nat} {ls : Array Slot} {st0 : List Value} {D : va_G} {cA cZ cR : ClassId} {A : Nat → Prop} {H0 : Heap} {y : MethodName} {ws Ts : List Cond} {rm : Room} {own C : String} {index maxL n : Nat} {bytes : ByteArray} {ret : Option FieldType}
set_option maxHeartbeats 1000000 in
theorem bm_i {b : Nat} (X Y Z : va_W) {Y' : va_W} {r : Int32} (As rest : List Value) (S : CallFix p m c cc nL s args Ts own) (hM : BMi l D cA cZ cR y ws rm (.ref b :: As) Y Y' r) (cw : CallW R s args own C index y bytes maxL ret ws rm 0 0 n)
    (hE : EK D cA cZ cR s) (hP : va_P D vwCl (X ++ (Y ++ Z)) H) (hD : va_D A (X ++ (Y ++ Z))) (hS : va_S A H0 H locs) (hA : ∀ q, H0.size ≤ q → A q) (ha : Y'.map Prod.fst = Y.map Prod.fst) (q0 ci : Nat) {fs : List Value} {T : u_T} {N : Nat} (hy : Y[q0]? = some (b, .inr (ci, fs))) (hcl : vwCl[ci]? = some (C, T, N))
    (hn : As.length = n) (hsize : ls.size = nL) (hst : st0 = As.reverse ++ .ref b :: rest) (hW : (rest.map fun v => v.category).sum ≤ 8) (hdg : decode cc pc = .ok (.invokevirtual index, 3)) (hf : cells ≤ R.cells ∧ slots ≤ R.slots)
    (kk : ∀ (H1 : Heap) (locs1 : List Loc), va_P D vwCl (X ++ (Y' ++ Z)) H1 → va_D A (X ++ (Y' ++ Z)) → va_S A H0 H1 locs1 → W p l e R s m args below meth c H1 locs1 cells slots Q (F0 m (pc + 3) ls (.int r :: rest))) : W p l e R s m args below meth c H locs cells slots Q (F0 m pc ls st0) := by
  have hPc : va_P D vwCl Y H := va_P_mid hP
  have hDc : va_D A Y := va_D_mid hD
  have hFc := va_fr hD hS hA
  refine va_calli (va_runV (As := As) (rest := rest) S (hM H.size) cw ⟨PB.blind, va_recv hE.1 hPc (q0 := q0) hcl hy, fun U hU hW => ⟨rfl, by rw [hU], by rw [hU]; exact hPc, hE.warm hW, hDc.weaken (fun _ _ _ _ => trivial)⟩⟩ rfl hn hsize hst (lv_room hW) hdg hf) hS (fun q _ h => hFc q h) hFc (fun r1 u t H1 locs1 ht hvm hw hB hz1 hk1 hS1 => ?_)
  have hB : va_P D vwCl Y' t.heap := hB
  rw [ht] at hB
  obtain ⟨hP1, hD1⟩ := va_jn hP hD ha hk1 hB
  subst hw
  exact kk H1 locs1 hP1 hD1 hS1
set_option maxHeartbeats 1000000 in
theorem bm_v {b : Nat} (X Y Z : va_W) {Y' : va_W} (As rest : List Value) (S : CallFix p m c cc nL s args Ts own) (hM : BMv l D cA cZ cR y ws rm (.ref b :: As) Y Y') (cw : CallW R s args own C index y bytes maxL ret ws rm 0 0 n)
    (hE : EK D cA cZ cR s) (hP : va_P D vwCl (X ++ (Y ++ Z)) H) (hD : va_D A (X ++ (Y ++ Z))) (hS : va_S A H0 H locs) (hA : ∀ q, H0.size ≤ q → A q) (ha : Y'.map Prod.fst = Y.map Prod.fst) (q0 ci : Nat) {fs : List Value} {T : u_T} {N : Nat} (hy : Y[q0]? = some (b, .inr (ci, fs))) (hcl : vwCl[ci]? = some (C, T, N))
    (hn : As.length = n) (hsize : ls.size = nL) (hst : st0 = As.reverse ++ .ref b :: rest) (hW : (rest.map fun v => v.category).sum ≤ 8) (hdg : decode cc pc = .ok (.invokevirtual index, 3)) (hf : cells ≤ R.cells ∧ slots ≤ R.slots)
    (kk : ∀ (H1 : Heap) (locs1 : List Loc), va_P D vwCl (X ++ (Y' ++ Z)) H1 → va_D A (X ++ (Y' ++ Z)) → va_S A H0 H1 locs1 → W p l e R s m args below meth c H1 locs1 cells slots Q (F0 m (pc + 3) ls rest)) : W p l e R s m args below meth c H locs cells slots Q (F0 m pc ls st0) := by
  have hPc : va_P D vwCl Y H := va_P_mid hP
  have hDc : va_D A Y := va_D_mid hD
  have hFc := va_fr hD hS hA
  refine va_callv (va_runV (As := As) (rest := rest) S (hM H.size) cw ⟨PB.blind, va_recv hE.1 hPc (q0 := q0) hcl hy, fun U hU hW => ⟨rfl, by rw [hU], by rw [hU]; exact hPc, hE.warm hW, hDc.weaken (fun _ _ _ _ => trivial)⟩⟩ rfl hn hsize hst (lv_room hW) hdg hf) hS (fun q _ h => hFc q h) hFc (fun u t H1 locs1 ht hvm hw hB hz1 hk1 hS1 => ?_)
  have hB : va_P D vwCl Y' t.heap := hB
  rw [ht] at hB
  obtain ⟨hP1, hD1⟩ := va_jn hP hD ha hk1 hB
  exact kk H1 locs1 hP1 hD1 hS1
theorem sm_pre {H : Heap} {av : List Value} {As : List Value} (h : As = av) : PreS s H (va_Pc av (fun _ => True)) As := by
  subst h
  exact ⟨fun a U g mk q => q, fun U hU hW => ⟨rfl, trivial⟩⟩
theorem sm_i {r : Int32} (As rest : List Value) (S : CallFix p m c cc nL s args Ts own) (hM : SMi l y ws rm As r) (cw : CallB R s args own index y bytes maxL ret ws rm 0 0 n ∧ (Cond.static y).before args s = true)
    (hn : As.length = n) (hsize : ls.size = nL) (hst : st0 = As.reverse ++ rest) (hW : (rest.map fun v => v.category).sum ≤ 8) (hdg : decode cc pc = .ok (.invokestatic index, 3)) (hf : cells ≤ R.cells ∧ slots ≤ R.slots)
    (kk : W p l e R s m args below meth c H locs cells slots Q (F0 m (pc + 3) ls (.int r :: rest))) : W p l e R s m args below meth c H locs cells slots Q (F0 m pc ls st0) :=
  vp_callSi (va_Run.run (va_runS (As := As) (rest := rest) S hM cw (sm_pre rfl) rfl hn hsize hst (lv_room hW) hdg hf)) (fun r1 hr => by subst hr; exact kk)
theorem sm_n {r : Int32} {host : String} (As rest : List Value) (S : CallFix p m c cc nL s args Ts own) (hM : SMi l y ws rm As r) (cw : va_CN R s args own index y host bytes maxL ret ws rm 0 0 n ∧ (Cond.static y).before args s = true ∧ True)
    (hn : As.length = n) (hsize : ls.size = nL) (hst : st0 = As.reverse ++ rest) (hW : (rest.map fun v => v.category).sum ≤ 8) (hdg : decode cc pc = .ok (.invokestatic index, 3)) (hf : cells ≤ R.cells ∧ slots ≤ R.slots)
    (kk : W p l e R s m args below meth c H locs cells slots Q (F0 m (pc + 3) ls (.int r :: rest))) : W p l e R s m args below meth c H locs cells slots Q (F0 m pc ls st0) :=
  vp_callSi (va_Run.run (va_runSN (As := As) (rest := rest) S hM cw (sm_pre rfl) rfl hn hsize hst (lv_room hW) hdg hf)) (fun r1 hr => by subst hr; exact kk)
end CALLS
end
section
/-! the numbers that the methods work out, as functions -/
def pf_in (v a b : Int32) : Int32 := if a ≤ v ∧ v ≤ b then 1 else 0
def pf_sz (x : Int32) : Int32 := if x < 0 then -x else x
def pf_ab (x : Int32) : Int32 := if 0 ≤ x then x else 0 - x
def pf_mx (x y : Int32) : Int32 := if x < y then y else x
def pf_mn (x y : Int32) : Int32 := if y < x then y else x
def pf_mxl (x y : Int64) : Int64 := if y < x then x else y
def pf_mnl (x y : Int64) : Int64 := if y < x then y else x
def pf_cl (v a b : Int32) : Int32 := if v < a then a else if b < v then b else v
def pf_lm (v a b : Int32) : Int32 := pf_mx a (pf_mn b v)
def pf_rm (x y : Int32) : Int32 := x - x / y * y
def pf_nx (z : Int32) : Int32 := pf_rm (75 * z + 74) 65537
def pf_ce (z t : Int32) : Int32 := pf_rm z (2 * t + 1) - t
def pf_most (r : Int32) : Int32 := if r = 0 then 1024 else if r = 1 then 20 else if r = 2 then 500 else if r = 3 then 50 else 15
def pf_gd : Nat → Int32 → Int32 → Int32
  | 0, x, _ => x
  | n + 1, x, y => if y = 0 then x else pf_gd n y (pf_rm x y)
/-- the divisions come to an end within n rounds -/
def pf_ge : Nat → Int32 → Int32 → Prop
  | 0, _, y => y = 0
  | n + 1, x, y => y = 0 ∨ pf_ge n y (pf_rm x y)
def pf_sr (z t : Int32) : Int32 := if (0 ≤ z ∧ z ≤ 65536) ∧ (0 ≤ t ∧ t ≤ 1000) then 1 else 0
def pf_al (P : Nat → Bool) : Nat → Bool
  | 0 => true
  | n + 1 => pf_al P n && P n
theorem in63 (x : Int32) : vp_in (x &&& 63) 64 := pk_andIn x 6 rfl (by decide)
theorem in255 (x : Int32) : vp_in (x &&& 255) 256 := pk_andIn x 8 rfl (by decide)
theorem pf_in1 {v a b : Int32} (h : a ≤ v ∧ v ≤ b) : pf_in v a b = 1 := if_pos h
theorem pf_in0 {v a b : Int32} (h : ¬ (a ≤ v ∧ v ≤ b)) : pf_in v a b = 0 := if_neg h
theorem pf_in_z (v a b : Int32) : narrow .boolean (.int (pf_in v a b)) = .int (pf_in v a b) := by
  unfold pf_in; split <;> rfl
theorem pf_sr_z (v a : Int32) : narrow .boolean (.int (pf_sr v a)) = .int (pf_sr v a) := by
  unfold pf_sr; split <;> rfl
theorem pf_inE (v a b : Int32) : (pf_in v a b = 0) ↔ ¬ (a ≤ v ∧ v ≤ b) := by
  unfold pf_in; split <;> simp_all
theorem pf_odd (t : Int32) : ¬ (2 * t + 1 = 0) := by
  intro h
  have h1 : (2 * t + 1).toBitVec = (0 : Int32).toBitVec := by rw [h]
  have h2 : (2#32 * t.toBitVec + 1#32) = 0#32 := h1
  have h3 := congrArg BitVec.toNat h2
  rw [BitVec.toNat_add, BitVec.toNat_mul] at h3
  simp only [BitVec.toNat_ofNat] at h3
  omega
def fa (st : St) (i : Int32) : Int32 := st 3 ((st 8 0 - i) &&& 63).toNatClampNeg
def na (st : St) (i : Int32) : Int32 := st 4 ((st 8 0 - i) &&& 63).toNatClampNeg
def oa (st : St) (i : Int32) : Int32 := st 5 ((st 8 0 - i) &&& 63).toNatClampNeg
abbrev EO (e h t i : Nat) (kp : Int32) : Nat × va_E := (e, .inr (1, [.ref h, .ref t, .ref i, .int kp]))
theorem LW_adr {cA : ClassId} {h : Nat} {as : Nat → Nat} {st st' : St} : (LW cA h as st').map Prod.fst = (LW cA h as st).map Prod.fst := rfl
theorem MW_adr {cA cZ : ClassId} {h : Nat} {as : Nat → Nat} {g im kp g' im' kp' : Fn} : (MW cA cZ h as g' im' kp').map Prod.fst = (MW cA cZ h as g im kp).map Prod.fst := rfl
end
section
abbrev rm_X1_within : Room := { frames := 0, cells := 0, slots := 0, locals := 0 }
set_option maxRecDepth 100000 in
set_option maxHeartbeats 4000000 in
theorem c_X1_within (l : Launch) (v a b : Int32) : SMi l yX1_within wsX1_within rm_X1_within [.int v, .int a, .int b] (pf_in v a b) := by
  refine sm_openZ (maxL := 3) (by decide) rfl (Nat.le_of_ble_eq_true rfl) (pf_in_z v a b) ?_
  intro p e s m args below meth c Q H locs hx hb hml hts hown hret ls hl
  have hown : s.vm.findClass RX1 = some m.cls := hown
  have hl : lv_has ls 3 [(0, .int v), (1, .int a), (2, .int b)] := hl
  refine lv_iload_n hx hb dX1_within_0 rfl (lv_at hl 1 rfl) ?_
  refine lv_iload_n hx hb dX1_within_1 rfl (lv_at hl 0 rfl) ?_
  refine lv_icmp_gt (tgt := 14) hx hb dX1_within_2 (by decide) (fun c_1 => ?_) (fun c_1 => ?_)
  · have c_1 : v < a := c_1
    refine lv_iconst (v := 0) hx hb dX1_within_14 (by decide) ?_
    exact hret _ _ _ (pf_in0 (fun q => absurd (Int32.not_lt.mpr q.1) (not_not_intro c_1)) |>.symm) dX1_within_15
  · have c_1 : ¬ v < a := c_1
    refine lv_iload_n hx hb dX1_within_5 rfl (lv_at hl 0 rfl) ?_
    refine lv_iload_n hx hb dX1_within_6 rfl (lv_at hl 2 rfl) ?_
    refine lv_icmp_gt (tgt := 14) hx hb dX1_within_7 (by decide) (fun c_2 => ?_) (fun c_2 => ?_)
    · have c_2 : b < v := c_2
      refine lv_iconst (v := 0) hx hb dX1_within_14 (by decide) ?_
      exact hret _ _ _ (pf_in0 (fun q => absurd (Int32.not_lt.mpr q.2) (not_not_intro c_2)) |>.symm) dX1_within_15
    · have c_2 : ¬ b < v := c_2
      refine lv_iconst (v := 1) hx hb dX1_within_10 (by decide) ?_
      refine lv_goto (tgt := 15) hx hb dX1_within_11 (by decide) ?_
      exact hret _ _ _ (pf_in1 ⟨Int32.not_lt.mp c_1, Int32.not_lt.mp c_2⟩ |>.symm) dX1_within_15

abbrev rm_X2_in : Room := { frames := 0, cells := 0, slots := 0, locals := 0 }
set_option maxRecDepth 100000 in
set_option maxHeartbeats 4000000 in
theorem c_X2_in (l : Launch) (v a b : Int32) : SMi l yX2_in wsX2_in rm_X2_in [.int v, .int a, .int b] (pf_in v a b) := by
  refine sm_openZ (maxL := 3) (by decide) rfl (Nat.le_of_ble_eq_true rfl) (pf_in_z v a b) ?_
  intro p e s m args below meth c Q H locs hx hb hml hts hown hret ls hl
  have hown : s.vm.findClass RX2 = some m.cls := hown
  have hl : lv_has ls 3 [(0, .int v), (1, .int a), (2, .int b)] := hl
  refine lv_iload_n hx hb dX2_in_0 rfl (lv_at hl 0 rfl) ?_
  refine lv_iload_n hx hb dX2_in_1 rfl (lv_at hl 1 rfl) ?_
  refine lv_icmp_lt (tgt := 14) hx hb dX2_in_2 (by decide) (fun c_1 => ?_) (fun c_1 => ?_)
  · have c_1 : v < a := c_1
    refine lv_iconst (v := 0) hx hb dX2_in_14 (by decide) ?_
    exact hret _ _ _ (pf_in0 (fun q => absurd (Int32.not_lt.mpr q.1) (not_not_intro c_1)) |>.symm) dX2_in_15
  · have c_1 : ¬ v < a := c_1
    refine lv_iload_n hx hb dX2_in_5 rfl (lv_at hl 0 rfl) ?_
    refine lv_iload_n hx hb dX2_in_6 rfl (lv_at hl 2 rfl) ?_
    refine lv_icmp_gt (tgt := 14) hx hb dX2_in_7 (by decide) (fun c_2 => ?_) (fun c_2 => ?_)
    · have c_2 : b < v := c_2
      refine lv_iconst (v := 0) hx hb dX2_in_14 (by decide) ?_
      exact hret _ _ _ (pf_in0 (fun q => absurd (Int32.not_lt.mpr q.2) (not_not_intro c_2)) |>.symm) dX2_in_15
    · have c_2 : ¬ b < v := c_2
      refine lv_iconst (v := 1) hx hb dX2_in_10 (by decide) ?_
      refine lv_goto (tgt := 15) hx hb dX2_in_11 (by decide) ?_
      exact hret _ _ _ (pf_in1 ⟨Int32.not_lt.mp c_1, Int32.not_lt.mp c_2⟩ |>.symm) dX2_in_15

abbrev rm_X1_limited : Room := { frames := 1, cells := 0, slots := 0, locals := 14 }
set_option maxRecDepth 100000 in
set_option maxHeartbeats 4000000 in
theorem c_X1_limited (l : Launch) (v a b : Int32) : SMi l yX1_limited wsX1_limited rm_X1_limited [.int v, .int a, .int b] (pf_lm v a b) := by
  refine sm_open (maxL := 3) (by decide) rfl (Nat.le_of_ble_eq_true rfl) ?_
  intro p e s m args below meth c Q H locs hx hb hml hts hown hret ls hl
  have hown : s.vm.findClass RX1 = some m.cls := hown
  have hl : lv_has ls 3 [(0, .int v), (1, .int a), (2, .int b)] := hl
  refine lv_iload_n hx hb dX1_limited_0 rfl (lv_at hl 1 rfl) ?_
  refine lv_iload_n hx hb dX1_limited_1 rfl (lv_at hl 2 rfl) ?_
  refine lv_iload_n hx hb dX1_limited_2 rfl (lv_at hl 0 rfl) ?_
  refine va_mmin hx hb (hml.trans hl.1.symm) hown (hts (.methodLink RX1 121 Lib.Math.min.name) (by decide +kernel)) (hts (.static Lib.Math.min.name) (by decide +kernel)) (hts (.initialized "java/lang/Math") (by decide +kernel)) (hts (.code Lib.Math.min.name Lib.Math.min.code 2 (some .int)) (by decide +kernel)) (Nat.le_of_ble_eq_true rfl) (Nat.le_of_ble_eq_true rfl) (Nat.zero_le _) (Nat.zero_le _) dX1_limited_3 ?_
  refine va_mmax hx hb (hml.trans hl.1.symm) hown (hts (.methodLink RX1 124 Lib.Math.max.name) (by decide +kernel)) (hts (.static Lib.Math.max.name) (by decide +kernel)) (hts (.initialized "java/lang/Math") (by decide +kernel)) (hts (.code Lib.Math.max.name Lib.Math.max.code 2 (some .int)) (by decide +kernel)) (Nat.le_of_ble_eq_true rfl) (Nat.le_of_ble_eq_true rfl) (Nat.zero_le _) (Nat.zero_le _) dX1_limited_6 ?_
  exact hret _ _ _ rfl dX1_limited_9

abbrev rm_X1_nextSeed : Room := { frames := 0, cells := 0, slots := 0, locals := 0 }
set_option maxRecDepth 100000 in
set_option maxHeartbeats 4000000 in
theorem c_X1_nextSeed (l : Launch) (z : Int32) : SMi l yX1_nextSeed wsX1_nextSeed rm_X1_nextSeed [.int z] (pf_nx z) := by
  refine sm_open (maxL := 1) (by decide) rfl (Nat.le_of_ble_eq_true rfl) ?_
  intro p e s m args below meth c Q H locs hx hb hml hts hown hret ls hl
  have hown : s.vm.findClass RX1 = some m.cls := hown
  have hl : lv_has ls 1 [(0, .int z)] := hl
  refine lv_bipush (v := 75) hx hb dX1_nextSeed_0 (by decide) ?_
  refine lv_iload_n hx hb dX1_nextSeed_2 rfl (lv_at hl 0 rfl) ?_
  refine lv_imul hx hb dX1_nextSeed_3 ?_
  refine lv_bipush (v := 74) hx hb dX1_nextSeed_4 (by decide) ?_
  refine lv_iadd hx hb dX1_nextSeed_6 ?_
  refine lv_ldc (v := 65537) hx hb hown (hts (.constant RX1 128 (65537)) (by decide +kernel)) dX1_nextSeed_7 ?_
  refine lv_irem hx hb dX1_nextSeed_9 (by decide) ?_
  exact hret _ _ _ rfl dX1_nextSeed_10

abbrev rm_X2_next : Room := { frames := 0, cells := 0, slots := 0, locals := 0 }
set_option maxRecDepth 100000 in
set_option maxHeartbeats 4000000 in
theorem c_X2_next (l : Launch) (z : Int32) : SMi l yX2_next wsX2_next rm_X2_next [.int z] (pf_nx z) := by
  refine sm_open (maxL := 1) (by decide) rfl (Nat.le_of_ble_eq_true rfl) ?_
  intro p e s m args below meth c Q H locs hx hb hml hts hown hret ls hl
  have hown : s.vm.findClass RX2 = some m.cls := hown
  have hl : lv_has ls 1 [(0, .int z)] := hl
  refine lv_bipush (v := 75) hx hb dX2_next_0 (by decide) ?_
  refine lv_iload_n hx hb dX2_next_2 rfl (lv_at hl 0 rfl) ?_
  refine lv_imul hx hb dX2_next_3 ?_
  refine lv_bipush (v := 74) hx hb dX2_next_4 (by decide) ?_
  refine lv_iadd hx hb dX2_next_6 ?_
  refine lv_ldc (v := 65537) hx hb hown (hts (.constant RX2 42 (65537)) (by decide +kernel)) dX2_next_7 ?_
  refine lv_irem hx hb dX2_next_9 (by decide) ?_
  exact hret _ _ _ rfl dX2_next_10

abbrev rm_X1_centred : Room := { frames := 0, cells := 0, slots := 0, locals := 0 }
set_option maxRecDepth 100000 in
set_option maxHeartbeats 4000000 in
theorem c_X1_centred (l : Launch) (z t : Int32) : SMi l yX1_centred wsX1_centred rm_X1_centred [.int z, .int t] (pf_ce z t) := by
  refine sm_open (maxL := 2) (by decide) rfl (Nat.le_of_ble_eq_true rfl) ?_
  intro p e s m args below meth c Q H locs hx hb hml hts hown hret ls hl
  have hown : s.vm.findClass RX1 = some m.cls := hown
  have hl : lv_has ls 2 [(0, .int z), (1, .int t)] := hl
  refine lv_iload_n hx hb dX1_centred_0 rfl (lv_at hl 0 rfl) ?_
  refine lv_iconst (v := 2) hx hb dX1_centred_1 (by decide) ?_
  refine lv_iload_n hx hb dX1_centred_2 rfl (lv_at hl 1 rfl) ?_
  refine lv_imul hx hb dX1_centred_3 ?_
  refine lv_iconst (v := 1) hx hb dX1_centred_4 (by decide) ?_
  refine lv_iadd hx hb dX1_centred_5 ?_
  refine lv_irem hx hb dX1_centred_6 (pf_odd _) ?_
  refine lv_iload_n hx hb dX1_centred_7 rfl (lv_at hl 1 rfl) ?_
  refine lv_isub hx hb dX1_centred_8 ?_
  exact hret _ _ _ rfl dX1_centred_9

abbrev rm_X1_startsRun : Room := { frames := 1, cells := 0, slots := 0, locals := 22 }
set_option maxRecDepth 100000 in
set_option maxHeartbeats 4000000 in
theorem c_X1_startsRun (l : Launch) (z t : Int32) : SMi l yX1_startsRun wsX1_startsRun rm_X1_startsRun [.int z, .int t] (pf_sr z t) := by
  refine sm_openZ (maxL := 2) (by decide) rfl (Nat.le_of_ble_eq_true rfl) (pf_sr_z z t) ?_
  intro p e s m args below meth c Q H locs hx hb hml hts hown hret ls hl
  have hown : s.vm.findClass RX1 = some m.cls := hown
  have hl : lv_has ls 2 [(0, .int z), (1, .int t)] := hl
  refine lv_iload_n hx hb dX1_startsRun_0 rfl (lv_at hl 0 rfl) ?_
  refine lv_iconst (v := 0) hx hb dX1_startsRun_1 (by decide) ?_
  refine lv_ldc (v := 65536) hx hb hown (hts (.constant RX1 127 (65536)) (by decide +kernel)) dX1_startsRun_2 ?_
  refine sm_i [.int z, .int 0, .int 65536] [] ⟨hx, hb, hml, hown, hts⟩ (c_X1_within l z 0 65536) (va_cwS 3 hts gX1_startsRun_X1_within rfl rfl rfl (by decide +kernel) ⟨Nat.le_of_ble_eq_true rfl, Nat.le_of_ble_eq_true rfl⟩) rfl hl.1 rfl (Nat.le_of_ble_eq_true rfl) dX1_startsRun_4 ⟨Nat.zero_le _, Nat.zero_le _⟩ ?_
  refine lv_if_eq (tgt := 25) hx hb dX1_startsRun_7 (by decide) (fun c_1 => ?_) (fun c_1 => ?_)
  · have c_1 : (pf_in z 0 65536) = 0 := c_1
    refine lv_iconst (v := 0) hx hb dX1_startsRun_25 (by decide) ?_
    exact hret _ _ _ (by rw [pf_sr, if_neg]; rintro ⟨q1, q2⟩; exact absurd q1 ((pf_inE _ _ _).mp c_1)) dX1_startsRun_26
  · have c_1 : ¬ (pf_in z 0 65536) = 0 := c_1
    refine lv_iload_n hx hb dX1_startsRun_10 rfl (lv_at hl 1 rfl) ?_
    refine lv_iconst (v := 0) hx hb dX1_startsRun_11 (by decide) ?_
    refine lv_sipush (v := 1000) hx hb dX1_startsRun_12 (by decide) ?_
    refine sm_i [.int t, .int 0, .int 1000] [] ⟨hx, hb, hml, hown, hts⟩ (c_X1_within l t 0 1000) (va_cwS 3 hts gX1_startsRun_X1_within rfl rfl rfl (by decide +kernel) ⟨Nat.le_of_ble_eq_true rfl, Nat.le_of_ble_eq_true rfl⟩) rfl hl.1 rfl (Nat.le_of_ble_eq_true rfl) dX1_startsRun_15 ⟨Nat.zero_le _, Nat.zero_le _⟩ ?_
    refine lv_if_eq (tgt := 25) hx hb dX1_startsRun_18 (by decide) (fun c_2 => ?_) (fun c_2 => ?_)
    · have c_2 : (pf_in t 0 1000) = 0 := c_2
      refine lv_iconst (v := 0) hx hb dX1_startsRun_25 (by decide) ?_
      exact hret _ _ _ (by rw [pf_sr, if_neg]; rintro ⟨q1, q2⟩; exact absurd q2 ((pf_inE _ _ _).mp c_2)) dX1_startsRun_26
    · have c_2 : ¬ (pf_in t 0 1000) = 0 := c_2
      refine lv_iconst (v := 1) hx hb dX1_startsRun_21 (by decide) ?_
      refine lv_goto (tgt := 26) hx hb dX1_startsRun_22 (by decide) ?_
      exact hret _ _ _ (by rw [pf_sr, if_pos]; exact ⟨Decidable.not_not.mp (fun q => c_1 ((pf_inE _ _ _).mpr q)), Decidable.not_not.mp (fun q => c_2 ((pf_inE _ _ _).mpr q))⟩) dX1_startsRun_26

abbrev rm_X2_size : Room := { frames := 0, cells := 0, slots := 0, locals := 0 }
set_option maxRecDepth 100000 in
set_option maxHeartbeats 4000000 in
theorem c_X2_size (l : Launch) (x : Int32) : SMi l yX2_size wsX2_size rm_X2_size [.int x] (pf_sz x) := by
  refine sm_open (maxL := 1) (by decide) rfl (Nat.le_of_ble_eq_true rfl) ?_
  intro p e s m args below meth c Q H locs hx hb hml hts hown hret ls hl
  have hown : s.vm.findClass RX2 = some m.cls := hown
  have hl : lv_has ls 1 [(0, .int x)] := hl
  refine lv_iload_n hx hb dX2_size_0 rfl (lv_at hl 0 rfl) ?_
  refine lv_if_ge (tgt := 9) hx hb dX2_size_1 (by decide) (fun c_1 => ?_) (fun c_1 => ?_)
  · have c_1 : 0 ≤ x := c_1
    refine lv_iload_n hx hb dX2_size_9 rfl (lv_at hl 0 rfl) ?_
    exact hret _ _ _ (by rw [pf_sz, if_neg (Int32.not_lt.mpr c_1)]) dX2_size_10
  · have c_1 : ¬ 0 ≤ x := c_1
    refine lv_iload_n hx hb dX2_size_4 rfl (lv_at hl 0 rfl) ?_
    refine lv_ineg hx hb dX2_size_5 ?_
    refine lv_goto (tgt := 10) hx hb dX2_size_6 (by decide) ?_
    exact hret _ _ _ (by rw [pf_sz, if_pos (Int32.not_le.mp c_1)]) dX2_size_10

abbrev rm_X2_within : Room := { frames := 0, cells := 0, slots := 0, locals := 0 }
set_option maxRecDepth 100000 in
set_option maxHeartbeats 4000000 in
theorem c_X2_within (l : Launch) (v a b : Int32) : SMi l yX2_within wsX2_within rm_X2_within [.int v, .int a, .int b] (pf_cl v a b) := by
  refine sm_open (maxL := 3) (by decide) rfl (Nat.le_of_ble_eq_true rfl) ?_
  intro p e s m args below meth c Q H locs hx hb hml hts hown hret ls hl
  have hown : s.vm.findClass RX2 = some m.cls := hown
  have hl : lv_has ls 3 [(0, .int v), (1, .int a), (2, .int b)] := hl
  refine lv_iload_n hx hb dX2_within_0 rfl (lv_at hl 0 rfl) ?_
  refine lv_iload_n hx hb dX2_within_1 rfl (lv_at hl 1 rfl) ?_
  refine lv_icmp_ge (tgt := 9) hx hb dX2_within_2 (by decide) (fun c_1 => ?_) (fun c_1 => ?_)
  · have c_1 : a ≤ v := c_1
    refine lv_iload_n hx hb dX2_within_9 rfl (lv_at hl 0 rfl) ?_
    refine lv_iload_n hx hb dX2_within_10 rfl (lv_at hl 2 rfl) ?_
    refine lv_icmp_le (tgt := 18) hx hb dX2_within_11 (by decide) (fun c_2 => ?_) (fun c_2 => ?_)
    · have c_2 : v ≤ b := c_2
      refine lv_iload_n hx hb dX2_within_18 rfl (lv_at hl 0 rfl) ?_
      exact hret _ _ _ (by rw [pf_cl, if_neg (Int32.not_lt.mpr c_1), if_neg (Int32.not_lt.mpr c_2)]) dX2_within_19
    · have c_2 : ¬ v ≤ b := c_2
      refine lv_iload_n hx hb dX2_within_14 rfl (lv_at hl 2 rfl) ?_
      refine lv_goto (tgt := 19) hx hb dX2_within_15 (by decide) ?_
      exact hret _ _ _ (by rw [pf_cl, if_neg (Int32.not_lt.mpr c_1), if_pos (Int32.not_le.mp c_2)]) dX2_within_19
  · have c_1 : ¬ a ≤ v := c_1
    refine lv_iload_n hx hb dX2_within_5 rfl (lv_at hl 1 rfl) ?_
    refine lv_goto (tgt := 19) hx hb dX2_within_6 (by decide) ?_
    exact hret _ _ _ (by rw [pf_cl, if_pos (Int32.not_le.mp c_1)]) dX2_within_19

abbrev rm_X1_greatestDivisor : Room := { frames := 0, cells := 0, slots := 0, locals := 0 }
set_option maxRecDepth 100000 in
set_option maxHeartbeats 4000000 in
theorem c_X1_greatestDivisor (l : Launch) (a b : Int32) : SMi l yX1_greatestDivisor wsX1_greatestDivisor rm_X1_greatestDivisor [.int a, .int b] (pf_gd 64 a b) := by
  refine sm_open (maxL := 6) (by decide) rfl (Nat.le_of_ble_eq_true rfl) ?_
  intro p e s m args below meth c Q H locs hx hb hml hts hown hret ls hl
  have hown : s.vm.findClass RX1 = some m.cls := hown
  have hl : lv_has ls 6 [(0, .int a), (1, .int b)] := hl
  refine lv_iload_n hx hb dX1_greatestDivisor_0 rfl (lv_at hl 0 rfl) ?_
  refine lv_istore_n (lv' := [(2, .int a), (0, .int a), (1, .int b)]) hx hb dX1_greatestDivisor_1 rfl hl (by decide) rfl (fun ls hl => ?_)
  refine lv_iload_n hx hb dX1_greatestDivisor_2 rfl (lv_at hl 2 rfl) ?_
  refine lv_istore_n (lv' := [(3, .int b), (2, .int a), (0, .int a), (1, .int b)]) hx hb dX1_greatestDivisor_3 rfl hl (by decide) rfl (fun ls hl => ?_)
  refine lv_iconst (v := 0) hx hb dX1_greatestDivisor_4 (by decide) ?_
  refine lv_istore (lv' := [(4, .int 0), (3, .int b), (2, .int a), (0, .int a), (1, .int b)]) hx hb dX1_greatestDivisor_5 hl (by decide) rfl (fun ls hl => ?_)
  have loop : ∀ (n : Nat) (k : Nat) (x y : Int32) (hk : k + n = 64) (hg : pf_gd n x y = pf_gd 64 a b), ∀ ls : Array Slot, lv_has ls 6 [(4, .int (nI k)), (3, .int y), (2, .int x), (1, .int b), (0, .int a)] → W p l e rm_X1_greatestDivisor s m args below meth c H locs 0 0 Q (F0 m 7 ls []) := by
    intro n
    induction n with
    | zero =>
      intro k x y hk hg ls hl
      obtain rfl : k = 64 := by omega
      refine lv_iload hx hb dX1_greatestDivisor_7 (lv_at hl 0 rfl) ?_
      refine lv_bipush (v := 64) hx hb dX1_greatestDivisor_9 (by decide) ?_
      refine lv_icmp_ge (tgt := 34) hx hb dX1_greatestDivisor_11 (by decide) (fun c_1 => ?_) (fun c_1 => absurd (by decide) c_1)
      refine lv_iload_n hx hb dX1_greatestDivisor_34 rfl (lv_at hl 2 rfl) ?_
      exact hret _ _ _ hg dX1_greatestDivisor_35
    | succ n ih =>
      intro k x y hk hg ls hl
      refine lv_iload hx hb dX1_greatestDivisor_7 (lv_at hl 0 rfl) ?_
      refine lv_bipush (v := 64) hx hb dX1_greatestDivisor_9 (by decide) ?_
      refine lv_icmp_ge (tgt := 34) hx hb dX1_greatestDivisor_11 (by decide) (fun c_2 => absurd c_2 (nI_ge (a := k) (b := 64) (by omega) (by decide))) (fun c_2 => ?_)
      refine lv_iload_n hx hb dX1_greatestDivisor_14 rfl (lv_at hl 1 rfl) ?_
      refine lv_if_eq (tgt := 34) hx hb dX1_greatestDivisor_15 (by decide) (fun c_3 => ?_) (fun c_3 => ?_)
      · have c_3 : y = 0 := c_3
        refine lv_iload_n hx hb dX1_greatestDivisor_34 rfl (lv_at hl 2 rfl) ?_
        rw [pf_gd, if_pos c_3] at hg
        exact hret _ _ _ hg dX1_greatestDivisor_35
      · have c_3 : ¬ y = 0 := c_3
        refine lv_iload_n hx hb dX1_greatestDivisor_18 rfl (lv_at hl 2 rfl) ?_
        refine lv_iload_n hx hb dX1_greatestDivisor_19 rfl (lv_at hl 1 rfl) ?_
        refine lv_irem hx hb dX1_greatestDivisor_20 c_3 ?_
        refine lv_istore (lv' := [(5, .int (pf_rm x y)), (4, .int (nI k)), (3, .int y), (2, .int x), (1, .int b), (0, .int a)]) hx hb dX1_greatestDivisor_21 hl (by decide) rfl (fun ls hl => ?_)
        refine lv_iload_n hx hb dX1_greatestDivisor_23 rfl (lv_at hl 2 rfl) ?_
        refine lv_istore_n (lv' := [(2, .int y), (5, .int (pf_rm x y)), (4, .int (nI k)), (3, .int y), (1, .int b), (0, .int a)]) hx hb dX1_greatestDivisor_24 rfl hl (by decide) rfl (fun ls hl => ?_)
        refine lv_iload hx hb dX1_greatestDivisor_25 (lv_at hl 1 rfl) ?_
        refine lv_istore_n (lv' := [(3, .int (pf_rm x y)), (2, .int y), (5, .int (pf_rm x y)), (4, .int (nI k)), (1, .int b), (0, .int a)]) hx hb dX1_greatestDivisor_27 rfl hl (by decide) rfl (fun ls hl => ?_)
        refine lv_iinc (v := nI (k + 1)) (lv' := [(4, .int (nI (k + 1))), (3, .int (pf_rm x y)), (2, .int y), (5, .int (pf_rm x y)), (1, .int b), (0, .int a)]) hx hb dX1_greatestDivisor_28 hl (k := 3) rfl (nI_1 k) (by decide) rfl (fun ls hl => ?_)
        refine lv_goto (tgt := 7) hx hb dX1_greatestDivisor_31 (by decide) ?_
        rw [pf_gd, if_neg c_3] at hg
        exact ih (k + 1) _ _ (by omega) hg ls (lv_sub hl [0, 1, 2, 4, 5] rfl)
  exact loop 64 0 a b rfl rfl ls (lv_sub hl [0, 1, 2, 4, 3] rfl)
end
section
/-! what the methods of Line work out -/
def pf_mxs (f : Fn) : Nat → Int32
  | 0 => 0
  | n + 1 => pf_mx (pf_mxs f n) (pf_ab (f n))
def pf_ft (P : Nat → Bool) : Nat → Nat → Nat
  | 0, _ => 0
  | n + 1, p => if P p = true then p else pf_ft P n (p + 1)
def pf_b (b : Bool) : Int32 := if b = true then 1 else 0
theorem pf_b_z (b : Bool) : narrow .boolean (.int (pf_b b)) = .int (pf_b b) := by cases b <;> rfl
theorem pf_b0 {b : Bool} : pf_b b = 0 ↔ b = false := by cases b <;> decide
abbrev up8 (st : St) (k : Nat) (v : Int32) : St := va_up st 8 (upd (st 8) k v)
def lf_tf (st : St) (far : Int32) : St := va_up (up8 st 0 (st 8 0 + 1)) 3 (upd (st 3) ((st 8 0 + 1) &&& 63).toNatClampNeg far)
def lf_echo (st : St) : Int32 := l_sum (fun k => st 2 (nI k).toNatClampNeg * fa st (nI k + st 2 8)) 8 / 1024
def lf_est (st : St) : Int32 := l_sum (fun k => st 1 (nI k).toNatClampNeg * fa st (nI k + st 0 4)) 8 / 1024
def lf_loud (st : St) : Int32 := pf_mxs (fun i => fa st (nI i)) 24
def lf_hold (st : St) (t : Int32) : St := if t = 0 then (if st 8 1 ≤ 0 then st else up8 st 1 (st 8 1 - 1)) else up8 st 1 (st 0 1)
def lf_sil (st : St) : Bool := pf_al (fun i => decide (fa st (nI i) = 0)) 16
def lf_rep (st : St) (p : Nat) : Bool := pf_al (fun i => decide (fa st (nI i) = fa st (nI i + nI p))) (16 - p)
def lf_tone (st : St) : Nat := if lf_sil st = true then 0 else pf_ft (lf_rep st) 8 1
def lf_pow (st : St) : Int32 := l_sum (fun k => fa st (nI k + st 0 4) * fa st (nI k + st 0 4)) 8
def lf_ln (st : St) (left power : Int32) : Nat → Fn
  | 0 => st 1
  | k + 1 => upd (lf_ln st left power k) (nI k).toNatClampNeg (pf_mxl (-4096) (pf_mnl 4095 ((lf_ln st left power k (nI k).toNatClampNeg).toInt64 + ((st 0 0).toInt64 * left.toInt64) * (fa st (nI k + st 0 4)).toInt64 / power.toInt64))).toInt32
def lf_learn (st : St) (left power : Int32) : St := if 0 < power then va_up st 1 (lf_ln st left power 8) else st
def lf_sor (st : St) (left : Int32) : Int32 := if pf_ab left < st 0 2 then pf_ce (pf_nx (st 8 2)) (st 0 3) else pf_lm left (-2000) 2000
def lf_sos (st : St) (left : Int32) : St := if pf_ab left < st 0 2 then up8 st 2 (pf_nx (st 8 2)) else st
def lf_like (st : St) (d : Int32) : Int32 := l_sum (fun i => na st (nI i) * fa st (nI i + d)) 24
def lf_zr (f : Fn) : Nat → Fn
  | 0 => f
  | k + 1 => upd (lf_zr f k) (nI k).toNatClampNeg 0
def lf_anew (st : St) (d : Int32) : St := va_up (va_up st 0 (upd (st 0) 4 d)) 1 (lf_zr (st 1) 8)
def lf_nsq (st : St) : Int32 := l_sum (fun i => na st (nI i) * na st (nI i)) 32
def lf_osq (st : St) : Int32 := l_sum (fun i => oa st (nI i) * oa st (nI i)) 32
def lf_ba (st : St) (t mk : Int32) : Bool := decide (¬ (st 6 (t &&& 255).toNatClampNeg &&& mk) = 0 ∧ (st 6 ((t - 1) &&& 255).toNatClampNeg &&& mk) = 0)
def lf_bg (st : St) (i mk : Int32) : Nat → Int32 → Int32
  | 0, f => if i = -1 then f else -6
  | n + 1, f => if nI n < st 8 0 ∧ lf_ba st (st 8 0 - nI n) mk = true then (if f = i then st 8 0 - nI n else lf_bg st i mk n (f + 1)) else lf_bg st i mk n f
def lf_tsz (st : St) : Int32 := l_sum (fun k => pf_ab (st 1 (nI k).toNatClampNeg)) 8
theorem pf_al_f {P : Nat → Bool} {k n : Nat} (h : k < n) (hk : P k = false) : pf_al P n = false := by
  induction n with
  | zero => omega
  | succ n ih =>
    rw [pf_al]
    by_cases e : k = n
    · subst e; rw [hk, Bool.and_false]
    · rw [ih (by omega), Bool.false_and]
theorem pf_bn {b : Bool} (h : ¬ pf_b b = 0) : b = true := by cases b <;> first | rfl | exact absurd rfl h
theorem pf_l0 {x : Int32} (h : 0 < x) : ¬ x.toInt64 = 0 := by
  intro q
  have h1 : x.toInt64.toInt = 0 := by rw [q]; rfl
  rw [Int32.toInt_toInt64] at h1
  have h2 := Int32.lt_iff_toInt_lt.mp h
  rw [h1] at h2
  exact absurd h2 (by decide)
abbrev rm_X0_farAgo : Room := { frames := 0, cells := 0, slots := 0, locals := 0 }
theorem iw_X0_farAgo_X0 : ∀ w ∈ wsX00, w ∈ wsX0_farAgo := by decide +kernel
set_option maxRecDepth 100000 in
set_option maxHeartbeats 4000000 in
theorem c_X0_farAgo (l : Launch) (D : va_G) (cA cZ cR : ClassId) (h : Nat) (as : Nat → Nat) (st : St) (i : Int32) : BMi l D cA cZ cR yX0_farAgo wsX0_farAgo rm_X0_farAgo [.ref h, .int i] (LW cA h as st) (LW cA h as st) (fa st i) := by
  refine bm_open (maxL := 2) (by decide) rfl rfl rfl (Nat.le_of_ble_eq_true rfl) ?_
  intro p e s m args below meth c A Q hx hb hml hts hown hE hP hD hA hS hret ls hl
  have hown : s.vm.findClass RX0 = some m.cls := hown
  have hl : lv_has ls 2 [(0, .ref h), (1, .int i)] := hl
  obtain ⟨H, locs, eH, eL⟩ : ∃ (H : Heap) (locs : List Loc), H = s.heap ∧ locs = [] := ⟨_, _, rfl, rfl⟩
  rw [← eH, ← eL]
  rw [← eH] at hP
  have hS : va_S A s.heap H locs := by rw [eH, eL]; exact hS
  clear eH eL
  refine lv_aload_n hx hb dX0_farAgo_0 rfl (lv_at hl 0 rfl) ?_
  refine va_get (D := D) (ci := 0) (v := .ref (as 3)) (C := RX0) (T := TX0) (N := 11) hx hb hts iw_X0_farAgo_X0 hown hE.1 hP 0 rfl rfl 3 (by decide) (hts (.fieldLink RX0 29 "EchoTaps$Line" "fars" "[I") (by decide +kernel)) (fun _ h9 => h9) rfl dX0_farAgo_1 ?_
  refine lv_aload_n hx hb dX0_farAgo_4 rfl (lv_at hl 0 rfl) ?_
  refine va_get (D := D) (ci := 0) (v := .int (st 8 0)) (C := RX0) (T := TX0) (N := 11) hx hb hts iw_X0_farAgo_X0 hown hE.1 hP 0 rfl rfl 8 (by decide) (hts (.fieldLink RX0 50 "EchoTaps$Line" "ticks" "I") (by decide +kernel)) (fun _ h9 => h9) rfl dX0_farAgo_5 ?_
  refine lv_iload_n hx hb dX0_farAgo_8 rfl (lv_at hl 1 rfl) ?_
  refine lv_isub hx hb dX0_farAgo_9 ?_
  refine lv_bipush (v := 63) hx hb dX0_farAgo_10 (by decide) ?_
  refine lv_iand hx hb dX0_farAgo_12 ?_
  refine va_iald hx hb hE.1 hP 4 0 rfl rfl (in63 _) dX0_farAgo_13 ?_
  exact hret _ _ _ _ _ hP rfl hS dX0_farAgo_14

abbrev rm_X0_nearAgo : Room := { frames := 0, cells := 0, slots := 0, locals := 0 }
theorem iw_X0_nearAgo_X0 : ∀ w ∈ wsX00, w ∈ wsX0_nearAgo := by decide +kernel
set_option maxRecDepth 100000 in
set_option maxHeartbeats 4000000 in
theorem c_X0_nearAgo (l : Launch) (D : va_G) (cA cZ cR : ClassId) (h : Nat) (as : Nat → Nat) (st : St) (i : Int32) : BMi l D cA cZ cR yX0_nearAgo wsX0_nearAgo rm_X0_nearAgo [.ref h, .int i] (LW cA h as st) (LW cA h as st) (na st i) := by
  refine bm_open (maxL := 2) (by decide) rfl rfl rfl (Nat.le_of_ble_eq_true rfl) ?_
  intro p e s m args below meth c A Q hx hb hml hts hown hE hP hD hA hS hret ls hl
  have hown : s.vm.findClass RX0 = some m.cls := hown
  have hl : lv_has ls 2 [(0, .ref h), (1, .int i)] := hl
  obtain ⟨H, locs, eH, eL⟩ : ∃ (H : Heap) (locs : List Loc), H = s.heap ∧ locs = [] := ⟨_, _, rfl, rfl⟩
  rw [← eH, ← eL]
  rw [← eH] at hP
  have hS : va_S A s.heap H locs := by rw [eH, eL]; exact hS
  clear eH eL
  refine lv_aload_n hx hb dX0_nearAgo_0 rfl (lv_at hl 0 rfl) ?_
  refine va_get (D := D) (ci := 0) (v := .ref (as 4)) (C := RX0) (T := TX0) (N := 11) hx hb hts iw_X0_nearAgo_X0 hown hE.1 hP 0 rfl rfl 4 (by decide) (hts (.fieldLink RX0 32 "EchoTaps$Line" "nears" "[I") (by decide +kernel)) (fun _ h9 => h9) rfl dX0_nearAgo_1 ?_
  refine lv_aload_n hx hb dX0_nearAgo_4 rfl (lv_at hl 0 rfl) ?_
  refine va_get (D := D) (ci := 0) (v := .int (st 8 0)) (C := RX0) (T := TX0) (N := 11) hx hb hts iw_X0_nearAgo_X0 hown hE.1 hP 0 rfl rfl 8 (by decide) (hts (.fieldLink RX0 50 "EchoTaps$Line" "ticks" "I") (by decide +kernel)) (fun _ h9 => h9) rfl dX0_nearAgo_5 ?_
  refine lv_iload_n hx hb dX0_nearAgo_8 rfl (lv_at hl 1 rfl) ?_
  refine lv_isub hx hb dX0_nearAgo_9 ?_
  refine lv_bipush (v := 63) hx hb dX0_nearAgo_10 (by decide) ?_
  refine lv_iand hx hb dX0_nearAgo_12 ?_
  refine va_iald hx hb hE.1 hP 5 0 rfl rfl (in63 _) dX0_nearAgo_13 ?_
  exact hret _ _ _ _ _ hP rfl hS dX0_nearAgo_14

abbrev rm_X0_outAgo : Room := { frames := 0, cells := 0, slots := 0, locals := 0 }
theorem iw_X0_outAgo_X0 : ∀ w ∈ wsX00, w ∈ wsX0_outAgo := by decide +kernel
set_option maxRecDepth 100000 in
set_option maxHeartbeats 4000000 in
theorem c_X0_outAgo (l : Launch) (D : va_G) (cA cZ cR : ClassId) (h : Nat) (as : Nat → Nat) (st : St) (i : Int32) : BMi l D cA cZ cR yX0_outAgo wsX0_outAgo rm_X0_outAgo [.ref h, .int i] (LW cA h as st) (LW cA h as st) (oa st i) := by
  refine bm_open (maxL := 2) (by decide) rfl rfl rfl (Nat.le_of_ble_eq_true rfl) ?_
  intro p e s m args below meth c A Q hx hb hml hts hown hE hP hD hA hS hret ls hl
  have hown : s.vm.findClass RX0 = some m.cls := hown
  have hl : lv_has ls 2 [(0, .ref h), (1, .int i)] := hl
  obtain ⟨H, locs, eH, eL⟩ : ∃ (H : Heap) (locs : List Loc), H = s.heap ∧ locs = [] := ⟨_, _, rfl, rfl⟩
  rw [← eH, ← eL]
  rw [← eH] at hP
  have hS : va_S A s.heap H locs := by rw [eH, eL]; exact hS
  clear eH eL
  refine lv_aload_n hx hb dX0_outAgo_0 rfl (lv_at hl 0 rfl) ?_
  refine va_get (D := D) (ci := 0) (v := .ref (as 5)) (C := RX0) (T := TX0) (N := 11) hx hb hts iw_X0_outAgo_X0 hown hE.1 hP 0 rfl rfl 5 (by decide) (hts (.fieldLink RX0 35 "EchoTaps$Line" "outs" "[I") (by decide +kernel)) (fun _ h9 => h9) rfl dX0_outAgo_1 ?_
  refine lv_aload_n hx hb dX0_outAgo_4 rfl (lv_at hl 0 rfl) ?_
  refine va_get (D := D) (ci := 0) (v := .int (st 8 0)) (C := RX0) (T := TX0) (N := 11) hx hb hts iw_X0_outAgo_X0 hown hE.1 hP 0 rfl rfl 8 (by decide) (hts (.fieldLink RX0 50 "EchoTaps$Line" "ticks" "I") (by decide +kernel)) (fun _ h9 => h9) rfl dX0_outAgo_5 ?_
  refine lv_iload_n hx hb dX0_outAgo_8 rfl (lv_at hl 1 rfl) ?_
  refine lv_isub hx hb dX0_outAgo_9 ?_
  refine lv_bipush (v := 63) hx hb dX0_outAgo_10 (by decide) ?_
  refine lv_iand hx hb dX0_outAgo_12 ?_
  refine va_iald hx hb hE.1 hP 6 0 rfl rfl (in63 _) dX0_outAgo_13 ?_
  exact hret _ _ _ _ _ hP rfl hS dX0_outAgo_14

abbrev rm_X0_seenBy : Room := { frames := 1, cells := 0, slots := 0, locals := 21 }
theorem iw_X0_seenBy_X0 : ∀ w ∈ wsX00, w ∈ wsX0_seenBy := by decide +kernel
set_option maxRecDepth 100000 in
set_option maxHeartbeats 4000000 in
theorem c_X0_seenBy (l : Launch) (D : va_G) (cA cZ cR : ClassId) (h : Nat) (as : Nat → Nat) (st : St) (k : Int32) : BMi l D cA cZ cR yX0_seenBy wsX0_seenBy rm_X0_seenBy [.ref h, .int k] (LW cA h as st) (LW cA h as st) (fa st (k + st 0 4)) := by
  refine bm_open (maxL := 2) (by decide) rfl rfl rfl (Nat.le_of_ble_eq_true rfl) ?_
  intro p e s m args below meth c A Q hx hb hml hts hown hE hP hD hA hS hret ls hl
  have hown : s.vm.findClass RX0 = some m.cls := hown
  have hl : lv_has ls 2 [(0, .ref h), (1, .int k)] := hl
  obtain ⟨H, locs, eH, eL⟩ : ∃ (H : Heap) (locs : List Loc), H = s.heap ∧ locs = [] := ⟨_, _, rfl, rfl⟩
  rw [← eH, ← eL]
  rw [← eH] at hP
  have hS : va_S A s.heap H locs := by rw [eH, eL]; exact hS
  clear eH eL
  refine lv_aload_n hx hb dX0_seenBy_0 rfl (lv_at hl 0 rfl) ?_
  refine lv_iload_n hx hb dX0_seenBy_1 rfl (lv_at hl 1 rfl) ?_
  refine lv_aload_n hx hb dX0_seenBy_2 rfl (lv_at hl 0 rfl) ?_
  refine va_get (D := D) (ci := 0) (v := .ref (as 0)) (C := RX0) (T := TX0) (N := 11) hx hb hts iw_X0_seenBy_X0 hown hE.1 hP 0 rfl rfl 0 (by decide) (hts (.fieldLink RX0 18 "EchoTaps$Line" "rules" "[I") (by decide +kernel)) (fun _ h9 => h9) rfl dX0_seenBy_3 ?_
  refine lv_iconst (v := 4) hx hb dX0_seenBy_6 (by decide) ?_
  refine va_iald hx hb hE.1 hP 1 0 rfl rfl (vp_in_nI (n := 4) (N := 5) (by decide) (by decide)) dX0_seenBy_7 ?_
  refine lv_iadd hx hb dX0_seenBy_8 ?_
  refine bm_i [] (LW cA h as st) [] [.int (k + ((st 0) 4))] [] ⟨hx, hb, hml, hown, hts⟩ (c_X0_farAgo l D cA cZ cR h as st (k + ((st 0) 4))) (cwV 1 hts gX0_seenBy_X0_farAgo rfl rfl rfl (by decide +kernel) ⟨Nat.le_of_ble_eq_true rfl, Nat.le_of_ble_eq_true rfl⟩) hE hP hD hS hA LW_adr 0 0 rfl rfl rfl hl.1 rfl (Nat.le_of_ble_eq_true rfl) dX0_seenBy_9 ⟨Nat.zero_le _, Nat.zero_le _⟩ (fun H locs hP hD hS => ?_)
  have hP : va_P D vwCl (LW cA h as st) H := hP
  have hD : va_D A (LW cA h as st) := hD
  exact hret _ _ _ _ _ hP rfl hS dX0_seenBy_12

abbrev rm_X0_takeFar : Room := { frames := 0, cells := 0, slots := 0, locals := 0 }
theorem iw_X0_takeFar_X0 : ∀ w ∈ wsX00, w ∈ wsX0_takeFar := by decide +kernel
set_option maxRecDepth 100000 in
set_option maxHeartbeats 4000000 in
theorem c_X0_takeFar (l : Launch) (D : va_G) (cA cZ cR : ClassId) (h : Nat) (as : Nat → Nat) (st : St) (far : Int32) : BMv l D cA cZ cR yX0_takeFar wsX0_takeFar rm_X0_takeFar [.ref h, .int far] (LW cA h as st) (LW cA h as (lf_tf st far)) := by
  refine bm_openV (maxL := 2) (by decide) rfl rfl rfl (Nat.le_of_ble_eq_true rfl) ?_
  intro p e s m args below meth c A Q hx hb hml hts hown hE hP hD hA hS hret ls hl
  have hown : s.vm.findClass RX0 = some m.cls := hown
  have hl : lv_has ls 2 [(0, .ref h), (1, .int far)] := hl
  obtain ⟨H, locs, eH, eL⟩ : ∃ (H : Heap) (locs : List Loc), H = s.heap ∧ locs = [] := ⟨_, _, rfl, rfl⟩
  rw [← eH, ← eL]
  rw [← eH] at hP
  have hS : va_S A s.heap H locs := by rw [eH, eL]; exact hS
  clear eH eL
  refine lv_aload_n hx hb dX0_takeFar_0 rfl (lv_at hl 0 rfl) ?_
  refine lv_dup hx hb dX0_takeFar_1 rfl ?_
  refine va_get (D := D) (ci := 0) (v := .int (st 8 0)) (C := RX0) (T := TX0) (N := 11) hx hb hts iw_X0_takeFar_X0 hown hE.1 hP 0 rfl rfl 8 (by decide) (hts (.fieldLink RX0 50 "EchoTaps$Line" "ticks" "I") (by decide +kernel)) (fun _ h9 => h9) rfl dX0_takeFar_2 ?_
  refine lv_iconst (v := 1) hx hb dX0_takeFar_5 (by decide) ?_
  refine lv_iadd hx hb dX0_takeFar_6 ?_
  refine va_put (D := D) (ci := 0) (v := .int ((st 8 0) + 1)) (ty := .int) (C := RX0) (T := TX0) (N := 11) hx hb hts iw_X0_takeFar_X0 tyX0 tyX0_ok nmX0 hown hE.1 hP hD hS 0 rfl rfl 8 (by decide) (hts (.fieldLink RX0 50 "EchoTaps$Line" "ticks" "I") (by decide +kernel)) (fun _ h9 => h9) rfl (by decide +kernel) rfl rfl (Nat.le_of_ble_eq_true rfl) dX0_takeFar_7 (fun H locs hP hD hS => ?_)
  have hP : va_P D vwCl (LW cA h as (va_up st 8 (upd (st 8) 0 ((st 8 0) + 1)))) H := hP
  have hD : va_D A (LW cA h as (va_up st 8 (upd (st 8) 0 ((st 8 0) + 1)))) := hD
  refine lv_aload_n hx hb dX0_takeFar_10 rfl (lv_at hl 0 rfl) ?_
  refine va_get (D := D) (ci := 0) (v := .ref (as 3)) (C := RX0) (T := TX0) (N := 11) hx hb hts iw_X0_takeFar_X0 hown hE.1 hP 0 rfl rfl 3 (by decide) (hts (.fieldLink RX0 29 "EchoTaps$Line" "fars" "[I") (by decide +kernel)) (fun _ h9 => h9) rfl dX0_takeFar_11 ?_
  refine lv_aload_n hx hb dX0_takeFar_14 rfl (lv_at hl 0 rfl) ?_
  refine va_get (D := D) (ci := 0) (v := .int ((va_up st 8 (upd (st 8) 0 ((st 8 0) + 1))) 8 0)) (C := RX0) (T := TX0) (N := 11) hx hb hts iw_X0_takeFar_X0 hown hE.1 hP 0 rfl rfl 8 (by decide) (hts (.fieldLink RX0 50 "EchoTaps$Line" "ticks" "I") (by decide +kernel)) (fun _ h9 => h9) rfl dX0_takeFar_15 ?_
  refine lv_bipush (v := 63) hx hb dX0_takeFar_18 (by decide) ?_
  refine lv_iand hx hb dX0_takeFar_20 ?_
  refine lv_iload_n hx hb dX0_takeFar_21 rfl (lv_at hl 1 rfl) ?_
  refine va_iast hx hb hE.1 hP hD hS 4 0 rfl rfl (in63 _) dX0_takeFar_22 (fun H locs hP hD hS => ?_)
  have hP : va_P D vwCl (LW cA h as (va_up (va_up st 8 (upd (st 8) 0 ((st 8 0) + 1))) 3 (upd ((va_up st 8 (upd (st 8) 0 ((st 8 0) + 1))) 3) (((va_up st 8 (upd (st 8) 0 ((st 8 0) + 1))) 8 0) &&& 63).toNatClampNeg far))) H := hP
  have hD : va_D A (LW cA h as (va_up (va_up st 8 (upd (st 8) 0 ((st 8 0) + 1))) 3 (upd ((va_up st 8 (upd (st 8) 0 ((st 8 0) + 1))) 3) (((va_up st 8 (upd (st 8) 0 ((st 8 0) + 1))) 8 0) &&& 63).toNatClampNeg far))) := hD
  exact hret _ _ _ _ hP hS dX0_takeFar_23

abbrev rm_X0_echo : Room := { frames := 1, cells := 0, slots := 0, locals := 21 }
theorem iw_X0_echo_X0 : ∀ w ∈ wsX00, w ∈ wsX0_echo := by decide +kernel
set_option maxRecDepth 100000 in
set_option maxHeartbeats 4000000 in
theorem c_X0_echo (l : Launch) (D : va_G) (cA cZ cR : ClassId) (h : Nat) (as : Nat → Nat) (st : St) : BMi l D cA cZ cR yX0_echo wsX0_echo rm_X0_echo [.ref h] (LW cA h as st) (LW cA h as st) (lf_echo st) := by
  refine bm_open (maxL := 3) (by decide) rfl rfl rfl (Nat.le_of_ble_eq_true rfl) ?_
  intro p e s m args below meth c A Q hx hb hml hts hown hE hP hD hA hS hret ls hl
  have hown : s.vm.findClass RX0 = some m.cls := hown
  have hl : lv_has ls 3 [(0, .ref h)] := hl
  obtain ⟨H, locs, eH, eL⟩ : ∃ (H : Heap) (locs : List Loc), H = s.heap ∧ locs = [] := ⟨_, _, rfl, rfl⟩
  rw [← eH, ← eL]
  rw [← eH] at hP
  have hS : va_S A s.heap H locs := by rw [eH, eL]; exact hS
  clear eH eL
  refine lv_iconst (v := 0) hx hb dX0_echo_0 (by decide) ?_
  refine lv_istore_n (lv' := [(1, .int 0), (0, .ref h)]) hx hb dX0_echo_1 rfl hl (by decide) rfl (fun ls hl => ?_)
  refine lv_iconst (v := 0) hx hb dX0_echo_2 (by decide) ?_
  refine lv_istore_n (lv' := [(2, .int 0), (1, .int 0), (0, .ref h)]) hx hb dX0_echo_3 rfl hl (by decide) rfl (fun ls hl => ?_)
  have loop : ∀ (n : Nat) (k : Nat) (a : Int32) (hk : k + n = 8) (ha : a = l_sum (fun k => st 2 (nI k).toNatClampNeg * fa st (nI k + st 2 8)) k), ∀ (H : Heap) (locs : List Loc), va_P D vwCl (LW cA h as st) H → va_D A (LW cA h as st) → va_S A s.heap H locs → ∀ ls : Array Slot, lv_has ls 3 [(1, .int a), (2, .int (nI k)), (0, .ref h)] → W p l e rm_X0_echo s m args below meth c H locs 0 0 Q (F0 m 4 ls []) := by
    intro n
    induction n with
    | zero =>
      intro k a hk ha H locs hP hD hS ls hl
      obtain rfl : k = 8 := by omega
      refine lv_iload_n hx hb dX0_echo_4 rfl (lv_at hl 1 rfl) ?_
      refine lv_bipush (v := 8) hx hb dX0_echo_5 (by decide) ?_
      refine lv_icmp_ge (tgt := 39) hx hb dX0_echo_7 (by decide) (fun c_1 => ?_) (fun c_1 => absurd (by decide) c_1)
      refine lv_iload_n hx hb dX0_echo_39 rfl (lv_at hl 0 rfl) ?_
      refine lv_sipush (v := 1024) hx hb dX0_echo_40 (by decide) ?_
      refine lv_idiv hx hb dX0_echo_43 (by decide) ?_
      exact hret _ _ _ _ _ hP (by rw [ha]; rfl) hS dX0_echo_44
    | succ n ih =>
      intro k a hk ha H locs hP hD hS ls hl
      refine lv_iload_n hx hb dX0_echo_4 rfl (lv_at hl 1 rfl) ?_
      refine lv_bipush (v := 8) hx hb dX0_echo_5 (by decide) ?_
      refine lv_icmp_ge (tgt := 39) hx hb dX0_echo_7 (by decide) (fun c_2 => absurd c_2 (nI_ge (a := k) (b := 8) (by omega) (by decide))) (fun c_2 => ?_)
      refine lv_iload_n hx hb dX0_echo_10 rfl (lv_at hl 0 rfl) ?_
      refine lv_aload_n hx hb dX0_echo_11 rfl (lv_at hl 2 rfl) ?_
      refine va_get (D := D) (ci := 0) (v := .ref (as 2)) (C := RX0) (T := TX0) (N := 11) hx hb hts iw_X0_echo_X0 hown hE.1 hP 0 rfl rfl 2 (by decide) (hts (.fieldLink RX0 26 "EchoTaps$Line" "way" "[I") (by decide +kernel)) (fun _ h9 => h9) rfl dX0_echo_12 ?_
      refine lv_iload_n hx hb dX0_echo_15 rfl (lv_at hl 1 rfl) ?_
      refine va_iald hx hb hE.1 hP 3 0 rfl rfl (vp_in_nI (by omega) (by decide)) dX0_echo_16 ?_
      refine lv_aload_n hx hb dX0_echo_17 rfl (lv_at hl 2 rfl) ?_
      refine lv_iload_n hx hb dX0_echo_18 rfl (lv_at hl 1 rfl) ?_
      refine lv_aload_n hx hb dX0_echo_19 rfl (lv_at hl 2 rfl) ?_
      refine va_get (D := D) (ci := 0) (v := .ref (as 2)) (C := RX0) (T := TX0) (N := 11) hx hb hts iw_X0_echo_X0 hown hE.1 hP 0 rfl rfl 2 (by decide) (hts (.fieldLink RX0 26 "EchoTaps$Line" "way" "[I") (by decide +kernel)) (fun _ h9 => h9) rfl dX0_echo_20 ?_
      refine lv_bipush (v := 8) hx hb dX0_echo_23 (by decide) ?_
      refine va_iald hx hb hE.1 hP 3 0 rfl rfl (vp_in_nI (n := 8) (N := 9) (by decide) (by decide)) dX0_echo_25 ?_
      refine lv_iadd hx hb dX0_echo_26 ?_
      refine bm_i [] (LW cA h as st) [] [.int ((nI k) + ((st 2) 8))] [.int ((st 2) (nI k).toNatClampNeg), .int a] ⟨hx, hb, hml, hown, hts⟩ (c_X0_farAgo l D cA cZ cR h as st ((nI k) + ((st 2) 8))) (cwV 1 hts gX0_echo_X0_farAgo rfl rfl rfl (by decide +kernel) ⟨Nat.le_of_ble_eq_true rfl, Nat.le_of_ble_eq_true rfl⟩) hE hP hD hS hA LW_adr 0 0 rfl rfl rfl hl.1 rfl (Nat.le_of_ble_eq_true rfl) dX0_echo_27 ⟨Nat.zero_le _, Nat.zero_le _⟩ (fun H locs hP hD hS => ?_)
      have hP : va_P D vwCl (LW cA h as st) H := hP
      have hD : va_D A (LW cA h as st) := hD
      refine lv_imul hx hb dX0_echo_30 ?_
      refine lv_iadd hx hb dX0_echo_31 ?_
      refine lv_istore_n (lv' := [(1, .int (a + (((st 2) (nI k).toNatClampNeg) * (fa st ((nI k) + ((st 2) 8)))))), (2, .int (nI k)), (0, .ref h)]) hx hb dX0_echo_32 rfl hl (by decide) rfl (fun ls hl => ?_)
      refine lv_iinc (v := nI (k + 1)) (lv' := [(2, .int (nI (k + 1))), (1, .int (a + (((st 2) (nI k).toNatClampNeg) * (fa st ((nI k) + ((st 2) 8)))))), (0, .ref h)]) hx hb dX0_echo_33 hl (k := 1) rfl (nI_1 k) (by decide) rfl (fun ls hl => ?_)
      refine lv_goto (tgt := 4) hx hb dX0_echo_36 (by decide) ?_
      exact ih (k + 1) _ (by omega) (by rw [ha]; rfl) H locs hP hD hS ls (lv_sub hl [1, 0, 2] rfl)
  exact loop 8 0 0 rfl rfl H locs hP hD hS ls (lv_sub hl [1, 0, 2] rfl)

abbrev rm_X0_estimated : Room := { frames := 2, cells := 0, slots := 0, locals := 42 }
theorem iw_X0_estimated_X0 : ∀ w ∈ wsX00, w ∈ wsX0_estimated := by decide +kernel
set_option maxRecDepth 100000 in
set_option maxHeartbeats 4000000 in
theorem c_X0_estimated (l : Launch) (D : va_G) (cA cZ cR : ClassId) (h : Nat) (as : Nat → Nat) (st : St) : BMi l D cA cZ cR yX0_estimated wsX0_estimated rm_X0_estimated [.ref h] (LW cA h as st) (LW cA h as st) (lf_est st) := by
  refine bm_open (maxL := 3) (by decide) rfl rfl rfl (Nat.le_of_ble_eq_true rfl) ?_
  intro p e s m args below meth c A Q hx hb hml hts hown hE hP hD hA hS hret ls hl
  have hown : s.vm.findClass RX0 = some m.cls := hown
  have hl : lv_has ls 3 [(0, .ref h)] := hl
  obtain ⟨H, locs, eH, eL⟩ : ∃ (H : Heap) (locs : List Loc), H = s.heap ∧ locs = [] := ⟨_, _, rfl, rfl⟩
  rw [← eH, ← eL]
  rw [← eH] at hP
  have hS : va_S A s.heap H locs := by rw [eH, eL]; exact hS
  clear eH eL
  refine lv_iconst (v := 0) hx hb dX0_estimated_0 (by decide) ?_
  refine lv_istore_n (lv' := [(1, .int 0), (0, .ref h)]) hx hb dX0_estimated_1 rfl hl (by decide) rfl (fun ls hl => ?_)
  refine lv_iconst (v := 0) hx hb dX0_estimated_2 (by decide) ?_
  refine lv_istore_n (lv' := [(2, .int 0), (1, .int 0), (0, .ref h)]) hx hb dX0_estimated_3 rfl hl (by decide) rfl (fun ls hl => ?_)
  have loop : ∀ (n : Nat) (k : Nat) (a : Int32) (hk : k + n = 8) (ha : a = l_sum (fun k => st 1 (nI k).toNatClampNeg * fa st (nI k + st 0 4)) k), ∀ (H : Heap) (locs : List Loc), va_P D vwCl (LW cA h as st) H → va_D A (LW cA h as st) → va_S A s.heap H locs → ∀ ls : Array Slot, lv_has ls 3 [(1, .int a), (2, .int (nI k)), (0, .ref h)] → W p l e rm_X0_estimated s m args below meth c H locs 0 0 Q (F0 m 4 ls []) := by
    intro n
    induction n with
    | zero =>
      intro k a hk ha H locs hP hD hS ls hl
      obtain rfl : k = 8 := by omega
      refine lv_iload_n hx hb dX0_estimated_4 rfl (lv_at hl 1 rfl) ?_
      refine lv_bipush (v := 8) hx hb dX0_estimated_5 (by decide) ?_
      refine lv_icmp_ge (tgt := 31) hx hb dX0_estimated_7 (by decide) (fun c_1 => ?_) (fun c_1 => absurd (by decide) c_1)
      refine lv_iload_n hx hb dX0_estimated_31 rfl (lv_at hl 0 rfl) ?_
      refine lv_sipush (v := 1024) hx hb dX0_estimated_32 (by decide) ?_
      refine lv_idiv hx hb dX0_estimated_35 (by decide) ?_
      exact hret _ _ _ _ _ hP (by rw [ha]; rfl) hS dX0_estimated_36
    | succ n ih =>
      intro k a hk ha H locs hP hD hS ls hl
      refine lv_iload_n hx hb dX0_estimated_4 rfl (lv_at hl 1 rfl) ?_
      refine lv_bipush (v := 8) hx hb dX0_estimated_5 (by decide) ?_
      refine lv_icmp_ge (tgt := 31) hx hb dX0_estimated_7 (by decide) (fun c_2 => absurd c_2 (nI_ge (a := k) (b := 8) (by omega) (by decide))) (fun c_2 => ?_)
      refine lv_iload_n hx hb dX0_estimated_10 rfl (lv_at hl 0 rfl) ?_
      refine lv_aload_n hx hb dX0_estimated_11 rfl (lv_at hl 2 rfl) ?_
      refine va_get (D := D) (ci := 0) (v := .ref (as 1)) (C := RX0) (T := TX0) (N := 11) hx hb hts iw_X0_estimated_X0 hown hE.1 hP 0 rfl rfl 1 (by decide) (hts (.fieldLink RX0 23 "EchoTaps$Line" "taps" "[I") (by decide +kernel)) (fun _ h9 => h9) rfl dX0_estimated_12 ?_
      refine lv_iload_n hx hb dX0_estimated_15 rfl (lv_at hl 1 rfl) ?_
      refine va_iald hx hb hE.1 hP 2 0 rfl rfl (vp_in_nI (by omega) (by decide)) dX0_estimated_16 ?_
      refine lv_aload_n hx hb dX0_estimated_17 rfl (lv_at hl 2 rfl) ?_
      refine lv_iload_n hx hb dX0_estimated_18 rfl (lv_at hl 1 rfl) ?_
      refine bm_i [] (LW cA h as st) [] [.int (nI k)] [.int ((st 1) (nI k).toNatClampNeg), .int a] ⟨hx, hb, hml, hown, hts⟩ (c_X0_seenBy l D cA cZ cR h as st (nI k)) (cwV 1 hts gX0_estimated_X0_seenBy rfl rfl rfl (by decide +kernel) ⟨Nat.le_of_ble_eq_true rfl, Nat.le_of_ble_eq_true rfl⟩) hE hP hD hS hA LW_adr 0 0 rfl rfl rfl hl.1 rfl (Nat.le_of_ble_eq_true rfl) dX0_estimated_19 ⟨Nat.zero_le _, Nat.zero_le _⟩ (fun H locs hP hD hS => ?_)
      have hP : va_P D vwCl (LW cA h as st) H := hP
      have hD : va_D A (LW cA h as st) := hD
      refine lv_imul hx hb dX0_estimated_22 ?_
      refine lv_iadd hx hb dX0_estimated_23 ?_
      refine lv_istore_n (lv' := [(1, .int (a + (((st 1) (nI k).toNatClampNeg) * (fa st ((nI k) + st 0 4))))), (2, .int (nI k)), (0, .ref h)]) hx hb dX0_estimated_24 rfl hl (by decide) rfl (fun ls hl => ?_)
      refine lv_iinc (v := nI (k + 1)) (lv' := [(2, .int (nI (k + 1))), (1, .int (a + (((st 1) (nI k).toNatClampNeg) * (fa st ((nI k) + st 0 4))))), (0, .ref h)]) hx hb dX0_estimated_25 hl (k := 1) rfl (nI_1 k) (by decide) rfl (fun ls hl => ?_)
      refine lv_goto (tgt := 4) hx hb dX0_estimated_28 (by decide) ?_
      exact ih (k + 1) _ (by omega) (by rw [ha]; rfl) H locs hP hD hS ls (lv_sub hl [1, 0, 2] rfl)
  exact loop 8 0 0 rfl rfl H locs hP hD hS ls (lv_sub hl [1, 0, 2] rfl)

abbrev rm_X0_loudest : Room := { frames := 1, cells := 0, slots := 0, locals := 21 }
set_option maxRecDepth 100000 in
set_option maxHeartbeats 4000000 in
theorem c_X0_loudest (l : Launch) (D : va_G) (cA cZ cR : ClassId) (h : Nat) (as : Nat → Nat) (st : St) : BMi l D cA cZ cR yX0_loudest wsX0_loudest rm_X0_loudest [.ref h] (LW cA h as st) (LW cA h as st) (lf_loud st) := by
  refine bm_open (maxL := 3) (by decide) rfl rfl rfl (Nat.le_of_ble_eq_true rfl) ?_
  intro p e s m args below meth c A Q hx hb hml hts hown hE hP hD hA hS hret ls hl
  have hown : s.vm.findClass RX0 = some m.cls := hown
  have hl : lv_has ls 3 [(0, .ref h)] := hl
  obtain ⟨H, locs, eH, eL⟩ : ∃ (H : Heap) (locs : List Loc), H = s.heap ∧ locs = [] := ⟨_, _, rfl, rfl⟩
  rw [← eH, ← eL]
  rw [← eH] at hP
  have hS : va_S A s.heap H locs := by rw [eH, eL]; exact hS
  clear eH eL
  refine lv_iconst (v := 0) hx hb dX0_loudest_0 (by decide) ?_
  refine lv_istore_n (lv' := [(1, .int 0), (0, .ref h)]) hx hb dX0_loudest_1 rfl hl (by decide) rfl (fun ls hl => ?_)
  refine lv_iconst (v := 0) hx hb dX0_loudest_2 (by decide) ?_
  refine lv_istore_n (lv' := [(2, .int 0), (1, .int 0), (0, .ref h)]) hx hb dX0_loudest_3 rfl hl (by decide) rfl (fun ls hl => ?_)
  have loop : ∀ (n : Nat) (k : Nat) (a : Int32) (hk : k + n = 24) (ha : a = pf_mxs (fun i => fa st (nI i)) k), ∀ (H : Heap) (locs : List Loc), va_P D vwCl (LW cA h as st) H → va_D A (LW cA h as st) → va_S A s.heap H locs → ∀ ls : Array Slot, lv_has ls 3 [(1, .int a), (2, .int (nI k)), (0, .ref h)] → W p l e rm_X0_loudest s m args below meth c H locs 0 0 Q (F0 m 4 ls []) := by
    intro n
    induction n with
    | zero =>
      intro k a hk ha H locs hP hD hS ls hl
      obtain rfl : k = 24 := by omega
      refine lv_iload_n hx hb dX0_loudest_4 rfl (lv_at hl 1 rfl) ?_
      refine lv_bipush (v := 24) hx hb dX0_loudest_5 (by decide) ?_
      refine lv_icmp_ge (tgt := 29) hx hb dX0_loudest_7 (by decide) (fun c_1 => ?_) (fun c_1 => absurd (by decide) c_1)
      refine lv_iload_n hx hb dX0_loudest_29 rfl (lv_at hl 0 rfl) ?_
      exact hret _ _ _ _ _ hP (by rw [ha]; rfl) hS dX0_loudest_30
    | succ n ih =>
      intro k a hk ha H locs hP hD hS ls hl
      refine lv_iload_n hx hb dX0_loudest_4 rfl (lv_at hl 1 rfl) ?_
      refine lv_bipush (v := 24) hx hb dX0_loudest_5 (by decide) ?_
      refine lv_icmp_ge (tgt := 29) hx hb dX0_loudest_7 (by decide) (fun c_2 => absurd c_2 (nI_ge (a := k) (b := 24) (by omega) (by decide))) (fun c_2 => ?_)
      refine lv_iload_n hx hb dX0_loudest_10 rfl (lv_at hl 0 rfl) ?_
      refine lv_aload_n hx hb dX0_loudest_11 rfl (lv_at hl 2 rfl) ?_
      refine lv_iload_n hx hb dX0_loudest_12 rfl (lv_at hl 1 rfl) ?_
      refine bm_i [] (LW cA h as st) [] [.int (nI k)] [.int a] ⟨hx, hb, hml, hown, hts⟩ (c_X0_farAgo l D cA cZ cR h as st (nI k)) (cwV 1 hts gX0_loudest_X0_farAgo rfl rfl rfl (by decide +kernel) ⟨Nat.le_of_ble_eq_true rfl, Nat.le_of_ble_eq_true rfl⟩) hE hP hD hS hA LW_adr 0 0 rfl rfl rfl hl.1 rfl (Nat.le_of_ble_eq_true rfl) dX0_loudest_13 ⟨Nat.zero_le _, Nat.zero_le _⟩ (fun H locs hP hD hS => ?_)
      have hP : va_P D vwCl (LW cA h as st) H := hP
      have hD : va_D A (LW cA h as st) := hD
      refine va_mabs hx hb (hml.trans hl.1.symm) hown (hts (.methodLink RX0 67 Lib.Math.abs.name) (by decide +kernel)) (hts (.static Lib.Math.abs.name) (by decide +kernel)) (hts (.initialized "java/lang/Math") (by decide +kernel)) (hts (.code Lib.Math.abs.name Lib.Math.abs.code 1 (some .int)) (by decide +kernel)) (Nat.le_of_ble_eq_true rfl) (Nat.le_of_ble_eq_true rfl) (Nat.zero_le _) (Nat.zero_le _) dX0_loudest_16 ?_
      refine va_mmax hx hb (hml.trans hl.1.symm) hown (hts (.methodLink RX0 110 Lib.Math.max.name) (by decide +kernel)) (hts (.static Lib.Math.max.name) (by decide +kernel)) (hts (.initialized "java/lang/Math") (by decide +kernel)) (hts (.code Lib.Math.max.name Lib.Math.max.code 2 (some .int)) (by decide +kernel)) (Nat.le_of_ble_eq_true rfl) (Nat.le_of_ble_eq_true rfl) (Nat.zero_le _) (Nat.zero_le _) dX0_loudest_19 ?_
      refine lv_istore_n (lv' := [(1, .int (pf_mx a (pf_ab (fa st (nI k))))), (2, .int (nI k)), (0, .ref h)]) hx hb dX0_loudest_22 rfl hl (by decide) rfl (fun ls hl => ?_)
      refine lv_iinc (v := nI (k + 1)) (lv' := [(2, .int (nI (k + 1))), (1, .int (pf_mx a (pf_ab (fa st (nI k))))), (0, .ref h)]) hx hb dX0_loudest_23 hl (k := 1) rfl (nI_1 k) (by decide) rfl (fun ls hl => ?_)
      refine lv_goto (tgt := 4) hx hb dX0_loudest_26 (by decide) ?_
      exact ih (k + 1) _ (by omega) (by rw [ha]; rfl) H locs hP hD hS ls (lv_sub hl [1, 0, 2] rfl)
  exact loop 24 0 0 rfl rfl H locs hP hD hS ls (lv_sub hl [1, 0, 2] rfl)

abbrev rm_X0_powerSeen : Room := { frames := 2, cells := 0, slots := 0, locals := 42 }
set_option maxRecDepth 100000 in
set_option maxHeartbeats 4000000 in
theorem c_X0_powerSeen (l : Launch) (D : va_G) (cA cZ cR : ClassId) (h : Nat) (as : Nat → Nat) (st : St) : BMi l D cA cZ cR yX0_powerSeen wsX0_powerSeen rm_X0_powerSeen [.ref h] (LW cA h as st) (LW cA h as st) (lf_pow st) := by
  refine bm_open (maxL := 4) (by decide) rfl rfl rfl (Nat.le_of_ble_eq_true rfl) ?_
  intro p e s m args below meth c A Q hx hb hml hts hown hE hP hD hA hS hret ls hl
  have hown : s.vm.findClass RX0 = some m.cls := hown
  have hl : lv_has ls 4 [(0, .ref h)] := hl
  obtain ⟨H, locs, eH, eL⟩ : ∃ (H : Heap) (locs : List Loc), H = s.heap ∧ locs = [] := ⟨_, _, rfl, rfl⟩
  rw [← eH, ← eL]
  rw [← eH] at hP
  have hS : va_S A s.heap H locs := by rw [eH, eL]; exact hS
  clear eH eL
  refine lv_iconst (v := 0) hx hb dX0_powerSeen_0 (by decide) ?_
  refine lv_istore_n (lv' := [(1, .int 0), (0, .ref h)]) hx hb dX0_powerSeen_1 rfl hl (by decide) rfl (fun ls hl => ?_)
  refine lv_iconst (v := 0) hx hb dX0_powerSeen_2 (by decide) ?_
  refine lv_istore_n (lv' := [(2, .int 0), (1, .int 0), (0, .ref h)]) hx hb dX0_powerSeen_3 rfl hl (by decide) rfl (fun ls hl => ?_)
  have loop : ∀ (n : Nat) (k : Nat) (a : Int32) (hk : k + n = 8) (ha : a = l_sum (fun k => fa st (nI k + st 0 4) * fa st (nI k + st 0 4)) k), ∀ (H : Heap) (locs : List Loc), va_P D vwCl (LW cA h as st) H → va_D A (LW cA h as st) → va_S A s.heap H locs → ∀ ls : Array Slot, lv_has ls 4 [(1, .int a), (2, .int (nI k)), (0, .ref h)] → W p l e rm_X0_powerSeen s m args below meth c H locs 0 0 Q (F0 m 4 ls []) := by
    intro n
    induction n with
    | zero =>
      intro k a hk ha H locs hP hD hS ls hl
      obtain rfl : k = 8 := by omega
      refine lv_iload_n hx hb dX0_powerSeen_4 rfl (lv_at hl 1 rfl) ?_
      refine lv_bipush (v := 8) hx hb dX0_powerSeen_5 (by decide) ?_
      refine lv_icmp_ge (tgt := 28) hx hb dX0_powerSeen_7 (by decide) (fun c_1 => ?_) (fun c_1 => absurd (by decide) c_1)
      refine lv_iload_n hx hb dX0_powerSeen_28 rfl (lv_at hl 0 rfl) ?_
      exact hret _ _ _ _ _ hP (by rw [ha]; rfl) hS dX0_powerSeen_29
    | succ n ih =>
      intro k a hk ha H locs hP hD hS ls hl
      refine lv_iload_n hx hb dX0_powerSeen_4 rfl (lv_at hl 1 rfl) ?_
      refine lv_bipush (v := 8) hx hb dX0_powerSeen_5 (by decide) ?_
      refine lv_icmp_ge (tgt := 28) hx hb dX0_powerSeen_7 (by decide) (fun c_2 => absurd c_2 (nI_ge (a := k) (b := 8) (by omega) (by decide))) (fun c_2 => ?_)
      refine lv_aload_n hx hb dX0_powerSeen_10 rfl (lv_at hl 2 rfl) ?_
      refine lv_iload_n hx hb dX0_powerSeen_11 rfl (lv_at hl 1 rfl) ?_
      refine bm_i [] (LW cA h as st) [] [.int (nI k)] [] ⟨hx, hb, hml, hown, hts⟩ (c_X0_seenBy l D cA cZ cR h as st (nI k)) (cwV 1 hts gX0_powerSeen_X0_seenBy rfl rfl rfl (by decide +kernel) ⟨Nat.le_of_ble_eq_true rfl, Nat.le_of_ble_eq_true rfl⟩) hE hP hD hS hA LW_adr 0 0 rfl rfl rfl hl.1 rfl (Nat.le_of_ble_eq_true rfl) dX0_powerSeen_12 ⟨Nat.zero_le _, Nat.zero_le _⟩ (fun H locs hP hD hS => ?_)
      have hP : va_P D vwCl (LW cA h as st) H := hP
      have hD : va_D A (LW cA h as st) := hD
      refine lv_istore_n (lv' := [(3, .int (fa st ((nI k) + st 0 4))), (1, .int a), (2, .int (nI k)), (0, .ref h)]) hx hb dX0_powerSeen_15 rfl hl (by decide) rfl (fun ls hl => ?_)
      refine lv_iload_n hx hb dX0_powerSeen_16 rfl (lv_at hl 1 rfl) ?_
      refine lv_iload_n hx hb dX0_powerSeen_17 rfl (lv_at hl 0 rfl) ?_
      refine lv_iload_n hx hb dX0_powerSeen_18 rfl (lv_at hl 0 rfl) ?_
      refine lv_imul hx hb dX0_powerSeen_19 ?_
      refine lv_iadd hx hb dX0_powerSeen_20 ?_
      refine lv_istore_n (lv' := [(1, .int (a + ((fa st ((nI k) + st 0 4)) * (fa st ((nI k) + st 0 4))))), (3, .int (fa st ((nI k) + st 0 4))), (2, .int (nI k)), (0, .ref h)]) hx hb dX0_powerSeen_21 rfl hl (by decide) rfl (fun ls hl => ?_)
      refine lv_iinc (v := nI (k + 1)) (lv' := [(2, .int (nI (k + 1))), (1, .int (a + ((fa st ((nI k) + st 0 4)) * (fa st ((nI k) + st 0 4))))), (3, .int (fa st ((nI k) + st 0 4))), (0, .ref h)]) hx hb dX0_powerSeen_22 hl (k := 2) rfl (nI_1 k) (by decide) rfl (fun ls hl => ?_)
      refine lv_goto (tgt := 4) hx hb dX0_powerSeen_25 (by decide) ?_
      exact ih (k + 1) _ (by omega) (by rw [ha]; rfl) H locs hP hD hS ls (lv_sub hl [1, 0, 3] rfl)
  exact loop 8 0 0 rfl rfl H locs hP hD hS ls (lv_sub hl [1, 0, 2] rfl)

abbrev rm_X0_likenessOf : Room := { frames := 1, cells := 0, slots := 0, locals := 21 }
set_option maxRecDepth 100000 in
set_option maxHeartbeats 4000000 in
theorem c_X0_likenessOf (l : Launch) (D : va_G) (cA cZ cR : ClassId) (h : Nat) (as : Nat → Nat) (st : St) (d : Int32) : BMi l D cA cZ cR yX0_likenessOf wsX0_likenessOf rm_X0_likenessOf [.ref h, .int d] (LW cA h as st) (LW cA h as st) (lf_like st d) := by
  refine bm_open (maxL := 4) (by decide) rfl rfl rfl (Nat.le_of_ble_eq_true rfl) ?_
  intro p e s m args below meth c A Q hx hb hml hts hown hE hP hD hA hS hret ls hl
  have hown : s.vm.findClass RX0 = some m.cls := hown
  have hl : lv_has ls 4 [(0, .ref h), (1, .int d)] := hl
  obtain ⟨H, locs, eH, eL⟩ : ∃ (H : Heap) (locs : List Loc), H = s.heap ∧ locs = [] := ⟨_, _, rfl, rfl⟩
  rw [← eH, ← eL]
  rw [← eH] at hP
  have hS : va_S A s.heap H locs := by rw [eH, eL]; exact hS
  clear eH eL
  refine lv_iconst (v := 0) hx hb dX0_likenessOf_0 (by decide) ?_
  refine lv_istore_n (lv' := [(2, .int 0), (0, .ref h), (1, .int d)]) hx hb dX0_likenessOf_1 rfl hl (by decide) rfl (fun ls hl => ?_)
  refine lv_iconst (v := 0) hx hb dX0_likenessOf_2 (by decide) ?_
  refine lv_istore_n (lv' := [(3, .int 0), (2, .int 0), (0, .ref h), (1, .int d)]) hx hb dX0_likenessOf_3 rfl hl (by decide) rfl (fun ls hl => ?_)
  have loop : ∀ (n : Nat) (k : Nat) (a : Int32) (hk : k + n = 24) (ha : a = l_sum (fun i => na st (nI i) * fa st (nI i + d)) k), ∀ (H : Heap) (locs : List Loc), va_P D vwCl (LW cA h as st) H → va_D A (LW cA h as st) → va_S A s.heap H locs → ∀ ls : Array Slot, lv_has ls 4 [(2, .int a), (3, .int (nI k)), (1, .int d), (0, .ref h)] → W p l e rm_X0_likenessOf s m args below meth c H locs 0 0 Q (F0 m 4 ls []) := by
    intro n
    induction n with
    | zero =>
      intro k a hk ha H locs hP hD hS ls hl
      obtain rfl : k = 24 := by omega
      refine lv_iload_n hx hb dX0_likenessOf_4 rfl (lv_at hl 1 rfl) ?_
      refine lv_bipush (v := 24) hx hb dX0_likenessOf_5 (by decide) ?_
      refine lv_icmp_ge (tgt := 32) hx hb dX0_likenessOf_7 (by decide) (fun c_1 => ?_) (fun c_1 => absurd (by decide) c_1)
      refine lv_iload_n hx hb dX0_likenessOf_32 rfl (lv_at hl 0 rfl) ?_
      exact hret _ _ _ _ _ hP (by rw [ha]; rfl) hS dX0_likenessOf_33
    | succ n ih =>
      intro k a hk ha H locs hP hD hS ls hl
      refine lv_iload_n hx hb dX0_likenessOf_4 rfl (lv_at hl 1 rfl) ?_
      refine lv_bipush (v := 24) hx hb dX0_likenessOf_5 (by decide) ?_
      refine lv_icmp_ge (tgt := 32) hx hb dX0_likenessOf_7 (by decide) (fun c_2 => absurd c_2 (nI_ge (a := k) (b := 24) (by omega) (by decide))) (fun c_2 => ?_)
      refine lv_iload_n hx hb dX0_likenessOf_10 rfl (lv_at hl 0 rfl) ?_
      refine lv_aload_n hx hb dX0_likenessOf_11 rfl (lv_at hl 3 rfl) ?_
      refine lv_iload_n hx hb dX0_likenessOf_12 rfl (lv_at hl 1 rfl) ?_
      refine bm_i [] (LW cA h as st) [] [.int (nI k)] [.int a] ⟨hx, hb, hml, hown, hts⟩ (c_X0_nearAgo l D cA cZ cR h as st (nI k)) (cwV 1 hts gX0_likenessOf_X0_nearAgo rfl rfl rfl (by decide +kernel) ⟨Nat.le_of_ble_eq_true rfl, Nat.le_of_ble_eq_true rfl⟩) hE hP hD hS hA LW_adr 0 0 rfl rfl rfl hl.1 rfl (Nat.le_of_ble_eq_true rfl) dX0_likenessOf_13 ⟨Nat.zero_le _, Nat.zero_le _⟩ (fun H locs hP hD hS => ?_)
      have hP : va_P D vwCl (LW cA h as st) H := hP
      have hD : va_D A (LW cA h as st) := hD
      refine lv_aload_n hx hb dX0_likenessOf_16 rfl (lv_at hl 3 rfl) ?_
      refine lv_iload_n hx hb dX0_likenessOf_17 rfl (lv_at hl 1 rfl) ?_
      refine lv_iload_n hx hb dX0_likenessOf_18 rfl (lv_at hl 2 rfl) ?_
      refine lv_iadd hx hb dX0_likenessOf_19 ?_
      refine bm_i [] (LW cA h as st) [] [.int ((nI k) + d)] [.int (na st (nI k)), .int a] ⟨hx, hb, hml, hown, hts⟩ (c_X0_farAgo l D cA cZ cR h as st ((nI k) + d)) (cwV 1 hts gX0_likenessOf_X0_farAgo rfl rfl rfl (by decide +kernel) ⟨Nat.le_of_ble_eq_true rfl, Nat.le_of_ble_eq_true rfl⟩) hE hP hD hS hA LW_adr 0 0 rfl rfl rfl hl.1 rfl (Nat.le_of_ble_eq_true rfl) dX0_likenessOf_20 ⟨Nat.zero_le _, Nat.zero_le _⟩ (fun H locs hP hD hS => ?_)
      have hP : va_P D vwCl (LW cA h as st) H := hP
      have hD : va_D A (LW cA h as st) := hD
      refine lv_imul hx hb dX0_likenessOf_23 ?_
      refine lv_iadd hx hb dX0_likenessOf_24 ?_
      refine lv_istore_n (lv' := [(2, .int (a + ((na st (nI k)) * (fa st ((nI k) + d))))), (3, .int (nI k)), (1, .int d), (0, .ref h)]) hx hb dX0_likenessOf_25 rfl hl (by decide) rfl (fun ls hl => ?_)
      refine lv_iinc (v := nI (k + 1)) (lv' := [(3, .int (nI (k + 1))), (2, .int (a + ((na st (nI k)) * (fa st ((nI k) + d))))), (1, .int d), (0, .ref h)]) hx hb dX0_likenessOf_26 hl (k := 1) rfl (nI_1 k) (by decide) rfl (fun ls hl => ?_)
      refine lv_goto (tgt := 4) hx hb dX0_likenessOf_29 (by decide) ?_
      exact ih (k + 1) _ (by omega) (by rw [ha]; rfl) H locs hP hD hS ls (lv_sub hl [1, 0, 2, 3] rfl)
  exact loop 24 0 0 rfl rfl H locs hP hD hS ls (lv_sub hl [1, 0, 3, 2] rfl)

abbrev rm_X0_nearSquares : Room := { frames := 1, cells := 0, slots := 0, locals := 21 }
set_option maxRecDepth 100000 in
set_option maxHeartbeats 4000000 in
theorem c_X0_nearSquares (l : Launch) (D : va_G) (cA cZ cR : ClassId) (h : Nat) (as : Nat → Nat) (st : St) : BMi l D cA cZ cR yX0_nearSquares wsX0_nearSquares rm_X0_nearSquares [.ref h] (LW cA h as st) (LW cA h as st) (lf_nsq st) := by
  refine bm_open (maxL := 3) (by decide) rfl rfl rfl (Nat.le_of_ble_eq_true rfl) ?_
  intro p e s m args below meth c A Q hx hb hml hts hown hE hP hD hA hS hret ls hl
  have hown : s.vm.findClass RX0 = some m.cls := hown
  have hl : lv_has ls 3 [(0, .ref h)] := hl
  obtain ⟨H, locs, eH, eL⟩ : ∃ (H : Heap) (locs : List Loc), H = s.heap ∧ locs = [] := ⟨_, _, rfl, rfl⟩
  rw [← eH, ← eL]
  rw [← eH] at hP
  have hS : va_S A s.heap H locs := by rw [eH, eL]; exact hS
  clear eH eL
  refine lv_iconst (v := 0) hx hb dX0_nearSquares_0 (by decide) ?_
  refine lv_istore_n (lv' := [(1, .int 0), (0, .ref h)]) hx hb dX0_nearSquares_1 rfl hl (by decide) rfl (fun ls hl => ?_)
  refine lv_iconst (v := 0) hx hb dX0_nearSquares_2 (by decide) ?_
  refine lv_istore_n (lv' := [(2, .int 0), (1, .int 0), (0, .ref h)]) hx hb dX0_nearSquares_3 rfl hl (by decide) rfl (fun ls hl => ?_)
  have loop : ∀ (n : Nat) (k : Nat) (a : Int32) (hk : k + n = 32) (ha : a = l_sum (fun i => na st (nI i) * na st (nI i)) k), ∀ (H : Heap) (locs : List Loc), va_P D vwCl (LW cA h as st) H → va_D A (LW cA h as st) → va_S A s.heap H locs → ∀ ls : Array Slot, lv_has ls 3 [(1, .int a), (2, .int (nI k)), (0, .ref h)] → W p l e rm_X0_nearSquares s m args below meth c H locs 0 0 Q (F0 m 4 ls []) := by
    intro n
    induction n with
    | zero =>
      intro k a hk ha H locs hP hD hS ls hl
      obtain rfl : k = 32 := by omega
      refine lv_iload_n hx hb dX0_nearSquares_4 rfl (lv_at hl 1 rfl) ?_
      refine lv_bipush (v := 32) hx hb dX0_nearSquares_5 (by decide) ?_
      refine lv_icmp_ge (tgt := 30) hx hb dX0_nearSquares_7 (by decide) (fun c_1 => ?_) (fun c_1 => absurd (by decide) c_1)
      refine lv_iload_n hx hb dX0_nearSquares_30 rfl (lv_at hl 0 rfl) ?_
      exact hret _ _ _ _ _ hP (by rw [ha]; rfl) hS dX0_nearSquares_31
    | succ n ih =>
      intro k a hk ha H locs hP hD hS ls hl
      refine lv_iload_n hx hb dX0_nearSquares_4 rfl (lv_at hl 1 rfl) ?_
      refine lv_bipush (v := 32) hx hb dX0_nearSquares_5 (by decide) ?_
      refine lv_icmp_ge (tgt := 30) hx hb dX0_nearSquares_7 (by decide) (fun c_2 => absurd c_2 (nI_ge (a := k) (b := 32) (by omega) (by decide))) (fun c_2 => ?_)
      refine lv_iload_n hx hb dX0_nearSquares_10 rfl (lv_at hl 0 rfl) ?_
      refine lv_aload_n hx hb dX0_nearSquares_11 rfl (lv_at hl 2 rfl) ?_
      refine lv_iload_n hx hb dX0_nearSquares_12 rfl (lv_at hl 1 rfl) ?_
      refine bm_i [] (LW cA h as st) [] [.int (nI k)] [.int a] ⟨hx, hb, hml, hown, hts⟩ (c_X0_nearAgo l D cA cZ cR h as st (nI k)) (cwV 1 hts gX0_nearSquares_X0_nearAgo rfl rfl rfl (by decide +kernel) ⟨Nat.le_of_ble_eq_true rfl, Nat.le_of_ble_eq_true rfl⟩) hE hP hD hS hA LW_adr 0 0 rfl rfl rfl hl.1 rfl (Nat.le_of_ble_eq_true rfl) dX0_nearSquares_13 ⟨Nat.zero_le _, Nat.zero_le _⟩ (fun H locs hP hD hS => ?_)
      have hP : va_P D vwCl (LW cA h as st) H := hP
      have hD : va_D A (LW cA h as st) := hD
      refine lv_aload_n hx hb dX0_nearSquares_16 rfl (lv_at hl 2 rfl) ?_
      refine lv_iload_n hx hb dX0_nearSquares_17 rfl (lv_at hl 1 rfl) ?_
      refine bm_i [] (LW cA h as st) [] [.int (nI k)] [.int (na st (nI k)), .int a] ⟨hx, hb, hml, hown, hts⟩ (c_X0_nearAgo l D cA cZ cR h as st (nI k)) (cwV 1 hts gX0_nearSquares_X0_nearAgo rfl rfl rfl (by decide +kernel) ⟨Nat.le_of_ble_eq_true rfl, Nat.le_of_ble_eq_true rfl⟩) hE hP hD hS hA LW_adr 0 0 rfl rfl rfl hl.1 rfl (Nat.le_of_ble_eq_true rfl) dX0_nearSquares_18 ⟨Nat.zero_le _, Nat.zero_le _⟩ (fun H locs hP hD hS => ?_)
      have hP : va_P D vwCl (LW cA h as st) H := hP
      have hD : va_D A (LW cA h as st) := hD
      refine lv_imul hx hb dX0_nearSquares_21 ?_
      refine lv_iadd hx hb dX0_nearSquares_22 ?_
      refine lv_istore_n (lv' := [(1, .int (a + ((na st (nI k)) * (na st (nI k))))), (2, .int (nI k)), (0, .ref h)]) hx hb dX0_nearSquares_23 rfl hl (by decide) rfl (fun ls hl => ?_)
      refine lv_iinc (v := nI (k + 1)) (lv' := [(2, .int (nI (k + 1))), (1, .int (a + ((na st (nI k)) * (na st (nI k))))), (0, .ref h)]) hx hb dX0_nearSquares_24 hl (k := 1) rfl (nI_1 k) (by decide) rfl (fun ls hl => ?_)
      refine lv_goto (tgt := 4) hx hb dX0_nearSquares_27 (by decide) ?_
      exact ih (k + 1) _ (by omega) (by rw [ha]; rfl) H locs hP hD hS ls (lv_sub hl [1, 0, 2] rfl)
  exact loop 32 0 0 rfl rfl H locs hP hD hS ls (lv_sub hl [1, 0, 2] rfl)

abbrev rm_X0_outSquares : Room := { frames := 1, cells := 0, slots := 0, locals := 21 }
set_option maxRecDepth 100000 in
set_option maxHeartbeats 4000000 in
theorem c_X0_outSquares (l : Launch) (D : va_G) (cA cZ cR : ClassId) (h : Nat) (as : Nat → Nat) (st : St) : BMi l D cA cZ cR yX0_outSquares wsX0_outSquares rm_X0_outSquares [.ref h] (LW cA h as st) (LW cA h as st) (lf_osq st) := by
  refine bm_open (maxL := 3) (by decide) rfl rfl rfl (Nat.le_of_ble_eq_true rfl) ?_
  intro p e s m args below meth c A Q hx hb hml hts hown hE hP hD hA hS hret ls hl
  have hown : s.vm.findClass RX0 = some m.cls := hown
  have hl : lv_has ls 3 [(0, .ref h)] := hl
  obtain ⟨H, locs, eH, eL⟩ : ∃ (H : Heap) (locs : List Loc), H = s.heap ∧ locs = [] := ⟨_, _, rfl, rfl⟩
  rw [← eH, ← eL]
  rw [← eH] at hP
  have hS : va_S A s.heap H locs := by rw [eH, eL]; exact hS
  clear eH eL
  refine lv_iconst (v := 0) hx hb dX0_outSquares_0 (by decide) ?_
  refine lv_istore_n (lv' := [(1, .int 0), (0, .ref h)]) hx hb dX0_outSquares_1 rfl hl (by decide) rfl (fun ls hl => ?_)
  refine lv_iconst (v := 0) hx hb dX0_outSquares_2 (by decide) ?_
  refine lv_istore_n (lv' := [(2, .int 0), (1, .int 0), (0, .ref h)]) hx hb dX0_outSquares_3 rfl hl (by decide) rfl (fun ls hl => ?_)
  have loop : ∀ (n : Nat) (k : Nat) (a : Int32) (hk : k + n = 32) (ha : a = l_sum (fun i => oa st (nI i) * oa st (nI i)) k), ∀ (H : Heap) (locs : List Loc), va_P D vwCl (LW cA h as st) H → va_D A (LW cA h as st) → va_S A s.heap H locs → ∀ ls : Array Slot, lv_has ls 3 [(1, .int a), (2, .int (nI k)), (0, .ref h)] → W p l e rm_X0_outSquares s m args below meth c H locs 0 0 Q (F0 m 4 ls []) := by
    intro n
    induction n with
    | zero =>
      intro k a hk ha H locs hP hD hS ls hl
      obtain rfl : k = 32 := by omega
      refine lv_iload_n hx hb dX0_outSquares_4 rfl (lv_at hl 1 rfl) ?_
      refine lv_bipush (v := 32) hx hb dX0_outSquares_5 (by decide) ?_
      refine lv_icmp_ge (tgt := 30) hx hb dX0_outSquares_7 (by decide) (fun c_1 => ?_) (fun c_1 => absurd (by decide) c_1)
      refine lv_iload_n hx hb dX0_outSquares_30 rfl (lv_at hl 0 rfl) ?_
      exact hret _ _ _ _ _ hP (by rw [ha]; rfl) hS dX0_outSquares_31
    | succ n ih =>
      intro k a hk ha H locs hP hD hS ls hl
      refine lv_iload_n hx hb dX0_outSquares_4 rfl (lv_at hl 1 rfl) ?_
      refine lv_bipush (v := 32) hx hb dX0_outSquares_5 (by decide) ?_
      refine lv_icmp_ge (tgt := 30) hx hb dX0_outSquares_7 (by decide) (fun c_2 => absurd c_2 (nI_ge (a := k) (b := 32) (by omega) (by decide))) (fun c_2 => ?_)
      refine lv_iload_n hx hb dX0_outSquares_10 rfl (lv_at hl 0 rfl) ?_
      refine lv_aload_n hx hb dX0_outSquares_11 rfl (lv_at hl 2 rfl) ?_
      refine lv_iload_n hx hb dX0_outSquares_12 rfl (lv_at hl 1 rfl) ?_
      refine bm_i [] (LW cA h as st) [] [.int (nI k)] [.int a] ⟨hx, hb, hml, hown, hts⟩ (c_X0_outAgo l D cA cZ cR h as st (nI k)) (cwV 1 hts gX0_outSquares_X0_outAgo rfl rfl rfl (by decide +kernel) ⟨Nat.le_of_ble_eq_true rfl, Nat.le_of_ble_eq_true rfl⟩) hE hP hD hS hA LW_adr 0 0 rfl rfl rfl hl.1 rfl (Nat.le_of_ble_eq_true rfl) dX0_outSquares_13 ⟨Nat.zero_le _, Nat.zero_le _⟩ (fun H locs hP hD hS => ?_)
      have hP : va_P D vwCl (LW cA h as st) H := hP
      have hD : va_D A (LW cA h as st) := hD
      refine lv_aload_n hx hb dX0_outSquares_16 rfl (lv_at hl 2 rfl) ?_
      refine lv_iload_n hx hb dX0_outSquares_17 rfl (lv_at hl 1 rfl) ?_
      refine bm_i [] (LW cA h as st) [] [.int (nI k)] [.int (oa st (nI k)), .int a] ⟨hx, hb, hml, hown, hts⟩ (c_X0_outAgo l D cA cZ cR h as st (nI k)) (cwV 1 hts gX0_outSquares_X0_outAgo rfl rfl rfl (by decide +kernel) ⟨Nat.le_of_ble_eq_true rfl, Nat.le_of_ble_eq_true rfl⟩) hE hP hD hS hA LW_adr 0 0 rfl rfl rfl hl.1 rfl (Nat.le_of_ble_eq_true rfl) dX0_outSquares_18 ⟨Nat.zero_le _, Nat.zero_le _⟩ (fun H locs hP hD hS => ?_)
      have hP : va_P D vwCl (LW cA h as st) H := hP
      have hD : va_D A (LW cA h as st) := hD
      refine lv_imul hx hb dX0_outSquares_21 ?_
      refine lv_iadd hx hb dX0_outSquares_22 ?_
      refine lv_istore_n (lv' := [(1, .int (a + ((oa st (nI k)) * (oa st (nI k))))), (2, .int (nI k)), (0, .ref h)]) hx hb dX0_outSquares_23 rfl hl (by decide) rfl (fun ls hl => ?_)
      refine lv_iinc (v := nI (k + 1)) (lv' := [(2, .int (nI (k + 1))), (1, .int (a + ((oa st (nI k)) * (oa st (nI k))))), (0, .ref h)]) hx hb dX0_outSquares_24 hl (k := 1) rfl (nI_1 k) (by decide) rfl (fun ls hl => ?_)
      refine lv_goto (tgt := 4) hx hb dX0_outSquares_27 (by decide) ?_
      exact ih (k + 1) _ (by omega) (by rw [ha]; rfl) H locs hP hD hS ls (lv_sub hl [1, 0, 2] rfl)
  exact loop 32 0 0 rfl rfl H locs hP hD hS ls (lv_sub hl [1, 0, 2] rfl)

abbrev rm_X0_tapSizes : Room := { frames := 1, cells := 0, slots := 0, locals := 14 }
theorem iw_X0_tapSizes_X0 : ∀ w ∈ wsX00, w ∈ wsX0_tapSizes := by decide +kernel
set_option maxRecDepth 100000 in
set_option maxHeartbeats 4000000 in
theorem c_X0_tapSizes (l : Launch) (D : va_G) (cA cZ cR : ClassId) (h : Nat) (as : Nat → Nat) (st : St) : BMi l D cA cZ cR yX0_tapSizes wsX0_tapSizes rm_X0_tapSizes [.ref h] (LW cA h as st) (LW cA h as st) (lf_tsz st) := by
  refine bm_open (maxL := 3) (by decide) rfl rfl rfl (Nat.le_of_ble_eq_true rfl) ?_
  intro p e s m args below meth c A Q hx hb hml hts hown hE hP hD hA hS hret ls hl
  have hown : s.vm.findClass RX0 = some m.cls := hown
  have hl : lv_has ls 3 [(0, .ref h)] := hl
  obtain ⟨H, locs, eH, eL⟩ : ∃ (H : Heap) (locs : List Loc), H = s.heap ∧ locs = [] := ⟨_, _, rfl, rfl⟩
  rw [← eH, ← eL]
  rw [← eH] at hP
  have hS : va_S A s.heap H locs := by rw [eH, eL]; exact hS
  clear eH eL
  refine lv_iconst (v := 0) hx hb dX0_tapSizes_0 (by decide) ?_
  refine lv_istore_n (lv' := [(1, .int 0), (0, .ref h)]) hx hb dX0_tapSizes_1 rfl hl (by decide) rfl (fun ls hl => ?_)
  refine lv_iconst (v := 0) hx hb dX0_tapSizes_2 (by decide) ?_
  refine lv_istore_n (lv' := [(2, .int 0), (1, .int 0), (0, .ref h)]) hx hb dX0_tapSizes_3 rfl hl (by decide) rfl (fun ls hl => ?_)
  have loop : ∀ (n : Nat) (k : Nat) (a : Int32) (hk : k + n = 8) (ha : a = l_sum (fun k => pf_ab (st 1 (nI k).toNatClampNeg)) k), ∀ (H : Heap) (locs : List Loc), va_P D vwCl (LW cA h as st) H → va_D A (LW cA h as st) → va_S A s.heap H locs → ∀ ls : Array Slot, lv_has ls 3 [(1, .int a), (2, .int (nI k)), (0, .ref h)] → W p l e rm_X0_tapSizes s m args below meth c H locs 0 0 Q (F0 m 4 ls []) := by
    intro n
    induction n with
    | zero =>
      intro k a hk ha H locs hP hD hS ls hl
      obtain rfl : k = 8 := by omega
      refine lv_iload_n hx hb dX0_tapSizes_4 rfl (lv_at hl 1 rfl) ?_
      refine lv_bipush (v := 8) hx hb dX0_tapSizes_5 (by decide) ?_
      refine lv_icmp_ge (tgt := 28) hx hb dX0_tapSizes_7 (by decide) (fun c_1 => ?_) (fun c_1 => absurd (by decide) c_1)
      refine lv_iload_n hx hb dX0_tapSizes_28 rfl (lv_at hl 0 rfl) ?_
      exact hret _ _ _ _ _ hP (by rw [ha]; rfl) hS dX0_tapSizes_29
    | succ n ih =>
      intro k a hk ha H locs hP hD hS ls hl
      refine lv_iload_n hx hb dX0_tapSizes_4 rfl (lv_at hl 1 rfl) ?_
      refine lv_bipush (v := 8) hx hb dX0_tapSizes_5 (by decide) ?_
      refine lv_icmp_ge (tgt := 28) hx hb dX0_tapSizes_7 (by decide) (fun c_2 => absurd c_2 (nI_ge (a := k) (b := 8) (by omega) (by decide))) (fun c_2 => ?_)
      refine lv_iload_n hx hb dX0_tapSizes_10 rfl (lv_at hl 0 rfl) ?_
      refine lv_aload_n hx hb dX0_tapSizes_11 rfl (lv_at hl 2 rfl) ?_
      refine va_get (D := D) (ci := 0) (v := .ref (as 1)) (C := RX0) (T := TX0) (N := 11) hx hb hts iw_X0_tapSizes_X0 hown hE.1 hP 0 rfl rfl 1 (by decide) (hts (.fieldLink RX0 23 "EchoTaps$Line" "taps" "[I") (by decide +kernel)) (fun _ h9 => h9) rfl dX0_tapSizes_12 ?_
      refine lv_iload_n hx hb dX0_tapSizes_15 rfl (lv_at hl 1 rfl) ?_
      refine va_iald hx hb hE.1 hP 2 0 rfl rfl (vp_in_nI (by omega) (by decide)) dX0_tapSizes_16 ?_
      refine va_mabs hx hb (hml.trans hl.1.symm) hown (hts (.methodLink RX0 67 Lib.Math.abs.name) (by decide +kernel)) (hts (.static Lib.Math.abs.name) (by decide +kernel)) (hts (.initialized "java/lang/Math") (by decide +kernel)) (hts (.code Lib.Math.abs.name Lib.Math.abs.code 1 (some .int)) (by decide +kernel)) (Nat.le_of_ble_eq_true rfl) (Nat.le_of_ble_eq_true rfl) (Nat.zero_le _) (Nat.zero_le _) dX0_tapSizes_17 ?_
      refine lv_iadd hx hb dX0_tapSizes_20 ?_
      refine lv_istore_n (lv' := [(1, .int (a + (pf_ab ((st 1) (nI k).toNatClampNeg)))), (2, .int (nI k)), (0, .ref h)]) hx hb dX0_tapSizes_21 rfl hl (by decide) rfl (fun ls hl => ?_)
      refine lv_iinc (v := nI (k + 1)) (lv' := [(2, .int (nI (k + 1))), (1, .int (a + (pf_ab ((st 1) (nI k).toNatClampNeg)))), (0, .ref h)]) hx hb dX0_tapSizes_22 hl (k := 1) rfl (nI_1 k) (by decide) rfl (fun ls hl => ?_)
      refine lv_goto (tgt := 4) hx hb dX0_tapSizes_25 (by decide) ?_
      exact ih (k + 1) _ (by omega) (by rw [ha]; rfl) H locs hP hD hS ls (lv_sub hl [1, 0, 2] rfl)
  exact loop 8 0 0 rfl rfl H locs hP hD hS ls (lv_sub hl [1, 0, 2] rfl)

abbrev rm_X0_holdBy : Room := { frames := 0, cells := 0, slots := 0, locals := 0 }
theorem iw_X0_holdBy_X0 : ∀ w ∈ wsX00, w ∈ wsX0_holdBy := by decide +kernel
set_option maxRecDepth 100000 in
set_option maxHeartbeats 4000000 in
theorem c_X0_holdBy (l : Launch) (D : va_G) (cA cZ cR : ClassId) (h : Nat) (as : Nat → Nat) (st : St) (t : Int32) : BMv l D cA cZ cR yX0_holdBy wsX0_holdBy rm_X0_holdBy [.ref h, .int t] (LW cA h as st) (LW cA h as (lf_hold st t)) := by
  refine bm_openV (maxL := 2) (by decide) rfl rfl rfl (Nat.le_of_ble_eq_true rfl) ?_
  intro p e s m args below meth c A Q hx hb hml hts hown hE hP hD hA hS hret ls hl
  have hown : s.vm.findClass RX0 = some m.cls := hown
  have hl : lv_has ls 2 [(0, .ref h), (1, .int t)] := hl
  obtain ⟨H, locs, eH, eL⟩ : ∃ (H : Heap) (locs : List Loc), H = s.heap ∧ locs = [] := ⟨_, _, rfl, rfl⟩
  rw [← eH, ← eL]
  rw [← eH] at hP
  have hS : va_S A s.heap H locs := by rw [eH, eL]; exact hS
  clear eH eL
  refine lv_iload_n hx hb dX0_holdBy_0 rfl (lv_at hl 1 rfl) ?_
  refine lv_if_eq (tgt := 17) hx hb dX0_holdBy_1 (by decide) (fun c_1 => ?_) (fun c_1 => ?_)
  · have c_1 : t = 0 := c_1
    refine lv_aload_n hx hb dX0_holdBy_17 rfl (lv_at hl 0 rfl) ?_
    refine va_get (D := D) (ci := 0) (v := .int (st 8 1)) (C := RX0) (T := TX0) (N := 11) hx hb hts iw_X0_holdBy_X0 hown hE.1 hP 0 rfl rfl 9 (by decide) (hts (.fieldLink RX0 54 "EchoTaps$Line" "hold" "I") (by decide +kernel)) (fun _ h9 => h9) rfl dX0_holdBy_18 ?_
    refine lv_if_le (tgt := 34) hx hb dX0_holdBy_21 (by decide) (fun c_2 => ?_) (fun c_2 => ?_)
    · have c_2 : (st 8 1) ≤ 0 := c_2
      have e1 : lf_hold st t = st := by rw [lf_hold, if_pos c_1, if_pos c_2]
      exact hret _ _ _ _ (by rw [e1]; exact hP) hS dX0_holdBy_34
    · have c_2 : ¬ (st 8 1) ≤ 0 := c_2
      have e1 : lf_hold st t = up8 st 1 (st 8 1 - 1) := by rw [lf_hold, if_pos c_1, if_neg c_2]
      refine lv_aload_n hx hb dX0_holdBy_24 rfl (lv_at hl 0 rfl) ?_
      refine lv_dup hx hb dX0_holdBy_25 rfl ?_
      refine va_get (D := D) (ci := 0) (v := .int (st 8 1)) (C := RX0) (T := TX0) (N := 11) hx hb hts iw_X0_holdBy_X0 hown hE.1 hP 0 rfl rfl 9 (by decide) (hts (.fieldLink RX0 54 "EchoTaps$Line" "hold" "I") (by decide +kernel)) (fun _ h9 => h9) rfl dX0_holdBy_26 ?_
      refine lv_iconst (v := 1) hx hb dX0_holdBy_29 (by decide) ?_
      refine lv_isub hx hb dX0_holdBy_30 ?_
      refine va_put (D := D) (ci := 0) (v := .int ((st 8 1) - 1)) (ty := .int) (C := RX0) (T := TX0) (N := 11) hx hb hts iw_X0_holdBy_X0 tyX0 tyX0_ok nmX0 hown hE.1 hP hD hS 0 rfl rfl 9 (by decide) (hts (.fieldLink RX0 54 "EchoTaps$Line" "hold" "I") (by decide +kernel)) (fun _ h9 => h9) rfl (by decide +kernel) rfl rfl (Nat.le_of_ble_eq_true rfl) dX0_holdBy_31 (fun H locs hP hD hS => ?_)
      have hP : va_P D vwCl (LW cA h as (va_up st 8 (upd (st 8) 1 ((st 8 1) - 1)))) H := hP
      have hD : va_D A (LW cA h as (va_up st 8 (upd (st 8) 1 ((st 8 1) - 1)))) := hD
      exact hret _ _ _ _ (by rw [e1]; exact hP) hS dX0_holdBy_34
  · have c_1 : ¬ t = 0 := c_1
    have e1 : lf_hold st t = up8 st 1 (st 0 1) := by rw [lf_hold, if_neg c_1]
    refine lv_aload_n hx hb dX0_holdBy_4 rfl (lv_at hl 0 rfl) ?_
    refine lv_aload_n hx hb dX0_holdBy_5 rfl (lv_at hl 0 rfl) ?_
    refine va_get (D := D) (ci := 0) (v := .ref (as 0)) (C := RX0) (T := TX0) (N := 11) hx hb hts iw_X0_holdBy_X0 hown hE.1 hP 0 rfl rfl 0 (by decide) (hts (.fieldLink RX0 18 "EchoTaps$Line" "rules" "[I") (by decide +kernel)) (fun _ h9 => h9) rfl dX0_holdBy_6 ?_
    refine lv_iconst (v := 1) hx hb dX0_holdBy_9 (by decide) ?_
    refine va_iald hx hb hE.1 hP 1 0 rfl rfl (vp_in_nI (n := 1) (N := 5) (by decide) (by decide)) dX0_holdBy_10 ?_
    refine va_put (D := D) (ci := 0) (v := .int ((st 0) 1)) (ty := .int) (C := RX0) (T := TX0) (N := 11) hx hb hts iw_X0_holdBy_X0 tyX0 tyX0_ok nmX0 hown hE.1 hP hD hS 0 rfl rfl 9 (by decide) (hts (.fieldLink RX0 54 "EchoTaps$Line" "hold" "I") (by decide +kernel)) (fun _ h9 => h9) rfl (by decide +kernel) rfl rfl (Nat.le_of_ble_eq_true rfl) dX0_holdBy_11 (fun H locs hP hD hS => ?_)
    have hP : va_P D vwCl (LW cA h as (va_up st 8 (upd (st 8) 1 ((st 0) 1)))) H := hP
    have hD : va_D A (LW cA h as (va_up st 8 (upd (st 8) 1 ((st 0) 1)))) := hD
    refine lv_goto (tgt := 34) hx hb dX0_holdBy_14 (by decide) ?_
    exact hret _ _ _ _ (by rw [e1]; exact hP) hS dX0_holdBy_34

abbrev rm_X0_silent : Room := { frames := 1, cells := 0, slots := 0, locals := 21 }
set_option maxRecDepth 100000 in
set_option maxHeartbeats 4000000 in
theorem c_X0_silent (l : Launch) (D : va_G) (cA cZ cR : ClassId) (h : Nat) (as : Nat → Nat) (st : St) : BMi l D cA cZ cR yX0_silent wsX0_silent rm_X0_silent [.ref h] (LW cA h as st) (LW cA h as st) (pf_b (lf_sil st)) := by
  refine bm_openZ (maxL := 2) (by decide) rfl rfl rfl (Nat.le_of_ble_eq_true rfl) (pf_b_z _) ?_
  intro p e s m args below meth c A Q hx hb hml hts hown hE hP hD hA hS hret ls hl
  have hown : s.vm.findClass RX0 = some m.cls := hown
  have hl : lv_has ls 2 [(0, .ref h)] := hl
  obtain ⟨H, locs, eH, eL⟩ : ∃ (H : Heap) (locs : List Loc), H = s.heap ∧ locs = [] := ⟨_, _, rfl, rfl⟩
  rw [← eH, ← eL]
  rw [← eH] at hP
  have hS : va_S A s.heap H locs := by rw [eH, eL]; exact hS
  clear eH eL
  refine lv_iconst (v := 0) hx hb dX0_silent_0 (by decide) ?_
  refine lv_istore_n (lv' := [(1, .int 0), (0, .ref h)]) hx hb dX0_silent_1 rfl hl (by decide) rfl (fun ls hl => ?_)
  have loop : ∀ (n : Nat) (k : Nat) (hk : k + n = 16) (ha : pf_al (fun i => decide (fa st (nI i) = 0)) k = true), ∀ (H : Heap) (locs : List Loc), va_P D vwCl (LW cA h as st) H → va_D A (LW cA h as st) → va_S A s.heap H locs → ∀ ls : Array Slot, lv_has ls 2 [(1, .int (nI k)), (0, .ref h)] → W p l e rm_X0_silent s m args below meth c H locs 0 0 Q (F0 m 2 ls []) := by
    intro n
    induction n with
    | zero =>
      intro k hk ha H locs hP hD hS ls hl
      obtain rfl : k = 16 := by omega
      refine lv_iload_n hx hb dX0_silent_2 rfl (lv_at hl 0 rfl) ?_
      refine lv_bipush (v := 16) hx hb dX0_silent_3 (by decide) ?_
      refine lv_icmp_ge (tgt := 24) hx hb dX0_silent_5 (by decide) (fun c_1 => ?_) (fun c_1 => absurd (by decide) c_1)
      refine lv_iconst (v := 1) hx hb dX0_silent_24 (by decide) ?_
      exact hret _ _ _ _ _ hP (by rw [lf_sil, ha]; rfl) hS dX0_silent_25
    | succ n ih =>
      intro k hk ha H locs hP hD hS ls hl
      refine lv_iload_n hx hb dX0_silent_2 rfl (lv_at hl 0 rfl) ?_
      refine lv_bipush (v := 16) hx hb dX0_silent_3 (by decide) ?_
      refine lv_icmp_ge (tgt := 24) hx hb dX0_silent_5 (by decide) (fun c_2 => absurd c_2 (nI_ge (a := k) (b := 16) (by omega) (by decide))) (fun c_2 => ?_)
      refine lv_aload_n hx hb dX0_silent_8 rfl (lv_at hl 1 rfl) ?_
      refine lv_iload_n hx hb dX0_silent_9 rfl (lv_at hl 0 rfl) ?_
      refine bm_i [] (LW cA h as st) [] [.int (nI k)] [] ⟨hx, hb, hml, hown, hts⟩ (c_X0_farAgo l D cA cZ cR h as st (nI k)) (cwV 1 hts gX0_silent_X0_farAgo rfl rfl rfl (by decide +kernel) ⟨Nat.le_of_ble_eq_true rfl, Nat.le_of_ble_eq_true rfl⟩) hE hP hD hS hA LW_adr 0 0 rfl rfl rfl hl.1 rfl (Nat.le_of_ble_eq_true rfl) dX0_silent_10 ⟨Nat.zero_le _, Nat.zero_le _⟩ (fun H locs hP hD hS => ?_)
      have hP : va_P D vwCl (LW cA h as st) H := hP
      have hD : va_D A (LW cA h as st) := hD
      refine lv_if_eq (tgt := 18) hx hb dX0_silent_13 (by decide) (fun c_3 => ?_) (fun c_3 => ?_)
      · have c_3 : (fa st (nI k)) = 0 := c_3
        refine lv_iinc (v := nI (k + 1)) (lv' := [(1, .int (nI (k + 1))), (0, .ref h)]) hx hb dX0_silent_18 hl (k := 0) rfl (nI_1 k) (by decide) rfl (fun ls hl => ?_)
        refine lv_goto (tgt := 2) hx hb dX0_silent_21 (by decide) ?_
        exact ih (k + 1) (by omega) (by rw [pf_al, ha, decide_eq_true c_3]; rfl) H locs hP hD hS ls (lv_sub hl [0, 1] rfl)
      · have c_3 : ¬ (fa st (nI k)) = 0 := c_3
        refine lv_iconst (v := 0) hx hb dX0_silent_16 (by decide) ?_
        exact hret _ _ _ _ _ hP (by rw [lf_sil, pf_al_f (k := k) (by omega) (decide_eq_false c_3)]; rfl) hS dX0_silent_17
  exact loop 16 0 rfl rfl H locs hP hD hS ls (lv_sub hl [0, 1] rfl)

abbrev rm_X0_repeatsBy : Room := { frames := 1, cells := 0, slots := 0, locals := 21 }
set_option maxRecDepth 100000 in
set_option maxHeartbeats 4000000 in
theorem c_X0_repeatsBy (l : Launch) (D : va_G) (cA cZ cR : ClassId) (h : Nat) (as : Nat → Nat) (st : St) (pp : Nat) (hpp : pp ≤ 8) : BMi l D cA cZ cR yX0_repeatsBy wsX0_repeatsBy rm_X0_repeatsBy [.ref h, .int (nI pp)] (LW cA h as st) (LW cA h as st) (pf_b (lf_rep st pp)) := by
  refine bm_openZ (maxL := 3) (by decide) rfl rfl rfl (Nat.le_of_ble_eq_true rfl) (pf_b_z _) ?_
  intro p e s m args below meth c A Q hx hb hml hts hown hE hP hD hA hS hret ls hl
  have hown : s.vm.findClass RX0 = some m.cls := hown
  have hl : lv_has ls 3 [(0, .ref h), (1, .int (nI pp))] := hl
  obtain ⟨H, locs, eH, eL⟩ : ∃ (H : Heap) (locs : List Loc), H = s.heap ∧ locs = [] := ⟨_, _, rfl, rfl⟩
  rw [← eH, ← eL]
  rw [← eH] at hP
  have hS : va_S A s.heap H locs := by rw [eH, eL]; exact hS
  clear eH eL
  refine lv_iconst (v := 0) hx hb dX0_repeatsBy_0 (by decide) ?_
  refine lv_istore_n (lv' := [(2, .int 0), (0, .ref h), (1, .int (nI pp))]) hx hb dX0_repeatsBy_1 rfl hl (by decide) rfl (fun ls hl => ?_)
  have loop : ∀ (n : Nat) (k : Nat) (hk : k + n = 16 - pp) (ha : pf_al (fun i => decide (fa st (nI i) = fa st (nI i + nI pp))) k = true), ∀ (H : Heap) (locs : List Loc), va_P D vwCl (LW cA h as st) H → va_D A (LW cA h as st) → va_S A s.heap H locs → ∀ ls : Array Slot, lv_has ls 3 [(2, .int (nI k)), (1, .int (nI pp)), (0, .ref h)] → W p l e rm_X0_repeatsBy s m args below meth c H locs 0 0 Q (F0 m 2 ls []) := by
    intro n
    induction n with
    | zero =>
      intro k hk ha H locs hP hD hS ls hl
      obtain rfl : k = 16 - pp := by omega
      refine lv_iload_n hx hb dX0_repeatsBy_2 rfl (lv_at hl 0 rfl) ?_
      refine lv_iload_n hx hb dX0_repeatsBy_3 rfl (lv_at hl 1 rfl) ?_
      refine lv_iadd hx hb dX0_repeatsBy_4 ?_
      refine lv_bipush (v := 16) hx hb dX0_repeatsBy_5 (by decide) ?_
      refine lv_icmp_ge (tgt := 33) hx hb dX0_repeatsBy_7 (by decide) (fun c_1 => ?_) (fun c_1 => absurd (by rw [nI_add, show 16 - pp + pp = 16 by omega]; decide) c_1)
      refine lv_iconst (v := 1) hx hb dX0_repeatsBy_33 (by decide) ?_
      exact hret _ _ _ _ _ hP (by rw [lf_rep, ha]; rfl) hS dX0_repeatsBy_34
    | succ n ih =>
      intro k hk ha H locs hP hD hS ls hl
      refine lv_iload_n hx hb dX0_repeatsBy_2 rfl (lv_at hl 0 rfl) ?_
      refine lv_iload_n hx hb dX0_repeatsBy_3 rfl (lv_at hl 1 rfl) ?_
      refine lv_iadd hx hb dX0_repeatsBy_4 ?_
      refine lv_bipush (v := 16) hx hb dX0_repeatsBy_5 (by decide) ?_
      refine lv_icmp_ge (tgt := 33) hx hb dX0_repeatsBy_7 (by decide) (fun c_2 => absurd c_2 (by rw [nI_add]; exact nI_ge (a := k + pp) (b := 16) (by omega) (by decide))) (fun c_2 => ?_)
      refine lv_aload_n hx hb dX0_repeatsBy_10 rfl (lv_at hl 2 rfl) ?_
      refine lv_iload_n hx hb dX0_repeatsBy_11 rfl (lv_at hl 0 rfl) ?_
      refine bm_i [] (LW cA h as st) [] [.int (nI k)] [] ⟨hx, hb, hml, hown, hts⟩ (c_X0_farAgo l D cA cZ cR h as st (nI k)) (cwV 1 hts gX0_repeatsBy_X0_farAgo rfl rfl rfl (by decide +kernel) ⟨Nat.le_of_ble_eq_true rfl, Nat.le_of_ble_eq_true rfl⟩) hE hP hD hS hA LW_adr 0 0 rfl rfl rfl hl.1 rfl (Nat.le_of_ble_eq_true rfl) dX0_repeatsBy_12 ⟨Nat.zero_le _, Nat.zero_le _⟩ (fun H locs hP hD hS => ?_)
      have hP : va_P D vwCl (LW cA h as st) H := hP
      have hD : va_D A (LW cA h as st) := hD
      refine lv_aload_n hx hb dX0_repeatsBy_15 rfl (lv_at hl 2 rfl) ?_
      refine lv_iload_n hx hb dX0_repeatsBy_16 rfl (lv_at hl 0 rfl) ?_
      refine lv_iload_n hx hb dX0_repeatsBy_17 rfl (lv_at hl 1 rfl) ?_
      refine lv_iadd hx hb dX0_repeatsBy_18 ?_
      refine bm_i [] (LW cA h as st) [] [.int ((nI k) + (nI pp))] [.int (fa st (nI k))] ⟨hx, hb, hml, hown, hts⟩ (c_X0_farAgo l D cA cZ cR h as st ((nI k) + (nI pp))) (cwV 1 hts gX0_repeatsBy_X0_farAgo rfl rfl rfl (by decide +kernel) ⟨Nat.le_of_ble_eq_true rfl, Nat.le_of_ble_eq_true rfl⟩) hE hP hD hS hA LW_adr 0 0 rfl rfl rfl hl.1 rfl (Nat.le_of_ble_eq_true rfl) dX0_repeatsBy_19 ⟨Nat.zero_le _, Nat.zero_le _⟩ (fun H locs hP hD hS => ?_)
      have hP : va_P D vwCl (LW cA h as st) H := hP
      have hD : va_D A (LW cA h as st) := hD
      refine lv_icmp_eq (tgt := 27) hx hb dX0_repeatsBy_22 (by decide) (fun c_3 => ?_) (fun c_3 => ?_)
      · have c_3 : (fa st (nI k)) = (fa st ((nI k) + (nI pp))) := c_3
        refine lv_iinc (v := nI (k + 1)) (lv' := [(2, .int (nI (k + 1))), (1, .int (nI pp)), (0, .ref h)]) hx hb dX0_repeatsBy_27 hl (k := 0) rfl (nI_1 k) (by decide) rfl (fun ls hl => ?_)
        refine lv_goto (tgt := 2) hx hb dX0_repeatsBy_30 (by decide) ?_
        exact ih (k + 1) (by omega) (by rw [pf_al, ha, decide_eq_true c_3]; rfl) H locs hP hD hS ls (lv_sub hl [0, 1, 2] rfl)
      · have c_3 : ¬ (fa st (nI k)) = (fa st ((nI k) + (nI pp))) := c_3
        refine lv_iconst (v := 0) hx hb dX0_repeatsBy_25 (by decide) ?_
        exact hret _ _ _ _ _ hP (by rw [lf_rep, pf_al_f (k := k) (by omega) (decide_eq_false c_3)]; rfl) hS dX0_repeatsBy_26
  exact loop (16 - pp) 0 (Nat.zero_add _) rfl H locs hP hD hS ls (lv_sub hl [0, 2, 1] rfl)

abbrev rm_X0_tonePeriod : Room := { frames := 2, cells := 0, slots := 0, locals := 43 }
set_option maxRecDepth 100000 in
set_option maxHeartbeats 4000000 in
theorem c_X0_tonePeriod (l : Launch) (D : va_G) (cA cZ cR : ClassId) (h : Nat) (as : Nat → Nat) (st : St) : BMi l D cA cZ cR yX0_tonePeriod wsX0_tonePeriod rm_X0_tonePeriod [.ref h] (LW cA h as st) (LW cA h as st) (nI (lf_tone st)) := by
  refine bm_open (maxL := 2) (by decide) rfl rfl rfl (Nat.le_of_ble_eq_true rfl) ?_
  intro p e s m args below meth c A Q hx hb hml hts hown hE hP hD hA hS hret ls hl
  have hown : s.vm.findClass RX0 = some m.cls := hown
  have hl : lv_has ls 2 [(0, .ref h)] := hl
  obtain ⟨H, locs, eH, eL⟩ : ∃ (H : Heap) (locs : List Loc), H = s.heap ∧ locs = [] := ⟨_, _, rfl, rfl⟩
  rw [← eH, ← eL]
  rw [← eH] at hP
  have hS : va_S A s.heap H locs := by rw [eH, eL]; exact hS
  clear eH eL
  refine lv_aload_n hx hb dX0_tonePeriod_0 rfl (lv_at hl 0 rfl) ?_
  refine bm_i [] (LW cA h as st) [] [] [] ⟨hx, hb, hml, hown, hts⟩ (c_X0_silent l D cA cZ cR h as st) (cwV 0 hts gX0_tonePeriod_X0_silent rfl rfl rfl (by decide +kernel) ⟨Nat.le_of_ble_eq_true rfl, Nat.le_of_ble_eq_true rfl⟩) hE hP hD hS hA LW_adr 0 0 rfl rfl rfl hl.1 rfl (Nat.le_of_ble_eq_true rfl) dX0_tonePeriod_1 ⟨Nat.zero_le _, Nat.zero_le _⟩ (fun H locs hP hD hS => ?_)
  have hP : va_P D vwCl (LW cA h as st) H := hP
  have hD : va_D A (LW cA h as st) := hD
  refine lv_if_eq (tgt := 9) hx hb dX0_tonePeriod_4 (by decide) (fun c_1 => ?_) (fun c_1 => ?_)
  · have c_1 : (pf_b (lf_sil st)) = 0 := c_1
    have hs : lf_sil st = false := pf_b0.mp c_1
    refine lv_iconst (v := 1) hx hb dX0_tonePeriod_9 (by decide) ?_
    refine lv_istore_n (lv' := [(1, .int 1), (0, .ref h)]) hx hb dX0_tonePeriod_10 rfl hl (by decide) rfl (fun ls hl => ?_)
    have loop : ∀ (n : Nat) (k : Nat) (hk : k + n = 9) (ha : pf_ft (lf_rep st) n k = pf_ft (lf_rep st) 8 1), ∀ (H : Heap) (locs : List Loc), va_P D vwCl (LW cA h as st) H → va_D A (LW cA h as st) → va_S A s.heap H locs → ∀ ls : Array Slot, lv_has ls 2 [(1, .int (nI k)), (0, .ref h)] → W p l e rm_X0_tonePeriod s m args below meth c H locs 0 0 Q (F0 m 11 ls []) := by
      intro n
      induction n with
      | zero =>
        intro k hk ha H locs hP hD hS ls hl
        obtain rfl : k = 9 := by omega
        refine lv_iload_n hx hb dX0_tonePeriod_11 rfl (lv_at hl 0 rfl) ?_
        refine lv_bipush (v := 8) hx hb dX0_tonePeriod_12 (by decide) ?_
        refine lv_icmp_gt (tgt := 33) hx hb dX0_tonePeriod_14 (by decide) (fun c_2 => ?_) (fun c_2 => absurd (by decide) c_2)
        refine lv_iconst (v := 0) hx hb dX0_tonePeriod_33 (by decide) ?_
        exact hret _ _ _ _ _ hP (by rw [lf_tone, hs, ← ha]; rfl) hS dX0_tonePeriod_34
      | succ n ih =>
        intro k hk ha H locs hP hD hS ls hl
        refine lv_iload_n hx hb dX0_tonePeriod_11 rfl (lv_at hl 0 rfl) ?_
        refine lv_bipush (v := 8) hx hb dX0_tonePeriod_12 (by decide) ?_
        refine lv_icmp_gt (tgt := 33) hx hb dX0_tonePeriod_14 (by decide) (fun c_3 => absurd c_3 (nI_nlt (a := 8) (b := k) (by omega) (by decide))) (fun c_3 => ?_)
        refine lv_aload_n hx hb dX0_tonePeriod_17 rfl (lv_at hl 1 rfl) ?_
        refine lv_iload_n hx hb dX0_tonePeriod_18 rfl (lv_at hl 0 rfl) ?_
        refine bm_i [] (LW cA h as st) [] [.int (nI k)] [] ⟨hx, hb, hml, hown, hts⟩ (c_X0_repeatsBy l D cA cZ cR h as st k (by omega)) (cwV 1 hts gX0_tonePeriod_X0_repeatsBy rfl rfl rfl (by decide +kernel) ⟨Nat.le_of_ble_eq_true rfl, Nat.le_of_ble_eq_true rfl⟩) hE hP hD hS hA LW_adr 0 0 rfl rfl rfl hl.1 rfl (Nat.le_of_ble_eq_true rfl) dX0_tonePeriod_19 ⟨Nat.zero_le _, Nat.zero_le _⟩ (fun H locs hP hD hS => ?_)
        have hP : va_P D vwCl (LW cA h as st) H := hP
        have hD : va_D A (LW cA h as st) := hD
        refine lv_if_eq (tgt := 27) hx hb dX0_tonePeriod_22 (by decide) (fun c_4 => ?_) (fun c_4 => ?_)
        · have c_4 : (pf_b (lf_rep st k)) = 0 := c_4
          refine lv_iinc (v := nI (k + 1)) (lv' := [(1, .int (nI (k + 1))), (0, .ref h)]) hx hb dX0_tonePeriod_27 hl (k := 0) rfl (nI_1 k) (by decide) rfl (fun ls hl => ?_)
          refine lv_goto (tgt := 11) hx hb dX0_tonePeriod_30 (by decide) ?_
          exact ih (k + 1) (by omega) (by rw [← ha, pf_ft, pf_b0.mp c_4]; rfl) H locs hP hD hS ls (lv_sub hl [0, 1] rfl)
        · have c_4 : ¬ (pf_b (lf_rep st k)) = 0 := c_4
          refine lv_iload_n hx hb dX0_tonePeriod_25 rfl (lv_at hl 0 rfl) ?_
          exact hret _ _ _ _ _ hP (by rw [lf_tone, hs, ← ha, pf_ft, pf_bn c_4]; rfl) hS dX0_tonePeriod_26
    exact loop 8 1 rfl rfl H locs hP hD hS ls (lv_sub hl [0, 1] rfl)
  · have c_1 : ¬ (pf_b (lf_sil st)) = 0 := c_1
    refine lv_iconst (v := 0) hx hb dX0_tonePeriod_7 (by decide) ?_
    exact hret _ _ _ _ _ hP (by rw [lf_tone, pf_bn c_1]; rfl) hS dX0_tonePeriod_8

abbrev rm_X0_learn : Room := { frames := 2, cells := 0, slots := 0, locals := 42 }
theorem iw_X0_learn_X0 : ∀ w ∈ wsX00, w ∈ wsX0_learn := by decide +kernel
set_option maxRecDepth 100000 in
set_option maxHeartbeats 4000000 in
theorem c_X0_learn (l : Launch) (D : va_G) (cA cZ cR : ClassId) (h : Nat) (as : Nat → Nat) (st : St) (left power : Int32) : BMv l D cA cZ cR yX0_learn wsX0_learn rm_X0_learn [.ref h, .int left, .int power] (LW cA h as st) (LW cA h as (lf_learn st left power)) := by
  refine bm_openV (maxL := 8) (by decide) rfl rfl rfl (Nat.le_of_ble_eq_true rfl) ?_
  intro p e s m args below meth c A Q hx hb hml hts hown hE hP hD hA hS hret ls hl
  have hown : s.vm.findClass RX0 = some m.cls := hown
  have hl : lv_has ls 8 [(0, .ref h), (1, .int left), (2, .int power)] := hl
  obtain ⟨H, locs, eH, eL⟩ : ∃ (H : Heap) (locs : List Loc), H = s.heap ∧ locs = [] := ⟨_, _, rfl, rfl⟩
  rw [← eH, ← eL]
  rw [← eH] at hP
  have hS : va_S A s.heap H locs := by rw [eH, eL]; exact hS
  clear eH eL
  refine lv_iload_n hx hb dX0_learn_0 rfl (lv_at hl 2 rfl) ?_
  refine lv_if_gt (tgt := 5) hx hb dX0_learn_1 (by decide) (fun c_1 => ?_) (fun c_1 => ?_)
  · have c_1 : 0 < power := c_1
    have hz : ¬ power.toInt64 = 0 := pf_l0 c_1
    have e0 : lf_learn st left power = va_up st 1 (lf_ln st left power 8) := by rw [lf_learn, if_pos c_1]
    rw [e0] at hret
    refine lv_aload_n hx hb dX0_learn_5 rfl (lv_at hl 0 rfl) ?_
    refine va_get (D := D) (ci := 0) (v := .ref (as 0)) (C := RX0) (T := TX0) (N := 11) hx hb hts iw_X0_learn_X0 hown hE.1 hP 0 rfl rfl 0 (by decide) (hts (.fieldLink RX0 18 "EchoTaps$Line" "rules" "[I") (by decide +kernel)) (fun _ h9 => h9) rfl dX0_learn_6 ?_
    refine lv_iconst (v := 0) hx hb dX0_learn_9 (by decide) ?_
    refine va_iald hx hb hE.1 hP 1 0 rfl rfl (vp_in_nI (n := 0) (N := 5) (by decide) (by decide)) dX0_learn_10 ?_
    refine lv_i2l hx hb dX0_learn_11 rfl ?_
    refine lv_iload_n hx hb dX0_learn_12 rfl (lv_at hl 1 rfl) ?_
    refine lv_i2l hx hb dX0_learn_13 rfl ?_
    refine lv_lmul hx hb dX0_learn_14 ?_
    refine lv_lstore_n (lv' := [(3, .long ((((st 0) 0).toInt64) * left.toInt64)), (0, .ref h), (1, .int left), (2, .int power)]) hx hb dX0_learn_15 rfl hl (by decide) rfl (fun ls hl => ?_)
    refine lv_iconst (v := 0) hx hb dX0_learn_16 (by decide) ?_
    refine lv_istore (lv' := [(5, .int 0), (3, .long ((((st 0) 0).toInt64) * left.toInt64)), (0, .ref h), (1, .int left), (2, .int power)]) hx hb dX0_learn_17 hl (by decide) rfl (fun ls hl => ?_)
    have hP : va_P D vwCl (LW cA h as (va_up st 1 (lf_ln st left power 0))) H := hP
    have hD : va_D A (LW cA h as (va_up st 1 (lf_ln st left power 0))) := hD
    have loop : ∀ (n : Nat) (k : Nat) (hk : k + n = 8), ∀ (H : Heap) (locs : List Loc), va_P D vwCl (LW cA h as (va_up st 1 (lf_ln st left power k))) H → va_D A (LW cA h as (va_up st 1 (lf_ln st left power k))) → va_S A s.heap H locs → ∀ ls : Array Slot, lv_has ls 8 [(5, .int (nI k)), (3, .long ((st 0 0).toInt64 * left.toInt64)), (2, .int power), (1, .int left), (0, .ref h)] → W p l e rm_X0_learn s m args below meth c H locs 0 0 Q (F0 m 19 ls []) := by
      intro n
      induction n with
      | zero =>
        intro k hk H locs hP hD hS ls hl
        obtain rfl : k = 8 := by omega
        refine lv_iload hx hb dX0_learn_19 (lv_at hl 0 rfl) ?_
        refine lv_bipush (v := 8) hx hb dX0_learn_21 (by decide) ?_
        refine lv_icmp_ge (tgt := 77) hx hb dX0_learn_23 (by decide) (fun c_2 => ?_) (fun c_2 => absurd (by decide) c_2)
        exact hret _ _ _ _ hP hS dX0_learn_77
      | succ n ih =>
        intro k hk H locs hP hD hS ls hl
        refine lv_iload hx hb dX0_learn_19 (lv_at hl 0 rfl) ?_
        refine lv_bipush (v := 8) hx hb dX0_learn_21 (by decide) ?_
        refine lv_icmp_ge (tgt := 77) hx hb dX0_learn_23 (by decide) (fun c_3 => absurd c_3 (nI_ge (a := k) (b := 8) (by omega) (by decide))) (fun c_3 => ?_)
        refine lv_lload_n hx hb dX0_learn_26 rfl (lv_at hl 1 rfl) ?_
        refine lv_aload_n hx hb dX0_learn_27 rfl (lv_at hl 4 rfl) ?_
        refine lv_iload hx hb dX0_learn_28 (lv_at hl 0 rfl) ?_
        refine bm_i [] (LW cA h as (va_up st 1 (lf_ln st left power k))) [] [.int (nI k)] [.long ((st 0 0).toInt64 * left.toInt64)] ⟨hx, hb, hml, hown, hts⟩ (c_X0_seenBy l D cA cZ cR h as (va_up st 1 (lf_ln st left power k)) (nI k)) (cwV 1 hts gX0_learn_X0_seenBy rfl rfl rfl (by decide +kernel) ⟨Nat.le_of_ble_eq_true rfl, Nat.le_of_ble_eq_true rfl⟩) hE hP hD hS hA LW_adr 0 0 rfl rfl rfl hl.1 rfl (Nat.le_of_ble_eq_true rfl) dX0_learn_30 ⟨Nat.zero_le _, Nat.zero_le _⟩ (fun H locs hP hD hS => ?_)
        have hP : va_P D vwCl (LW cA h as (va_up st 1 (lf_ln st left power k))) H := hP
        have hD : va_D A (LW cA h as (va_up st 1 (lf_ln st left power k))) := hD
        refine lv_i2l hx hb dX0_learn_33 rfl ?_
        refine lv_lmul hx hb dX0_learn_34 ?_
        refine lv_iload_n hx hb dX0_learn_35 rfl (lv_at hl 2 rfl) ?_
        refine lv_i2l hx hb dX0_learn_36 rfl ?_
        refine lv_ldiv hx hb dX0_learn_37 hz ?_
        refine lv_lstore (lv' := [(6, .long ((((st 0 0).toInt64 * left.toInt64) * ((fa (va_up st 1 (lf_ln st left power k)) ((nI k) + (va_up st 1 (lf_ln st left power k)) 0 4)).toInt64)) / power.toInt64)), (5, .int (nI k)), (3, .long ((st 0 0).toInt64 * left.toInt64)), (2, .int power), (1, .int left), (0, .ref h)]) hx hb dX0_learn_38 hl (by decide) rfl (fun ls hl => ?_)
        refine lv_aload_n hx hb dX0_learn_40 rfl (lv_at hl 5 rfl) ?_
        refine va_get (D := D) (ci := 0) (v := .ref (as 1)) (C := RX0) (T := TX0) (N := 11) hx hb hts iw_X0_learn_X0 hown hE.1 hP 0 rfl rfl 1 (by decide) (hts (.fieldLink RX0 23 "EchoTaps$Line" "taps" "[I") (by decide +kernel)) (fun _ h9 => h9) rfl dX0_learn_41 ?_
        refine lv_iload hx hb dX0_learn_44 (lv_at hl 1 rfl) ?_
        refine lv_ldc2 (v := (-4096)) hx hb hown (hts (.constantLong RX0 122 (-4096)) (by decide +kernel)) dX0_learn_46 ?_
        refine lv_ldc2 (v := 4095) hx hb hown (hts (.constantLong RX0 124 (4095)) (by decide +kernel)) dX0_learn_49 ?_
        refine lv_aload_n hx hb dX0_learn_52 rfl (lv_at hl 5 rfl) ?_
        refine va_get (D := D) (ci := 0) (v := .ref (as 1)) (C := RX0) (T := TX0) (N := 11) hx hb hts iw_X0_learn_X0 hown hE.1 hP 0 rfl rfl 1 (by decide) (hts (.fieldLink RX0 23 "EchoTaps$Line" "taps" "[I") (by decide +kernel)) (fun _ h9 => h9) rfl dX0_learn_53 ?_
        refine lv_iload hx hb dX0_learn_56 (lv_at hl 1 rfl) ?_
        refine va_iald hx hb hE.1 hP 2 0 rfl rfl (vp_in_nI (by omega) (by decide)) dX0_learn_58 ?_
        refine lv_i2l hx hb dX0_learn_59 rfl ?_
        refine lv_lload hx hb dX0_learn_60 (lv_at hl 0 rfl) ?_
        refine lv_ladd hx hb dX0_learn_62 ?_
        refine va_mmin_long hx hb (hml.trans hl.1.symm) hown (hts (.methodLink RX0 126 Lib.MathLoose.min_long.x) (by decide +kernel)) (hts (.static Lib.MathLoose.min_long.x) (by decide +kernel)) (hts (.initialized "java/lang/Math") (by decide +kernel)) (hts (.code Lib.MathLoose.min_long.x Lib.MathLoose.min_long.code 4 (some .long)) (by decide +kernel)) (Nat.le_of_ble_eq_true rfl) (Nat.le_of_ble_eq_true rfl) (Nat.zero_le _) (Nat.zero_le _) dX0_learn_63 ?_
        refine va_mmax_long hx hb (hml.trans hl.1.symm) hown (hts (.methodLink RX0 130 Lib.MathLoose.max_long.x) (by decide +kernel)) (hts (.static Lib.MathLoose.max_long.x) (by decide +kernel)) (hts (.initialized "java/lang/Math") (by decide +kernel)) (hts (.code Lib.MathLoose.max_long.x Lib.MathLoose.max_long.code 4 (some .long)) (by decide +kernel)) (Nat.le_of_ble_eq_true rfl) (Nat.le_of_ble_eq_true rfl) (Nat.zero_le _) (Nat.zero_le _) dX0_learn_66 ?_
        refine lv_l2i hx hb dX0_learn_69 rfl ?_
        refine va_iast hx hb hE.1 hP hD hS 2 0 rfl rfl (vp_in_nI (by omega) (by decide)) dX0_learn_70 (fun H locs hP hD hS => ?_)
        have hP : va_P D vwCl (LW cA h as (va_up (va_up st 1 (lf_ln st left power k)) 1 (upd ((va_up st 1 (lf_ln st left power k)) 1) (nI k).toNatClampNeg ((pf_mxl (-4096) (pf_mnl 4095 (((((va_up st 1 (lf_ln st left power k)) 1) (nI k).toNatClampNeg).toInt64) + ((((st 0 0).toInt64 * left.toInt64) * ((fa (va_up st 1 (lf_ln st left power k)) ((nI k) + (va_up st 1 (lf_ln st left power k)) 0 4)).toInt64)) / power.toInt64)))).toInt32)))) H := hP
        have hD : va_D A (LW cA h as (va_up (va_up st 1 (lf_ln st left power k)) 1 (upd ((va_up st 1 (lf_ln st left power k)) 1) (nI k).toNatClampNeg ((pf_mxl (-4096) (pf_mnl 4095 (((((va_up st 1 (lf_ln st left power k)) 1) (nI k).toNatClampNeg).toInt64) + ((((st 0 0).toInt64 * left.toInt64) * ((fa (va_up st 1 (lf_ln st left power k)) ((nI k) + (va_up st 1 (lf_ln st left power k)) 0 4)).toInt64)) / power.toInt64)))).toInt32)))) := hD
        refine lv_iinc (v := nI (k + 1)) (lv' := [(5, .int (nI (k + 1))), (6, .long ((((st 0 0).toInt64 * left.toInt64) * ((fa (va_up st 1 (lf_ln st left power k)) ((nI k) + (va_up st 1 (lf_ln st left power k)) 0 4)).toInt64)) / power.toInt64)), (3, .long ((st 0 0).toInt64 * left.toInt64)), (2, .int power), (1, .int left), (0, .ref h)]) hx hb dX0_learn_71 hl (k := 1) rfl (nI_1 k) (by decide) rfl (fun ls hl => ?_)
        refine lv_goto (tgt := 19) hx hb dX0_learn_74 (by decide) ?_
        exact ih (k + 1) (by omega) H locs hP hD hS ls (lv_sub hl [0, 2, 3, 4, 5] rfl)
    exact loop 8 0 rfl H locs hP hD hS ls (lv_sub hl [0, 1, 4, 3, 2] rfl)
  · have c_1 : ¬ 0 < power := c_1
    have e0 : lf_learn st left power = st := by rw [lf_learn, if_neg c_1]
    exact hret _ _ _ _ (by rw [e0]; exact hP) hS dX0_learn_4

abbrev rm_X0_softened : Room := { frames := 2, cells := 0, slots := 0, locals := 36 }
theorem iw_X0_softened_X0 : ∀ w ∈ wsX00, w ∈ wsX0_softened := by decide +kernel
set_option maxRecDepth 100000 in
set_option maxHeartbeats 4000000 in
theorem c_X0_softened (l : Launch) (D : va_G) (cA cZ cR : ClassId) (h : Nat) (as : Nat → Nat) (st : St) (left : Int32) : BMi l D cA cZ cR yX0_softened wsX0_softened rm_X0_softened [.ref h, .int left] (LW cA h as st) (LW cA h as (lf_sos st left)) (lf_sor st left) := by
  refine bm_open (maxL := 2) (by decide) rfl rfl rfl (Nat.le_of_ble_eq_true rfl) ?_
  intro p e s m args below meth c A Q hx hb hml hts hown hE hP hD hA hS hret ls hl
  have hown : s.vm.findClass RX0 = some m.cls := hown
  have hl : lv_has ls 2 [(0, .ref h), (1, .int left)] := hl
  obtain ⟨H, locs, eH, eL⟩ : ∃ (H : Heap) (locs : List Loc), H = s.heap ∧ locs = [] := ⟨_, _, rfl, rfl⟩
  rw [← eH, ← eL]
  rw [← eH] at hP
  have hS : va_S A s.heap H locs := by rw [eH, eL]; exact hS
  clear eH eL
  refine lv_iload_n hx hb dX0_softened_0 rfl (lv_at hl 1 rfl) ?_
  refine va_mabs hx hb (hml.trans hl.1.symm) hown (hts (.methodLink RX0 67 Lib.Math.abs.name) (by decide +kernel)) (hts (.static Lib.Math.abs.name) (by decide +kernel)) (hts (.initialized "java/lang/Math") (by decide +kernel)) (hts (.code Lib.Math.abs.name Lib.Math.abs.code 1 (some .int)) (by decide +kernel)) (Nat.le_of_ble_eq_true rfl) (Nat.le_of_ble_eq_true rfl) (Nat.zero_le _) (Nat.zero_le _) dX0_softened_1 ?_
  refine lv_aload_n hx hb dX0_softened_4 rfl (lv_at hl 0 rfl) ?_
  refine va_get (D := D) (ci := 0) (v := .ref (as 0)) (C := RX0) (T := TX0) (N := 11) hx hb hts iw_X0_softened_X0 hown hE.1 hP 0 rfl rfl 0 (by decide) (hts (.fieldLink RX0 18 "EchoTaps$Line" "rules" "[I") (by decide +kernel)) (fun _ h9 => h9) rfl dX0_softened_5 ?_
  refine lv_iconst (v := 2) hx hb dX0_softened_8 (by decide) ?_
  refine va_iald hx hb hE.1 hP 1 0 rfl rfl (vp_in_nI (n := 2) (N := 5) (by decide) (by decide)) dX0_softened_9 ?_
  refine lv_icmp_lt (tgt := 24) hx hb dX0_softened_10 (by decide) (fun c_1 => ?_) (fun c_1 => ?_)
  · have c_1 : (pf_ab left) < ((st 0) 2) := c_1
    have e1 : lf_sos st left = up8 st 2 (pf_nx (st 8 2)) := by rw [lf_sos, if_pos c_1]
    refine lv_aload_n hx hb dX0_softened_24 rfl (lv_at hl 0 rfl) ?_
    refine lv_aload_n hx hb dX0_softened_25 rfl (lv_at hl 0 rfl) ?_
    refine va_get (D := D) (ci := 0) (v := .int (st 8 2)) (C := RX0) (T := TX0) (N := 11) hx hb hts iw_X0_softened_X0 hown hE.1 hP 0 rfl rfl 10 (by decide) (hts (.fieldLink RX0 57 "EchoTaps$Line" "seed" "I") (by decide +kernel)) (fun _ h9 => h9) rfl dX0_softened_26 ?_
    refine sm_n (host := "EchoTaps") [.int (st 8 2)] [.ref h] ⟨hx, hb, hml, hown, hts⟩ (c_X1_nextSeed l (st 8 2)) ⟨va_cnB 1 hts ggX0_softened_X1_nextSeed rfl rfl rfl hE.2.2.1 (hts (.initialized RX1) (by decide +kernel)) (by decide +kernel) ⟨Nat.le_of_ble_eq_true rfl, Nat.le_of_ble_eq_true rfl⟩, (hts (.static yX1_nextSeed) (by decide +kernel)), trivial⟩ rfl hl.1 rfl (Nat.le_of_ble_eq_true rfl) dX0_softened_29 ⟨Nat.zero_le _, Nat.zero_le _⟩ ?_
    refine va_put (D := D) (ci := 0) (v := .int (pf_nx (st 8 2))) (ty := .int) (C := RX0) (T := TX0) (N := 11) hx hb hts iw_X0_softened_X0 tyX0 tyX0_ok nmX0 hown hE.1 hP hD hS 0 rfl rfl 10 (by decide) (hts (.fieldLink RX0 57 "EchoTaps$Line" "seed" "I") (by decide +kernel)) (fun _ h9 => h9) rfl (by decide +kernel) rfl rfl (Nat.le_of_ble_eq_true rfl) dX0_softened_32 (fun H locs hP hD hS => ?_)
    have hP : va_P D vwCl (LW cA h as (va_up st 8 (upd (st 8) 2 (pf_nx (st 8 2))))) H := hP
    have hD : va_D A (LW cA h as (va_up st 8 (upd (st 8) 2 (pf_nx (st 8 2))))) := hD
    refine lv_aload_n hx hb dX0_softened_35 rfl (lv_at hl 0 rfl) ?_
    refine va_get (D := D) (ci := 0) (v := .int ((va_up st 8 (upd (st 8) 2 (pf_nx (st 8 2)))) 8 2)) (C := RX0) (T := TX0) (N := 11) hx hb hts iw_X0_softened_X0 hown hE.1 hP 0 rfl rfl 10 (by decide) (hts (.fieldLink RX0 57 "EchoTaps$Line" "seed" "I") (by decide +kernel)) (fun _ h9 => h9) rfl dX0_softened_36 ?_
    refine lv_aload_n hx hb dX0_softened_39 rfl (lv_at hl 0 rfl) ?_
    refine va_get (D := D) (ci := 0) (v := .ref (as 0)) (C := RX0) (T := TX0) (N := 11) hx hb hts iw_X0_softened_X0 hown hE.1 hP 0 rfl rfl 0 (by decide) (hts (.fieldLink RX0 18 "EchoTaps$Line" "rules" "[I") (by decide +kernel)) (fun _ h9 => h9) rfl dX0_softened_40 ?_
    refine lv_iconst (v := 3) hx hb dX0_softened_43 (by decide) ?_
    refine va_iald hx hb hE.1 hP 1 0 rfl rfl (vp_in_nI (n := 3) (N := 5) (by decide) (by decide)) dX0_softened_44 ?_
    refine sm_n (host := "EchoTaps") [.int ((va_up st 8 (upd (st 8) 2 (pf_nx (st 8 2)))) 8 2), .int (((va_up st 8 (upd (st 8) 2 (pf_nx (st 8 2)))) 0) 3)] [] ⟨hx, hb, hml, hown, hts⟩ (c_X1_centred l ((va_up st 8 (upd (st 8) 2 (pf_nx (st 8 2)))) 8 2) (((va_up st 8 (upd (st 8) 2 (pf_nx (st 8 2)))) 0) 3)) ⟨va_cnB 2 hts ggX0_softened_X1_centred rfl rfl rfl hE.2.2.2 (hts (.initialized RX1) (by decide +kernel)) (by decide +kernel) ⟨Nat.le_of_ble_eq_true rfl, Nat.le_of_ble_eq_true rfl⟩, (hts (.static yX1_centred) (by decide +kernel)), trivial⟩ rfl hl.1 rfl (Nat.le_of_ble_eq_true rfl) dX0_softened_45 ⟨Nat.zero_le _, Nat.zero_le _⟩ ?_
    exact hret _ _ _ _ _ (by rw [e1]; exact hP) (by rw [lf_sor, if_pos c_1]; rfl) hS dX0_softened_48
  · have c_1 : ¬ (pf_ab left) < ((st 0) 2) := c_1
    have e1 : lf_sos st left = st := by rw [lf_sos, if_neg c_1]
    refine lv_iload_n hx hb dX0_softened_13 rfl (lv_at hl 1 rfl) ?_
    refine lv_sipush (v := (-2000)) hx hb dX0_softened_14 (by decide) ?_
    refine lv_sipush (v := 2000) hx hb dX0_softened_17 (by decide) ?_
    refine sm_n (host := "EchoTaps") [.int left, .int (-2000), .int 2000] [] ⟨hx, hb, hml, hown, hts⟩ (c_X1_limited l left (-2000) 2000) ⟨va_cnB 3 hts ggX0_softened_X1_limited rfl rfl rfl hE.2.1 (hts (.initialized RX1) (by decide +kernel)) (by decide +kernel) ⟨Nat.le_of_ble_eq_true rfl, Nat.le_of_ble_eq_true rfl⟩, (hts (.static yX1_limited) (by decide +kernel)), trivial⟩ rfl hl.1 rfl (Nat.le_of_ble_eq_true rfl) dX0_softened_20 ⟨Nat.zero_le _, Nat.zero_le _⟩ ?_
    exact hret _ _ _ _ _ (by rw [e1]; exact hP) (by rw [lf_sor, if_neg c_1]) hS dX0_softened_23

abbrev rm_X0_startAnew : Room := { frames := 0, cells := 0, slots := 0, locals := 0 }
theorem iw_X0_startAnew_X0 : ∀ w ∈ wsX00, w ∈ wsX0_startAnew := by decide +kernel
set_option maxRecDepth 100000 in
set_option maxHeartbeats 4000000 in
theorem c_X0_startAnew (l : Launch) (D : va_G) (cA cZ cR : ClassId) (h : Nat) (as : Nat → Nat) (st : St) (d : Int32) : BMv l D cA cZ cR yX0_startAnew wsX0_startAnew rm_X0_startAnew [.ref h, .int d] (LW cA h as st) (LW cA h as (lf_anew st d)) := by
  refine bm_openV (maxL := 3) (by decide) rfl rfl rfl (Nat.le_of_ble_eq_true rfl) ?_
  intro p e s m args below meth c A Q hx hb hml hts hown hE hP hD hA hS hret ls hl
  have hown : s.vm.findClass RX0 = some m.cls := hown
  have hl : lv_has ls 3 [(0, .ref h), (1, .int d)] := hl
  obtain ⟨H, locs, eH, eL⟩ : ∃ (H : Heap) (locs : List Loc), H = s.heap ∧ locs = [] := ⟨_, _, rfl, rfl⟩
  rw [← eH, ← eL]
  rw [← eH] at hP
  have hS : va_S A s.heap H locs := by rw [eH, eL]; exact hS
  clear eH eL
  refine lv_aload_n hx hb dX0_startAnew_0 rfl (lv_at hl 0 rfl) ?_
  refine va_get (D := D) (ci := 0) (v := .ref (as 0)) (C := RX0) (T := TX0) (N := 11) hx hb hts iw_X0_startAnew_X0 hown hE.1 hP 0 rfl rfl 0 (by decide) (hts (.fieldLink RX0 18 "EchoTaps$Line" "rules" "[I") (by decide +kernel)) (fun _ h9 => h9) rfl dX0_startAnew_1 ?_
  refine lv_iconst (v := 4) hx hb dX0_startAnew_4 (by decide) ?_
  refine lv_iload_n hx hb dX0_startAnew_5 rfl (lv_at hl 1 rfl) ?_
  refine va_iast hx hb hE.1 hP hD hS 1 0 rfl rfl (vp_in_nI (n := 4) (N := 5) (by decide) (by decide)) dX0_startAnew_6 (fun H locs hP hD hS => ?_)
  have hP : va_P D vwCl (LW cA h as (va_up st 0 (upd (st 0) 4 d))) H := hP
  have hD : va_D A (LW cA h as (va_up st 0 (upd (st 0) 4 d))) := hD
  refine lv_iconst (v := 0) hx hb dX0_startAnew_7 (by decide) ?_
  refine lv_istore_n (lv' := [(2, .int 0), (0, .ref h), (1, .int d)]) hx hb dX0_startAnew_8 rfl hl (by decide) rfl (fun ls hl => ?_)
  have hP : va_P D vwCl (LW cA h as (va_up (va_up st 0 (upd (st 0) 4 d)) 1 (lf_zr (st 1) 0))) H := hP
  have hD : va_D A (LW cA h as (va_up (va_up st 0 (upd (st 0) 4 d)) 1 (lf_zr (st 1) 0))) := hD
  have loop : ∀ (n : Nat) (k : Nat) (hk : k + n = 8), ∀ (H : Heap) (locs : List Loc), va_P D vwCl (LW cA h as (va_up (va_up st 0 (upd (st 0) 4 d)) 1 (lf_zr (st 1) k))) H → va_D A (LW cA h as (va_up (va_up st 0 (upd (st 0) 4 d)) 1 (lf_zr (st 1) k))) → va_S A s.heap H locs → ∀ ls : Array Slot, lv_has ls 3 [(2, .int (nI k)), (1, .int d), (0, .ref h)] → W p l e rm_X0_startAnew s m args below meth c H locs 0 0 Q (F0 m 9 ls []) := by
    intro n
    induction n with
    | zero =>
      intro k hk H locs hP hD hS ls hl
      obtain rfl : k = 8 := by omega
      refine lv_iload_n hx hb dX0_startAnew_9 rfl (lv_at hl 0 rfl) ?_
      refine lv_bipush (v := 8) hx hb dX0_startAnew_10 (by decide) ?_
      refine lv_icmp_ge (tgt := 28) hx hb dX0_startAnew_12 (by decide) (fun c_1 => ?_) (fun c_1 => absurd (by decide) c_1)
      exact hret _ _ _ _ hP hS dX0_startAnew_28
    | succ n ih =>
      intro k hk H locs hP hD hS ls hl
      refine lv_iload_n hx hb dX0_startAnew_9 rfl (lv_at hl 0 rfl) ?_
      refine lv_bipush (v := 8) hx hb dX0_startAnew_10 (by decide) ?_
      refine lv_icmp_ge (tgt := 28) hx hb dX0_startAnew_12 (by decide) (fun c_2 => absurd c_2 (nI_ge (a := k) (b := 8) (by omega) (by decide))) (fun c_2 => ?_)
      refine lv_aload_n hx hb dX0_startAnew_15 rfl (lv_at hl 2 rfl) ?_
      refine va_get (D := D) (ci := 0) (v := .ref (as 1)) (C := RX0) (T := TX0) (N := 11) hx hb hts iw_X0_startAnew_X0 hown hE.1 hP 0 rfl rfl 1 (by decide) (hts (.fieldLink RX0 23 "EchoTaps$Line" "taps" "[I") (by decide +kernel)) (fun _ h9 => h9) rfl dX0_startAnew_16 ?_
      refine lv_iload_n hx hb dX0_startAnew_19 rfl (lv_at hl 0 rfl) ?_
      refine lv_iconst (v := 0) hx hb dX0_startAnew_20 (by decide) ?_
      refine va_iast hx hb hE.1 hP hD hS 2 0 rfl rfl (vp_in_nI (by omega) (by decide)) dX0_startAnew_21 (fun H locs hP hD hS => ?_)
      have hP : va_P D vwCl (LW cA h as (va_up (va_up (va_up st 0 (upd (st 0) 4 d)) 1 (lf_zr (st 1) k)) 1 (upd ((va_up (va_up st 0 (upd (st 0) 4 d)) 1 (lf_zr (st 1) k)) 1) (nI k).toNatClampNeg 0))) H := hP
      have hD : va_D A (LW cA h as (va_up (va_up (va_up st 0 (upd (st 0) 4 d)) 1 (lf_zr (st 1) k)) 1 (upd ((va_up (va_up st 0 (upd (st 0) 4 d)) 1 (lf_zr (st 1) k)) 1) (nI k).toNatClampNeg 0))) := hD
      refine lv_iinc (v := nI (k + 1)) (lv' := [(2, .int (nI (k + 1))), (1, .int d), (0, .ref h)]) hx hb dX0_startAnew_22 hl (k := 0) rfl (nI_1 k) (by decide) rfl (fun ls hl => ?_)
      refine lv_goto (tgt := 9) hx hb dX0_startAnew_25 (by decide) ?_
      exact ih (k + 1) (by omega) H locs hP hD hS ls (lv_sub hl [0, 1, 2] rfl)
  exact loop 8 0 rfl H locs hP hD hS ls (lv_sub hl [0, 2, 1] rfl)

abbrev rm_X0_beginsAt : Room := { frames := 0, cells := 0, slots := 0, locals := 0 }
theorem iw_X0_beginsAt_X0 : ∀ w ∈ wsX00, w ∈ wsX0_beginsAt := by decide +kernel
set_option maxRecDepth 100000 in
set_option maxHeartbeats 4000000 in
theorem c_X0_beginsAt (l : Launch) (D : va_G) (cA cZ cR : ClassId) (h : Nat) (as : Nat → Nat) (st : St) (t mk : Int32) : BMi l D cA cZ cR yX0_beginsAt wsX0_beginsAt rm_X0_beginsAt [.ref h, .int t, .int mk] (LW cA h as st) (LW cA h as st) (pf_b (lf_ba st t mk)) := by
  refine bm_openZ (maxL := 3) (by decide) rfl rfl rfl (Nat.le_of_ble_eq_true rfl) (pf_b_z _) ?_
  intro p e s m args below meth c A Q hx hb hml hts hown hE hP hD hA hS hret ls hl
  have hown : s.vm.findClass RX0 = some m.cls := hown
  have hl : lv_has ls 3 [(0, .ref h), (1, .int t), (2, .int mk)] := hl
  obtain ⟨H, locs, eH, eL⟩ : ∃ (H : Heap) (locs : List Loc), H = s.heap ∧ locs = [] := ⟨_, _, rfl, rfl⟩
  rw [← eH, ← eL]
  rw [← eH] at hP
  have hS : va_S A s.heap H locs := by rw [eH, eL]; exact hS
  clear eH eL
  refine lv_aload_n hx hb dX0_beginsAt_0 rfl (lv_at hl 0 rfl) ?_
  refine va_get (D := D) (ci := 0) (v := .ref (as 6)) (C := RX0) (T := TX0) (N := 11) hx hb hts iw_X0_beginsAt_X0 hown hE.1 hP 0 rfl rfl 6 (by decide) (hts (.fieldLink RX0 38 "EchoTaps$Line" "marks" "[I") (by decide +kernel)) (fun _ h9 => h9) rfl dX0_beginsAt_1 ?_
  refine lv_iload_n hx hb dX0_beginsAt_4 rfl (lv_at hl 1 rfl) ?_
  refine lv_sipush (v := 255) hx hb dX0_beginsAt_5 (by decide) ?_
  refine lv_iand hx hb dX0_beginsAt_8 ?_
  refine va_iald hx hb hE.1 hP 7 0 rfl rfl (in255 _) dX0_beginsAt_9 ?_
  refine lv_iload_n hx hb dX0_beginsAt_10 rfl (lv_at hl 2 rfl) ?_
  refine lv_iand hx hb dX0_beginsAt_11 ?_
  refine lv_if_eq (tgt := 36) hx hb dX0_beginsAt_12 (by decide) (fun c_1 => ?_) (fun c_1 => ?_)
  · have c_1 : (((st 6) (t &&& 255).toNatClampNeg) &&& mk) = 0 := c_1
    refine lv_iconst (v := 0) hx hb dX0_beginsAt_36 (by decide) ?_
    exact hret _ _ _ _ _ hP (by rw [lf_ba, decide_eq_false (fun q => q.1 c_1)]; rfl) hS dX0_beginsAt_37
  · have c_1 : ¬ (((st 6) (t &&& 255).toNatClampNeg) &&& mk) = 0 := c_1
    refine lv_aload_n hx hb dX0_beginsAt_15 rfl (lv_at hl 0 rfl) ?_
    refine va_get (D := D) (ci := 0) (v := .ref (as 6)) (C := RX0) (T := TX0) (N := 11) hx hb hts iw_X0_beginsAt_X0 hown hE.1 hP 0 rfl rfl 6 (by decide) (hts (.fieldLink RX0 38 "EchoTaps$Line" "marks" "[I") (by decide +kernel)) (fun _ h9 => h9) rfl dX0_beginsAt_16 ?_
    refine lv_iload_n hx hb dX0_beginsAt_19 rfl (lv_at hl 1 rfl) ?_
    refine lv_iconst (v := 1) hx hb dX0_beginsAt_20 (by decide) ?_
    refine lv_isub hx hb dX0_beginsAt_21 ?_
    refine lv_sipush (v := 255) hx hb dX0_beginsAt_22 (by decide) ?_
    refine lv_iand hx hb dX0_beginsAt_25 ?_
    refine va_iald hx hb hE.1 hP 7 0 rfl rfl (in255 _) dX0_beginsAt_26 ?_
    refine lv_iload_n hx hb dX0_beginsAt_27 rfl (lv_at hl 2 rfl) ?_
    refine lv_iand hx hb dX0_beginsAt_28 ?_
    refine lv_if_ne (tgt := 36) hx hb dX0_beginsAt_29 (by decide) (fun c_2 => ?_) (fun c_2 => ?_)
    · have c_2 : ¬ (((st 6) ((t - 1) &&& 255).toNatClampNeg) &&& mk) = 0 := c_2
      refine lv_iconst (v := 0) hx hb dX0_beginsAt_36 (by decide) ?_
      exact hret _ _ _ _ _ hP (by rw [lf_ba, decide_eq_false (fun q => c_2 q.2)]; rfl) hS dX0_beginsAt_37
    · have c_2 : (((st 6) ((t - 1) &&& 255).toNatClampNeg) &&& mk) = 0 := c_2
      refine lv_iconst (v := 1) hx hb dX0_beginsAt_32 (by decide) ?_
      refine lv_goto (tgt := 37) hx hb dX0_beginsAt_33 (by decide) ?_
      exact hret _ _ _ _ _ hP (by rw [lf_ba, decide_eq_true ⟨c_1, c_2⟩]; rfl) hS dX0_beginsAt_37

abbrev rm_X0_beginning : Room := { frames := 1, cells := 0, slots := 0, locals := 22 }
theorem iw_X0_beginning_X0 : ∀ w ∈ wsX00, w ∈ wsX0_beginning := by decide +kernel
set_option maxRecDepth 100000 in
set_option maxHeartbeats 4000000 in
theorem c_X0_beginning (l : Launch) (D : va_G) (cA cZ cR : ClassId) (h : Nat) (as : Nat → Nat) (st : St) (i mk : Int32) : BMi l D cA cZ cR yX0_beginning wsX0_beginning rm_X0_beginning [.ref h, .int i, .int mk] (LW cA h as st) (LW cA h as st) (lf_bg st i mk 200 0) := by
  refine bm_open (maxL := 5) (by decide) rfl rfl rfl (Nat.le_of_ble_eq_true rfl) ?_
  intro p e s m args below meth c A Q hx hb hml hts hown hE hP hD hA hS hret ls hl
  have hown : s.vm.findClass RX0 = some m.cls := hown
  have hl : lv_has ls 5 [(0, .ref h), (1, .int i), (2, .int mk)] := hl
  obtain ⟨H, locs, eH, eL⟩ : ∃ (H : Heap) (locs : List Loc), H = s.heap ∧ locs = [] := ⟨_, _, rfl, rfl⟩
  rw [← eH, ← eL]
  rw [← eH] at hP
  have hS : va_S A s.heap H locs := by rw [eH, eL]; exact hS
  clear eH eL
  refine lv_iconst (v := 0) hx hb dX0_beginning_0 (by decide) ?_
  refine lv_istore_n (lv' := [(3, .int 0), (0, .ref h), (1, .int i), (2, .int mk)]) hx hb dX0_beginning_1 rfl hl (by decide) rfl (fun ls hl => ?_)
  refine lv_sipush (v := 199) hx hb dX0_beginning_2 (by decide) ?_
  refine lv_istore (lv' := [(4, .int 199), (3, .int 0), (0, .ref h), (1, .int i), (2, .int mk)]) hx hb dX0_beginning_5 hl (by decide) rfl (fun ls hl => ?_)
  have loop : ∀ (n : Nat) (f : Int32) (hn : n ≤ 200) (hg : lf_bg st i mk n f = lf_bg st i mk 200 0), ∀ (H : Heap) (locs : List Loc), va_P D vwCl (LW cA h as st) H → va_D A (LW cA h as st) → va_S A s.heap H locs → ∀ ls : Array Slot, lv_has ls 5 [(4, .int (nI n + (-1))), (3, .int f), (2, .int mk), (1, .int i), (0, .ref h)] → W p l e rm_X0_beginning s m args below meth c H locs 0 0 Q (F0 m 7 ls []) := by
    intro n
    induction n with
    | zero =>
      intro f hn hg H locs hP hD hS ls hl
      refine lv_iload hx hb dX0_beginning_7 (lv_at hl 0 rfl) ?_
      refine lv_if_lt (tgt := 58) hx hb dX0_beginning_9 (by decide) (fun c_1 => ?_) (fun c_1 => absurd (by decide) c_1)
      refine lv_iload_n hx hb dX0_beginning_58 rfl (lv_at hl 3 rfl) ?_
      refine lv_iconst (v := (-1)) hx hb dX0_beginning_59 (by decide) ?_
      refine lv_icmp_ne (tgt := 67) hx hb dX0_beginning_60 (by decide) (fun c_2 => ?_) (fun c_2 => ?_)
      · have c_2 : ¬ i = (-1) := c_2
        refine lv_bipush (v := (-6)) hx hb dX0_beginning_67 (by decide) ?_
        exact hret _ _ _ _ _ hP (by rw [← hg, lf_bg, if_neg c_2]) hS dX0_beginning_69
      · have c_2 : i = (-1) := c_2
        refine lv_iload_n hx hb dX0_beginning_63 rfl (lv_at hl 1 rfl) ?_
        refine lv_goto (tgt := 69) hx hb dX0_beginning_64 (by decide) ?_
        exact hret _ _ _ _ _ hP (by rw [← hg, lf_bg, if_pos c_2]) hS dX0_beginning_69
    | succ n ih =>
      intro f hn hg H locs hP hD hS ls hl
      rw [pk_m1] at hl
      refine lv_iload hx hb dX0_beginning_7 (lv_at hl 0 rfl) ?_
      refine lv_if_lt (tgt := 58) hx hb dX0_beginning_9 (by decide) (fun c_3 => absurd c_3 (nI_pos (n := n) (by omega))) (fun c_3 => ?_)
      refine lv_iload hx hb dX0_beginning_12 (lv_at hl 0 rfl) ?_
      refine lv_aload_n hx hb dX0_beginning_14 rfl (lv_at hl 4 rfl) ?_
      refine va_get (D := D) (ci := 0) (v := .int (st 8 0)) (C := RX0) (T := TX0) (N := 11) hx hb hts iw_X0_beginning_X0 hown hE.1 hP 0 rfl rfl 8 (by decide) (hts (.fieldLink RX0 50 "EchoTaps$Line" "ticks" "I") (by decide +kernel)) (fun _ h9 => h9) rfl dX0_beginning_15 ?_
      refine lv_icmp_ge (tgt := 52) hx hb dX0_beginning_18 (by decide) (fun c_4 => ?_) (fun c_4 => ?_)
      · have c_4 : (st 8 0) ≤ (nI n) := c_4
        rw [lf_bg, if_neg (fun q => absurd q.1 (Int32.not_lt.mpr c_4))] at hg
        refine lv_iinc (v := nI n + (-1)) (lv' := [(4, .int (nI n + (-1))), (3, .int f), (2, .int mk), (1, .int i), (0, .ref h)]) hx hb dX0_beginning_52 hl (k := 0) rfl (rfl) (by decide) rfl (fun ls hl => ?_)
        refine lv_goto (tgt := 7) hx hb dX0_beginning_55 (by decide) ?_
        exact ih f (by omega) hg H locs hP hD hS ls (lv_sub hl [0, 1, 2, 3, 4] rfl)
      · have c_4 : ¬ (st 8 0) ≤ (nI n) := c_4
        refine lv_aload_n hx hb dX0_beginning_21 rfl (lv_at hl 4 rfl) ?_
        refine lv_aload_n hx hb dX0_beginning_22 rfl (lv_at hl 4 rfl) ?_
        refine va_get (D := D) (ci := 0) (v := .int (st 8 0)) (C := RX0) (T := TX0) (N := 11) hx hb hts iw_X0_beginning_X0 hown hE.1 hP 0 rfl rfl 8 (by decide) (hts (.fieldLink RX0 50 "EchoTaps$Line" "ticks" "I") (by decide +kernel)) (fun _ h9 => h9) rfl dX0_beginning_23 ?_
        refine lv_iload hx hb dX0_beginning_26 (lv_at hl 0 rfl) ?_
        refine lv_isub hx hb dX0_beginning_28 ?_
        refine lv_iload_n hx hb dX0_beginning_29 rfl (lv_at hl 2 rfl) ?_
        refine bm_i [] (LW cA h as st) [] [.int ((st 8 0) - (nI n)), .int mk] [] ⟨hx, hb, hml, hown, hts⟩ (c_X0_beginsAt l D cA cZ cR h as st ((st 8 0) - (nI n)) mk) (cwV 2 hts gX0_beginning_X0_beginsAt rfl rfl rfl (by decide +kernel) ⟨Nat.le_of_ble_eq_true rfl, Nat.le_of_ble_eq_true rfl⟩) hE hP hD hS hA LW_adr 0 0 rfl rfl rfl hl.1 rfl (Nat.le_of_ble_eq_true rfl) dX0_beginning_30 ⟨Nat.zero_le _, Nat.zero_le _⟩ (fun H locs hP hD hS => ?_)
        have hP : va_P D vwCl (LW cA h as st) H := hP
        have hD : va_D A (LW cA h as st) := hD
        refine lv_if_eq (tgt := 52) hx hb dX0_beginning_33 (by decide) (fun c_5 => ?_) (fun c_5 => ?_)
        · have c_5 : (pf_b (lf_ba st ((st 8 0) - (nI n)) mk)) = 0 := c_5
          rw [lf_bg, if_neg (fun q => absurd q.2 (by rw [pf_b0.mp c_5]; decide))] at hg
          refine lv_iinc (v := nI n + (-1)) (lv' := [(4, .int (nI n + (-1))), (3, .int f), (2, .int mk), (1, .int i), (0, .ref h)]) hx hb dX0_beginning_52 hl (k := 0) rfl (rfl) (by decide) rfl (fun ls hl => ?_)
          refine lv_goto (tgt := 7) hx hb dX0_beginning_55 (by decide) ?_
          exact ih f (by omega) hg H locs hP hD hS ls (lv_sub hl [0, 1, 2, 3, 4] rfl)
        · have c_5 : ¬ (pf_b (lf_ba st ((st 8 0) - (nI n)) mk)) = 0 := c_5
          rw [lf_bg, if_pos ⟨Int32.not_le.mp c_4, pf_bn c_5⟩] at hg
          refine lv_iload_n hx hb dX0_beginning_36 rfl (lv_at hl 1 rfl) ?_
          refine lv_iload_n hx hb dX0_beginning_37 rfl (lv_at hl 3 rfl) ?_
          refine lv_icmp_ne (tgt := 49) hx hb dX0_beginning_38 (by decide) (fun c_6 => ?_) (fun c_6 => ?_)
          · have c_6 : ¬ f = i := c_6
            rw [if_neg c_6] at hg
            refine lv_iinc (v := f + 1) (lv' := [(3, .int (f + 1)), (4, .int (nI n)), (2, .int mk), (1, .int i), (0, .ref h)]) hx hb dX0_beginning_49 hl (k := 1) rfl (rfl) (by decide) rfl (fun ls hl => ?_)
            refine lv_iinc (v := nI n + (-1)) (lv' := [(4, .int (nI n + (-1))), (3, .int (f + 1)), (2, .int mk), (1, .int i), (0, .ref h)]) hx hb dX0_beginning_52 hl (k := 1) rfl (rfl) (by decide) rfl (fun ls hl => ?_)
            refine lv_goto (tgt := 7) hx hb dX0_beginning_55 (by decide) ?_
            exact ih _ (by omega) hg H locs hP hD hS ls (lv_sub hl [0, 1, 2, 3, 4] rfl)
          · have c_6 : f = i := c_6
            rw [if_pos c_6] at hg
            refine lv_aload_n hx hb dX0_beginning_41 rfl (lv_at hl 4 rfl) ?_
            refine va_get (D := D) (ci := 0) (v := .int (st 8 0)) (C := RX0) (T := TX0) (N := 11) hx hb hts iw_X0_beginning_X0 hown hE.1 hP 0 rfl rfl 8 (by decide) (hts (.fieldLink RX0 50 "EchoTaps$Line" "ticks" "I") (by decide +kernel)) (fun _ h9 => h9) rfl dX0_beginning_42 ?_
            refine lv_iload hx hb dX0_beginning_45 (lv_at hl 0 rfl) ?_
            refine lv_isub hx hb dX0_beginning_47 ?_
            exact hret _ _ _ _ _ hP hg hS dX0_beginning_48
  exact loop 200 0 (Nat.le_refl _) rfl H locs hP hD hS ls (lv_sub hl [0, 1, 4, 3, 2] rfl)
end
section
def lf_w (s : St) (k j : Nat) (v : Int32) : St := va_up s k (upd (s k) j v)
def lf_n1 (st : St) (near : Int32) : St := lf_w st 4 (st 8 0 &&& 63).toNatClampNeg near
def lf_tlk (s1 : St) (near : Int32) : Int32 := if 2 * pf_ab near ≤ lf_loud s1 then 0 else 1
def lf_lr (s2 : St) (tn pw : Int32) : Int32 := if ¬ s2 8 1 = 0 then 0 else if ¬ tn = 0 then 0 else if pw ≤ 0 then 0 else 1
def lf_n3 (s2 : St) (lr lft pw : Int32) : St := if lr = 0 then s2 else lf_learn s2 lft pw
def lf_o (s3 : St) (near tn lft : Int32) : Int32 := if tn ≤ 0 then lf_sor s3 lft else near
def lf_n4 (s3 : St) (tn lft : Int32) : St := if tn ≤ 0 then lf_sos s3 lft else s3
def lf_b1 (x : Int32) : Int32 := if x = 0 then 0 else 1
def lf_b2 (x : Int32) : Int32 := if x ≤ 0 then 0 else 2
def lf_n6 (s4 : St) (tk tn out : Int32) : St := lf_w (lf_w s4 5 (s4 8 0 &&& 63).toNatClampNeg out) 6 (s4 8 0 &&& 255).toNatClampNeg (lf_b1 tk ||| lf_b2 tn)
def lf_n8 (s6 : St) (est lft out loud pw tk tn lr : Int32) : St := lf_w (lf_w (lf_w (lf_w (lf_w (lf_w (lf_w (lf_w s6 7 0 est) 7 1 lft) 7 2 out) 7 3 loud) 7 4 pw) 7 5 (lf_b1 tk)) 7 6 tn) 7 7 (lf_b1 lr)
/-- what a TICK's second half works out: the state behind NEAR's coming, TALK, the state behind HOLD, LEFT, TONE, POWER, whether it learns, the state behind that, OUT, and the state at the end -/
def lf_t2 (st : St) (near : Int32) : St := lf_hold (lf_n1 st near) (lf_tlk (lf_n1 st near) near)
def lf_tl (st : St) (near : Int32) : Int32 := near - lf_est (lf_n1 st near)
def lf_tt (st : St) (near : Int32) : Int32 := nI (lf_tone (lf_t2 st near))
def lf_tp (st : St) (near : Int32) : Int32 := lf_pow (lf_t2 st near)
def lf_tr (st : St) (near : Int32) : Int32 := lf_lr (lf_t2 st near) (lf_tt st near) (lf_tp st near)
def lf_t3 (st : St) (near : Int32) : St := lf_n3 (lf_t2 st near) (lf_tr st near) (lf_tl st near) (lf_tp st near)
def lf_out (st : St) (near : Int32) : Int32 := lf_o (lf_t3 st near) near (lf_tt st near) (lf_tl st near)
def lf_t6 (st : St) (near : Int32) : St := lf_n6 (lf_n4 (lf_t3 st near) (lf_tt st near) (lf_tl st near)) (lf_tlk (lf_n1 st near) near) (lf_tt st near) (lf_out st near)
def lf_near (st : St) (near : Int32) : St := lf_n8 (lf_t6 st near) (lf_est (lf_n1 st near)) (lf_tl st near) (lf_out st near) (lf_loud (lf_n1 st near)) (lf_tp st near) (lf_tlk (lf_n1 st near) near) (lf_tt st near) (lf_tr st near)
abbrev rm_X0_takeNear : Room := { frames := 3, cells := 0, slots := 0, locals := 69 }
theorem iw_X0_takeNear_X0 : ∀ w ∈ wsX00, w ∈ wsX0_takeNear := by decide +kernel
set_option maxRecDepth 100000 in
set_option maxHeartbeats 4000000 in
theorem c_X0_takeNear (l : Launch) (D : va_G) (cA cZ cR : ClassId) (h : Nat) (as : Nat → Nat) (st : St) (near : Int32) : BMi l D cA cZ cR yX0_takeNear wsX0_takeNear rm_X0_takeNear [.ref h, .int near] (LW cA h as st) (LW cA h as (lf_near st near)) (lf_out st near) := by
  refine bm_open (maxL := 10) (by decide) rfl rfl rfl (Nat.le_of_ble_eq_true rfl) ?_
  intro p e s m args below meth c A Q hx hb hml hts hown hE hP hD hA hS hret ls hl
  have hown : s.vm.findClass RX0 = some m.cls := hown
  have hl : lv_has ls 10 [(0, .ref h), (1, .int near)] := hl
  obtain ⟨H, locs, eH, eL⟩ : ∃ (H : Heap) (locs : List Loc), H = s.heap ∧ locs = [] := ⟨_, _, rfl, rfl⟩
  rw [← eH, ← eL]
  rw [← eH] at hP
  have hS : va_S A s.heap H locs := by rw [eH, eL]; exact hS
  clear eH eL
  refine lv_aload_n hx hb dX0_takeNear_0 rfl (lv_at hl 0 rfl) ?_
  refine va_get (D := D) (ci := 0) (v := .ref (as 4)) (C := RX0) (T := TX0) (N := 11) hx hb hts iw_X0_takeNear_X0 hown hE.1 hP 0 rfl rfl 4 (by decide) (hts (.fieldLink RX0 32 "EchoTaps$Line" "nears" "[I") (by decide +kernel)) (fun _ h9 => h9) rfl dX0_takeNear_1 ?_
  refine lv_aload_n hx hb dX0_takeNear_4 rfl (lv_at hl 0 rfl) ?_
  refine va_get (D := D) (ci := 0) (v := .int (st 8 0)) (C := RX0) (T := TX0) (N := 11) hx hb hts iw_X0_takeNear_X0 hown hE.1 hP 0 rfl rfl 8 (by decide) (hts (.fieldLink RX0 50 "EchoTaps$Line" "ticks" "I") (by decide +kernel)) (fun _ h9 => h9) rfl dX0_takeNear_5 ?_
  refine lv_bipush (v := 63) hx hb dX0_takeNear_8 (by decide) ?_
  refine lv_iand hx hb dX0_takeNear_10 ?_
  refine lv_iload_n hx hb dX0_takeNear_11 rfl (lv_at hl 1 rfl) ?_
  refine va_iast hx hb hE.1 hP hD hS 5 0 rfl rfl (in63 _) dX0_takeNear_12 (fun H locs hP hD hS => ?_)
  have hP : va_P D vwCl (LW cA h as (va_up st 4 (upd (st 4) ((st 8 0) &&& 63).toNatClampNeg near))) H := hP
  have hD : va_D A (LW cA h as (va_up st 4 (upd (st 4) ((st 8 0) &&& 63).toNatClampNeg near))) := hD
  have hP : va_P D vwCl (LW cA h as (lf_n1 st near)) H := hP
  have hD : va_D A (LW cA h as (lf_n1 st near)) := hD
  obtain ⟨s1, es1⟩ : ∃ z : St, z = lf_n1 st near := ⟨_, rfl⟩
  rw [← es1] at hP hD
  refine lv_aload_n hx hb dX0_takeNear_13 rfl (lv_at hl 0 rfl) ?_
  refine bm_i [] (LW cA h as s1) [] [] [] ⟨hx, hb, hml, hown, hts⟩ (c_X0_estimated l D cA cZ cR h as s1) (cwV 0 hts gX0_takeNear_X0_estimated rfl rfl rfl (by decide +kernel) ⟨Nat.le_of_ble_eq_true rfl, Nat.le_of_ble_eq_true rfl⟩) hE hP hD hS hA LW_adr 0 0 rfl rfl rfl hl.1 rfl (Nat.le_of_ble_eq_true rfl) dX0_takeNear_14 ⟨Nat.zero_le _, Nat.zero_le _⟩ (fun H locs hP hD hS => ?_)
  have hP : va_P D vwCl (LW cA h as s1) H := hP
  have hD : va_D A (LW cA h as s1) := hD
  refine lv_topi (fun est eest => ?_)
  refine lv_istore_n (lv' := [(2, .int est), (0, .ref h), (1, .int near)]) hx hb dX0_takeNear_17 rfl hl (by decide) rfl (fun ls hl => ?_)
  refine lv_iload_n hx hb dX0_takeNear_18 rfl (lv_at hl 2 rfl) ?_
  refine lv_iload_n hx hb dX0_takeNear_19 rfl (lv_at hl 0 rfl) ?_
  refine lv_isub hx hb dX0_takeNear_20 ?_
  refine lv_topi (fun lft elft => ?_)
  refine lv_istore_n (lv' := [(3, .int lft), (2, .int est), (0, .ref h), (1, .int near)]) hx hb dX0_takeNear_21 rfl hl (by decide) rfl (fun ls hl => ?_)
  refine lv_aload_n hx hb dX0_takeNear_22 rfl (lv_at hl 2 rfl) ?_
  refine bm_i [] (LW cA h as s1) [] [] [] ⟨hx, hb, hml, hown, hts⟩ (c_X0_loudest l D cA cZ cR h as s1) (cwV 0 hts gX0_takeNear_X0_loudest rfl rfl rfl (by decide +kernel) ⟨Nat.le_of_ble_eq_true rfl, Nat.le_of_ble_eq_true rfl⟩) hE hP hD hS hA LW_adr 0 0 rfl rfl rfl hl.1 rfl (Nat.le_of_ble_eq_true rfl) dX0_takeNear_23 ⟨Nat.zero_le _, Nat.zero_le _⟩ (fun H locs hP hD hS => ?_)
  have hP : va_P D vwCl (LW cA h as s1) H := hP
  have hD : va_D A (LW cA h as s1) := hD
  refine lv_topi (fun loud eloud => ?_)
  refine lv_istore (lv' := [(4, .int loud), (3, .int lft), (2, .int est), (0, .ref h), (1, .int near)]) hx hb dX0_takeNear_26 hl (by decide) rfl (fun ls hl => ?_)
  refine lv_iconst (v := 2) hx hb dX0_takeNear_28 (by decide) ?_
  refine lv_iload_n hx hb dX0_takeNear_29 rfl (lv_at hl 4 rfl) ?_
  refine va_mabs hx hb (hml.trans hl.1.symm) hown (hts (.methodLink RX0 67 Lib.Math.abs.name) (by decide +kernel)) (hts (.static Lib.Math.abs.name) (by decide +kernel)) (hts (.initialized "java/lang/Math") (by decide +kernel)) (hts (.code Lib.Math.abs.name Lib.Math.abs.code 1 (some .int)) (by decide +kernel)) (Nat.le_of_ble_eq_true rfl) (Nat.le_of_ble_eq_true rfl) (Nat.zero_le _) (Nat.zero_le _) dX0_takeNear_30 ?_
  refine lv_imul hx hb dX0_takeNear_33 ?_
  refine lv_iload hx hb dX0_takeNear_34 (lv_at hl 0 rfl) ?_
  have j44 : ∀ (tk : Int32) (etk : tk = lf_tlk s1 near), W p l e rm_X0_takeNear s m args below meth c H locs 0 0 Q (F0 m 44 ls [.int tk]) := by
    intro tk etk
    refine lv_istore (lv' := [(5, .int tk), (4, .int loud), (3, .int lft), (2, .int est), (0, .ref h), (1, .int near)]) hx hb dX0_takeNear_44 hl (by decide) rfl (fun ls hl => ?_)
    refine lv_aload_n hx hb dX0_takeNear_46 rfl (lv_at hl 4 rfl) ?_
    refine lv_iload hx hb dX0_takeNear_47 (lv_at hl 0 rfl) ?_
    refine bm_v [] (LW cA h as s1) [] [.int tk] [] ⟨hx, hb, hml, hown, hts⟩ (c_X0_holdBy l D cA cZ cR h as s1 tk) (cwV 1 hts gX0_takeNear_X0_holdBy rfl rfl rfl (by decide +kernel) ⟨Nat.le_of_ble_eq_true rfl, Nat.le_of_ble_eq_true rfl⟩) hE hP hD hS hA LW_adr 0 0 rfl rfl rfl hl.1 rfl (Nat.le_of_ble_eq_true rfl) dX0_takeNear_49 ⟨Nat.zero_le _, Nat.zero_le _⟩ (fun H locs hP hD hS => ?_)
    have hP : va_P D vwCl (LW cA h as (lf_hold s1 tk)) H := hP
    have hD : va_D A (LW cA h as (lf_hold s1 tk)) := hD
    have hP : va_P D vwCl (LW cA h as (lf_hold s1 tk)) H := hP
    have hD : va_D A (LW cA h as (lf_hold s1 tk)) := hD
    obtain ⟨s2, es2⟩ : ∃ z : St, z = lf_hold s1 tk := ⟨_, rfl⟩
    rw [← es2] at hP hD
    refine lv_aload_n hx hb dX0_takeNear_52 rfl (lv_at hl 4 rfl) ?_
    refine bm_i [] (LW cA h as s2) [] [] [] ⟨hx, hb, hml, hown, hts⟩ (c_X0_tonePeriod l D cA cZ cR h as s2) (cwV 0 hts gX0_takeNear_X0_tonePeriod rfl rfl rfl (by decide +kernel) ⟨Nat.le_of_ble_eq_true rfl, Nat.le_of_ble_eq_true rfl⟩) hE hP hD hS hA LW_adr 0 0 rfl rfl rfl hl.1 rfl (Nat.le_of_ble_eq_true rfl) dX0_takeNear_53 ⟨Nat.zero_le _, Nat.zero_le _⟩ (fun H locs hP hD hS => ?_)
    have hP : va_P D vwCl (LW cA h as s2) H := hP
    have hD : va_D A (LW cA h as s2) := hD
    refine lv_topi (fun tn etn => ?_)
    refine lv_istore (lv' := [(6, .int tn), (5, .int tk), (4, .int loud), (3, .int lft), (2, .int est), (0, .ref h), (1, .int near)]) hx hb dX0_takeNear_56 hl (by decide) rfl (fun ls hl => ?_)
    refine lv_aload_n hx hb dX0_takeNear_58 rfl (lv_at hl 5 rfl) ?_
    refine bm_i [] (LW cA h as s2) [] [] [] ⟨hx, hb, hml, hown, hts⟩ (c_X0_powerSeen l D cA cZ cR h as s2) (cwV 0 hts gX0_takeNear_X0_powerSeen rfl rfl rfl (by decide +kernel) ⟨Nat.le_of_ble_eq_true rfl, Nat.le_of_ble_eq_true rfl⟩) hE hP hD hS hA LW_adr 0 0 rfl rfl rfl hl.1 rfl (Nat.le_of_ble_eq_true rfl) dX0_takeNear_59 ⟨Nat.zero_le _, Nat.zero_le _⟩ (fun H locs hP hD hS => ?_)
    have hP : va_P D vwCl (LW cA h as s2) H := hP
    have hD : va_D A (LW cA h as s2) := hD
    refine lv_topi (fun pw epw => ?_)
    refine lv_istore (lv' := [(7, .int pw), (6, .int tn), (5, .int tk), (4, .int loud), (3, .int lft), (2, .int est), (0, .ref h), (1, .int near)]) hx hb dX0_takeNear_62 hl (by decide) rfl (fun ls hl => ?_)
    refine lv_aload_n hx hb dX0_takeNear_64 rfl (lv_at hl 6 rfl) ?_
    refine va_get (D := D) (ci := 0) (v := .int (s2 8 1)) (C := RX0) (T := TX0) (N := 11) hx hb hts iw_X0_takeNear_X0 hown hE.1 hP 0 rfl rfl 9 (by decide) (hts (.fieldLink RX0 54 "EchoTaps$Line" "hold" "I") (by decide +kernel)) (fun _ h9 => h9) rfl dX0_takeNear_65 ?_
    have j86 : ∀ (lr : Int32) (elr : lr = lf_lr s2 tn pw), W p l e rm_X0_takeNear s m args below meth c H locs 0 0 Q (F0 m 86 ls [.int lr]) := by
      intro lr elr
      refine lv_istore (lv' := [(8, .int lr), (7, .int pw), (6, .int tn), (5, .int tk), (4, .int loud), (3, .int lft), (2, .int est), (0, .ref h), (1, .int near)]) hx hb dX0_takeNear_86 hl (by decide) rfl (fun ls hl => ?_)
      refine lv_iload hx hb dX0_takeNear_88 (lv_at hl 0 rfl) ?_
      have j100 : ∀ (s3 : St) (es3 : s3 = lf_n3 s2 lr lft pw), ∀ (H : Heap) (locs : List Loc), va_P D vwCl (LW cA h as s3) H → va_D A (LW cA h as s3) → va_S A s.heap H locs → W p l e rm_X0_takeNear s m args below meth c H locs 0 0 Q (F0 m 100 ls []) := by
        intro s3 es3 H locs hP hD hS
        refine lv_iload hx hb dX0_takeNear_100 (lv_at hl 2 rfl) ?_
        have j114 : ∀ (out : Int32) (s4 : St) (eout : out = lf_o s3 near tn lft) (es4 : s4 = lf_n4 s3 tn lft), ∀ (H : Heap) (locs : List Loc), va_P D vwCl (LW cA h as s4) H → va_D A (LW cA h as s4) → va_S A s.heap H locs → W p l e rm_X0_takeNear s m args below meth c H locs 0 0 Q (F0 m 114 ls [.int out]) := by
          intro out s4 eout es4 H locs hP hD hS
          refine lv_istore (lv' := [(9, .int out), (8, .int lr), (7, .int pw), (6, .int tn), (5, .int tk), (4, .int loud), (3, .int lft), (2, .int est), (0, .ref h), (1, .int near)]) hx hb dX0_takeNear_114 hl (by decide) rfl (fun ls hl => ?_)
          refine lv_aload_n hx hb dX0_takeNear_116 rfl (lv_at hl 8 rfl) ?_
          refine va_get (D := D) (ci := 0) (v := .ref (as 5)) (C := RX0) (T := TX0) (N := 11) hx hb hts iw_X0_takeNear_X0 hown hE.1 hP 0 rfl rfl 5 (by decide) (hts (.fieldLink RX0 35 "EchoTaps$Line" "outs" "[I") (by decide +kernel)) (fun _ h9 => h9) rfl dX0_takeNear_117 ?_
          refine lv_aload_n hx hb dX0_takeNear_120 rfl (lv_at hl 8 rfl) ?_
          refine va_get (D := D) (ci := 0) (v := .int (s4 8 0)) (C := RX0) (T := TX0) (N := 11) hx hb hts iw_X0_takeNear_X0 hown hE.1 hP 0 rfl rfl 8 (by decide) (hts (.fieldLink RX0 50 "EchoTaps$Line" "ticks" "I") (by decide +kernel)) (fun _ h9 => h9) rfl dX0_takeNear_121 ?_
          refine lv_bipush (v := 63) hx hb dX0_takeNear_124 (by decide) ?_
          refine lv_iand hx hb dX0_takeNear_126 ?_
          refine lv_iload hx hb dX0_takeNear_127 (lv_at hl 0 rfl) ?_
          refine va_iast hx hb hE.1 hP hD hS 6 0 rfl rfl (in63 _) dX0_takeNear_129 (fun H locs hP hD hS => ?_)
          have hP : va_P D vwCl (LW cA h as (va_up s4 5 (upd (s4 5) ((s4 8 0) &&& 63).toNatClampNeg out))) H := hP
          have hD : va_D A (LW cA h as (va_up s4 5 (upd (s4 5) ((s4 8 0) &&& 63).toNatClampNeg out))) := hD
          have hP : va_P D vwCl (LW cA h as (lf_w s4 5 (s4 8 0 &&& 63).toNatClampNeg out)) H := hP
          have hD : va_D A (LW cA h as (lf_w s4 5 (s4 8 0 &&& 63).toNatClampNeg out)) := hD
          obtain ⟨s5, es5⟩ : ∃ z : St, z = lf_w s4 5 (s4 8 0 &&& 63).toNatClampNeg out := ⟨_, rfl⟩
          rw [← es5] at hP hD
          refine lv_aload_n hx hb dX0_takeNear_130 rfl (lv_at hl 8 rfl) ?_
          refine va_get (D := D) (ci := 0) (v := .ref (as 6)) (C := RX0) (T := TX0) (N := 11) hx hb hts iw_X0_takeNear_X0 hown hE.1 hP 0 rfl rfl 6 (by decide) (hts (.fieldLink RX0 38 "EchoTaps$Line" "marks" "[I") (by decide +kernel)) (fun _ h9 => h9) rfl dX0_takeNear_131 ?_
          refine lv_aload_n hx hb dX0_takeNear_134 rfl (lv_at hl 8 rfl) ?_
          refine va_get (D := D) (ci := 0) (v := .int (s5 8 0)) (C := RX0) (T := TX0) (N := 11) hx hb hts iw_X0_takeNear_X0 hown hE.1 hP 0 rfl rfl 8 (by decide) (hts (.fieldLink RX0 50 "EchoTaps$Line" "ticks" "I") (by decide +kernel)) (fun _ h9 => h9) rfl dX0_takeNear_135 ?_
          refine lv_sipush (v := 255) hx hb dX0_takeNear_138 (by decide) ?_
          refine lv_iand hx hb dX0_takeNear_141 ?_
          refine lv_iload hx hb dX0_takeNear_142 (lv_at hl 4 rfl) ?_
          have j152 : ∀ (b1 : Int32) (eb1 : b1 = lf_b1 tk), W p l e rm_X0_takeNear s m args below meth c H locs 0 0 Q (F0 m 152 ls [.int b1, .int ((s5 8 0) &&& 255), .ref (as 6)]) := by
            intro b1 eb1
            refine lv_iload hx hb dX0_takeNear_152 (lv_at hl 3 rfl) ?_
            have j162 : ∀ (b2 : Int32) (eb2 : b2 = lf_b2 tn), W p l e rm_X0_takeNear s m args below meth c H locs 0 0 Q (F0 m 162 ls [.int b2, .int b1, .int ((s5 8 0) &&& 255), .ref (as 6)]) := by
              intro b2 eb2
              refine lv_ior hx hb dX0_takeNear_162 ?_
              refine va_iast hx hb hE.1 hP hD hS 7 0 rfl rfl (in255 _) dX0_takeNear_163 (fun H locs hP hD hS => ?_)
              have hP : va_P D vwCl (LW cA h as (va_up s5 6 (upd (s5 6) ((s5 8 0) &&& 255).toNatClampNeg (b1 ||| b2)))) H := hP
              have hD : va_D A (LW cA h as (va_up s5 6 (upd (s5 6) ((s5 8 0) &&& 255).toNatClampNeg (b1 ||| b2)))) := hD
              have hP : va_P D vwCl (LW cA h as (lf_w s5 6 (s5 8 0 &&& 255).toNatClampNeg (b1 ||| b2))) H := hP
              have hD : va_D A (LW cA h as (lf_w s5 6 (s5 8 0 &&& 255).toNatClampNeg (b1 ||| b2))) := hD
              obtain ⟨s6, es6⟩ : ∃ z : St, z = lf_w s5 6 (s5 8 0 &&& 255).toNatClampNeg (b1 ||| b2) := ⟨_, rfl⟩
              rw [← es6] at hP hD
              refine lv_aload_n hx hb dX0_takeNear_164 rfl (lv_at hl 8 rfl) ?_
              refine va_get (D := D) (ci := 0) (v := .ref (as 7)) (C := RX0) (T := TX0) (N := 11) hx hb hts iw_X0_takeNear_X0 hown hE.1 hP 0 rfl rfl 7 (by decide) (hts (.fieldLink RX0 41 "EchoTaps$Line" "told" "[I") (by decide +kernel)) (fun _ h9 => h9) rfl dX0_takeNear_165 ?_
              refine lv_iconst (v := 0) hx hb dX0_takeNear_168 (by decide) ?_
              refine lv_iload_n hx hb dX0_takeNear_169 rfl (lv_at hl 7 rfl) ?_
              refine va_iast hx hb hE.1 hP hD hS 8 0 rfl rfl (vp_in_nI (n := 0) (N := 8) (by decide) (by decide)) dX0_takeNear_170 (fun H locs hP hD hS => ?_)
              have hP : va_P D vwCl (LW cA h as (va_up s6 7 (upd (s6 7) 0 est))) H := hP
              have hD : va_D A (LW cA h as (va_up s6 7 (upd (s6 7) 0 est))) := hD
              have hP : va_P D vwCl (LW cA h as (lf_w s6 7 0 est)) H := hP
              have hD : va_D A (LW cA h as (lf_w s6 7 0 est)) := hD
              obtain ⟨r0, er0⟩ : ∃ z : St, z = lf_w s6 7 0 est := ⟨_, rfl⟩
              rw [← er0] at hP hD
              refine lv_aload_n hx hb dX0_takeNear_171 rfl (lv_at hl 8 rfl) ?_
              refine va_get (D := D) (ci := 0) (v := .ref (as 7)) (C := RX0) (T := TX0) (N := 11) hx hb hts iw_X0_takeNear_X0 hown hE.1 hP 0 rfl rfl 7 (by decide) (hts (.fieldLink RX0 41 "EchoTaps$Line" "told" "[I") (by decide +kernel)) (fun _ h9 => h9) rfl dX0_takeNear_172 ?_
              refine lv_iconst (v := 1) hx hb dX0_takeNear_175 (by decide) ?_
              refine lv_iload_n hx hb dX0_takeNear_176 rfl (lv_at hl 6 rfl) ?_
              refine va_iast hx hb hE.1 hP hD hS 8 0 rfl rfl (vp_in_nI (n := 1) (N := 8) (by decide) (by decide)) dX0_takeNear_177 (fun H locs hP hD hS => ?_)
              have hP : va_P D vwCl (LW cA h as (va_up r0 7 (upd (r0 7) 1 lft))) H := hP
              have hD : va_D A (LW cA h as (va_up r0 7 (upd (r0 7) 1 lft))) := hD
              have hP : va_P D vwCl (LW cA h as (lf_w r0 7 1 lft)) H := hP
              have hD : va_D A (LW cA h as (lf_w r0 7 1 lft)) := hD
              obtain ⟨r1, er1⟩ : ∃ z : St, z = lf_w r0 7 1 lft := ⟨_, rfl⟩
              rw [← er1] at hP hD
              refine lv_aload_n hx hb dX0_takeNear_178 rfl (lv_at hl 8 rfl) ?_
              refine va_get (D := D) (ci := 0) (v := .ref (as 7)) (C := RX0) (T := TX0) (N := 11) hx hb hts iw_X0_takeNear_X0 hown hE.1 hP 0 rfl rfl 7 (by decide) (hts (.fieldLink RX0 41 "EchoTaps$Line" "told" "[I") (by decide +kernel)) (fun _ h9 => h9) rfl dX0_takeNear_179 ?_
              refine lv_iconst (v := 2) hx hb dX0_takeNear_182 (by decide) ?_
              refine lv_iload hx hb dX0_takeNear_183 (lv_at hl 0 rfl) ?_
              refine va_iast hx hb hE.1 hP hD hS 8 0 rfl rfl (vp_in_nI (n := 2) (N := 8) (by decide) (by decide)) dX0_takeNear_185 (fun H locs hP hD hS => ?_)
              have hP : va_P D vwCl (LW cA h as (va_up r1 7 (upd (r1 7) 2 out))) H := hP
              have hD : va_D A (LW cA h as (va_up r1 7 (upd (r1 7) 2 out))) := hD
              have hP : va_P D vwCl (LW cA h as (lf_w r1 7 2 out)) H := hP
              have hD : va_D A (LW cA h as (lf_w r1 7 2 out)) := hD
              obtain ⟨r2, er2⟩ : ∃ z : St, z = lf_w r1 7 2 out := ⟨_, rfl⟩
              rw [← er2] at hP hD
              refine lv_aload_n hx hb dX0_takeNear_186 rfl (lv_at hl 8 rfl) ?_
              refine va_get (D := D) (ci := 0) (v := .ref (as 7)) (C := RX0) (T := TX0) (N := 11) hx hb hts iw_X0_takeNear_X0 hown hE.1 hP 0 rfl rfl 7 (by decide) (hts (.fieldLink RX0 41 "EchoTaps$Line" "told" "[I") (by decide +kernel)) (fun _ h9 => h9) rfl dX0_takeNear_187 ?_
              refine lv_iconst (v := 3) hx hb dX0_takeNear_190 (by decide) ?_
              refine lv_iload hx hb dX0_takeNear_191 (lv_at hl 5 rfl) ?_
              refine va_iast hx hb hE.1 hP hD hS 8 0 rfl rfl (vp_in_nI (n := 3) (N := 8) (by decide) (by decide)) dX0_takeNear_193 (fun H locs hP hD hS => ?_)
              have hP : va_P D vwCl (LW cA h as (va_up r2 7 (upd (r2 7) 3 loud))) H := hP
              have hD : va_D A (LW cA h as (va_up r2 7 (upd (r2 7) 3 loud))) := hD
              have hP : va_P D vwCl (LW cA h as (lf_w r2 7 3 loud)) H := hP
              have hD : va_D A (LW cA h as (lf_w r2 7 3 loud)) := hD
              obtain ⟨r3, er3⟩ : ∃ z : St, z = lf_w r2 7 3 loud := ⟨_, rfl⟩
              rw [← er3] at hP hD
              refine lv_aload_n hx hb dX0_takeNear_194 rfl (lv_at hl 8 rfl) ?_
              refine va_get (D := D) (ci := 0) (v := .ref (as 7)) (C := RX0) (T := TX0) (N := 11) hx hb hts iw_X0_takeNear_X0 hown hE.1 hP 0 rfl rfl 7 (by decide) (hts (.fieldLink RX0 41 "EchoTaps$Line" "told" "[I") (by decide +kernel)) (fun _ h9 => h9) rfl dX0_takeNear_195 ?_
              refine lv_iconst (v := 4) hx hb dX0_takeNear_198 (by decide) ?_
              refine lv_iload hx hb dX0_takeNear_199 (lv_at hl 2 rfl) ?_
              refine va_iast hx hb hE.1 hP hD hS 8 0 rfl rfl (vp_in_nI (n := 4) (N := 8) (by decide) (by decide)) dX0_takeNear_201 (fun H locs hP hD hS => ?_)
              have hP : va_P D vwCl (LW cA h as (va_up r3 7 (upd (r3 7) 4 pw))) H := hP
              have hD : va_D A (LW cA h as (va_up r3 7 (upd (r3 7) 4 pw))) := hD
              have hP : va_P D vwCl (LW cA h as (lf_w r3 7 4 pw)) H := hP
              have hD : va_D A (LW cA h as (lf_w r3 7 4 pw)) := hD
              obtain ⟨r4, er4⟩ : ∃ z : St, z = lf_w r3 7 4 pw := ⟨_, rfl⟩
              rw [← er4] at hP hD
              refine lv_aload_n hx hb dX0_takeNear_202 rfl (lv_at hl 8 rfl) ?_
              refine va_get (D := D) (ci := 0) (v := .ref (as 7)) (C := RX0) (T := TX0) (N := 11) hx hb hts iw_X0_takeNear_X0 hown hE.1 hP 0 rfl rfl 7 (by decide) (hts (.fieldLink RX0 41 "EchoTaps$Line" "told" "[I") (by decide +kernel)) (fun _ h9 => h9) rfl dX0_takeNear_203 ?_
              refine lv_iconst (v := 5) hx hb dX0_takeNear_206 (by decide) ?_
              refine lv_iload hx hb dX0_takeNear_207 (lv_at hl 4 rfl) ?_
              have j217 : ∀ (b3 : Int32) (eb3 : b3 = lf_b1 tk), W p l e rm_X0_takeNear s m args below meth c H locs 0 0 Q (F0 m 217 ls [.int b3, .int 5, .ref (as 7)]) := by
                intro b3 eb3
                refine va_iast hx hb hE.1 hP hD hS 8 0 rfl rfl (vp_in_nI (n := 5) (N := 8) (by decide) (by decide)) dX0_takeNear_217 (fun H locs hP hD hS => ?_)
                have hP : va_P D vwCl (LW cA h as (va_up r4 7 (upd (r4 7) 5 b3))) H := hP
                have hD : va_D A (LW cA h as (va_up r4 7 (upd (r4 7) 5 b3))) := hD
                have hP : va_P D vwCl (LW cA h as (lf_w r4 7 5 b3)) H := hP
                have hD : va_D A (LW cA h as (lf_w r4 7 5 b3)) := hD
                obtain ⟨r5, er5⟩ : ∃ z : St, z = lf_w r4 7 5 b3 := ⟨_, rfl⟩
                rw [← er5] at hP hD
                refine lv_aload_n hx hb dX0_takeNear_218 rfl (lv_at hl 8 rfl) ?_
                refine va_get (D := D) (ci := 0) (v := .ref (as 7)) (C := RX0) (T := TX0) (N := 11) hx hb hts iw_X0_takeNear_X0 hown hE.1 hP 0 rfl rfl 7 (by decide) (hts (.fieldLink RX0 41 "EchoTaps$Line" "told" "[I") (by decide +kernel)) (fun _ h9 => h9) rfl dX0_takeNear_219 ?_
                refine lv_bipush (v := 6) hx hb dX0_takeNear_222 (by decide) ?_
                refine lv_iload hx hb dX0_takeNear_224 (lv_at hl 3 rfl) ?_
                refine va_iast hx hb hE.1 hP hD hS 8 0 rfl rfl (vp_in_nI (n := 6) (N := 8) (by decide) (by decide)) dX0_takeNear_226 (fun H locs hP hD hS => ?_)
                have hP : va_P D vwCl (LW cA h as (va_up r5 7 (upd (r5 7) 6 tn))) H := hP
                have hD : va_D A (LW cA h as (va_up r5 7 (upd (r5 7) 6 tn))) := hD
                have hP : va_P D vwCl (LW cA h as (lf_w r5 7 6 tn)) H := hP
                have hD : va_D A (LW cA h as (lf_w r5 7 6 tn)) := hD
                obtain ⟨r6, er6⟩ : ∃ z : St, z = lf_w r5 7 6 tn := ⟨_, rfl⟩
                rw [← er6] at hP hD
                refine lv_aload_n hx hb dX0_takeNear_227 rfl (lv_at hl 8 rfl) ?_
                refine va_get (D := D) (ci := 0) (v := .ref (as 7)) (C := RX0) (T := TX0) (N := 11) hx hb hts iw_X0_takeNear_X0 hown hE.1 hP 0 rfl rfl 7 (by decide) (hts (.fieldLink RX0 41 "EchoTaps$Line" "told" "[I") (by decide +kernel)) (fun _ h9 => h9) rfl dX0_takeNear_228 ?_
                refine lv_bipush (v := 7) hx hb dX0_takeNear_231 (by decide) ?_
                refine lv_iload hx hb dX0_takeNear_233 (lv_at hl 1 rfl) ?_
                have j243 : ∀ (b4 : Int32) (eb4 : b4 = lf_b1 lr), W p l e rm_X0_takeNear s m args below meth c H locs 0 0 Q (F0 m 243 ls [.int b4, .int 7, .ref (as 7)]) := by
                  intro b4 eb4
                  refine va_iast hx hb hE.1 hP hD hS 8 0 rfl rfl (vp_in_nI (n := 7) (N := 8) (by decide) (by decide)) dX0_takeNear_243 (fun H locs hP hD hS => ?_)
                  have hP : va_P D vwCl (LW cA h as (va_up r6 7 (upd (r6 7) 7 b4))) H := hP
                  have hD : va_D A (LW cA h as (va_up r6 7 (upd (r6 7) 7 b4))) := hD
                  have hP : va_P D vwCl (LW cA h as (lf_w r6 7 7 b4)) H := hP
                  have hD : va_D A (LW cA h as (lf_w r6 7 7 b4)) := hD
                  obtain ⟨r7, er7⟩ : ∃ z : St, z = lf_w r6 7 7 b4 := ⟨_, rfl⟩
                  rw [← er7] at hP hD
                  refine lv_iload hx hb dX0_takeNear_244 (lv_at hl 0 rfl) ?_
                  have e1 : lf_near st near = r7 := by subst er7 er6 er5 er4 er3 er2 er1 er0 es6 es5 eb4 eb3 eb2 eb1 eout es4 es3 elr epw etn es2 etk eloud elft eest es1; rfl
                  have e2 : lf_out st near = out := by clear hP hD e1 er7 er6 er5 er4 er3 er2 er1 er0 es6 es5; subst eout es4 es3 elr epw etn es2 etk eloud elft eest es1; rfl
                  exact hret _ _ _ _ _ (by rw [e1]; exact hP) e2.symm hS dX0_takeNear_246
                refine lv_if_eq (tgt := 242) hx hb dX0_takeNear_235 (by decide) (fun c_1 => ?_) (fun c_1 => ?_)
                · have c_1 : lr = 0 := c_1
                  refine lv_iconst (v := 0) hx hb dX0_takeNear_242 (by decide) ?_
                  exact j243 _ (if_pos c_1).symm
                · have c_1 : ¬ lr = 0 := c_1
                  refine lv_iconst (v := 1) hx hb dX0_takeNear_238 (by decide) ?_
                  refine lv_goto (tgt := 243) hx hb dX0_takeNear_239 (by decide) ?_
                  exact j243 _ (if_neg c_1).symm
              refine lv_if_eq (tgt := 216) hx hb dX0_takeNear_209 (by decide) (fun c_2 => ?_) (fun c_2 => ?_)
              · have c_2 : tk = 0 := c_2
                refine lv_iconst (v := 0) hx hb dX0_takeNear_216 (by decide) ?_
                exact j217 _ (if_pos c_2).symm
              · have c_2 : ¬ tk = 0 := c_2
                refine lv_iconst (v := 1) hx hb dX0_takeNear_212 (by decide) ?_
                refine lv_goto (tgt := 217) hx hb dX0_takeNear_213 (by decide) ?_
                exact j217 _ (if_neg c_2).symm
            refine lv_if_le (tgt := 161) hx hb dX0_takeNear_154 (by decide) (fun c_3 => ?_) (fun c_3 => ?_)
            · have c_3 : tn ≤ 0 := c_3
              refine lv_iconst (v := 0) hx hb dX0_takeNear_161 (by decide) ?_
              exact j162 _ (if_pos c_3).symm
            · have c_3 : ¬ tn ≤ 0 := c_3
              refine lv_iconst (v := 2) hx hb dX0_takeNear_157 (by decide) ?_
              refine lv_goto (tgt := 162) hx hb dX0_takeNear_158 (by decide) ?_
              exact j162 _ (if_neg c_3).symm
          refine lv_if_eq (tgt := 151) hx hb dX0_takeNear_144 (by decide) (fun c_4 => ?_) (fun c_4 => ?_)
          · have c_4 : tk = 0 := c_4
            refine lv_iconst (v := 0) hx hb dX0_takeNear_151 (by decide) ?_
            exact j152 _ (if_pos c_4).symm
          · have c_4 : ¬ tk = 0 := c_4
            refine lv_iconst (v := 1) hx hb dX0_takeNear_147 (by decide) ?_
            refine lv_goto (tgt := 152) hx hb dX0_takeNear_148 (by decide) ?_
            exact j152 _ (if_neg c_4).symm
        refine lv_if_le (tgt := 109) hx hb dX0_takeNear_102 (by decide) (fun c_5 => ?_) (fun c_5 => ?_)
        · have c_5 : tn ≤ 0 := c_5
          refine lv_aload_n hx hb dX0_takeNear_109 rfl (lv_at hl 7 rfl) ?_
          refine lv_iload_n hx hb dX0_takeNear_110 rfl (lv_at hl 5 rfl) ?_
          refine bm_i [] (LW cA h as s3) [] [.int lft] [] ⟨hx, hb, hml, hown, hts⟩ (c_X0_softened l D cA cZ cR h as s3 lft) (cwV 1 hts gX0_takeNear_X0_softened rfl rfl rfl (by decide +kernel) ⟨Nat.le_of_ble_eq_true rfl, Nat.le_of_ble_eq_true rfl⟩) hE hP hD hS hA LW_adr 0 0 rfl rfl rfl hl.1 rfl (Nat.le_of_ble_eq_true rfl) dX0_takeNear_111 ⟨Nat.zero_le _, Nat.zero_le _⟩ (fun H locs hP hD hS => ?_)
          have hP : va_P D vwCl (LW cA h as (lf_sos s3 lft)) H := hP
          have hD : va_D A (LW cA h as (lf_sos s3 lft)) := hD
          exact j114 _ _ (if_pos c_5).symm (if_pos c_5).symm H locs hP hD hS
        · have c_5 : ¬ tn ≤ 0 := c_5
          refine lv_iload_n hx hb dX0_takeNear_105 rfl (lv_at hl 8 rfl) ?_
          refine lv_goto (tgt := 114) hx hb dX0_takeNear_106 (by decide) ?_
          exact j114 _ _ (if_neg c_5).symm (if_neg c_5).symm H locs hP hD hS
      refine lv_if_eq (tgt := 100) hx hb dX0_takeNear_90 (by decide) (fun c_6 => ?_) (fun c_6 => ?_)
      · have c_6 : lr = 0 := c_6
        exact j100 _ (if_pos c_6).symm H locs hP hD hS
      · have c_6 : ¬ lr = 0 := c_6
        refine lv_aload_n hx hb dX0_takeNear_93 rfl (lv_at hl 7 rfl) ?_
        refine lv_iload_n hx hb dX0_takeNear_94 rfl (lv_at hl 5 rfl) ?_
        refine lv_iload hx hb dX0_takeNear_95 (lv_at hl 1 rfl) ?_
        refine bm_v [] (LW cA h as s2) [] [.int lft, .int pw] [] ⟨hx, hb, hml, hown, hts⟩ (c_X0_learn l D cA cZ cR h as s2 lft pw) (cwV 2 hts gX0_takeNear_X0_learn rfl rfl rfl (by decide +kernel) ⟨Nat.le_of_ble_eq_true rfl, Nat.le_of_ble_eq_true rfl⟩) hE hP hD hS hA LW_adr 0 0 rfl rfl rfl hl.1 rfl (Nat.le_of_ble_eq_true rfl) dX0_takeNear_97 ⟨Nat.zero_le _, Nat.zero_le _⟩ (fun H locs hP hD hS => ?_)
        have hP : va_P D vwCl (LW cA h as (lf_learn s2 lft pw)) H := hP
        have hD : va_D A (LW cA h as (lf_learn s2 lft pw)) := hD
        exact j100 _ (if_neg c_6).symm H locs hP hD hS
    refine lv_if_ne (tgt := 85) hx hb dX0_takeNear_68 (by decide) (fun c_7 => ?_) (fun c_7 => ?_)
    · have c_7 : ¬ (s2 8 1) = 0 := c_7
      refine lv_iconst (v := 0) hx hb dX0_takeNear_85 (by decide) ?_
      exact j86 _ (if_pos c_7).symm
    · have c_7 : (s2 8 1) = 0 := c_7
      refine lv_iload hx hb dX0_takeNear_71 (lv_at hl 1 rfl) ?_
      refine lv_if_ne (tgt := 85) hx hb dX0_takeNear_73 (by decide) (fun c_8 => ?_) (fun c_8 => ?_)
      · have c_8 : ¬ tn = 0 := c_8
        refine lv_iconst (v := 0) hx hb dX0_takeNear_85 (by decide) ?_
        exact j86 _ (by rw [lf_lr, if_neg (not_not_intro c_7), if_pos c_8])
      · have c_8 : tn = 0 := c_8
        refine lv_iload hx hb dX0_takeNear_76 (lv_at hl 0 rfl) ?_
        refine lv_if_le (tgt := 85) hx hb dX0_takeNear_78 (by decide) (fun c_9 => ?_) (fun c_9 => ?_)
        · have c_9 : pw ≤ 0 := c_9
          refine lv_iconst (v := 0) hx hb dX0_takeNear_85 (by decide) ?_
          exact j86 _ (by rw [lf_lr, if_neg (not_not_intro c_7), if_neg (not_not_intro c_8), if_pos c_9])
        · have c_9 : ¬ pw ≤ 0 := c_9
          refine lv_iconst (v := 1) hx hb dX0_takeNear_81 (by decide) ?_
          refine lv_goto (tgt := 86) hx hb dX0_takeNear_82 (by decide) ?_
          exact j86 _ (by rw [lf_lr, if_neg (not_not_intro c_7), if_neg (not_not_intro c_8), if_neg c_9])
  refine lv_icmp_le (tgt := 43) hx hb dX0_takeNear_36 (by decide) (fun c_10 => ?_) (fun c_10 => ?_)
  · have c_10 : (2 * (pf_ab near)) ≤ loud := c_10
    refine lv_iconst (v := 0) hx hb dX0_takeNear_43 (by decide) ?_
    exact j44 _ (by rw [lf_tlk, ← eloud, if_pos c_10])
  · have c_10 : ¬ (2 * (pf_ab near)) ≤ loud := c_10
    refine lv_iconst (v := 1) hx hb dX0_takeNear_39 (by decide) ?_
    refine lv_goto (tgt := 44) hx hb dX0_takeNear_40 (by decide) ?_
    exact j44 _ (by rw [lf_tlk, ← eloud, if_neg c_10])
end
section
def lf_hn (st : St) (far voice : Int32) : Int32 := pf_lm (lf_echo (lf_tf st far) + voice) (-2000) 2000
def lf_hs (st : St) (far voice : Int32) : St := lf_near (lf_tf st far) (lf_hn st far voice)
def lf_hr (st : St) (far voice : Int32) : Int32 := lf_out (lf_tf st far) (lf_hn st far voice)
abbrev rm_X0_hearSpeech : Room := { frames := 4, cells := 0, slots := 0, locals := 98 }
set_option maxRecDepth 100000 in
set_option maxHeartbeats 4000000 in
theorem c_X0_hearSpeech (l : Launch) (D : va_G) (cA cZ cR : ClassId) (h : Nat) (as : Nat → Nat) (st : St) (far voice : Int32) : BMi l D cA cZ cR yX0_hearSpeech wsX0_hearSpeech rm_X0_hearSpeech [.ref h, .int far, .int voice] (LW cA h as st) (LW cA h as (lf_hs st far voice)) (lf_hr st far voice) := by
  refine bm_open (maxL := 3) (by decide) rfl rfl rfl (Nat.le_of_ble_eq_true rfl) ?_
  intro p e s m args below meth c A Q hx hb hml hts hown hE hP hD hA hS hret ls hl
  have hown : s.vm.findClass RX0 = some m.cls := hown
  have hl : lv_has ls 3 [(0, .ref h), (1, .int far), (2, .int voice)] := hl
  obtain ⟨H, locs, eH, eL⟩ : ∃ (H : Heap) (locs : List Loc), H = s.heap ∧ locs = [] := ⟨_, _, rfl, rfl⟩
  rw [← eH, ← eL]
  rw [← eH] at hP
  have hS : va_S A s.heap H locs := by rw [eH, eL]; exact hS
  clear eH eL
  refine lv_aload_n hx hb dX0_hearSpeech_0 rfl (lv_at hl 0 rfl) ?_
  refine lv_iload_n hx hb dX0_hearSpeech_1 rfl (lv_at hl 1 rfl) ?_
  refine bm_v [] (LW cA h as st) [] [.int far] [] ⟨hx, hb, hml, hown, hts⟩ (c_X0_takeFar l D cA cZ cR h as st far) (cwV 1 hts gX0_hearSpeech_X0_takeFar rfl rfl rfl (by decide +kernel) ⟨Nat.le_of_ble_eq_true rfl, Nat.le_of_ble_eq_true rfl⟩) hE hP hD hS hA LW_adr 0 0 rfl rfl rfl hl.1 rfl (Nat.le_of_ble_eq_true rfl) dX0_hearSpeech_2 ⟨Nat.zero_le _, Nat.zero_le _⟩ (fun H locs hP hD hS => ?_)
  have hP : va_P D vwCl (LW cA h as (lf_tf st far)) H := hP
  have hD : va_D A (LW cA h as (lf_tf st far)) := hD
  have hP : va_P D vwCl (LW cA h as (lf_tf st far)) H := hP
  have hD : va_D A (LW cA h as (lf_tf st far)) := hD
  obtain ⟨s0, es0⟩ : ∃ z : St, z = lf_tf st far := ⟨_, rfl⟩
  rw [← es0] at hP hD
  refine lv_aload_n hx hb dX0_hearSpeech_5 rfl (lv_at hl 0 rfl) ?_
  refine lv_aload_n hx hb dX0_hearSpeech_6 rfl (lv_at hl 0 rfl) ?_
  refine bm_i [] (LW cA h as s0) [] [] [.ref h] ⟨hx, hb, hml, hown, hts⟩ (c_X0_echo l D cA cZ cR h as s0) (cwV 0 hts gX0_hearSpeech_X0_echo rfl rfl rfl (by decide +kernel) ⟨Nat.le_of_ble_eq_true rfl, Nat.le_of_ble_eq_true rfl⟩) hE hP hD hS hA LW_adr 0 0 rfl rfl rfl hl.1 rfl (Nat.le_of_ble_eq_true rfl) dX0_hearSpeech_7 ⟨Nat.zero_le _, Nat.zero_le _⟩ (fun H locs hP hD hS => ?_)
  have hP : va_P D vwCl (LW cA h as s0) H := hP
  have hD : va_D A (LW cA h as s0) := hD
  refine lv_iload_n hx hb dX0_hearSpeech_10 rfl (lv_at hl 2 rfl) ?_
  refine lv_iadd hx hb dX0_hearSpeech_11 ?_
  refine lv_sipush (v := (-2000)) hx hb dX0_hearSpeech_12 (by decide) ?_
  refine lv_sipush (v := 2000) hx hb dX0_hearSpeech_15 (by decide) ?_
  refine sm_n (host := "EchoTaps") [.int ((lf_echo s0) + voice), .int (-2000), .int 2000] [.ref h] ⟨hx, hb, hml, hown, hts⟩ (c_X1_limited l ((lf_echo s0) + voice) (-2000) 2000) ⟨va_cnB 3 hts ggX0_hearSpeech_X1_limited rfl rfl rfl hE.2.1 (hts (.initialized RX1) (by decide +kernel)) (by decide +kernel) ⟨Nat.le_of_ble_eq_true rfl, Nat.le_of_ble_eq_true rfl⟩, (hts (.static yX1_limited) (by decide +kernel)), trivial⟩ rfl hl.1 rfl (Nat.le_of_ble_eq_true rfl) dX0_hearSpeech_18 ⟨Nat.zero_le _, Nat.zero_le _⟩ ?_
  refine lv_topi (fun nr enr => ?_)
  refine bm_i [] (LW cA h as s0) [] [.int nr] [] ⟨hx, hb, hml, hown, hts⟩ (c_X0_takeNear l D cA cZ cR h as s0 nr) (cwV 1 hts gX0_hearSpeech_X0_takeNear rfl rfl rfl (by decide +kernel) ⟨Nat.le_of_ble_eq_true rfl, Nat.le_of_ble_eq_true rfl⟩) hE hP hD hS hA LW_adr 0 0 rfl rfl rfl hl.1 rfl (Nat.le_of_ble_eq_true rfl) dX0_hearSpeech_21 ⟨Nat.zero_le _, Nat.zero_le _⟩ (fun H locs hP hD hS => ?_)
  have hP : va_P D vwCl (LW cA h as (lf_near s0 nr)) H := hP
  have hD : va_D A (LW cA h as (lf_near s0 nr)) := hD
  have e1 : lf_hs st far voice = lf_near s0 nr := by subst enr es0; rfl
  have e2 : lf_out s0 nr = lf_hr st far voice := by subst enr es0; rfl
  exact hret _ _ _ _ _ (by rw [e1]; exact hP) e2 hS dX0_hearSpeech_24
end
section
theorem arrV_cg {cI : ClassId} {N : Nat} {f f' : Nat → Value} (h : ∀ j, j < N → f j = f' j) : arrV cI N f = arrV cI N f' := by
  unfold arrV
  rw [show (fun j : Fin N => f j.val) = (fun j : Fin N => f' j.val) from funext fun j => h j.val j.isLt]
theorem va_at_cg {D : va_G} {cl : List vw_C} {a : Nat} {cA : ClassId} {n : Nat} {f f' : Fn} {H : Heap} (h : ∀ j, j < n → f j = f' j) (hp : va_at D cl (a, .inl (cA, n, .inl f)) H) : va_at D cl (a, .inl (cA, n, .inl f')) H := by
  show H[a]? = some (vp_cell cA (n, .inl f'))
  rw [vp_cell_i, ← arrV_cg (f := fun j => .int (f j)) (fun j hj => by rw [h j hj])]
  exact hp
def Ls (k : Nat) : Nat := match k with
  | 0 => 5
  | 1 => 8
  | 2 => 9
  | 3 => 64
  | 4 => 64
  | 5 => 64
  | 6 => 256
  | 7 => 8
  | _ => 3
/-- two states that a Line can't tell -/
def LE (st st' : St) : Prop := ∀ k, k < 9 → ∀ j, j < Ls k → st k j = st' k j
theorem LW_cg {D : va_G} {cA : ClassId} {h : Nat} {as : Nat → Nat} {st st' : St} {H : Heap} (e : LE st st') (hP : va_P D vwCl (LW cA h as st) H) : va_P D vwCl (LW cA h as st') H := by
  have f0 : ∀ j, j < 3 → st 8 j = st' 8 j := e 8 (by decide)
  intro k q hk
  match k, hk with
  | 0, hk =>
    cases hk
    have h0 := hP 0 _ rfl
    rw [f0 0 (by decide), f0 1 (by decide), f0 2 (by decide)] at h0
    exact h0
  | 1, hk => cases hk; exact va_at_cg (e 0 (by decide)) (hP 1 _ rfl)
  | 2, hk => cases hk; exact va_at_cg (e 1 (by decide)) (hP 2 _ rfl)
  | 3, hk => cases hk; exact va_at_cg (e 2 (by decide)) (hP 3 _ rfl)
  | 4, hk => cases hk; exact va_at_cg (e 3 (by decide)) (hP 4 _ rfl)
  | 5, hk => cases hk; exact va_at_cg (e 4 (by decide)) (hP 5 _ rfl)
  | 6, hk => cases hk; exact va_at_cg (e 5 (by decide)) (hP 6 _ rfl)
  | 7, hk => cases hk; exact va_at_cg (e 6 (by decide)) (hP 7 _ rfl)
  | 8, hk => cases hk; exact va_at_cg (e 7 (by decide)) (hP 8 _ rfl)
  | k + 9, hk => simp at hk
theorem va_P_snd {D : va_G} {cl : List vw_C} {X Y Y' : va_W} {H : Heap} (h : va_P D cl (X ++ Y) H) (f : va_P D cl Y H → va_P D cl Y' H) : va_P D cl (X ++ Y') H := by
  refine va_P.app (fun k q hk => h k q ?_) (f (fun k q hk => h (X.length + k) q ?_))
  · rw [List.getElem?_append_left (List.getElem?_eq_some_iff.mp hk).1]; exact hk
  · rw [List.getElem?_append_right (by omega), show X.length + k - X.length = k by omega]; exact hk
def lf_cp (d s : St) (k n : Nat) : St := va_up d k (va_cpy (s k) (d k) 0 0 n)
def lf_cf (d s : St) (k : Nat) : St := va_up d 8 (upd (d 8) k (s 8 k))
theorem lf_cp_LE (d s : St) : LE (lf_cf (lf_cf (lf_cf (lf_cp (lf_cp (lf_cp (lf_cp (lf_cp (lf_cp (lf_cp (lf_cp d s 0 5) s 1 8) s 2 9) s 3 64) s 4 64) s 5 64) s 6 256) s 7 8) s 0) s 1) s 2) s := by
  intro k hk j hj
  match k, hk, hj with
  | 0, _, hj => exact sb_cpy0 hj
  | 1, _, hj => exact sb_cpy0 hj
  | 2, _, hj => exact sb_cpy0 hj
  | 3, _, hj => exact sb_cpy0 hj
  | 4, _, hj => exact sb_cpy0 hj
  | 5, _, hj => exact sb_cpy0 hj
  | 6, _, hj => exact sb_cpy0 hj
  | 7, _, hj => exact sb_cpy0 hj
  | 8, _, hj =>
    match j, hj with
    | 0, _ => rfl
    | 1, _ => rfl
    | 2, _ => rfl
  | k + 9, hk, _ => omega
abbrev rm_X0_copyFrom : Room := { frames := 1, cells := 0, slots := 0, locals := 64 }
theorem iw_X0_copyFrom_X0 : ∀ w ∈ wsX00, w ∈ wsX0_copyFrom := by decide +kernel
set_option maxRecDepth 100000 in
set_option maxHeartbeats 4000000 in
theorem c_X0_copyFrom (l : Launch) (D : va_G) (cA cZ cR : ClassId) (h1 : Nat) (as1 : Nat → Nat) (st1 : St) (h2 : Nat) (as2 : Nat → Nat) (st2 : St) : BMv l D cA cZ cR yX0_copyFrom wsX0_copyFrom rm_X0_copyFrom [.ref h1, .ref h2] ((LW cA h2 as2 st2) ++ (LW cA h1 as1 st1)) ((LW cA h2 as2 st2) ++ (LW cA h1 as1 st2)) := by
  refine bm_openV (maxL := 2) (by decide) rfl rfl rfl (Nat.le_of_ble_eq_true rfl) ?_
  intro p e s m args below meth c A Q hx hb hml hts hown hE hP hD hA hS hret ls hl
  have hown : s.vm.findClass RX0 = some m.cls := hown
  have hl : lv_has ls 2 [(0, .ref h1), (1, .ref h2)] := hl
  obtain ⟨H, locs, eH, eL⟩ : ∃ (H : Heap) (locs : List Loc), H = s.heap ∧ locs = [] := ⟨_, _, rfl, rfl⟩
  rw [← eH, ← eL]
  rw [← eH] at hP
  have hS : va_S A s.heap H locs := by rw [eH, eL]; exact hS
  clear eH eL
  refine lv_aload_n hx hb dX0_copyFrom_0 rfl (lv_at hl 1 rfl) ?_
  refine va_get (D := D) (ci := 0) (v := .ref (as2 0)) (C := RX0) (T := TX0) (N := 11) hx hb hts iw_X0_copyFrom_X0 hown hE.1 hP 0 rfl rfl 0 (by decide) (hts (.fieldLink RX0 18 "EchoTaps$Line" "rules" "[I") (by decide +kernel)) (fun _ h9 => h9) rfl dX0_copyFrom_1 ?_
  refine lv_iconst (v := 0) hx hb dX0_copyFrom_4 (by decide) ?_
  refine lv_aload_n hx hb dX0_copyFrom_5 rfl (lv_at hl 0 rfl) ?_
  refine va_get (D := D) (ci := 0) (v := .ref (as1 0)) (C := RX0) (T := TX0) (N := 11) hx hb hts iw_X0_copyFrom_X0 hown hE.1 hP 9 rfl rfl 0 (by decide) (hts (.fieldLink RX0 18 "EchoTaps$Line" "rules" "[I") (by decide +kernel)) (fun _ h9 => h9) rfl dX0_copyFrom_6 ?_
  refine lv_iconst (v := 0) hx hb dX0_copyFrom_9 (by decide) ?_
  refine lv_aload_n hx hb dX0_copyFrom_10 rfl (lv_at hl 0 rfl) ?_
  refine va_get (D := D) (ci := 0) (v := .ref (as1 0)) (C := RX0) (T := TX0) (N := 11) hx hb hts iw_X0_copyFrom_X0 hown hE.1 hP 9 rfl rfl 0 (by decide) (hts (.fieldLink RX0 18 "EchoTaps$Line" "rules" "[I") (by decide +kernel)) (fun _ h9 => h9) rfl dX0_copyFrom_11 ?_
  refine va_alen hx hb hE.1 hP 10 0 rfl rfl (v := 5) rfl dX0_copyFrom_14 ?_
  refine va_copyi hx hb (hml.trans hl.1.symm) hown (hts (.methodLink RX0 44 arraycopyName) (by decide +kernel)) (hts (.native arraycopyName) (by decide +kernel)) (hts (.static arraycopyName) (by decide +kernel)) (hts (.initialized "java/lang/System") (by decide +kernel)) hE.1 hP hD hS 1 10 0 0 rfl rfl rfl rfl rfl (by decide) (by decide) (by decide) (by decide) (by decide) (fun _ _ => rfl) (Nat.le_of_ble_eq_true rfl) (Nat.le_of_ble_eq_true rfl) dX0_copyFrom_15 (fun H locs hP hD hS => ?_)
  have hP : va_P D vwCl ((LW cA h2 as2 st2) ++ (LW cA h1 as1 (lf_cp st1 st2 0 5))) H := hP
  have hD : va_D A ((LW cA h2 as2 st2) ++ (LW cA h1 as1 (lf_cp st1 st2 0 5))) := hD
  obtain ⟨d0, ed0⟩ : ∃ z : St, z = lf_cp st1 st2 0 5 := ⟨_, rfl⟩
  rw [← ed0] at hP hD
  refine lv_aload_n hx hb dX0_copyFrom_18 rfl (lv_at hl 1 rfl) ?_
  refine va_get (D := D) (ci := 0) (v := .ref (as2 1)) (C := RX0) (T := TX0) (N := 11) hx hb hts iw_X0_copyFrom_X0 hown hE.1 hP 0 rfl rfl 1 (by decide) (hts (.fieldLink RX0 23 "EchoTaps$Line" "taps" "[I") (by decide +kernel)) (fun _ h9 => h9) rfl dX0_copyFrom_19 ?_
  refine lv_iconst (v := 0) hx hb dX0_copyFrom_22 (by decide) ?_
  refine lv_aload_n hx hb dX0_copyFrom_23 rfl (lv_at hl 0 rfl) ?_
  refine va_get (D := D) (ci := 0) (v := .ref (as1 1)) (C := RX0) (T := TX0) (N := 11) hx hb hts iw_X0_copyFrom_X0 hown hE.1 hP 9 rfl rfl 1 (by decide) (hts (.fieldLink RX0 23 "EchoTaps$Line" "taps" "[I") (by decide +kernel)) (fun _ h9 => h9) rfl dX0_copyFrom_24 ?_
  refine lv_iconst (v := 0) hx hb dX0_copyFrom_27 (by decide) ?_
  refine lv_aload_n hx hb dX0_copyFrom_28 rfl (lv_at hl 0 rfl) ?_
  refine va_get (D := D) (ci := 0) (v := .ref (as1 1)) (C := RX0) (T := TX0) (N := 11) hx hb hts iw_X0_copyFrom_X0 hown hE.1 hP 9 rfl rfl 1 (by decide) (hts (.fieldLink RX0 23 "EchoTaps$Line" "taps" "[I") (by decide +kernel)) (fun _ h9 => h9) rfl dX0_copyFrom_29 ?_
  refine va_alen hx hb hE.1 hP 11 0 rfl rfl (v := 8) rfl dX0_copyFrom_32 ?_
  refine va_copyi hx hb (hml.trans hl.1.symm) hown (hts (.methodLink RX0 44 arraycopyName) (by decide +kernel)) (hts (.native arraycopyName) (by decide +kernel)) (hts (.static arraycopyName) (by decide +kernel)) (hts (.initialized "java/lang/System") (by decide +kernel)) hE.1 hP hD hS 2 11 0 0 rfl rfl rfl rfl rfl (by decide) (by decide) (by decide) (by decide) (by decide) (fun _ _ => rfl) (Nat.le_of_ble_eq_true rfl) (Nat.le_of_ble_eq_true rfl) dX0_copyFrom_33 (fun H locs hP hD hS => ?_)
  have hP : va_P D vwCl ((LW cA h2 as2 st2) ++ (LW cA h1 as1 (lf_cp d0 st2 1 8))) H := hP
  have hD : va_D A ((LW cA h2 as2 st2) ++ (LW cA h1 as1 (lf_cp d0 st2 1 8))) := hD
  obtain ⟨d1, ed1⟩ : ∃ z : St, z = lf_cp d0 st2 1 8 := ⟨_, rfl⟩
  rw [← ed1] at hP hD
  refine lv_aload_n hx hb dX0_copyFrom_36 rfl (lv_at hl 1 rfl) ?_
  refine va_get (D := D) (ci := 0) (v := .ref (as2 2)) (C := RX0) (T := TX0) (N := 11) hx hb hts iw_X0_copyFrom_X0 hown hE.1 hP 0 rfl rfl 2 (by decide) (hts (.fieldLink RX0 26 "EchoTaps$Line" "way" "[I") (by decide +kernel)) (fun _ h9 => h9) rfl dX0_copyFrom_37 ?_
  refine lv_iconst (v := 0) hx hb dX0_copyFrom_40 (by decide) ?_
  refine lv_aload_n hx hb dX0_copyFrom_41 rfl (lv_at hl 0 rfl) ?_
  refine va_get (D := D) (ci := 0) (v := .ref (as1 2)) (C := RX0) (T := TX0) (N := 11) hx hb hts iw_X0_copyFrom_X0 hown hE.1 hP 9 rfl rfl 2 (by decide) (hts (.fieldLink RX0 26 "EchoTaps$Line" "way" "[I") (by decide +kernel)) (fun _ h9 => h9) rfl dX0_copyFrom_42 ?_
  refine lv_iconst (v := 0) hx hb dX0_copyFrom_45 (by decide) ?_
  refine lv_aload_n hx hb dX0_copyFrom_46 rfl (lv_at hl 0 rfl) ?_
  refine va_get (D := D) (ci := 0) (v := .ref (as1 2)) (C := RX0) (T := TX0) (N := 11) hx hb hts iw_X0_copyFrom_X0 hown hE.1 hP 9 rfl rfl 2 (by decide) (hts (.fieldLink RX0 26 "EchoTaps$Line" "way" "[I") (by decide +kernel)) (fun _ h9 => h9) rfl dX0_copyFrom_47 ?_
  refine va_alen hx hb hE.1 hP 12 0 rfl rfl (v := 9) rfl dX0_copyFrom_50 ?_
  refine va_copyi hx hb (hml.trans hl.1.symm) hown (hts (.methodLink RX0 44 arraycopyName) (by decide +kernel)) (hts (.native arraycopyName) (by decide +kernel)) (hts (.static arraycopyName) (by decide +kernel)) (hts (.initialized "java/lang/System") (by decide +kernel)) hE.1 hP hD hS 3 12 0 0 rfl rfl rfl rfl rfl (by decide) (by decide) (by decide) (by decide) (by decide) (fun _ _ => rfl) (Nat.le_of_ble_eq_true rfl) (Nat.le_of_ble_eq_true rfl) dX0_copyFrom_51 (fun H locs hP hD hS => ?_)
  have hP : va_P D vwCl ((LW cA h2 as2 st2) ++ (LW cA h1 as1 (lf_cp d1 st2 2 9))) H := hP
  have hD : va_D A ((LW cA h2 as2 st2) ++ (LW cA h1 as1 (lf_cp d1 st2 2 9))) := hD
  obtain ⟨d2, ed2⟩ : ∃ z : St, z = lf_cp d1 st2 2 9 := ⟨_, rfl⟩
  rw [← ed2] at hP hD
  refine lv_aload_n hx hb dX0_copyFrom_54 rfl (lv_at hl 1 rfl) ?_
  refine va_get (D := D) (ci := 0) (v := .ref (as2 3)) (C := RX0) (T := TX0) (N := 11) hx hb hts iw_X0_copyFrom_X0 hown hE.1 hP 0 rfl rfl 3 (by decide) (hts (.fieldLink RX0 29 "EchoTaps$Line" "fars" "[I") (by decide +kernel)) (fun _ h9 => h9) rfl dX0_copyFrom_55 ?_
  refine lv_iconst (v := 0) hx hb dX0_copyFrom_58 (by decide) ?_
  refine lv_aload_n hx hb dX0_copyFrom_59 rfl (lv_at hl 0 rfl) ?_
  refine va_get (D := D) (ci := 0) (v := .ref (as1 3)) (C := RX0) (T := TX0) (N := 11) hx hb hts iw_X0_copyFrom_X0 hown hE.1 hP 9 rfl rfl 3 (by decide) (hts (.fieldLink RX0 29 "EchoTaps$Line" "fars" "[I") (by decide +kernel)) (fun _ h9 => h9) rfl dX0_copyFrom_60 ?_
  refine lv_iconst (v := 0) hx hb dX0_copyFrom_63 (by decide) ?_
  refine lv_aload_n hx hb dX0_copyFrom_64 rfl (lv_at hl 0 rfl) ?_
  refine va_get (D := D) (ci := 0) (v := .ref (as1 3)) (C := RX0) (T := TX0) (N := 11) hx hb hts iw_X0_copyFrom_X0 hown hE.1 hP 9 rfl rfl 3 (by decide) (hts (.fieldLink RX0 29 "EchoTaps$Line" "fars" "[I") (by decide +kernel)) (fun _ h9 => h9) rfl dX0_copyFrom_65 ?_
  refine va_alen hx hb hE.1 hP 13 0 rfl rfl (v := 64) rfl dX0_copyFrom_68 ?_
  refine va_copyi hx hb (hml.trans hl.1.symm) hown (hts (.methodLink RX0 44 arraycopyName) (by decide +kernel)) (hts (.native arraycopyName) (by decide +kernel)) (hts (.static arraycopyName) (by decide +kernel)) (hts (.initialized "java/lang/System") (by decide +kernel)) hE.1 hP hD hS 4 13 0 0 rfl rfl rfl rfl rfl (by decide) (by decide) (by decide) (by decide) (by decide) (fun _ _ => rfl) (Nat.le_of_ble_eq_true rfl) (Nat.le_of_ble_eq_true rfl) dX0_copyFrom_69 (fun H locs hP hD hS => ?_)
  have hP : va_P D vwCl ((LW cA h2 as2 st2) ++ (LW cA h1 as1 (lf_cp d2 st2 3 64))) H := hP
  have hD : va_D A ((LW cA h2 as2 st2) ++ (LW cA h1 as1 (lf_cp d2 st2 3 64))) := hD
  obtain ⟨d3, ed3⟩ : ∃ z : St, z = lf_cp d2 st2 3 64 := ⟨_, rfl⟩
  rw [← ed3] at hP hD
  refine lv_aload_n hx hb dX0_copyFrom_72 rfl (lv_at hl 1 rfl) ?_
  refine va_get (D := D) (ci := 0) (v := .ref (as2 4)) (C := RX0) (T := TX0) (N := 11) hx hb hts iw_X0_copyFrom_X0 hown hE.1 hP 0 rfl rfl 4 (by decide) (hts (.fieldLink RX0 32 "EchoTaps$Line" "nears" "[I") (by decide +kernel)) (fun _ h9 => h9) rfl dX0_copyFrom_73 ?_
  refine lv_iconst (v := 0) hx hb dX0_copyFrom_76 (by decide) ?_
  refine lv_aload_n hx hb dX0_copyFrom_77 rfl (lv_at hl 0 rfl) ?_
  refine va_get (D := D) (ci := 0) (v := .ref (as1 4)) (C := RX0) (T := TX0) (N := 11) hx hb hts iw_X0_copyFrom_X0 hown hE.1 hP 9 rfl rfl 4 (by decide) (hts (.fieldLink RX0 32 "EchoTaps$Line" "nears" "[I") (by decide +kernel)) (fun _ h9 => h9) rfl dX0_copyFrom_78 ?_
  refine lv_iconst (v := 0) hx hb dX0_copyFrom_81 (by decide) ?_
  refine lv_aload_n hx hb dX0_copyFrom_82 rfl (lv_at hl 0 rfl) ?_
  refine va_get (D := D) (ci := 0) (v := .ref (as1 4)) (C := RX0) (T := TX0) (N := 11) hx hb hts iw_X0_copyFrom_X0 hown hE.1 hP 9 rfl rfl 4 (by decide) (hts (.fieldLink RX0 32 "EchoTaps$Line" "nears" "[I") (by decide +kernel)) (fun _ h9 => h9) rfl dX0_copyFrom_83 ?_
  refine va_alen hx hb hE.1 hP 14 0 rfl rfl (v := 64) rfl dX0_copyFrom_86 ?_
  refine va_copyi hx hb (hml.trans hl.1.symm) hown (hts (.methodLink RX0 44 arraycopyName) (by decide +kernel)) (hts (.native arraycopyName) (by decide +kernel)) (hts (.static arraycopyName) (by decide +kernel)) (hts (.initialized "java/lang/System") (by decide +kernel)) hE.1 hP hD hS 5 14 0 0 rfl rfl rfl rfl rfl (by decide) (by decide) (by decide) (by decide) (by decide) (fun _ _ => rfl) (Nat.le_of_ble_eq_true rfl) (Nat.le_of_ble_eq_true rfl) dX0_copyFrom_87 (fun H locs hP hD hS => ?_)
  have hP : va_P D vwCl ((LW cA h2 as2 st2) ++ (LW cA h1 as1 (lf_cp d3 st2 4 64))) H := hP
  have hD : va_D A ((LW cA h2 as2 st2) ++ (LW cA h1 as1 (lf_cp d3 st2 4 64))) := hD
  obtain ⟨d4, ed4⟩ : ∃ z : St, z = lf_cp d3 st2 4 64 := ⟨_, rfl⟩
  rw [← ed4] at hP hD
  refine lv_aload_n hx hb dX0_copyFrom_90 rfl (lv_at hl 1 rfl) ?_
  refine va_get (D := D) (ci := 0) (v := .ref (as2 5)) (C := RX0) (T := TX0) (N := 11) hx hb hts iw_X0_copyFrom_X0 hown hE.1 hP 0 rfl rfl 5 (by decide) (hts (.fieldLink RX0 35 "EchoTaps$Line" "outs" "[I") (by decide +kernel)) (fun _ h9 => h9) rfl dX0_copyFrom_91 ?_
  refine lv_iconst (v := 0) hx hb dX0_copyFrom_94 (by decide) ?_
  refine lv_aload_n hx hb dX0_copyFrom_95 rfl (lv_at hl 0 rfl) ?_
  refine va_get (D := D) (ci := 0) (v := .ref (as1 5)) (C := RX0) (T := TX0) (N := 11) hx hb hts iw_X0_copyFrom_X0 hown hE.1 hP 9 rfl rfl 5 (by decide) (hts (.fieldLink RX0 35 "EchoTaps$Line" "outs" "[I") (by decide +kernel)) (fun _ h9 => h9) rfl dX0_copyFrom_96 ?_
  refine lv_iconst (v := 0) hx hb dX0_copyFrom_99 (by decide) ?_
  refine lv_aload_n hx hb dX0_copyFrom_100 rfl (lv_at hl 0 rfl) ?_
  refine va_get (D := D) (ci := 0) (v := .ref (as1 5)) (C := RX0) (T := TX0) (N := 11) hx hb hts iw_X0_copyFrom_X0 hown hE.1 hP 9 rfl rfl 5 (by decide) (hts (.fieldLink RX0 35 "EchoTaps$Line" "outs" "[I") (by decide +kernel)) (fun _ h9 => h9) rfl dX0_copyFrom_101 ?_
  refine va_alen hx hb hE.1 hP 15 0 rfl rfl (v := 64) rfl dX0_copyFrom_104 ?_
  refine va_copyi hx hb (hml.trans hl.1.symm) hown (hts (.methodLink RX0 44 arraycopyName) (by decide +kernel)) (hts (.native arraycopyName) (by decide +kernel)) (hts (.static arraycopyName) (by decide +kernel)) (hts (.initialized "java/lang/System") (by decide +kernel)) hE.1 hP hD hS 6 15 0 0 rfl rfl rfl rfl rfl (by decide) (by decide) (by decide) (by decide) (by decide) (fun _ _ => rfl) (Nat.le_of_ble_eq_true rfl) (Nat.le_of_ble_eq_true rfl) dX0_copyFrom_105 (fun H locs hP hD hS => ?_)
  have hP : va_P D vwCl ((LW cA h2 as2 st2) ++ (LW cA h1 as1 (lf_cp d4 st2 5 64))) H := hP
  have hD : va_D A ((LW cA h2 as2 st2) ++ (LW cA h1 as1 (lf_cp d4 st2 5 64))) := hD
  obtain ⟨d5, ed5⟩ : ∃ z : St, z = lf_cp d4 st2 5 64 := ⟨_, rfl⟩
  rw [← ed5] at hP hD
  refine lv_aload_n hx hb dX0_copyFrom_108 rfl (lv_at hl 1 rfl) ?_
  refine va_get (D := D) (ci := 0) (v := .ref (as2 6)) (C := RX0) (T := TX0) (N := 11) hx hb hts iw_X0_copyFrom_X0 hown hE.1 hP 0 rfl rfl 6 (by decide) (hts (.fieldLink RX0 38 "EchoTaps$Line" "marks" "[I") (by decide +kernel)) (fun _ h9 => h9) rfl dX0_copyFrom_109 ?_
  refine lv_iconst (v := 0) hx hb dX0_copyFrom_112 (by decide) ?_
  refine lv_aload_n hx hb dX0_copyFrom_113 rfl (lv_at hl 0 rfl) ?_
  refine va_get (D := D) (ci := 0) (v := .ref (as1 6)) (C := RX0) (T := TX0) (N := 11) hx hb hts iw_X0_copyFrom_X0 hown hE.1 hP 9 rfl rfl 6 (by decide) (hts (.fieldLink RX0 38 "EchoTaps$Line" "marks" "[I") (by decide +kernel)) (fun _ h9 => h9) rfl dX0_copyFrom_114 ?_
  refine lv_iconst (v := 0) hx hb dX0_copyFrom_117 (by decide) ?_
  refine lv_aload_n hx hb dX0_copyFrom_118 rfl (lv_at hl 0 rfl) ?_
  refine va_get (D := D) (ci := 0) (v := .ref (as1 6)) (C := RX0) (T := TX0) (N := 11) hx hb hts iw_X0_copyFrom_X0 hown hE.1 hP 9 rfl rfl 6 (by decide) (hts (.fieldLink RX0 38 "EchoTaps$Line" "marks" "[I") (by decide +kernel)) (fun _ h9 => h9) rfl dX0_copyFrom_119 ?_
  refine va_alen hx hb hE.1 hP 16 0 rfl rfl (v := 256) rfl dX0_copyFrom_122 ?_
  refine va_copyi hx hb (hml.trans hl.1.symm) hown (hts (.methodLink RX0 44 arraycopyName) (by decide +kernel)) (hts (.native arraycopyName) (by decide +kernel)) (hts (.static arraycopyName) (by decide +kernel)) (hts (.initialized "java/lang/System") (by decide +kernel)) hE.1 hP hD hS 7 16 0 0 rfl rfl rfl rfl rfl (by decide) (by decide) (by decide) (by decide) (by decide) (fun _ _ => rfl) (Nat.le_of_ble_eq_true rfl) (Nat.le_of_ble_eq_true rfl) dX0_copyFrom_123 (fun H locs hP hD hS => ?_)
  have hP : va_P D vwCl ((LW cA h2 as2 st2) ++ (LW cA h1 as1 (lf_cp d5 st2 6 256))) H := hP
  have hD : va_D A ((LW cA h2 as2 st2) ++ (LW cA h1 as1 (lf_cp d5 st2 6 256))) := hD
  obtain ⟨d6, ed6⟩ : ∃ z : St, z = lf_cp d5 st2 6 256 := ⟨_, rfl⟩
  rw [← ed6] at hP hD
  refine lv_aload_n hx hb dX0_copyFrom_126 rfl (lv_at hl 1 rfl) ?_
  refine va_get (D := D) (ci := 0) (v := .ref (as2 7)) (C := RX0) (T := TX0) (N := 11) hx hb hts iw_X0_copyFrom_X0 hown hE.1 hP 0 rfl rfl 7 (by decide) (hts (.fieldLink RX0 41 "EchoTaps$Line" "told" "[I") (by decide +kernel)) (fun _ h9 => h9) rfl dX0_copyFrom_127 ?_
  refine lv_iconst (v := 0) hx hb dX0_copyFrom_130 (by decide) ?_
  refine lv_aload_n hx hb dX0_copyFrom_131 rfl (lv_at hl 0 rfl) ?_
  refine va_get (D := D) (ci := 0) (v := .ref (as1 7)) (C := RX0) (T := TX0) (N := 11) hx hb hts iw_X0_copyFrom_X0 hown hE.1 hP 9 rfl rfl 7 (by decide) (hts (.fieldLink RX0 41 "EchoTaps$Line" "told" "[I") (by decide +kernel)) (fun _ h9 => h9) rfl dX0_copyFrom_132 ?_
  refine lv_iconst (v := 0) hx hb dX0_copyFrom_135 (by decide) ?_
  refine lv_aload_n hx hb dX0_copyFrom_136 rfl (lv_at hl 0 rfl) ?_
  refine va_get (D := D) (ci := 0) (v := .ref (as1 7)) (C := RX0) (T := TX0) (N := 11) hx hb hts iw_X0_copyFrom_X0 hown hE.1 hP 9 rfl rfl 7 (by decide) (hts (.fieldLink RX0 41 "EchoTaps$Line" "told" "[I") (by decide +kernel)) (fun _ h9 => h9) rfl dX0_copyFrom_137 ?_
  refine va_alen hx hb hE.1 hP 17 0 rfl rfl (v := 8) rfl dX0_copyFrom_140 ?_
  refine va_copyi hx hb (hml.trans hl.1.symm) hown (hts (.methodLink RX0 44 arraycopyName) (by decide +kernel)) (hts (.native arraycopyName) (by decide +kernel)) (hts (.static arraycopyName) (by decide +kernel)) (hts (.initialized "java/lang/System") (by decide +kernel)) hE.1 hP hD hS 8 17 0 0 rfl rfl rfl rfl rfl (by decide) (by decide) (by decide) (by decide) (by decide) (fun _ _ => rfl) (Nat.le_of_ble_eq_true rfl) (Nat.le_of_ble_eq_true rfl) dX0_copyFrom_141 (fun H locs hP hD hS => ?_)
  have hP : va_P D vwCl ((LW cA h2 as2 st2) ++ (LW cA h1 as1 (lf_cp d6 st2 7 8))) H := hP
  have hD : va_D A ((LW cA h2 as2 st2) ++ (LW cA h1 as1 (lf_cp d6 st2 7 8))) := hD
  obtain ⟨d7, ed7⟩ : ∃ z : St, z = lf_cp d6 st2 7 8 := ⟨_, rfl⟩
  rw [← ed7] at hP hD
  refine lv_aload_n hx hb dX0_copyFrom_144 rfl (lv_at hl 0 rfl) ?_
  refine lv_aload_n hx hb dX0_copyFrom_145 rfl (lv_at hl 1 rfl) ?_
  refine va_get (D := D) (ci := 0) (v := .int (st2 8 0)) (C := RX0) (T := TX0) (N := 11) hx hb hts iw_X0_copyFrom_X0 hown hE.1 hP 0 rfl rfl 8 (by decide) (hts (.fieldLink RX0 50 "EchoTaps$Line" "ticks" "I") (by decide +kernel)) (fun _ h9 => h9) rfl dX0_copyFrom_146 ?_
  refine va_put (D := D) (ci := 0) (v := .int (st2 8 0)) (ty := .int) (C := RX0) (T := TX0) (N := 11) hx hb hts iw_X0_copyFrom_X0 tyX0 tyX0_ok nmX0 hown hE.1 hP hD hS 9 rfl rfl 8 (by decide) (hts (.fieldLink RX0 50 "EchoTaps$Line" "ticks" "I") (by decide +kernel)) (fun _ h9 => h9) rfl (by decide +kernel) rfl rfl (Nat.le_of_ble_eq_true rfl) dX0_copyFrom_149 (fun H locs hP hD hS => ?_)
  have hP : va_P D vwCl ((LW cA h2 as2 st2) ++ (LW cA h1 as1 (va_up d7 8 (upd (d7 8) 0 (st2 8 0))))) H := hP
  have hD : va_D A ((LW cA h2 as2 st2) ++ (LW cA h1 as1 (va_up d7 8 (upd (d7 8) 0 (st2 8 0))))) := hD
  have hP : va_P D vwCl ((LW cA h2 as2 st2) ++ (LW cA h1 as1 (lf_cf d7 st2 0))) H := hP
  have hD : va_D A ((LW cA h2 as2 st2) ++ (LW cA h1 as1 (lf_cf d7 st2 0))) := hD
  obtain ⟨f0, ef0⟩ : ∃ z : St, z = lf_cf d7 st2 0 := ⟨_, rfl⟩
  rw [← ef0] at hP hD
  refine lv_aload_n hx hb dX0_copyFrom_152 rfl (lv_at hl 0 rfl) ?_
  refine lv_aload_n hx hb dX0_copyFrom_153 rfl (lv_at hl 1 rfl) ?_
  refine va_get (D := D) (ci := 0) (v := .int (st2 8 1)) (C := RX0) (T := TX0) (N := 11) hx hb hts iw_X0_copyFrom_X0 hown hE.1 hP 0 rfl rfl 9 (by decide) (hts (.fieldLink RX0 54 "EchoTaps$Line" "hold" "I") (by decide +kernel)) (fun _ h9 => h9) rfl dX0_copyFrom_154 ?_
  refine va_put (D := D) (ci := 0) (v := .int (st2 8 1)) (ty := .int) (C := RX0) (T := TX0) (N := 11) hx hb hts iw_X0_copyFrom_X0 tyX0 tyX0_ok nmX0 hown hE.1 hP hD hS 9 rfl rfl 9 (by decide) (hts (.fieldLink RX0 54 "EchoTaps$Line" "hold" "I") (by decide +kernel)) (fun _ h9 => h9) rfl (by decide +kernel) rfl rfl (Nat.le_of_ble_eq_true rfl) dX0_copyFrom_157 (fun H locs hP hD hS => ?_)
  have hP : va_P D vwCl ((LW cA h2 as2 st2) ++ (LW cA h1 as1 (va_up f0 8 (upd (f0 8) 1 (st2 8 1))))) H := hP
  have hD : va_D A ((LW cA h2 as2 st2) ++ (LW cA h1 as1 (va_up f0 8 (upd (f0 8) 1 (st2 8 1))))) := hD
  have hP : va_P D vwCl ((LW cA h2 as2 st2) ++ (LW cA h1 as1 (lf_cf f0 st2 1))) H := hP
  have hD : va_D A ((LW cA h2 as2 st2) ++ (LW cA h1 as1 (lf_cf f0 st2 1))) := hD
  obtain ⟨f1, ef1⟩ : ∃ z : St, z = lf_cf f0 st2 1 := ⟨_, rfl⟩
  rw [← ef1] at hP hD
  refine lv_aload_n hx hb dX0_copyFrom_160 rfl (lv_at hl 0 rfl) ?_
  refine lv_aload_n hx hb dX0_copyFrom_161 rfl (lv_at hl 1 rfl) ?_
  refine va_get (D := D) (ci := 0) (v := .int (st2 8 2)) (C := RX0) (T := TX0) (N := 11) hx hb hts iw_X0_copyFrom_X0 hown hE.1 hP 0 rfl rfl 10 (by decide) (hts (.fieldLink RX0 57 "EchoTaps$Line" "seed" "I") (by decide +kernel)) (fun _ h9 => h9) rfl dX0_copyFrom_162 ?_
  refine va_put (D := D) (ci := 0) (v := .int (st2 8 2)) (ty := .int) (C := RX0) (T := TX0) (N := 11) hx hb hts iw_X0_copyFrom_X0 tyX0 tyX0_ok nmX0 hown hE.1 hP hD hS 9 rfl rfl 10 (by decide) (hts (.fieldLink RX0 57 "EchoTaps$Line" "seed" "I") (by decide +kernel)) (fun _ h9 => h9) rfl (by decide +kernel) rfl rfl (Nat.le_of_ble_eq_true rfl) dX0_copyFrom_165 (fun H locs hP hD hS => ?_)
  have hP : va_P D vwCl ((LW cA h2 as2 st2) ++ (LW cA h1 as1 (va_up f1 8 (upd (f1 8) 2 (st2 8 2))))) H := hP
  have hD : va_D A ((LW cA h2 as2 st2) ++ (LW cA h1 as1 (va_up f1 8 (upd (f1 8) 2 (st2 8 2))))) := hD
  have hP : va_P D vwCl ((LW cA h2 as2 st2) ++ (LW cA h1 as1 (lf_cf f1 st2 2))) H := hP
  have hD : va_D A ((LW cA h2 as2 st2) ++ (LW cA h1 as1 (lf_cf f1 st2 2))) := hD
  obtain ⟨f2, ef2⟩ : ∃ z : St, z = lf_cf f1 st2 2 := ⟨_, rfl⟩
  rw [← ef2] at hP hD
  have e1 : LE f2 st2 := by subst ef2 ef1 ef0 ed7 ed6 ed5 ed4 ed3 ed2 ed1 ed0; exact lf_cp_LE st1 st2
  exact hret _ _ _ _ (va_P_snd hP (LW_cg e1)) hS dX0_copyFrom_168
end
section
theorem in_vp {k : Int32} {b : Nat} (hb : b < 2 ^ 30) (h : ¬ pf_in k 0 (nI b) = 0) : vp_in k (b + 1) := by
  have h1 := Decidable.not_not.mp (fun q => h ((pf_inE k 0 (nI b)).mpr q))
  have h2 := Int32.le_iff_toInt_le.mp h1.1
  have h3 := Int32.le_iff_toInt_le.mp h1.2
  rw [nI_toInt (by omega)] at h3
  rw [vp_in_iff]
  have h4 : (0 : Int32).toInt = 0 := rfl
  omega
theorem in_nI {k : Int32} {b : Nat} (hb : b < 2 ^ 30) (h : ¬ pf_in k 0 (nI b) = 0) : ∃ j : Nat, j ≤ b ∧ k = nI j := by
  obtain ⟨j, hj, e⟩ := vp_in_of (in_vp hb h) (by omega)
  exact ⟨j, by omega, e⟩
def xo2 (a b : Int32) : Prop := a = 0 ∨ b = 0
noncomputable def xf_tick (st : St) (far near : Int32) : Int32 := if pf_in far (-1000) 1000 = 0 ∨ pf_in near (-2000) 2000 = 0 then -1000000002 else lf_out (lf_tf st far) near
noncomputable def xs_tick (st : St) (far near : Int32) : St := if pf_in far (-1000) 1000 = 0 ∨ pf_in near (-2000) 2000 = 0 then st else lf_near (lf_tf st far) near
def xf_tap (st : St) (k : Int32) : Int32 := if pf_in k 0 7 = 0 then -1000000002 else st 1 k.toNatClampNeg
def xf_last (st : St) (k : Int32) : Int32 := if pf_in k 0 7 = 0 then -1000000002 else if st 8 0 = 0 then -1000000003 else st 7 k.toNatClampNeg
def xf_ago (st : St) (i k : Int32) : Int32 := if pf_in i 0 31 = 0 ∨ pf_in k 0 2 = 0 then -1000000002 else if i < st 8 0 then (if k = 0 then fa st i else if k = 1 then na st i else oa st i) else -1000000006
def xo_part (k v : Int32) : Int32 := if k = 8 then pf_in v 0 15 else pf_in v (-1024) 1023
def xf_part (st : St) (k v : Int32) : Int32 := if pf_in k 0 8 = 0 ∨ xo_part k v = 0 then -1000000002 else st 2 k.toNatClampNeg
def xs_part (st : St) (k v : Int32) : St := if pf_in k 0 8 = 0 ∨ xo_part k v = 0 then st else va_up st 2 (upd (st 2) k.toNatClampNeg v)
noncomputable def xf_speak (st : St) (far v : Int32) : Int32 := if pf_in far (-1000) 1000 = 0 ∨ pf_in v (-2000) 2000 = 0 then -1000000002 else lf_hr st far v
noncomputable def xs_speak (st : St) (far v : Int32) : St := if pf_in far (-1000) 1000 = 0 ∨ pf_in v (-2000) 2000 = 0 then st else lf_hs st far v
noncomputable def xr_st (loud : Int32) : Nat → Int32 → St → St
  | 0, _, st => st
  | n + 1, z, st => xr_st loud n (pf_nx z) (lf_hs st (pf_ce (pf_nx z) loud) 0)
noncomputable def xr_sum (loud : Int32) : Nat → Int32 → St → Int32 → Int32
  | 0, _, _, a => a
  | n + 1, z, st, a => xr_sum loud n (pf_nx z) (lf_hs st (pf_ce (pf_nx z) loud) 0) (a + pf_ab (lf_hs st (pf_ce (pf_nx z) loud) 0 7 1))
noncomputable def xf_run (st : St) (z n loud : Int32) : Int32 := if pf_sr z loud = 0 ∨ pf_in n 1 60 = 0 then -2 else xr_sum loud n.toNatClampNeg z st 0
noncomputable def xs_run (st : St) (z n loud : Int32) : St := if pf_sr z loud = 0 ∨ pf_in n 1 60 = 0 then st else xr_st loud n.toNatClampNeg z st
def xf_like (st : St) (d : Int32) : Int32 := if pf_in d 0 15 = 0 then -1000000002 else lf_like st d
def sk_m (st : St) : Nat → Int32
  | 0 => 0
  | k + 1 => if pf_ab (lf_like st (nI k)) ≤ sk_m st k then sk_m st k else pf_ab (lf_like st (nI k))
def sk_b (st : St) : Nat → Int32
  | 0 => 0
  | k + 1 => if pf_ab (lf_like st (nI k)) ≤ sk_m st k then sk_b st k else nI k
def xf_seek (st : St) : Int32 := if sk_m st 16 = 0 then -3 else sk_b st 16
def xs_seek (st : St) : St := if sk_m st 16 = 0 then st else lf_anew st (sk_b st 16)
def xf_gain (st : St) (k : Int32) : Int32 := if pf_in k 0 1 = 0 then -2 else if lf_osq st = 0 ∨ pf_gd 64 (lf_nsq st) (lf_osq st) = 0 then -3 else (if k = 0 then lf_nsq st else lf_osq st) / pf_gd 64 (lf_nsq st) (lf_osq st)
def xf_began (st : St) (i k : Int32) : Int32 := if pf_in k 0 1 = 0 then -2 else lf_bg st i (if k = 0 then 1 else 2) 200 0
def xf_count (st : St) (kp k : Int32) : Int32 := if ¬ pf_in k 10 14 = 0 then st 0 (k - 10).toNatClampNeg else if k = 0 then st 8 0 else if k = 1 then st 8 1 else if k = 2 then st 8 2 else if k = 3 then lf_tsz st else if k = 4 then st 2 8 else if k = 5 then kp else -2
theorem in_cnt {k : Int32} (h : ¬ pf_in k 10 14 = 0) : vp_in (k - 10) 5 := by
  have h1 := Decidable.not_not.mp (fun q => h ((pf_inE k 10 14).mpr q))
  have h2 : ¬ k < 0 := by
    intro q
    have := Int32.lt_iff_toInt_lt.mp q
    have := Int32.le_iff_toInt_le.mp h1.1
    have e1 : (10 : Int32).toInt = 10 := rfl
    have e0 : (0 : Int32).toInt = 0 := rfl
    omega
  obtain ⟨j, hj, rfl⟩ := nI_of2 (M := 14) (n := 14) rfl h2 h1.2
  have h3 : 10 ≤ j := (nI_leI (a := 10) (by decide) (by omega)).mp h1.1
  rw [show nI j - 10 = nI (j - 10) from pk_sub h3]
  exact vp_in_nI (by omega) (by decide)
theorem sw5 {k : Int32} (h0 : ¬ k = 0) (h1 : ¬ k = 1) (h2 : ¬ k = 2) (h3 : ¬ k = 3) (h4 : ¬ k = 4) (h5 : ¬ k = 5) : k.toInt < 0 ∨ 5 < k.toInt := by
  have g0 := lv_neT h0 (a := 0) rfl
  have g1 := lv_neT h1 (a := 1) rfl
  have g2 := lv_neT h2 (a := 2) rfl
  have g3 := lv_neT h3 (a := 3) rfl
  have g4 := lv_neT h4 (a := 4) rfl
  have g5 := lv_neT h5 (a := 5) rfl
  omega
theorem in_nI60 {k : Int32} (h : ¬ pf_in k 1 60 = 0) : ∃ j : Nat, j ≤ 60 ∧ k = nI j := by
  have h1 := Decidable.not_not.mp (fun q => h ((pf_inE k 1 60).mpr q))
  have h2 : ¬ k < 0 := by
    intro q
    have := Int32.lt_iff_toInt_lt.mp q
    have := Int32.le_iff_toInt_le.mp h1.1
    have e1 : (1 : Int32).toInt = 1 := rfl
    have e0 : (0 : Int32).toInt = 0 := rfl
    omega
  exact nI_of2 (M := 60) (n := 60) rfl h2 h1.2
abbrev rm_X1_tick : Room := { frames := 4, cells := 0, slots := 0, locals := 98 }
theorem iw_X1_tick_X1 : ∀ w ∈ wsX10, w ∈ wsX1_tick := by decide +kernel
set_option maxRecDepth 100000 in
set_option maxHeartbeats 4000000 in
theorem c_X1_tick (l : Launch) (D : va_G) (cA cZ cR : ClassId) (ob h t i : Nat) (kp : Int32) (as : Nat → Nat) (st : St) (far near : Int32) : BMi l D cA cZ cR yX1_tick wsX1_tick rm_X1_tick [.ref ob, .int far, .int near] ([EO ob h t i kp] ++ (LW cA h as st)) ([EO ob h t i kp] ++ (LW cA h as (xs_tick st far near))) (xf_tick st far near) := by
  refine bm_open (maxL := 3) (by decide) rfl rfl rfl (Nat.le_of_ble_eq_true rfl) ?_
  intro p e s m args below meth c A Q hx hb hml hts hown hE hP hD hA hS hret ls hl
  have hown : s.vm.findClass RX1 = some m.cls := hown
  have hl : lv_has ls 3 [(0, .ref ob), (1, .int far), (2, .int near)] := hl
  obtain ⟨H, locs, eH, eL⟩ : ∃ (H : Heap) (locs : List Loc), H = s.heap ∧ locs = [] := ⟨_, _, rfl, rfl⟩
  rw [← eH, ← eL]
  rw [← eH] at hP
  have hS : va_S A s.heap H locs := by rw [eH, eL]; exact hS
  clear eH eL
  refine lv_iload_n hx hb dX1_tick_0 rfl (lv_at hl 1 rfl) ?_
  refine lv_sipush (v := (-1000)) hx hb dX1_tick_1 (by decide) ?_
  refine lv_sipush (v := 1000) hx hb dX1_tick_4 (by decide) ?_
  refine sm_i [.int far, .int (-1000), .int 1000] [] ⟨hx, hb, hml, hown, hts⟩ (c_X1_within l far (-1000) 1000) (va_cwS 3 hts gX1_tick_X1_within rfl rfl rfl (by decide +kernel) ⟨Nat.le_of_ble_eq_true rfl, Nat.le_of_ble_eq_true rfl⟩) rfl hl.1 rfl (Nat.le_of_ble_eq_true rfl) dX1_tick_7 ⟨Nat.zero_le _, Nat.zero_le _⟩ ?_
  refine lv_if_eq (tgt := 26) hx hb dX1_tick_10 (by decide) (fun c_1 => ?_) (fun c_1 => ?_)
  · have c_1 : (pf_in far (-1000) 1000) = 0 := c_1
    refine lv_ldc (v := (-1000000002)) hx hb hown (hts (.constant RX1 34 (-1000000002)) (by decide +kernel)) dX1_tick_26 ?_
    have e1 : xs_tick st far near = st := if_pos (Or.inl c_1)
    exact hret _ _ _ _ _ (by rw [e1]; exact hP) ((if_pos (Or.inl c_1)).symm) hS dX1_tick_28
  · have c_1 : ¬ (pf_in far (-1000) 1000) = 0 := c_1
    refine lv_iload_n hx hb dX1_tick_13 rfl (lv_at hl 2 rfl) ?_
    refine lv_sipush (v := (-2000)) hx hb dX1_tick_14 (by decide) ?_
    refine lv_sipush (v := 2000) hx hb dX1_tick_17 (by decide) ?_
    refine sm_i [.int near, .int (-2000), .int 2000] [] ⟨hx, hb, hml, hown, hts⟩ (c_X1_within l near (-2000) 2000) (va_cwS 3 hts gX1_tick_X1_within rfl rfl rfl (by decide +kernel) ⟨Nat.le_of_ble_eq_true rfl, Nat.le_of_ble_eq_true rfl⟩) rfl hl.1 rfl (Nat.le_of_ble_eq_true rfl) dX1_tick_20 ⟨Nat.zero_le _, Nat.zero_le _⟩ ?_
    refine lv_if_ne (tgt := 29) hx hb dX1_tick_23 (by decide) (fun c_2 => ?_) (fun c_2 => ?_)
    · have c_2 : ¬ (pf_in near (-2000) 2000) = 0 := c_2
      have e1 : xs_tick st far near = lf_near (lf_tf st far) near := if_neg (fun q => q.elim c_1 c_2)
      have e2 : xf_tick st far near = lf_out (lf_tf st far) near := if_neg (fun q => q.elim c_1 c_2)
      refine lv_aload_n hx hb dX1_tick_29 rfl (lv_at hl 0 rfl) ?_
      refine va_get (D := D) (ci := 1) (v := .ref h) (C := RX1) (T := TX1) (N := 4) hx hb hts iw_X1_tick_X1 hown hE.1 hP 0 rfl rfl 0 (by decide) (hts (.fieldLink RX1 12 "EchoTaps" "line" "LEchoTaps$Line;") (by decide +kernel)) (fun _ h9 => h9) rfl dX1_tick_30 ?_
      refine lv_iload_n hx hb dX1_tick_33 rfl (lv_at hl 1 rfl) ?_
      refine bm_v [EO ob h t i kp] (LW cA h as st) [] [.int far] [] ⟨hx, hb, hml, hown, hts⟩ (c_X0_takeFar l D cA cZ cR h as st far) (cwV 1 hts gX1_tick_X0_takeFar rfl rfl rfl (by decide +kernel) ⟨Nat.le_of_ble_eq_true rfl, Nat.le_of_ble_eq_true rfl⟩) hE hP hD hS hA LW_adr 0 0 rfl rfl rfl hl.1 rfl (Nat.le_of_ble_eq_true rfl) dX1_tick_34 ⟨Nat.zero_le _, Nat.zero_le _⟩ (fun H locs hP hD hS => ?_)
      have hP : va_P D vwCl ([EO ob h t i kp] ++ (LW cA h as (lf_tf st far))) H := hP
      have hD : va_D A ([EO ob h t i kp] ++ (LW cA h as (lf_tf st far))) := hD
      have hP : va_P D vwCl ([EO ob h t i kp] ++ (LW cA h as (lf_tf st far))) H := hP
      have hD : va_D A ([EO ob h t i kp] ++ (LW cA h as (lf_tf st far))) := hD
      obtain ⟨s0, es0⟩ : ∃ z : St, z = lf_tf st far := ⟨_, rfl⟩
      rw [← es0] at hP hD
      refine lv_aload_n hx hb dX1_tick_37 rfl (lv_at hl 0 rfl) ?_
      refine va_get (D := D) (ci := 1) (v := .ref h) (C := RX1) (T := TX1) (N := 4) hx hb hts iw_X1_tick_X1 hown hE.1 hP 0 rfl rfl 0 (by decide) (hts (.fieldLink RX1 12 "EchoTaps" "line" "LEchoTaps$Line;") (by decide +kernel)) (fun _ h9 => h9) rfl dX1_tick_38 ?_
      refine lv_iload_n hx hb dX1_tick_41 rfl (lv_at hl 2 rfl) ?_
      refine bm_i [EO ob h t i kp] (LW cA h as s0) [] [.int near] [] ⟨hx, hb, hml, hown, hts⟩ (c_X0_takeNear l D cA cZ cR h as s0 near) (cwV 1 hts gX1_tick_X0_takeNear rfl rfl rfl (by decide +kernel) ⟨Nat.le_of_ble_eq_true rfl, Nat.le_of_ble_eq_true rfl⟩) hE hP hD hS hA LW_adr 0 0 rfl rfl rfl hl.1 rfl (Nat.le_of_ble_eq_true rfl) dX1_tick_42 ⟨Nat.zero_le _, Nat.zero_le _⟩ (fun H locs hP hD hS => ?_)
      have hP : va_P D vwCl ([EO ob h t i kp] ++ (LW cA h as (lf_near s0 near))) H := hP
      have hD : va_D A ([EO ob h t i kp] ++ (LW cA h as (lf_near s0 near))) := hD
      exact hret _ _ _ _ _ (by rw [e1, ← es0]; exact hP) (by rw [e2, es0]) hS dX1_tick_45
    · have c_2 : (pf_in near (-2000) 2000) = 0 := c_2
      refine lv_ldc (v := (-1000000002)) hx hb hown (hts (.constant RX1 34 (-1000000002)) (by decide +kernel)) dX1_tick_26 ?_
      have e1 : xs_tick st far near = st := if_pos (Or.inr c_2)
      exact hret _ _ _ _ _ (by rw [e1]; exact hP) ((if_pos (Or.inr c_2)).symm) hS dX1_tick_28

abbrev rm_X1_speak : Room := { frames := 5, cells := 0, slots := 0, locals := 120 }
theorem iw_X1_speak_X1 : ∀ w ∈ wsX10, w ∈ wsX1_speak := by decide +kernel
set_option maxRecDepth 100000 in
set_option maxHeartbeats 4000000 in
theorem c_X1_speak (l : Launch) (D : va_G) (cA cZ cR : ClassId) (ob h t i : Nat) (kp : Int32) (as : Nat → Nat) (st : St) (far v : Int32) : BMi l D cA cZ cR yX1_speak wsX1_speak rm_X1_speak [.ref ob, .int far, .int v] ([EO ob h t i kp] ++ (LW cA h as st)) ([EO ob h t i kp] ++ (LW cA h as (xs_speak st far v))) (xf_speak st far v) := by
  refine bm_open (maxL := 3) (by decide) rfl rfl rfl (Nat.le_of_ble_eq_true rfl) ?_
  intro p e s m args below meth c A Q hx hb hml hts hown hE hP hD hA hS hret ls hl
  have hown : s.vm.findClass RX1 = some m.cls := hown
  have hl : lv_has ls 3 [(0, .ref ob), (1, .int far), (2, .int v)] := hl
  obtain ⟨H, locs, eH, eL⟩ : ∃ (H : Heap) (locs : List Loc), H = s.heap ∧ locs = [] := ⟨_, _, rfl, rfl⟩
  rw [← eH, ← eL]
  rw [← eH] at hP
  have hS : va_S A s.heap H locs := by rw [eH, eL]; exact hS
  clear eH eL
  refine lv_iload_n hx hb dX1_speak_0 rfl (lv_at hl 1 rfl) ?_
  refine lv_sipush (v := (-1000)) hx hb dX1_speak_1 (by decide) ?_
  refine lv_sipush (v := 1000) hx hb dX1_speak_4 (by decide) ?_
  refine sm_i [.int far, .int (-1000), .int 1000] [] ⟨hx, hb, hml, hown, hts⟩ (c_X1_within l far (-1000) 1000) (va_cwS 3 hts gX1_speak_X1_within rfl rfl rfl (by decide +kernel) ⟨Nat.le_of_ble_eq_true rfl, Nat.le_of_ble_eq_true rfl⟩) rfl hl.1 rfl (Nat.le_of_ble_eq_true rfl) dX1_speak_7 ⟨Nat.zero_le _, Nat.zero_le _⟩ ?_
  refine lv_if_eq (tgt := 26) hx hb dX1_speak_10 (by decide) (fun c_1 => ?_) (fun c_1 => ?_)
  · have c_1 : (pf_in far (-1000) 1000) = 0 := c_1
    refine lv_ldc (v := (-1000000002)) hx hb hown (hts (.constant RX1 34 (-1000000002)) (by decide +kernel)) dX1_speak_26 ?_
    have e1 : xs_speak st far v = st := if_pos (Or.inl c_1)
    exact hret _ _ _ _ _ (by rw [e1]; exact hP) ((if_pos (Or.inl c_1)).symm) hS dX1_speak_28
  · have c_1 : ¬ (pf_in far (-1000) 1000) = 0 := c_1
    refine lv_iload_n hx hb dX1_speak_13 rfl (lv_at hl 2 rfl) ?_
    refine lv_sipush (v := (-2000)) hx hb dX1_speak_14 (by decide) ?_
    refine lv_sipush (v := 2000) hx hb dX1_speak_17 (by decide) ?_
    refine sm_i [.int v, .int (-2000), .int 2000] [] ⟨hx, hb, hml, hown, hts⟩ (c_X1_within l v (-2000) 2000) (va_cwS 3 hts gX1_speak_X1_within rfl rfl rfl (by decide +kernel) ⟨Nat.le_of_ble_eq_true rfl, Nat.le_of_ble_eq_true rfl⟩) rfl hl.1 rfl (Nat.le_of_ble_eq_true rfl) dX1_speak_20 ⟨Nat.zero_le _, Nat.zero_le _⟩ ?_
    refine lv_if_ne (tgt := 29) hx hb dX1_speak_23 (by decide) (fun c_2 => ?_) (fun c_2 => ?_)
    · have c_2 : ¬ (pf_in v (-2000) 2000) = 0 := c_2
      have e1 : xs_speak st far v = lf_hs st far v := if_neg (fun q => q.elim c_1 c_2)
      have e2 : xf_speak st far v = lf_hr st far v := if_neg (fun q => q.elim c_1 c_2)
      refine lv_aload_n hx hb dX1_speak_29 rfl (lv_at hl 0 rfl) ?_
      refine va_get (D := D) (ci := 1) (v := .ref h) (C := RX1) (T := TX1) (N := 4) hx hb hts iw_X1_speak_X1 hown hE.1 hP 0 rfl rfl 0 (by decide) (hts (.fieldLink RX1 12 "EchoTaps" "line" "LEchoTaps$Line;") (by decide +kernel)) (fun _ h9 => h9) rfl dX1_speak_30 ?_
      refine lv_iload_n hx hb dX1_speak_33 rfl (lv_at hl 1 rfl) ?_
      refine lv_iload_n hx hb dX1_speak_34 rfl (lv_at hl 2 rfl) ?_
      refine bm_i [EO ob h t i kp] (LW cA h as st) [] [.int far, .int v] [] ⟨hx, hb, hml, hown, hts⟩ (c_X0_hearSpeech l D cA cZ cR h as st far v) (cwV 2 hts gX1_speak_X0_hearSpeech rfl rfl rfl (by decide +kernel) ⟨Nat.le_of_ble_eq_true rfl, Nat.le_of_ble_eq_true rfl⟩) hE hP hD hS hA LW_adr 0 0 rfl rfl rfl hl.1 rfl (Nat.le_of_ble_eq_true rfl) dX1_speak_35 ⟨Nat.zero_le _, Nat.zero_le _⟩ (fun H locs hP hD hS => ?_)
      have hP : va_P D vwCl ([EO ob h t i kp] ++ (LW cA h as (lf_hs st far v))) H := hP
      have hD : va_D A ([EO ob h t i kp] ++ (LW cA h as (lf_hs st far v))) := hD
      exact hret _ _ _ _ _ (by rw [e1]; exact hP) e2.symm hS dX1_speak_38
    · have c_2 : (pf_in v (-2000) 2000) = 0 := c_2
      refine lv_ldc (v := (-1000000002)) hx hb hown (hts (.constant RX1 34 (-1000000002)) (by decide +kernel)) dX1_speak_26 ?_
      have e1 : xs_speak st far v = st := if_pos (Or.inr c_2)
      exact hret _ _ _ _ _ (by rw [e1]; exact hP) ((if_pos (Or.inr c_2)).symm) hS dX1_speak_28

abbrev rm_X1_tap : Room := { frames := 1, cells := 0, slots := 0, locals := 22 }
theorem iw_X1_tap_X0 : ∀ w ∈ wsX00, w ∈ wsX1_tap := by decide +kernel
theorem iw_X1_tap_X1 : ∀ w ∈ wsX10, w ∈ wsX1_tap := by decide +kernel
set_option maxRecDepth 100000 in
set_option maxHeartbeats 4000000 in
theorem c_X1_tap (l : Launch) (D : va_G) (cA cZ cR : ClassId) (ob h t i : Nat) (kp : Int32) (as : Nat → Nat) (st : St) (k : Int32) : BMi l D cA cZ cR yX1_tap wsX1_tap rm_X1_tap [.ref ob, .int k] ([EO ob h t i kp] ++ (LW cA h as st)) ([EO ob h t i kp] ++ (LW cA h as st)) (xf_tap st k) := by
  refine bm_open (maxL := 2) (by decide) rfl rfl rfl (Nat.le_of_ble_eq_true rfl) ?_
  intro p e s m args below meth c A Q hx hb hml hts hown hE hP hD hA hS hret ls hl
  have hown : s.vm.findClass RX1 = some m.cls := hown
  have hl : lv_has ls 2 [(0, .ref ob), (1, .int k)] := hl
  obtain ⟨H, locs, eH, eL⟩ : ∃ (H : Heap) (locs : List Loc), H = s.heap ∧ locs = [] := ⟨_, _, rfl, rfl⟩
  rw [← eH, ← eL]
  rw [← eH] at hP
  have hS : va_S A s.heap H locs := by rw [eH, eL]; exact hS
  clear eH eL
  refine lv_iload_n hx hb dX1_tap_0 rfl (lv_at hl 1 rfl) ?_
  refine lv_iconst (v := 0) hx hb dX1_tap_1 (by decide) ?_
  refine lv_bipush (v := 7) hx hb dX1_tap_2 (by decide) ?_
  refine sm_i [.int k, .int 0, .int 7] [] ⟨hx, hb, hml, hown, hts⟩ (c_X1_within l k 0 7) (va_cwS 3 hts gX1_tap_X1_within rfl rfl rfl (by decide +kernel) ⟨Nat.le_of_ble_eq_true rfl, Nat.le_of_ble_eq_true rfl⟩) rfl hl.1 rfl (Nat.le_of_ble_eq_true rfl) dX1_tap_4 ⟨Nat.zero_le _, Nat.zero_le _⟩ ?_
  refine lv_if_eq (tgt := 22) hx hb dX1_tap_7 (by decide) (fun c_1 => ?_) (fun c_1 => ?_)
  · have c_1 : (pf_in k 0 7) = 0 := c_1
    refine lv_ldc (v := (-1000000002)) hx hb hown (hts (.constant RX1 34 (-1000000002)) (by decide +kernel)) dX1_tap_22 ?_
    exact hret _ _ _ _ _ hP ((if_pos c_1).symm) hS dX1_tap_24
  · have c_1 : ¬ (pf_in k 0 7) = 0 := c_1
    refine lv_aload_n hx hb dX1_tap_10 rfl (lv_at hl 0 rfl) ?_
    refine va_get (D := D) (ci := 1) (v := .ref h) (C := RX1) (T := TX1) (N := 4) hx hb hts iw_X1_tap_X1 hown hE.1 hP 0 rfl rfl 0 (by decide) (hts (.fieldLink RX1 12 "EchoTaps" "line" "LEchoTaps$Line;") (by decide +kernel)) (fun _ h9 => h9) rfl dX1_tap_11 ?_
    refine va_get (D := D) (ci := 0) (v := .ref (as 1)) (C := RX0) (T := TX0) (N := 11) hx hb hts iw_X1_tap_X0 hown hE.1 hP 1 rfl rfl 1 (by decide) (hts (.fieldLink RX1 43 "EchoTaps$Line" "taps" "[I") (by decide +kernel)) (fun _ h9 => h9) rfl dX1_tap_14 ?_
    refine lv_iload_n hx hb dX1_tap_17 rfl (lv_at hl 1 rfl) ?_
    refine va_iald hx hb hE.1 hP 3 0 rfl rfl (in_vp (b := 7) (by decide) c_1) dX1_tap_18 ?_
    refine lv_goto (tgt := 24) hx hb dX1_tap_19 (by decide) ?_
    exact hret _ _ _ _ _ hP ((if_neg c_1).symm) hS dX1_tap_24

abbrev rm_X1_last : Room := { frames := 1, cells := 0, slots := 0, locals := 22 }
theorem iw_X1_last_X0 : ∀ w ∈ wsX00, w ∈ wsX1_last := by decide +kernel
theorem iw_X1_last_X1 : ∀ w ∈ wsX10, w ∈ wsX1_last := by decide +kernel
set_option maxRecDepth 100000 in
set_option maxHeartbeats 4000000 in
theorem c_X1_last (l : Launch) (D : va_G) (cA cZ cR : ClassId) (ob h t i : Nat) (kp : Int32) (as : Nat → Nat) (st : St) (k : Int32) : BMi l D cA cZ cR yX1_last wsX1_last rm_X1_last [.ref ob, .int k] ([EO ob h t i kp] ++ (LW cA h as st)) ([EO ob h t i kp] ++ (LW cA h as st)) (xf_last st k) := by
  refine bm_open (maxL := 2) (by decide) rfl rfl rfl (Nat.le_of_ble_eq_true rfl) ?_
  intro p e s m args below meth c A Q hx hb hml hts hown hE hP hD hA hS hret ls hl
  have hown : s.vm.findClass RX1 = some m.cls := hown
  have hl : lv_has ls 2 [(0, .ref ob), (1, .int k)] := hl
  obtain ⟨H, locs, eH, eL⟩ : ∃ (H : Heap) (locs : List Loc), H = s.heap ∧ locs = [] := ⟨_, _, rfl, rfl⟩
  rw [← eH, ← eL]
  rw [← eH] at hP
  have hS : va_S A s.heap H locs := by rw [eH, eL]; exact hS
  clear eH eL
  refine lv_iload_n hx hb dX1_last_0 rfl (lv_at hl 1 rfl) ?_
  refine lv_iconst (v := 0) hx hb dX1_last_1 (by decide) ?_
  refine lv_bipush (v := 7) hx hb dX1_last_2 (by decide) ?_
  refine sm_i [.int k, .int 0, .int 7] [] ⟨hx, hb, hml, hown, hts⟩ (c_X1_within l k 0 7) (va_cwS 3 hts gX1_last_X1_within rfl rfl rfl (by decide +kernel) ⟨Nat.le_of_ble_eq_true rfl, Nat.le_of_ble_eq_true rfl⟩) rfl hl.1 rfl (Nat.le_of_ble_eq_true rfl) dX1_last_4 ⟨Nat.zero_le _, Nat.zero_le _⟩ ?_
  refine lv_if_ne (tgt := 13) hx hb dX1_last_7 (by decide) (fun c_1 => ?_) (fun c_1 => ?_)
  · have c_1 : ¬ (pf_in k 0 7) = 0 := c_1
    refine lv_aload_n hx hb dX1_last_13 rfl (lv_at hl 0 rfl) ?_
    refine va_get (D := D) (ci := 1) (v := .ref h) (C := RX1) (T := TX1) (N := 4) hx hb hts iw_X1_last_X1 hown hE.1 hP 0 rfl rfl 0 (by decide) (hts (.fieldLink RX1 12 "EchoTaps" "line" "LEchoTaps$Line;") (by decide +kernel)) (fun _ h9 => h9) rfl dX1_last_14 ?_
    refine va_get (D := D) (ci := 0) (v := .int (st 8 0)) (C := RX0) (T := TX0) (N := 11) hx hb hts iw_X1_last_X0 hown hE.1 hP 1 rfl rfl 8 (by decide) (hts (.fieldLink RX1 46 "EchoTaps$Line" "ticks" "I") (by decide +kernel)) (fun _ h9 => h9) rfl dX1_last_17 ?_
    refine lv_if_ne (tgt := 28) hx hb dX1_last_20 (by decide) (fun c_2 => ?_) (fun c_2 => ?_)
    · have c_2 : ¬ (st 8 0) = 0 := c_2
      refine lv_aload_n hx hb dX1_last_28 rfl (lv_at hl 0 rfl) ?_
      refine va_get (D := D) (ci := 1) (v := .ref h) (C := RX1) (T := TX1) (N := 4) hx hb hts iw_X1_last_X1 hown hE.1 hP 0 rfl rfl 0 (by decide) (hts (.fieldLink RX1 12 "EchoTaps" "line" "LEchoTaps$Line;") (by decide +kernel)) (fun _ h9 => h9) rfl dX1_last_29 ?_
      refine va_get (D := D) (ci := 0) (v := .ref (as 7)) (C := RX0) (T := TX0) (N := 11) hx hb hts iw_X1_last_X0 hown hE.1 hP 1 rfl rfl 7 (by decide) (hts (.fieldLink RX1 51 "EchoTaps$Line" "told" "[I") (by decide +kernel)) (fun _ h9 => h9) rfl dX1_last_32 ?_
      refine lv_iload_n hx hb dX1_last_35 rfl (lv_at hl 1 rfl) ?_
      refine va_iald hx hb hE.1 hP 9 0 rfl rfl (in_vp (b := 7) (by decide) c_1) dX1_last_36 ?_
      exact hret _ _ _ _ _ hP (by rw [xf_last, if_neg c_1, if_neg c_2]) hS dX1_last_37
    · have c_2 : (st 8 0) = 0 := c_2
      refine lv_ldc (v := (-1000000003)) hx hb hown (hts (.constant RX1 50 (-1000000003)) (by decide +kernel)) dX1_last_23 ?_
      refine lv_goto (tgt := 37) hx hb dX1_last_25 (by decide) ?_
      exact hret _ _ _ _ _ hP (by rw [xf_last, if_neg c_1, if_pos c_2]) hS dX1_last_37
  · have c_1 : (pf_in k 0 7) = 0 := c_1
    refine lv_ldc (v := (-1000000002)) hx hb hown (hts (.constant RX1 34 (-1000000002)) (by decide +kernel)) dX1_last_10 ?_
    exact hret _ _ _ _ _ hP ((if_pos c_1).symm) hS dX1_last_12

abbrev rm_X1_ago : Room := { frames := 1, cells := 0, slots := 0, locals := 22 }
theorem iw_X1_ago_X0 : ∀ w ∈ wsX00, w ∈ wsX1_ago := by decide +kernel
theorem iw_X1_ago_X1 : ∀ w ∈ wsX10, w ∈ wsX1_ago := by decide +kernel
set_option maxRecDepth 100000 in
set_option maxHeartbeats 4000000 in
theorem c_X1_ago (l : Launch) (D : va_G) (cA cZ cR : ClassId) (ob h t i : Nat) (kp : Int32) (as : Nat → Nat) (st : St) (i0 k : Int32) : BMi l D cA cZ cR yX1_ago wsX1_ago rm_X1_ago [.ref ob, .int i0, .int k] ([EO ob h t i kp] ++ (LW cA h as st)) ([EO ob h t i kp] ++ (LW cA h as st)) (xf_ago st i0 k) := by
  refine bm_open (maxL := 3) (by decide) rfl rfl rfl (Nat.le_of_ble_eq_true rfl) ?_
  intro p e s m args below meth c A Q hx hb hml hts hown hE hP hD hA hS hret ls hl
  have hown : s.vm.findClass RX1 = some m.cls := hown
  have hl : lv_has ls 3 [(0, .ref ob), (1, .int i0), (2, .int k)] := hl
  obtain ⟨H, locs, eH, eL⟩ : ∃ (H : Heap) (locs : List Loc), H = s.heap ∧ locs = [] := ⟨_, _, rfl, rfl⟩
  rw [← eH, ← eL]
  rw [← eH] at hP
  have hS : va_S A s.heap H locs := by rw [eH, eL]; exact hS
  clear eH eL
  refine lv_iload_n hx hb dX1_ago_0 rfl (lv_at hl 1 rfl) ?_
  refine lv_iconst (v := 0) hx hb dX1_ago_1 (by decide) ?_
  refine lv_bipush (v := 31) hx hb dX1_ago_2 (by decide) ?_
  refine sm_i [.int i0, .int 0, .int 31] [] ⟨hx, hb, hml, hown, hts⟩ (c_X1_within l i0 0 31) (va_cwS 3 hts gX1_ago_X1_within rfl rfl rfl (by decide +kernel) ⟨Nat.le_of_ble_eq_true rfl, Nat.le_of_ble_eq_true rfl⟩) rfl hl.1 rfl (Nat.le_of_ble_eq_true rfl) dX1_ago_4 ⟨Nat.zero_le _, Nat.zero_le _⟩ ?_
  refine lv_if_eq (tgt := 19) hx hb dX1_ago_7 (by decide) (fun c_1 => ?_) (fun c_1 => ?_)
  · have c_1 : (pf_in i0 0 31) = 0 := c_1
    refine lv_ldc (v := (-1000000002)) hx hb hown (hts (.constant RX1 34 (-1000000002)) (by decide +kernel)) dX1_ago_19 ?_
    exact hret _ _ _ _ _ hP ((if_pos (Or.inl c_1)).symm) hS dX1_ago_21
  · have c_1 : ¬ (pf_in i0 0 31) = 0 := c_1
    refine lv_iload_n hx hb dX1_ago_10 rfl (lv_at hl 2 rfl) ?_
    refine lv_iconst (v := 0) hx hb dX1_ago_11 (by decide) ?_
    refine lv_iconst (v := 2) hx hb dX1_ago_12 (by decide) ?_
    refine sm_i [.int k, .int 0, .int 2] [] ⟨hx, hb, hml, hown, hts⟩ (c_X1_within l k 0 2) (va_cwS 3 hts gX1_ago_X1_within rfl rfl rfl (by decide +kernel) ⟨Nat.le_of_ble_eq_true rfl, Nat.le_of_ble_eq_true rfl⟩) rfl hl.1 rfl (Nat.le_of_ble_eq_true rfl) dX1_ago_13 ⟨Nat.zero_le _, Nat.zero_le _⟩ ?_
    refine lv_if_ne (tgt := 22) hx hb dX1_ago_16 (by decide) (fun c_2 => ?_) (fun c_2 => ?_)
    · have c_2 : ¬ (pf_in k 0 2) = 0 := c_2
      refine lv_iload_n hx hb dX1_ago_22 rfl (lv_at hl 1 rfl) ?_
      refine lv_aload_n hx hb dX1_ago_23 rfl (lv_at hl 0 rfl) ?_
      refine va_get (D := D) (ci := 1) (v := .ref h) (C := RX1) (T := TX1) (N := 4) hx hb hts iw_X1_ago_X1 hown hE.1 hP 0 rfl rfl 0 (by decide) (hts (.fieldLink RX1 12 "EchoTaps" "line" "LEchoTaps$Line;") (by decide +kernel)) (fun _ h9 => h9) rfl dX1_ago_24 ?_
      refine va_get (D := D) (ci := 0) (v := .int (st 8 0)) (C := RX0) (T := TX0) (N := 11) hx hb hts iw_X1_ago_X0 hown hE.1 hP 1 rfl rfl 8 (by decide) (hts (.fieldLink RX1 46 "EchoTaps$Line" "ticks" "I") (by decide +kernel)) (fun _ h9 => h9) rfl dX1_ago_27 ?_
      refine lv_icmp_lt (tgt := 36) hx hb dX1_ago_30 (by decide) (fun c_3 => ?_) (fun c_3 => ?_)
      · have c_3 : i0 < (st 8 0) := c_3
        refine lv_iload_n hx hb dX1_ago_36 rfl (lv_at hl 2 rfl) ?_
        refine lv_if_ne (tgt := 51) hx hb dX1_ago_37 (by decide) (fun c_4 => ?_) (fun c_4 => ?_)
        · have c_4 : ¬ k = 0 := c_4
          refine lv_iload_n hx hb dX1_ago_51 rfl (lv_at hl 2 rfl) ?_
          refine lv_iconst (v := 1) hx hb dX1_ago_52 (by decide) ?_
          refine lv_icmp_ne (tgt := 67) hx hb dX1_ago_53 (by decide) (fun c_5 => ?_) (fun c_5 => ?_)
          · have c_5 : ¬ k = 1 := c_5
            refine lv_aload_n hx hb dX1_ago_67 rfl (lv_at hl 0 rfl) ?_
            refine va_get (D := D) (ci := 1) (v := .ref h) (C := RX1) (T := TX1) (N := 4) hx hb hts iw_X1_ago_X1 hown hE.1 hP 0 rfl rfl 0 (by decide) (hts (.fieldLink RX1 12 "EchoTaps" "line" "LEchoTaps$Line;") (by decide +kernel)) (fun _ h9 => h9) rfl dX1_ago_68 ?_
            refine lv_iload_n hx hb dX1_ago_71 rfl (lv_at hl 1 rfl) ?_
            refine bm_i [EO ob h t i kp] (LW cA h as st) [] [.int i0] [] ⟨hx, hb, hml, hown, hts⟩ (c_X0_outAgo l D cA cZ cR h as st i0) (cwV 1 hts gX1_ago_X0_outAgo rfl rfl rfl (by decide +kernel) ⟨Nat.le_of_ble_eq_true rfl, Nat.le_of_ble_eq_true rfl⟩) hE hP hD hS hA LW_adr 0 0 rfl rfl rfl hl.1 rfl (Nat.le_of_ble_eq_true rfl) dX1_ago_72 ⟨Nat.zero_le _, Nat.zero_le _⟩ (fun H locs hP hD hS => ?_)
            have hP : va_P D vwCl ([EO ob h t i kp] ++ (LW cA h as st)) H := hP
            have hD : va_D A ([EO ob h t i kp] ++ (LW cA h as st)) := hD
            exact hret _ _ _ _ _ hP (by rw [xf_ago, if_neg (fun q => q.elim c_1 c_2), if_pos c_3, if_neg c_4, if_neg c_5]) hS dX1_ago_75
          · have c_5 : k = 1 := c_5
            refine lv_aload_n hx hb dX1_ago_56 rfl (lv_at hl 0 rfl) ?_
            refine va_get (D := D) (ci := 1) (v := .ref h) (C := RX1) (T := TX1) (N := 4) hx hb hts iw_X1_ago_X1 hown hE.1 hP 0 rfl rfl 0 (by decide) (hts (.fieldLink RX1 12 "EchoTaps" "line" "LEchoTaps$Line;") (by decide +kernel)) (fun _ h9 => h9) rfl dX1_ago_57 ?_
            refine lv_iload_n hx hb dX1_ago_60 rfl (lv_at hl 1 rfl) ?_
            refine bm_i [EO ob h t i kp] (LW cA h as st) [] [.int i0] [] ⟨hx, hb, hml, hown, hts⟩ (c_X0_nearAgo l D cA cZ cR h as st i0) (cwV 1 hts gX1_ago_X0_nearAgo rfl rfl rfl (by decide +kernel) ⟨Nat.le_of_ble_eq_true rfl, Nat.le_of_ble_eq_true rfl⟩) hE hP hD hS hA LW_adr 0 0 rfl rfl rfl hl.1 rfl (Nat.le_of_ble_eq_true rfl) dX1_ago_61 ⟨Nat.zero_le _, Nat.zero_le _⟩ (fun H locs hP hD hS => ?_)
            have hP : va_P D vwCl ([EO ob h t i kp] ++ (LW cA h as st)) H := hP
            have hD : va_D A ([EO ob h t i kp] ++ (LW cA h as st)) := hD
            refine lv_goto (tgt := 75) hx hb dX1_ago_64 (by decide) ?_
            exact hret _ _ _ _ _ hP (by rw [xf_ago, if_neg (fun q => q.elim c_1 c_2), if_pos c_3, if_neg c_4, if_pos c_5]) hS dX1_ago_75
        · have c_4 : k = 0 := c_4
          refine lv_aload_n hx hb dX1_ago_40 rfl (lv_at hl 0 rfl) ?_
          refine va_get (D := D) (ci := 1) (v := .ref h) (C := RX1) (T := TX1) (N := 4) hx hb hts iw_X1_ago_X1 hown hE.1 hP 0 rfl rfl 0 (by decide) (hts (.fieldLink RX1 12 "EchoTaps" "line" "LEchoTaps$Line;") (by decide +kernel)) (fun _ h9 => h9) rfl dX1_ago_41 ?_
          refine lv_iload_n hx hb dX1_ago_44 rfl (lv_at hl 1 rfl) ?_
          refine bm_i [EO ob h t i kp] (LW cA h as st) [] [.int i0] [] ⟨hx, hb, hml, hown, hts⟩ (c_X0_farAgo l D cA cZ cR h as st i0) (cwV 1 hts gX1_ago_X0_farAgo rfl rfl rfl (by decide +kernel) ⟨Nat.le_of_ble_eq_true rfl, Nat.le_of_ble_eq_true rfl⟩) hE hP hD hS hA LW_adr 0 0 rfl rfl rfl hl.1 rfl (Nat.le_of_ble_eq_true rfl) dX1_ago_45 ⟨Nat.zero_le _, Nat.zero_le _⟩ (fun H locs hP hD hS => ?_)
          have hP : va_P D vwCl ([EO ob h t i kp] ++ (LW cA h as st)) H := hP
          have hD : va_D A ([EO ob h t i kp] ++ (LW cA h as st)) := hD
          refine lv_goto (tgt := 75) hx hb dX1_ago_48 (by decide) ?_
          exact hret _ _ _ _ _ hP (by rw [xf_ago, if_neg (fun q => q.elim c_1 c_2), if_pos c_3, if_pos c_4]) hS dX1_ago_75
      · have c_3 : ¬ i0 < (st 8 0) := c_3
        refine lv_ldc (v := (-1000000006)) hx hb hown (hts (.constant RX1 54 (-1000000006)) (by decide +kernel)) dX1_ago_33 ?_
        exact hret _ _ _ _ _ hP (by rw [xf_ago, if_neg (fun q => q.elim c_1 c_2), if_neg c_3]) hS dX1_ago_35
    · have c_2 : (pf_in k 0 2) = 0 := c_2
      refine lv_ldc (v := (-1000000002)) hx hb hown (hts (.constant RX1 34 (-1000000002)) (by decide +kernel)) dX1_ago_19 ?_
      exact hret _ _ _ _ _ hP ((if_pos (Or.inr c_2)).symm) hS dX1_ago_21

abbrev rm_X1_part : Room := { frames := 1, cells := 0, slots := 0, locals := 22 }
theorem iw_X1_part_X0 : ∀ w ∈ wsX00, w ∈ wsX1_part := by decide +kernel
theorem iw_X1_part_X1 : ∀ w ∈ wsX10, w ∈ wsX1_part := by decide +kernel
set_option maxRecDepth 100000 in
set_option maxHeartbeats 4000000 in
theorem c_X1_part (l : Launch) (D : va_G) (cA cZ cR : ClassId) (ob h t i : Nat) (kp : Int32) (as : Nat → Nat) (st : St) (k v : Int32) : BMi l D cA cZ cR yX1_part wsX1_part rm_X1_part [.ref ob, .int k, .int v] ([EO ob h t i kp] ++ (LW cA h as st)) ([EO ob h t i kp] ++ (LW cA h as (xs_part st k v))) (xf_part st k v) := by
  refine bm_open (maxL := 5) (by decide) rfl rfl rfl (Nat.le_of_ble_eq_true rfl) ?_
  intro p e s m args below meth c A Q hx hb hml hts hown hE hP hD hA hS hret ls hl
  have hown : s.vm.findClass RX1 = some m.cls := hown
  have hl : lv_has ls 5 [(0, .ref ob), (1, .int k), (2, .int v)] := hl
  obtain ⟨H, locs, eH, eL⟩ : ∃ (H : Heap) (locs : List Loc), H = s.heap ∧ locs = [] := ⟨_, _, rfl, rfl⟩
  rw [← eH, ← eL]
  rw [← eH] at hP
  have hS : va_S A s.heap H locs := by rw [eH, eL]; exact hS
  clear eH eL
  refine lv_iload_n hx hb dX1_part_0 rfl (lv_at hl 1 rfl) ?_
  refine lv_iconst (v := 0) hx hb dX1_part_1 (by decide) ?_
  refine lv_bipush (v := 8) hx hb dX1_part_2 (by decide) ?_
  refine sm_i [.int k, .int 0, .int 8] [] ⟨hx, hb, hml, hown, hts⟩ (c_X1_within l k 0 8) (va_cwS 3 hts gX1_part_X1_within rfl rfl rfl (by decide +kernel) ⟨Nat.le_of_ble_eq_true rfl, Nat.le_of_ble_eq_true rfl⟩) rfl hl.1 rfl (Nat.le_of_ble_eq_true rfl) dX1_part_4 ⟨Nat.zero_le _, Nat.zero_le _⟩ ?_
  refine lv_if_ne (tgt := 13) hx hb dX1_part_7 (by decide) (fun c_1 => ?_) (fun c_1 => ?_)
  · have c_1 : ¬ (pf_in k 0 8) = 0 := c_1
    refine lv_iload_n hx hb dX1_part_13 rfl (lv_at hl 1 rfl) ?_
    refine lv_bipush (v := 8) hx hb dX1_part_14 (by decide) ?_
    have j39 :  W p l e rm_X1_part s m args below meth c H locs 0 0 Q (F0 m 39 ls [.int (xo_part k v)]) := by
      refine lv_istore_n (lv' := [(3, .int (xo_part k v)), (0, .ref ob), (1, .int k), (2, .int v)]) hx hb dX1_part_39 rfl hl (by decide) rfl (fun ls hl => ?_)
      refine lv_iload_n hx hb dX1_part_40 rfl (lv_at hl 0 rfl) ?_
      refine lv_if_ne (tgt := 47) hx hb dX1_part_41 (by decide) (fun c_2 => ?_) (fun c_2 => ?_)
      · have c_2 : ¬ (xo_part k v) = 0 := c_2
        have e1 : xs_part st k v = va_up st 2 (upd (st 2) k.toNatClampNeg v) := if_neg (fun q => q.elim c_1 c_2)
        have hin : vp_in k 9 := in_vp (b := 8) (by decide) c_1
        refine lv_aload_n hx hb dX1_part_47 rfl (lv_at hl 1 rfl) ?_
        refine va_get (D := D) (ci := 1) (v := .ref h) (C := RX1) (T := TX1) (N := 4) hx hb hts iw_X1_part_X1 hown hE.1 hP 0 rfl rfl 0 (by decide) (hts (.fieldLink RX1 12 "EchoTaps" "line" "LEchoTaps$Line;") (by decide +kernel)) (fun _ h9 => h9) rfl dX1_part_48 ?_
        refine va_get (D := D) (ci := 0) (v := .ref (as 2)) (C := RX0) (T := TX0) (N := 11) hx hb hts iw_X1_part_X0 hown hE.1 hP 1 rfl rfl 2 (by decide) (hts (.fieldLink RX1 64 "EchoTaps$Line" "way" "[I") (by decide +kernel)) (fun _ h9 => h9) rfl dX1_part_51 ?_
        refine lv_iload_n hx hb dX1_part_54 rfl (lv_at hl 2 rfl) ?_
        refine va_iald hx hb hE.1 hP 4 0 rfl rfl hin dX1_part_55 ?_
        refine lv_istore (lv' := [(4, .int ((st 2) k.toNatClampNeg)), (3, .int (xo_part k v)), (0, .ref ob), (1, .int k), (2, .int v)]) hx hb dX1_part_56 hl (by decide) rfl (fun ls hl => ?_)
        refine lv_aload_n hx hb dX1_part_58 rfl (lv_at hl 2 rfl) ?_
        refine va_get (D := D) (ci := 1) (v := .ref h) (C := RX1) (T := TX1) (N := 4) hx hb hts iw_X1_part_X1 hown hE.1 hP 0 rfl rfl 0 (by decide) (hts (.fieldLink RX1 12 "EchoTaps" "line" "LEchoTaps$Line;") (by decide +kernel)) (fun _ h9 => h9) rfl dX1_part_59 ?_
        refine va_get (D := D) (ci := 0) (v := .ref (as 2)) (C := RX0) (T := TX0) (N := 11) hx hb hts iw_X1_part_X0 hown hE.1 hP 1 rfl rfl 2 (by decide) (hts (.fieldLink RX1 64 "EchoTaps$Line" "way" "[I") (by decide +kernel)) (fun _ h9 => h9) rfl dX1_part_62 ?_
        refine lv_iload_n hx hb dX1_part_65 rfl (lv_at hl 3 rfl) ?_
        refine lv_iload_n hx hb dX1_part_66 rfl (lv_at hl 4 rfl) ?_
        refine va_iast hx hb hE.1 hP hD hS 4 0 rfl rfl hin dX1_part_67 (fun H locs hP hD hS => ?_)
        have hP : va_P D vwCl ([EO ob h t i kp] ++ (LW cA h as (va_up st 2 (upd (st 2) k.toNatClampNeg v)))) H := hP
        have hD : va_D A ([EO ob h t i kp] ++ (LW cA h as (va_up st 2 (upd (st 2) k.toNatClampNeg v)))) := hD
        refine lv_iload hx hb dX1_part_68 (lv_at hl 0 rfl) ?_
        exact hret _ _ _ _ _ (by rw [e1]; exact hP) ((if_neg (fun q => q.elim c_1 c_2)).symm) hS dX1_part_70
      · have c_2 : (xo_part k v) = 0 := c_2
        have e1 : xs_part st k v = st := if_pos (Or.inr c_2)
        refine lv_ldc (v := (-1000000002)) hx hb hown (hts (.constant RX1 34 (-1000000002)) (by decide +kernel)) dX1_part_44 ?_
        exact hret _ _ _ _ _ (by rw [e1]; exact hP) ((if_pos (Or.inr c_2)).symm) hS dX1_part_46
    refine lv_icmp_ne (tgt := 29) hx hb dX1_part_16 (by decide) (fun c_3 => ?_) (fun c_3 => ?_)
    · have c_3 : ¬ k = 8 := c_3
      refine lv_iload_n hx hb dX1_part_29 rfl (lv_at hl 2 rfl) ?_
      refine lv_sipush (v := (-1024)) hx hb dX1_part_30 (by decide) ?_
      refine lv_sipush (v := 1023) hx hb dX1_part_33 (by decide) ?_
      refine sm_i [.int v, .int (-1024), .int 1023] [] ⟨hx, hb, hml, hown, hts⟩ (c_X1_within l v (-1024) 1023) (va_cwS 3 hts gX1_part_X1_within rfl rfl rfl (by decide +kernel) ⟨Nat.le_of_ble_eq_true rfl, Nat.le_of_ble_eq_true rfl⟩) rfl hl.1 rfl (Nat.le_of_ble_eq_true rfl) dX1_part_36 ⟨Nat.zero_le _, Nat.zero_le _⟩ ?_
      rw [show xo_part k v = pf_in v (-1024) 1023 from if_neg c_3] at j39
      exact j39
    · have c_3 : k = 8 := c_3
      refine lv_iload_n hx hb dX1_part_19 rfl (lv_at hl 2 rfl) ?_
      refine lv_iconst (v := 0) hx hb dX1_part_20 (by decide) ?_
      refine lv_bipush (v := 15) hx hb dX1_part_21 (by decide) ?_
      refine sm_i [.int v, .int 0, .int 15] [] ⟨hx, hb, hml, hown, hts⟩ (c_X1_within l v 0 15) (va_cwS 3 hts gX1_part_X1_within rfl rfl rfl (by decide +kernel) ⟨Nat.le_of_ble_eq_true rfl, Nat.le_of_ble_eq_true rfl⟩) rfl hl.1 rfl (Nat.le_of_ble_eq_true rfl) dX1_part_23 ⟨Nat.zero_le _, Nat.zero_le _⟩ ?_
      refine lv_goto (tgt := 39) hx hb dX1_part_26 (by decide) ?_
      rw [show xo_part k v = pf_in v 0 15 from if_pos c_3] at j39
      exact j39
  · have c_1 : (pf_in k 0 8) = 0 := c_1
    have e1 : xs_part st k v = st := if_pos (Or.inl c_1)
    refine lv_ldc (v := (-1000000002)) hx hb hown (hts (.constant RX1 34 (-1000000002)) (by decide +kernel)) dX1_part_10 ?_
    exact hret _ _ _ _ _ (by rw [e1]; exact hP) ((if_pos (Or.inl c_1)).symm) hS dX1_part_12

abbrev rm_X1_run : Room := { frames := 5, cells := 0, slots := 0, locals := 120 }
theorem iw_X1_run_X0 : ∀ w ∈ wsX00, w ∈ wsX1_run := by decide +kernel
theorem iw_X1_run_X1 : ∀ w ∈ wsX10, w ∈ wsX1_run := by decide +kernel
set_option maxRecDepth 100000 in
set_option maxHeartbeats 4000000 in
theorem c_X1_run (l : Launch) (D : va_G) (cA cZ cR : ClassId) (ob h t i : Nat) (kp : Int32) (as : Nat → Nat) (st : St) (z n0 loud : Int32) : BMi l D cA cZ cR yX1_run wsX1_run rm_X1_run [.ref ob, .int z, .int n0, .int loud] ([EO ob h t i kp] ++ (LW cA h as st)) ([EO ob h t i kp] ++ (LW cA h as (xs_run st z n0 loud))) (xf_run st z n0 loud) := by
  refine bm_open (maxL := 7) (by decide) rfl rfl rfl (Nat.le_of_ble_eq_true rfl) ?_
  intro p e s m args below meth c A Q hx hb hml hts hown hE hP hD hA hS hret ls hl
  have hown : s.vm.findClass RX1 = some m.cls := hown
  have hl : lv_has ls 7 [(0, .ref ob), (1, .int z), (2, .int n0), (3, .int loud)] := hl
  obtain ⟨H, locs, eH, eL⟩ : ∃ (H : Heap) (locs : List Loc), H = s.heap ∧ locs = [] := ⟨_, _, rfl, rfl⟩
  rw [← eH, ← eL]
  rw [← eH] at hP
  have hS : va_S A s.heap H locs := by rw [eH, eL]; exact hS
  clear eH eL
  refine lv_iload_n hx hb dX1_run_0 rfl (lv_at hl 1 rfl) ?_
  refine lv_iload_n hx hb dX1_run_1 rfl (lv_at hl 3 rfl) ?_
  refine sm_i [.int z, .int loud] [] ⟨hx, hb, hml, hown, hts⟩ (c_X1_startsRun l z loud) (va_cwS 2 hts gX1_run_X1_startsRun rfl rfl rfl (by decide +kernel) ⟨Nat.le_of_ble_eq_true rfl, Nat.le_of_ble_eq_true rfl⟩) rfl hl.1 rfl (Nat.le_of_ble_eq_true rfl) dX1_run_2 ⟨Nat.zero_le _, Nat.zero_le _⟩ ?_
  refine lv_if_eq (tgt := 18) hx hb dX1_run_5 (by decide) (fun c_1 => ?_) (fun c_1 => ?_)
  · have c_1 : (pf_sr z loud) = 0 := c_1
    refine lv_bipush (v := (-2)) hx hb dX1_run_18 (by decide) ?_
    have e1 : xs_run st z n0 loud = st := if_pos (Or.inl c_1)
    exact hret _ _ _ _ _ (by rw [e1]; exact hP) ((if_pos (Or.inl c_1)).symm) hS dX1_run_20
  · have c_1 : ¬ (pf_sr z loud) = 0 := c_1
    refine lv_iload_n hx hb dX1_run_8 rfl (lv_at hl 2 rfl) ?_
    refine lv_iconst (v := 1) hx hb dX1_run_9 (by decide) ?_
    refine lv_bipush (v := 60) hx hb dX1_run_10 (by decide) ?_
    refine sm_i [.int n0, .int 1, .int 60] [] ⟨hx, hb, hml, hown, hts⟩ (c_X1_within l n0 1 60) (va_cwS 3 hts gX1_run_X1_within rfl rfl rfl (by decide +kernel) ⟨Nat.le_of_ble_eq_true rfl, Nat.le_of_ble_eq_true rfl⟩) rfl hl.1 rfl (Nat.le_of_ble_eq_true rfl) dX1_run_12 ⟨Nat.zero_le _, Nat.zero_le _⟩ ?_
    refine lv_if_ne (tgt := 21) hx hb dX1_run_15 (by decide) (fun c_2 => ?_) (fun c_2 => ?_)
    · have c_2 : ¬ (pf_in n0 1 60) = 0 := c_2
      obtain ⟨N, hN, rfl⟩ := in_nI60 c_2
      have e1 : xs_run st z (nI N) loud = xr_st loud (nI N).toNatClampNeg z st := if_neg (fun q => q.elim c_1 c_2)
      have e2 : xf_run st z (nI N) loud = xr_sum loud (nI N).toNatClampNeg z st 0 := if_neg (fun q => q.elim c_1 c_2)
      rw [nI_clamp (by omega)] at e1 e2
      rw [e1, e2] at hret
      refine lv_iload_n hx hb dX1_run_21 rfl (lv_at hl 1 rfl) ?_
      refine lv_istore (lv' := [(4, .int z), (0, .ref ob), (1, .int z), (2, .int (nI N)), (3, .int loud)]) hx hb dX1_run_22 hl (by decide) rfl (fun ls hl => ?_)
      refine lv_iconst (v := 0) hx hb dX1_run_24 (by decide) ?_
      refine lv_istore (lv' := [(5, .int 0), (4, .int z), (0, .ref ob), (1, .int z), (2, .int (nI N)), (3, .int loud)]) hx hb dX1_run_25 hl (by decide) rfl (fun ls hl => ?_)
      refine lv_iconst (v := 0) hx hb dX1_run_27 (by decide) ?_
      refine lv_istore (lv' := [(6, .int 0), (5, .int 0), (4, .int z), (0, .ref ob), (1, .int z), (2, .int (nI N)), (3, .int loud)]) hx hb dX1_run_28 hl (by decide) rfl (fun ls hl => ?_)
      have loop : ∀ (n : Nat) (k : Nat) (y : Int32) (s1 : St) (a : Int32) (hk : k + n = N) (ha : xr_sum loud n y s1 a = xr_sum loud N z st 0) (hs : xr_st loud n y s1 = xr_st loud N z st), ∀ (H : Heap) (locs : List Loc), va_P D vwCl ([EO ob h t i kp] ++ (LW cA h as s1)) H → va_D A ([EO ob h t i kp] ++ (LW cA h as s1)) → va_S A s.heap H locs → ∀ ls : Array Slot, lv_has ls 7 [(6, .int (nI k)), (5, .int a), (4, .int y), (3, .int loud), (2, .int (nI N)), (1, .int z), (0, .ref ob)] → W p l e rm_X1_run s m args below meth c H locs 0 0 Q (F0 m 30 ls []) := by
        intro n
        induction n with
        | zero =>
          intro k y s1 a hk ha hs H locs hP hD hS ls hl
          obtain rfl : k = N := by omega
          refine lv_iload hx hb dX1_run_30 (lv_at hl 0 rfl) ?_
          refine lv_iload_n hx hb dX1_run_32 rfl (lv_at hl 4 rfl) ?_
          refine lv_icmp_ge (tgt := 81) hx hb dX1_run_33 (by decide) (fun c_3 => ?_) (fun c_3 => absurd (Int32.le_refl _) c_3)
          refine lv_iload hx hb dX1_run_81 (lv_at hl 1 rfl) ?_
          exact hret _ _ _ _ _ (by rw [← hs]; exact hP) ha hS dX1_run_83
        | succ n ih =>
          intro k y s1 a hk ha hs H locs hP hD hS ls hl
          refine lv_iload hx hb dX1_run_30 (lv_at hl 0 rfl) ?_
          refine lv_iload_n hx hb dX1_run_32 rfl (lv_at hl 4 rfl) ?_
          refine lv_icmp_ge (tgt := 81) hx hb dX1_run_33 (by decide) (fun c_4 => absurd c_4 (nI_ge (a := k) (b := N) (by omega) (by omega))) (fun c_4 => ?_)
          refine lv_iload hx hb dX1_run_36 (lv_at hl 2 rfl) ?_
          refine sm_i [.int y] [] ⟨hx, hb, hml, hown, hts⟩ (c_X1_nextSeed l y) (va_cwS 1 hts gX1_run_X1_nextSeed rfl rfl rfl (by decide +kernel) ⟨Nat.le_of_ble_eq_true rfl, Nat.le_of_ble_eq_true rfl⟩) rfl hl.1 rfl (Nat.le_of_ble_eq_true rfl) dX1_run_38 ⟨Nat.zero_le _, Nat.zero_le _⟩ ?_
          refine lv_topi (fun y2 ey2 => ?_)
          refine lv_istore (lv' := [(4, .int y2), (6, .int (nI k)), (5, .int a), (3, .int loud), (2, .int (nI N)), (1, .int z), (0, .ref ob)]) hx hb dX1_run_41 hl (by decide) rfl (fun ls hl => ?_)
          refine lv_aload_n hx hb dX1_run_43 rfl (lv_at hl 6 rfl) ?_
          refine va_get (D := D) (ci := 1) (v := .ref h) (C := RX1) (T := TX1) (N := 4) hx hb hts iw_X1_run_X1 hown hE.1 hP 0 rfl rfl 0 (by decide) (hts (.fieldLink RX1 12 "EchoTaps" "line" "LEchoTaps$Line;") (by decide +kernel)) (fun _ h9 => h9) rfl dX1_run_44 ?_
          refine lv_iload hx hb dX1_run_47 (lv_at hl 0 rfl) ?_
          refine lv_iload_n hx hb dX1_run_49 rfl (lv_at hl 3 rfl) ?_
          refine sm_i [.int y2, .int loud] [.ref h] ⟨hx, hb, hml, hown, hts⟩ (c_X1_centred l y2 loud) (va_cwS 2 hts gX1_run_X1_centred rfl rfl rfl (by decide +kernel) ⟨Nat.le_of_ble_eq_true rfl, Nat.le_of_ble_eq_true rfl⟩) rfl hl.1 rfl (Nat.le_of_ble_eq_true rfl) dX1_run_50 ⟨Nat.zero_le _, Nat.zero_le _⟩ ?_
          refine lv_iconst (v := 0) hx hb dX1_run_53 (by decide) ?_
          refine bm_i [EO ob h t i kp] (LW cA h as s1) [] [.int (pf_ce y2 loud), .int 0] [] ⟨hx, hb, hml, hown, hts⟩ (c_X0_hearSpeech l D cA cZ cR h as s1 (pf_ce y2 loud) 0) (cwV 2 hts gX1_run_X0_hearSpeech rfl rfl rfl (by decide +kernel) ⟨Nat.le_of_ble_eq_true rfl, Nat.le_of_ble_eq_true rfl⟩) hE hP hD hS hA LW_adr 0 0 rfl rfl rfl hl.1 rfl (Nat.le_of_ble_eq_true rfl) dX1_run_54 ⟨Nat.zero_le _, Nat.zero_le _⟩ (fun H locs hP hD hS => ?_)
          have hP : va_P D vwCl ([EO ob h t i kp] ++ (LW cA h as (lf_hs s1 (pf_ce y2 loud) 0))) H := hP
          have hD : va_D A ([EO ob h t i kp] ++ (LW cA h as (lf_hs s1 (pf_ce y2 loud) 0))) := hD
          have hP : va_P D vwCl ([EO ob h t i kp] ++ (LW cA h as (lf_hs s1 (pf_ce y2 loud) 0))) H := hP
          have hD : va_D A ([EO ob h t i kp] ++ (LW cA h as (lf_hs s1 (pf_ce y2 loud) 0))) := hD
          obtain ⟨s2, es2⟩ : ∃ z : St, z = lf_hs s1 (pf_ce y2 loud) 0 := ⟨_, rfl⟩
          rw [← es2] at hP hD
          refine lv_pop hx hb dX1_run_57 rfl ?_
          refine lv_iload hx hb dX1_run_58 (lv_at hl 2 rfl) ?_
          refine lv_aload_n hx hb dX1_run_60 rfl (lv_at hl 6 rfl) ?_
          refine va_get (D := D) (ci := 1) (v := .ref h) (C := RX1) (T := TX1) (N := 4) hx hb hts iw_X1_run_X1 hown hE.1 hP 0 rfl rfl 0 (by decide) (hts (.fieldLink RX1 12 "EchoTaps" "line" "LEchoTaps$Line;") (by decide +kernel)) (fun _ h9 => h9) rfl dX1_run_61 ?_
          refine va_get (D := D) (ci := 0) (v := .ref (as 7)) (C := RX0) (T := TX0) (N := 11) hx hb hts iw_X1_run_X0 hown hE.1 hP 1 rfl rfl 7 (by decide) (hts (.fieldLink RX1 51 "EchoTaps$Line" "told" "[I") (by decide +kernel)) (fun _ h9 => h9) rfl dX1_run_64 ?_
          refine lv_iconst (v := 1) hx hb dX1_run_67 (by decide) ?_
          refine va_iald hx hb hE.1 hP 9 0 rfl rfl (vp_in_nI (n := 1) (N := 8) (by decide) (by decide)) dX1_run_68 ?_
          refine va_mabs hx hb (hml.trans hl.1.symm) hown (hts (.methodLink RX1 81 Lib.Math.abs.name) (by decide +kernel)) (hts (.static Lib.Math.abs.name) (by decide +kernel)) (hts (.initialized "java/lang/Math") (by decide +kernel)) (hts (.code Lib.Math.abs.name Lib.Math.abs.code 1 (some .int)) (by decide +kernel)) (Nat.le_of_ble_eq_true rfl) (Nat.le_of_ble_eq_true rfl) (Nat.zero_le _) (Nat.zero_le _) dX1_run_69 ?_
          refine lv_iadd hx hb dX1_run_72 ?_
          refine lv_istore (lv' := [(5, .int (a + (pf_ab ((s2 7) 1)))), (4, .int y2), (6, .int (nI k)), (3, .int loud), (2, .int (nI N)), (1, .int z), (0, .ref ob)]) hx hb dX1_run_73 hl (by decide) rfl (fun ls hl => ?_)
          refine lv_iinc (v := nI (k + 1)) (lv' := [(6, .int (nI (k + 1))), (5, .int (a + (pf_ab ((s2 7) 1)))), (4, .int y2), (3, .int loud), (2, .int (nI N)), (1, .int z), (0, .ref ob)]) hx hb dX1_run_75 hl (k := 2) rfl (nI_1 k) (by decide) rfl (fun ls hl => ?_)
          refine lv_goto (tgt := 30) hx hb dX1_run_78 (by decide) ?_
          rw [xr_sum, ← ey2, ← es2] at ha
          rw [xr_st, ← ey2, ← es2] at hs
          exact ih (k + 1) y2 s2 _ (by omega) ha hs H locs hP hD hS ls (lv_sub hl [0, 1, 2, 3, 4, 5, 6] rfl)
      exact loop N 0 z st 0 (by omega) rfl rfl H locs hP hD hS ls (lv_sub hl [0, 1, 2, 6, 5, 4, 3] rfl)
    · have c_2 : (pf_in n0 1 60) = 0 := c_2
      refine lv_bipush (v := (-2)) hx hb dX1_run_18 (by decide) ?_
      have e1 : xs_run st z n0 loud = st := if_pos (Or.inr c_2)
      exact hret _ _ _ _ _ (by rw [e1]; exact hP) ((if_pos (Or.inr c_2)).symm) hS dX1_run_20

abbrev rm_X1_likeness : Room := { frames := 2, cells := 0, slots := 0, locals := 44 }
theorem iw_X1_likeness_X1 : ∀ w ∈ wsX10, w ∈ wsX1_likeness := by decide +kernel
set_option maxRecDepth 100000 in
set_option maxHeartbeats 4000000 in
theorem c_X1_likeness (l : Launch) (D : va_G) (cA cZ cR : ClassId) (ob h t i : Nat) (kp : Int32) (as : Nat → Nat) (st : St) (d : Int32) : BMi l D cA cZ cR yX1_likeness wsX1_likeness rm_X1_likeness [.ref ob, .int d] ([EO ob h t i kp] ++ (LW cA h as st)) ([EO ob h t i kp] ++ (LW cA h as st)) (xf_like st d) := by
  refine bm_open (maxL := 2) (by decide) rfl rfl rfl (Nat.le_of_ble_eq_true rfl) ?_
  intro p e s m args below meth c A Q hx hb hml hts hown hE hP hD hA hS hret ls hl
  have hown : s.vm.findClass RX1 = some m.cls := hown
  have hl : lv_has ls 2 [(0, .ref ob), (1, .int d)] := hl
  obtain ⟨H, locs, eH, eL⟩ : ∃ (H : Heap) (locs : List Loc), H = s.heap ∧ locs = [] := ⟨_, _, rfl, rfl⟩
  rw [← eH, ← eL]
  rw [← eH] at hP
  have hS : va_S A s.heap H locs := by rw [eH, eL]; exact hS
  clear eH eL
  refine lv_iload_n hx hb dX1_likeness_0 rfl (lv_at hl 1 rfl) ?_
  refine lv_iconst (v := 0) hx hb dX1_likeness_1 (by decide) ?_
  refine lv_bipush (v := 15) hx hb dX1_likeness_2 (by decide) ?_
  refine sm_i [.int d, .int 0, .int 15] [] ⟨hx, hb, hml, hown, hts⟩ (c_X1_within l d 0 15) (va_cwS 3 hts gX1_likeness_X1_within rfl rfl rfl (by decide +kernel) ⟨Nat.le_of_ble_eq_true rfl, Nat.le_of_ble_eq_true rfl⟩) rfl hl.1 rfl (Nat.le_of_ble_eq_true rfl) dX1_likeness_4 ⟨Nat.zero_le _, Nat.zero_le _⟩ ?_
  refine lv_if_eq (tgt := 21) hx hb dX1_likeness_7 (by decide) (fun c_1 => ?_) (fun c_1 => ?_)
  · have c_1 : (pf_in d 0 15) = 0 := c_1
    refine lv_ldc (v := (-1000000002)) hx hb hown (hts (.constant RX1 34 (-1000000002)) (by decide +kernel)) dX1_likeness_21 ?_
    exact hret _ _ _ _ _ hP ((if_pos c_1).symm) hS dX1_likeness_23
  · have c_1 : ¬ (pf_in d 0 15) = 0 := c_1
    refine lv_aload_n hx hb dX1_likeness_10 rfl (lv_at hl 0 rfl) ?_
    refine va_get (D := D) (ci := 1) (v := .ref h) (C := RX1) (T := TX1) (N := 4) hx hb hts iw_X1_likeness_X1 hown hE.1 hP 0 rfl rfl 0 (by decide) (hts (.fieldLink RX1 12 "EchoTaps" "line" "LEchoTaps$Line;") (by decide +kernel)) (fun _ h9 => h9) rfl dX1_likeness_11 ?_
    refine lv_iload_n hx hb dX1_likeness_14 rfl (lv_at hl 1 rfl) ?_
    refine bm_i [EO ob h t i kp] (LW cA h as st) [] [.int d] [] ⟨hx, hb, hml, hown, hts⟩ (c_X0_likenessOf l D cA cZ cR h as st d) (cwV 1 hts gX1_likeness_X0_likenessOf rfl rfl rfl (by decide +kernel) ⟨Nat.le_of_ble_eq_true rfl, Nat.le_of_ble_eq_true rfl⟩) hE hP hD hS hA LW_adr 0 0 rfl rfl rfl hl.1 rfl (Nat.le_of_ble_eq_true rfl) dX1_likeness_15 ⟨Nat.zero_le _, Nat.zero_le _⟩ (fun H locs hP hD hS => ?_)
    have hP : va_P D vwCl ([EO ob h t i kp] ++ (LW cA h as st)) H := hP
    have hD : va_D A ([EO ob h t i kp] ++ (LW cA h as st)) := hD
    refine lv_goto (tgt := 23) hx hb dX1_likeness_18 (by decide) ?_
    exact hret _ _ _ _ _ hP ((if_neg c_1).symm) hS dX1_likeness_23

abbrev rm_X1_seek : Room := { frames := 2, cells := 0, slots := 0, locals := 44 }
theorem iw_X1_seek_X1 : ∀ w ∈ wsX10, w ∈ wsX1_seek := by decide +kernel
set_option maxRecDepth 100000 in
set_option maxHeartbeats 4000000 in
theorem c_X1_seek (l : Launch) (D : va_G) (cA cZ cR : ClassId) (ob h t i : Nat) (kp : Int32) (as : Nat → Nat) (st : St) : BMi l D cA cZ cR yX1_seek wsX1_seek rm_X1_seek [.ref ob] ([EO ob h t i kp] ++ (LW cA h as st)) ([EO ob h t i kp] ++ (LW cA h as (xs_seek st))) (xf_seek st) := by
  refine bm_open (maxL := 5) (by decide) rfl rfl rfl (Nat.le_of_ble_eq_true rfl) ?_
  intro p e s m args below meth c A Q hx hb hml hts hown hE hP hD hA hS hret ls hl
  have hown : s.vm.findClass RX1 = some m.cls := hown
  have hl : lv_has ls 5 [(0, .ref ob)] := hl
  obtain ⟨H, locs, eH, eL⟩ : ∃ (H : Heap) (locs : List Loc), H = s.heap ∧ locs = [] := ⟨_, _, rfl, rfl⟩
  rw [← eH, ← eL]
  rw [← eH] at hP
  have hS : va_S A s.heap H locs := by rw [eH, eL]; exact hS
  clear eH eL
  refine lv_iconst (v := 0) hx hb dX1_seek_0 (by decide) ?_
  refine lv_istore_n (lv' := [(1, .int 0), (0, .ref ob)]) hx hb dX1_seek_1 rfl hl (by decide) rfl (fun ls hl => ?_)
  refine lv_iconst (v := 0) hx hb dX1_seek_2 (by decide) ?_
  refine lv_istore_n (lv' := [(2, .int 0), (1, .int 0), (0, .ref ob)]) hx hb dX1_seek_3 rfl hl (by decide) rfl (fun ls hl => ?_)
  refine lv_iconst (v := 0) hx hb dX1_seek_4 (by decide) ?_
  refine lv_istore_n (lv' := [(3, .int 0), (2, .int 0), (1, .int 0), (0, .ref ob)]) hx hb dX1_seek_5 rfl hl (by decide) rfl (fun ls hl => ?_)
  have loop : ∀ (n : Nat) (k : Nat) (hk : k + n = 16), ∀ (H : Heap) (locs : List Loc), va_P D vwCl ([EO ob h t i kp] ++ (LW cA h as st)) H → va_D A ([EO ob h t i kp] ++ (LW cA h as st)) → va_S A s.heap H locs → ∀ ls : Array Slot, lv_has ls 5 [(3, .int (nI k)), (2, .int (sk_m st k)), (1, .int (sk_b st k)), (0, .ref ob)] → W p l e rm_X1_seek s m args below meth c H locs 0 0 Q (F0 m 6 ls []) := by
    intro n
    induction n with
    | zero =>
      intro k hk H locs hP hD hS ls hl
      obtain rfl : k = 16 := by omega
      refine lv_iload_n hx hb dX1_seek_6 rfl (lv_at hl 0 rfl) ?_
      refine lv_bipush (v := 15) hx hb dX1_seek_7 (by decide) ?_
      refine lv_icmp_gt (tgt := 42) hx hb dX1_seek_9 (by decide) (fun c_1 => ?_) (fun c_1 => absurd (by decide) c_1)
      refine lv_iload_n hx hb dX1_seek_42 rfl (lv_at hl 1 rfl) ?_
      refine lv_if_ne (tgt := 49) hx hb dX1_seek_43 (by decide) (fun c_2 => ?_) (fun c_2 => ?_)
      · have c_2 : ¬ (sk_m st 16) = 0 := c_2
        have e1 : xs_seek st = lf_anew st (sk_b st 16) := if_neg c_2
        refine lv_aload_n hx hb dX1_seek_49 rfl (lv_at hl 3 rfl) ?_
        refine va_get (D := D) (ci := 1) (v := .ref h) (C := RX1) (T := TX1) (N := 4) hx hb hts iw_X1_seek_X1 hown hE.1 hP 0 rfl rfl 0 (by decide) (hts (.fieldLink RX1 12 "EchoTaps" "line" "LEchoTaps$Line;") (by decide +kernel)) (fun _ h9 => h9) rfl dX1_seek_50 ?_
        refine lv_iload_n hx hb dX1_seek_53 rfl (lv_at hl 2 rfl) ?_
        refine bm_v [EO ob h t i kp] (LW cA h as st) [] [.int (sk_b st 16)] [] ⟨hx, hb, hml, hown, hts⟩ (c_X0_startAnew l D cA cZ cR h as st (sk_b st 16)) (cwV 1 hts gX1_seek_X0_startAnew rfl rfl rfl (by decide +kernel) ⟨Nat.le_of_ble_eq_true rfl, Nat.le_of_ble_eq_true rfl⟩) hE hP hD hS hA LW_adr 0 0 rfl rfl rfl hl.1 rfl (Nat.le_of_ble_eq_true rfl) dX1_seek_54 ⟨Nat.zero_le _, Nat.zero_le _⟩ (fun H locs hP hD hS => ?_)
        have hP : va_P D vwCl ([EO ob h t i kp] ++ (LW cA h as (lf_anew st (sk_b st 16)))) H := hP
        have hD : va_D A ([EO ob h t i kp] ++ (LW cA h as (lf_anew st (sk_b st 16)))) := hD
        refine lv_iload_n hx hb dX1_seek_57 rfl (lv_at hl 2 rfl) ?_
        exact hret _ _ _ _ _ (by rw [e1]; exact hP) ((if_neg c_2).symm) hS dX1_seek_58
      · have c_2 : (sk_m st 16) = 0 := c_2
        have e1 : xs_seek st = st := if_pos c_2
        refine lv_bipush (v := (-3)) hx hb dX1_seek_46 (by decide) ?_
        exact hret _ _ _ _ _ (by rw [e1]; exact hP) ((if_pos c_2).symm) hS dX1_seek_48
    | succ n ih =>
      intro k hk H locs hP hD hS ls hl
      refine lv_iload_n hx hb dX1_seek_6 rfl (lv_at hl 0 rfl) ?_
      refine lv_bipush (v := 15) hx hb dX1_seek_7 (by decide) ?_
      refine lv_icmp_gt (tgt := 42) hx hb dX1_seek_9 (by decide) (fun c_3 => absurd c_3 (nI_nlt (a := 15) (b := k) (by omega) (by decide))) (fun c_3 => ?_)
      refine lv_aload_n hx hb dX1_seek_12 rfl (lv_at hl 3 rfl) ?_
      refine va_get (D := D) (ci := 1) (v := .ref h) (C := RX1) (T := TX1) (N := 4) hx hb hts iw_X1_seek_X1 hown hE.1 hP 0 rfl rfl 0 (by decide) (hts (.fieldLink RX1 12 "EchoTaps" "line" "LEchoTaps$Line;") (by decide +kernel)) (fun _ h9 => h9) rfl dX1_seek_13 ?_
      refine lv_iload_n hx hb dX1_seek_16 rfl (lv_at hl 0 rfl) ?_
      refine bm_i [EO ob h t i kp] (LW cA h as st) [] [.int (nI k)] [] ⟨hx, hb, hml, hown, hts⟩ (c_X0_likenessOf l D cA cZ cR h as st (nI k)) (cwV 1 hts gX1_seek_X0_likenessOf rfl rfl rfl (by decide +kernel) ⟨Nat.le_of_ble_eq_true rfl, Nat.le_of_ble_eq_true rfl⟩) hE hP hD hS hA LW_adr 0 0 rfl rfl rfl hl.1 rfl (Nat.le_of_ble_eq_true rfl) dX1_seek_17 ⟨Nat.zero_le _, Nat.zero_le _⟩ (fun H locs hP hD hS => ?_)
      have hP : va_P D vwCl ([EO ob h t i kp] ++ (LW cA h as st)) H := hP
      have hD : va_D A ([EO ob h t i kp] ++ (LW cA h as st)) := hD
      refine va_mabs hx hb (hml.trans hl.1.symm) hown (hts (.methodLink RX1 81 Lib.Math.abs.name) (by decide +kernel)) (hts (.static Lib.Math.abs.name) (by decide +kernel)) (hts (.initialized "java/lang/Math") (by decide +kernel)) (hts (.code Lib.Math.abs.name Lib.Math.abs.code 1 (some .int)) (by decide +kernel)) (Nat.le_of_ble_eq_true rfl) (Nat.le_of_ble_eq_true rfl) (Nat.zero_le _) (Nat.zero_le _) dX1_seek_20 ?_
      refine lv_istore (lv' := [(4, .int (pf_ab (lf_like st (nI k)))), (3, .int (nI k)), (2, .int (sk_m st k)), (1, .int (sk_b st k)), (0, .ref ob)]) hx hb dX1_seek_23 hl (by decide) rfl (fun ls hl => ?_)
      refine lv_iload hx hb dX1_seek_25 (lv_at hl 0 rfl) ?_
      refine lv_iload_n hx hb dX1_seek_27 rfl (lv_at hl 2 rfl) ?_
      refine lv_icmp_le (tgt := 36) hx hb dX1_seek_28 (by decide) (fun c_4 => ?_) (fun c_4 => ?_)
      · have c_4 : (pf_ab (lf_like st (nI k))) ≤ (sk_m st k) := c_4
        refine lv_iinc (v := nI (k + 1)) (lv' := [(3, .int (nI (k + 1))), (4, .int (pf_ab (lf_like st (nI k)))), (2, .int (sk_m st k)), (1, .int (sk_b st k)), (0, .ref ob)]) hx hb dX1_seek_36 hl (k := 1) rfl (nI_1 k) (by decide) rfl (fun ls hl => ?_)
        refine lv_goto (tgt := 6) hx hb dX1_seek_39 (by decide) ?_
        have em : sk_m st (k + 1) = sk_m st k := if_pos c_4
        have eb : sk_b st (k + 1) = sk_b st k := if_pos c_4
        rw [← em, ← eb] at hl
        exact ih (k + 1) (by omega) H locs hP hD hS ls (lv_sub hl [0, 2, 3, 4] rfl)
      · have c_4 : ¬ (pf_ab (lf_like st (nI k))) ≤ (sk_m st k) := c_4
        have em : sk_m st (k + 1) = pf_ab (lf_like st (nI k)) := if_neg c_4
        have eb : sk_b st (k + 1) = nI k := if_neg c_4
        refine lv_iload hx hb dX1_seek_31 (lv_at hl 0 rfl) ?_
        refine lv_istore_n (lv' := [(2, .int (pf_ab (lf_like st (nI k)))), (4, .int (pf_ab (lf_like st (nI k)))), (3, .int (nI k)), (1, .int (sk_b st k)), (0, .ref ob)]) hx hb dX1_seek_33 rfl hl (by decide) rfl (fun ls hl => ?_)
        refine lv_iload_n hx hb dX1_seek_34 rfl (lv_at hl 2 rfl) ?_
        refine lv_istore_n (lv' := [(1, .int (nI k)), (2, .int (pf_ab (lf_like st (nI k)))), (4, .int (pf_ab (lf_like st (nI k)))), (3, .int (nI k)), (0, .ref ob)]) hx hb dX1_seek_35 rfl hl (by decide) rfl (fun ls hl => ?_)
        refine lv_iinc (v := nI (k + 1)) (lv' := [(3, .int (nI (k + 1))), (1, .int (nI k)), (2, .int (pf_ab (lf_like st (nI k)))), (4, .int (pf_ab (lf_like st (nI k)))), (0, .ref ob)]) hx hb dX1_seek_36 hl (k := 3) rfl (nI_1 k) (by decide) rfl (fun ls hl => ?_)
        refine lv_goto (tgt := 6) hx hb dX1_seek_39 (by decide) ?_
        exact ih (k + 1) (by omega) H locs hP hD hS ls (by rw [em, eb]; exact lv_sub hl [0, 2, 1, 4] rfl)
  exact loop 16 0 rfl H locs hP hD hS ls (lv_sub hl [0, 1, 2, 3] rfl)

abbrev rm_X1_gain : Room := { frames := 2, cells := 0, slots := 0, locals := 43 }
theorem iw_X1_gain_X1 : ∀ w ∈ wsX10, w ∈ wsX1_gain := by decide +kernel
set_option maxRecDepth 100000 in
set_option maxHeartbeats 4000000 in
theorem c_X1_gain (l : Launch) (D : va_G) (cA cZ cR : ClassId) (ob h t i : Nat) (kp : Int32) (as : Nat → Nat) (st : St) (k : Int32) : BMi l D cA cZ cR yX1_gain wsX1_gain rm_X1_gain [.ref ob, .int k] ([EO ob h t i kp] ++ (LW cA h as st)) ([EO ob h t i kp] ++ (LW cA h as st)) (xf_gain st k) := by
  refine bm_open (maxL := 5) (by decide) rfl rfl rfl (Nat.le_of_ble_eq_true rfl) ?_
  intro p e s m args below meth c A Q hx hb hml hts hown hE hP hD hA hS hret ls hl
  have hown : s.vm.findClass RX1 = some m.cls := hown
  have hl : lv_has ls 5 [(0, .ref ob), (1, .int k)] := hl
  obtain ⟨H, locs, eH, eL⟩ : ∃ (H : Heap) (locs : List Loc), H = s.heap ∧ locs = [] := ⟨_, _, rfl, rfl⟩
  rw [← eH, ← eL]
  rw [← eH] at hP
  have hS : va_S A s.heap H locs := by rw [eH, eL]; exact hS
  clear eH eL
  refine lv_iload_n hx hb dX1_gain_0 rfl (lv_at hl 1 rfl) ?_
  refine lv_iconst (v := 0) hx hb dX1_gain_1 (by decide) ?_
  refine lv_iconst (v := 1) hx hb dX1_gain_2 (by decide) ?_
  refine sm_i [.int k, .int 0, .int 1] [] ⟨hx, hb, hml, hown, hts⟩ (c_X1_within l k 0 1) (va_cwS 3 hts gX1_gain_X1_within rfl rfl rfl (by decide +kernel) ⟨Nat.le_of_ble_eq_true rfl, Nat.le_of_ble_eq_true rfl⟩) rfl hl.1 rfl (Nat.le_of_ble_eq_true rfl) dX1_gain_3 ⟨Nat.zero_le _, Nat.zero_le _⟩ ?_
  refine lv_if_ne (tgt := 12) hx hb dX1_gain_6 (by decide) (fun c_1 => ?_) (fun c_1 => ?_)
  · have c_1 : ¬ (pf_in k 0 1) = 0 := c_1
    refine lv_aload_n hx hb dX1_gain_12 rfl (lv_at hl 0 rfl) ?_
    refine va_get (D := D) (ci := 1) (v := .ref h) (C := RX1) (T := TX1) (N := 4) hx hb hts iw_X1_gain_X1 hown hE.1 hP 0 rfl rfl 0 (by decide) (hts (.fieldLink RX1 12 "EchoTaps" "line" "LEchoTaps$Line;") (by decide +kernel)) (fun _ h9 => h9) rfl dX1_gain_13 ?_
    refine bm_i [EO ob h t i kp] (LW cA h as st) [] [] [] ⟨hx, hb, hml, hown, hts⟩ (c_X0_nearSquares l D cA cZ cR h as st) (cwV 0 hts gX1_gain_X0_nearSquares rfl rfl rfl (by decide +kernel) ⟨Nat.le_of_ble_eq_true rfl, Nat.le_of_ble_eq_true rfl⟩) hE hP hD hS hA LW_adr 0 0 rfl rfl rfl hl.1 rfl (Nat.le_of_ble_eq_true rfl) dX1_gain_16 ⟨Nat.zero_le _, Nat.zero_le _⟩ (fun H locs hP hD hS => ?_)
    have hP : va_P D vwCl ([EO ob h t i kp] ++ (LW cA h as st)) H := hP
    have hD : va_D A ([EO ob h t i kp] ++ (LW cA h as st)) := hD
    refine lv_istore_n (lv' := [(2, .int (lf_nsq st)), (0, .ref ob), (1, .int k)]) hx hb dX1_gain_19 rfl hl (by decide) rfl (fun ls hl => ?_)
    refine lv_aload_n hx hb dX1_gain_20 rfl (lv_at hl 1 rfl) ?_
    refine va_get (D := D) (ci := 1) (v := .ref h) (C := RX1) (T := TX1) (N := 4) hx hb hts iw_X1_gain_X1 hown hE.1 hP 0 rfl rfl 0 (by decide) (hts (.fieldLink RX1 12 "EchoTaps" "line" "LEchoTaps$Line;") (by decide +kernel)) (fun _ h9 => h9) rfl dX1_gain_21 ?_
    refine bm_i [EO ob h t i kp] (LW cA h as st) [] [] [] ⟨hx, hb, hml, hown, hts⟩ (c_X0_outSquares l D cA cZ cR h as st) (cwV 0 hts gX1_gain_X0_outSquares rfl rfl rfl (by decide +kernel) ⟨Nat.le_of_ble_eq_true rfl, Nat.le_of_ble_eq_true rfl⟩) hE hP hD hS hA LW_adr 0 0 rfl rfl rfl hl.1 rfl (Nat.le_of_ble_eq_true rfl) dX1_gain_24 ⟨Nat.zero_le _, Nat.zero_le _⟩ (fun H locs hP hD hS => ?_)
    have hP : va_P D vwCl ([EO ob h t i kp] ++ (LW cA h as st)) H := hP
    have hD : va_D A ([EO ob h t i kp] ++ (LW cA h as st)) := hD
    refine lv_istore_n (lv' := [(3, .int (lf_osq st)), (2, .int (lf_nsq st)), (0, .ref ob), (1, .int k)]) hx hb dX1_gain_27 rfl hl (by decide) rfl (fun ls hl => ?_)
    refine lv_iload_n hx hb dX1_gain_28 rfl (lv_at hl 1 rfl) ?_
    refine lv_iload_n hx hb dX1_gain_29 rfl (lv_at hl 0 rfl) ?_
    refine sm_i [.int (lf_nsq st), .int (lf_osq st)] [] ⟨hx, hb, hml, hown, hts⟩ (c_X1_greatestDivisor l (lf_nsq st) (lf_osq st)) (va_cwS 2 hts gX1_gain_X1_greatestDivisor rfl rfl rfl (by decide +kernel) ⟨Nat.le_of_ble_eq_true rfl, Nat.le_of_ble_eq_true rfl⟩) rfl hl.1 rfl (Nat.le_of_ble_eq_true rfl) dX1_gain_30 ⟨Nat.zero_le _, Nat.zero_le _⟩ ?_
    refine lv_istore (lv' := [(4, .int (pf_gd 64 (lf_nsq st) (lf_osq st))), (3, .int (lf_osq st)), (2, .int (lf_nsq st)), (0, .ref ob), (1, .int k)]) hx hb dX1_gain_33 hl (by decide) rfl (fun ls hl => ?_)
    refine lv_iload_n hx hb dX1_gain_35 rfl (lv_at hl 1 rfl) ?_
    refine lv_if_eq (tgt := 44) hx hb dX1_gain_36 (by decide) (fun c_2 => ?_) (fun c_2 => ?_)
    · have c_2 : (lf_osq st) = 0 := c_2
      refine lv_bipush (v := (-3)) hx hb dX1_gain_44 (by decide) ?_
      exact hret _ _ _ _ _ hP (by rw [xf_gain, if_neg c_1, if_pos (Or.inl c_2)]) hS dX1_gain_46
    · have c_2 : ¬ (lf_osq st) = 0 := c_2
      refine lv_iload hx hb dX1_gain_39 (lv_at hl 0 rfl) ?_
      refine lv_if_ne (tgt := 47) hx hb dX1_gain_41 (by decide) (fun c_3 => ?_) (fun c_3 => ?_)
      · have c_3 : ¬ (pf_gd 64 (lf_nsq st) (lf_osq st)) = 0 := c_3
        refine lv_iload_n hx hb dX1_gain_47 rfl (lv_at hl 4 rfl) ?_
        have j56 :  W p l e rm_X1_gain s m args below meth c H locs 0 0 Q (F0 m 56 ls [.int (if k = 0 then lf_nsq st else lf_osq st)]) := by
          refine lv_iload hx hb dX1_gain_56 (lv_at hl 0 rfl) ?_
          refine lv_idiv hx hb dX1_gain_58 c_3 ?_
          exact hret _ _ _ _ _ hP (by rw [xf_gain, if_neg c_1, if_neg (show ¬ (lf_osq st = 0 ∨ pf_gd 64 (lf_nsq st) (lf_osq st) = 0) from fun q => q.elim c_2 c_3)]) hS dX1_gain_59
        refine lv_if_ne (tgt := 55) hx hb dX1_gain_48 (by decide) (fun c_4 => ?_) (fun c_4 => ?_)
        · have c_4 : ¬ k = 0 := c_4
          refine lv_iload_n hx hb dX1_gain_55 rfl (lv_at hl 1 rfl) ?_
          rw [if_neg c_4] at j56
          exact j56
        · have c_4 : k = 0 := c_4
          refine lv_iload_n hx hb dX1_gain_51 rfl (lv_at hl 2 rfl) ?_
          refine lv_goto (tgt := 56) hx hb dX1_gain_52 (by decide) ?_
          rw [if_pos c_4] at j56
          exact j56
      · have c_3 : (pf_gd 64 (lf_nsq st) (lf_osq st)) = 0 := c_3
        refine lv_bipush (v := (-3)) hx hb dX1_gain_44 (by decide) ?_
        exact hret _ _ _ _ _ hP (by rw [xf_gain, if_neg c_1, if_pos (Or.inr c_3)]) hS dX1_gain_46
  · have c_1 : (pf_in k 0 1) = 0 := c_1
    refine lv_bipush (v := (-2)) hx hb dX1_gain_9 (by decide) ?_
    exact hret _ _ _ _ _ hP ((if_pos c_1).symm) hS dX1_gain_11

abbrev rm_X1_began : Room := { frames := 2, cells := 0, slots := 0, locals := 46 }
theorem iw_X1_began_X1 : ∀ w ∈ wsX10, w ∈ wsX1_began := by decide +kernel
set_option maxRecDepth 100000 in
set_option maxHeartbeats 4000000 in
theorem c_X1_began (l : Launch) (D : va_G) (cA cZ cR : ClassId) (ob h t i : Nat) (kp : Int32) (as : Nat → Nat) (st : St) (i0 k : Int32) : BMi l D cA cZ cR yX1_began wsX1_began rm_X1_began [.ref ob, .int i0, .int k] ([EO ob h t i kp] ++ (LW cA h as st)) ([EO ob h t i kp] ++ (LW cA h as st)) (xf_began st i0 k) := by
  refine bm_open (maxL := 3) (by decide) rfl rfl rfl (Nat.le_of_ble_eq_true rfl) ?_
  intro p e s m args below meth c A Q hx hb hml hts hown hE hP hD hA hS hret ls hl
  have hown : s.vm.findClass RX1 = some m.cls := hown
  have hl : lv_has ls 3 [(0, .ref ob), (1, .int i0), (2, .int k)] := hl
  obtain ⟨H, locs, eH, eL⟩ : ∃ (H : Heap) (locs : List Loc), H = s.heap ∧ locs = [] := ⟨_, _, rfl, rfl⟩
  rw [← eH, ← eL]
  rw [← eH] at hP
  have hS : va_S A s.heap H locs := by rw [eH, eL]; exact hS
  clear eH eL
  refine lv_iload_n hx hb dX1_began_0 rfl (lv_at hl 2 rfl) ?_
  refine lv_iconst (v := 0) hx hb dX1_began_1 (by decide) ?_
  refine lv_iconst (v := 1) hx hb dX1_began_2 (by decide) ?_
  refine sm_i [.int k, .int 0, .int 1] [] ⟨hx, hb, hml, hown, hts⟩ (c_X1_within l k 0 1) (va_cwS 3 hts gX1_began_X1_within rfl rfl rfl (by decide +kernel) ⟨Nat.le_of_ble_eq_true rfl, Nat.le_of_ble_eq_true rfl⟩) rfl hl.1 rfl (Nat.le_of_ble_eq_true rfl) dX1_began_3 ⟨Nat.zero_le _, Nat.zero_le _⟩ ?_
  refine lv_if_ne (tgt := 12) hx hb dX1_began_6 (by decide) (fun c_1 => ?_) (fun c_1 => ?_)
  · have c_1 : ¬ (pf_in k 0 1) = 0 := c_1
    refine lv_aload_n hx hb dX1_began_12 rfl (lv_at hl 0 rfl) ?_
    refine va_get (D := D) (ci := 1) (v := .ref h) (C := RX1) (T := TX1) (N := 4) hx hb hts iw_X1_began_X1 hown hE.1 hP 0 rfl rfl 0 (by decide) (hts (.fieldLink RX1 12 "EchoTaps" "line" "LEchoTaps$Line;") (by decide +kernel)) (fun _ h9 => h9) rfl dX1_began_13 ?_
    refine lv_iload_n hx hb dX1_began_16 rfl (lv_at hl 1 rfl) ?_
    refine lv_iload_n hx hb dX1_began_17 rfl (lv_at hl 2 rfl) ?_
    have j26 :  W p l e rm_X1_began s m args below meth c H locs 0 0 Q (F0 m 26 ls [.int (if k = 0 then 1 else 2), .int i0, .ref h]) := by
      refine bm_i [EO ob h t i kp] (LW cA h as st) [] [.int i0, .int (if k = 0 then 1 else 2)] [] ⟨hx, hb, hml, hown, hts⟩ (c_X0_beginning l D cA cZ cR h as st i0 (if k = 0 then 1 else 2)) (cwV 2 hts gX1_began_X0_beginning rfl rfl rfl (by decide +kernel) ⟨Nat.le_of_ble_eq_true rfl, Nat.le_of_ble_eq_true rfl⟩) hE hP hD hS hA LW_adr 0 0 rfl rfl rfl hl.1 rfl (Nat.le_of_ble_eq_true rfl) dX1_began_26 ⟨Nat.zero_le _, Nat.zero_le _⟩ (fun H locs hP hD hS => ?_)
      have hP : va_P D vwCl ([EO ob h t i kp] ++ (LW cA h as st)) H := hP
      have hD : va_D A ([EO ob h t i kp] ++ (LW cA h as st)) := hD
      exact hret _ _ _ _ _ hP (by rw [xf_began, if_neg c_1]) hS dX1_began_29
    refine lv_if_ne (tgt := 25) hx hb dX1_began_18 (by decide) (fun c_2 => ?_) (fun c_2 => ?_)
    · have c_2 : ¬ k = 0 := c_2
      refine lv_iconst (v := 2) hx hb dX1_began_25 (by decide) ?_
      rw [if_neg c_2] at j26
      exact j26
    · have c_2 : k = 0 := c_2
      refine lv_iconst (v := 1) hx hb dX1_began_21 (by decide) ?_
      refine lv_goto (tgt := 26) hx hb dX1_began_22 (by decide) ?_
      rw [if_pos c_2] at j26
      exact j26
  · have c_1 : (pf_in k 0 1) = 0 := c_1
    refine lv_bipush (v := (-2)) hx hb dX1_began_9 (by decide) ?_
    exact hret _ _ _ _ _ hP ((if_pos c_1).symm) hS dX1_began_11

abbrev rm_X1_count : Room := { frames := 2, cells := 0, slots := 0, locals := 36 }
theorem iw_X1_count_X0 : ∀ w ∈ wsX00, w ∈ wsX1_count := by decide +kernel
theorem iw_X1_count_X1 : ∀ w ∈ wsX10, w ∈ wsX1_count := by decide +kernel
set_option maxRecDepth 100000 in
set_option maxHeartbeats 4000000 in
theorem c_X1_count (l : Launch) (D : va_G) (cA cZ cR : ClassId) (ob h t i : Nat) (kp : Int32) (as : Nat → Nat) (st : St) (k : Int32) : BMi l D cA cZ cR yX1_count wsX1_count rm_X1_count [.ref ob, .int k] ([EO ob h t i kp] ++ (LW cA h as st)) ([EO ob h t i kp] ++ (LW cA h as st)) (xf_count st kp k) := by
  refine bm_open (maxL := 2) (by decide) rfl rfl rfl (Nat.le_of_ble_eq_true rfl) ?_
  intro p e s m args below meth c A Q hx hb hml hts hown hE hP hD hA hS hret ls hl
  have hown : s.vm.findClass RX1 = some m.cls := hown
  have hl : lv_has ls 2 [(0, .ref ob), (1, .int k)] := hl
  obtain ⟨H, locs, eH, eL⟩ : ∃ (H : Heap) (locs : List Loc), H = s.heap ∧ locs = [] := ⟨_, _, rfl, rfl⟩
  rw [← eH, ← eL]
  rw [← eH] at hP
  have hS : va_S A s.heap H locs := by rw [eH, eL]; exact hS
  clear eH eL
  refine lv_iload_n hx hb dX1_count_0 rfl (lv_at hl 1 rfl) ?_
  refine lv_bipush (v := 10) hx hb dX1_count_1 (by decide) ?_
  refine lv_bipush (v := 14) hx hb dX1_count_3 (by decide) ?_
  refine sm_i [.int k, .int 10, .int 14] [] ⟨hx, hb, hml, hown, hts⟩ (c_X1_within l k 10 14) (va_cwS 3 hts gX1_count_X1_within rfl rfl rfl (by decide +kernel) ⟨Nat.le_of_ble_eq_true rfl, Nat.le_of_ble_eq_true rfl⟩) rfl hl.1 rfl (Nat.le_of_ble_eq_true rfl) dX1_count_5 ⟨Nat.zero_le _, Nat.zero_le _⟩ ?_
  refine lv_if_eq (tgt := 24) hx hb dX1_count_8 (by decide) (fun c_1 => ?_) (fun c_1 => ?_)
  · have c_1 : (pf_in k 10 14) = 0 := c_1
    refine lv_iload_n hx hb dX1_count_24 rfl (lv_at hl 1 rfl) ?_
    by_cases h0 : k = 0
    · refine lv_tableIn (tgt := 64) hx hb dX1_count_25 (by rw [h0]; decide) (by rw [h0]; decide) (by rw [h0]; rfl) (by decide) ?_
      refine lv_aload_n hx hb dX1_count_64 rfl (lv_at hl 0 rfl) ?_
      refine va_get (D := D) (ci := 1) (v := .ref h) (C := RX1) (T := TX1) (N := 4) hx hb hts iw_X1_count_X1 hown hE.1 hP 0 rfl rfl 0 (by decide) (hts (.fieldLink RX1 12 "EchoTaps" "line" "LEchoTaps$Line;") (by decide +kernel)) (fun _ h9 => h9) rfl dX1_count_65 ?_
      refine va_get (D := D) (ci := 0) (v := .int (st 8 0)) (C := RX0) (T := TX0) (N := 11) hx hb hts iw_X1_count_X0 hown hE.1 hP 1 rfl rfl 8 (by decide) (hts (.fieldLink RX1 46 "EchoTaps$Line" "ticks" "I") (by decide +kernel)) (fun _ h9 => h9) rfl dX1_count_68 ?_
      exact hret _ _ _ _ _ hP (by rw [xf_count, if_neg (not_not_intro c_1), if_pos h0] <;> rfl) hS dX1_count_71
    by_cases h1 : k = 1
    · refine lv_tableIn (tgt := 72) hx hb dX1_count_25 (by rw [h1]; decide) (by rw [h1]; decide) (by rw [h1]; rfl) (by decide) ?_
      refine lv_aload_n hx hb dX1_count_72 rfl (lv_at hl 0 rfl) ?_
      refine va_get (D := D) (ci := 1) (v := .ref h) (C := RX1) (T := TX1) (N := 4) hx hb hts iw_X1_count_X1 hown hE.1 hP 0 rfl rfl 0 (by decide) (hts (.fieldLink RX1 12 "EchoTaps" "line" "LEchoTaps$Line;") (by decide +kernel)) (fun _ h9 => h9) rfl dX1_count_73 ?_
      refine va_get (D := D) (ci := 0) (v := .int (st 8 1)) (C := RX0) (T := TX0) (N := 11) hx hb hts iw_X1_count_X0 hown hE.1 hP 1 rfl rfl 9 (by decide) (hts (.fieldLink RX1 112 "EchoTaps$Line" "hold" "I") (by decide +kernel)) (fun _ h9 => h9) rfl dX1_count_76 ?_
      exact hret _ _ _ _ _ hP (by rw [xf_count, if_neg (not_not_intro c_1), if_neg h0, if_pos h1] <;> rfl) hS dX1_count_79
    by_cases h2 : k = 2
    · refine lv_tableIn (tgt := 80) hx hb dX1_count_25 (by rw [h2]; decide) (by rw [h2]; decide) (by rw [h2]; rfl) (by decide) ?_
      refine lv_aload_n hx hb dX1_count_80 rfl (lv_at hl 0 rfl) ?_
      refine va_get (D := D) (ci := 1) (v := .ref h) (C := RX1) (T := TX1) (N := 4) hx hb hts iw_X1_count_X1 hown hE.1 hP 0 rfl rfl 0 (by decide) (hts (.fieldLink RX1 12 "EchoTaps" "line" "LEchoTaps$Line;") (by decide +kernel)) (fun _ h9 => h9) rfl dX1_count_81 ?_
      refine va_get (D := D) (ci := 0) (v := .int (st 8 2)) (C := RX0) (T := TX0) (N := 11) hx hb hts iw_X1_count_X0 hown hE.1 hP 1 rfl rfl 10 (by decide) (hts (.fieldLink RX1 115 "EchoTaps$Line" "seed" "I") (by decide +kernel)) (fun _ h9 => h9) rfl dX1_count_84 ?_
      exact hret _ _ _ _ _ hP (by rw [xf_count, if_neg (not_not_intro c_1), if_neg h0, if_neg h1, if_pos h2] <;> rfl) hS dX1_count_87
    by_cases h3 : k = 3
    · refine lv_tableIn (tgt := 88) hx hb dX1_count_25 (by rw [h3]; decide) (by rw [h3]; decide) (by rw [h3]; rfl) (by decide) ?_
      refine lv_aload_n hx hb dX1_count_88 rfl (lv_at hl 0 rfl) ?_
      refine va_get (D := D) (ci := 1) (v := .ref h) (C := RX1) (T := TX1) (N := 4) hx hb hts iw_X1_count_X1 hown hE.1 hP 0 rfl rfl 0 (by decide) (hts (.fieldLink RX1 12 "EchoTaps" "line" "LEchoTaps$Line;") (by decide +kernel)) (fun _ h9 => h9) rfl dX1_count_89 ?_
      refine bm_i [EO ob h t i kp] (LW cA h as st) [] [] [] ⟨hx, hb, hml, hown, hts⟩ (c_X0_tapSizes l D cA cZ cR h as st) (cwV 0 hts gX1_count_X0_tapSizes rfl rfl rfl (by decide +kernel) ⟨Nat.le_of_ble_eq_true rfl, Nat.le_of_ble_eq_true rfl⟩) hE hP hD hS hA LW_adr 0 0 rfl rfl rfl hl.1 rfl (Nat.le_of_ble_eq_true rfl) dX1_count_92 ⟨Nat.zero_le _, Nat.zero_le _⟩ (fun H locs hP hD hS => ?_)
      have hP : va_P D vwCl ([EO ob h t i kp] ++ (LW cA h as st)) H := hP
      have hD : va_D A ([EO ob h t i kp] ++ (LW cA h as st)) := hD
      exact hret _ _ _ _ _ hP (by rw [xf_count, if_neg (not_not_intro c_1), if_neg h0, if_neg h1, if_neg h2, if_pos h3] <;> rfl) hS dX1_count_95
    by_cases h4 : k = 4
    · refine lv_tableIn (tgt := 96) hx hb dX1_count_25 (by rw [h4]; decide) (by rw [h4]; decide) (by rw [h4]; rfl) (by decide) ?_
      refine lv_aload_n hx hb dX1_count_96 rfl (lv_at hl 0 rfl) ?_
      refine va_get (D := D) (ci := 1) (v := .ref h) (C := RX1) (T := TX1) (N := 4) hx hb hts iw_X1_count_X1 hown hE.1 hP 0 rfl rfl 0 (by decide) (hts (.fieldLink RX1 12 "EchoTaps" "line" "LEchoTaps$Line;") (by decide +kernel)) (fun _ h9 => h9) rfl dX1_count_97 ?_
      refine va_get (D := D) (ci := 0) (v := .ref (as 2)) (C := RX0) (T := TX0) (N := 11) hx hb hts iw_X1_count_X0 hown hE.1 hP 1 rfl rfl 2 (by decide) (hts (.fieldLink RX1 64 "EchoTaps$Line" "way" "[I") (by decide +kernel)) (fun _ h9 => h9) rfl dX1_count_100 ?_
      refine lv_bipush (v := 8) hx hb dX1_count_103 (by decide) ?_
      refine va_iald hx hb hE.1 hP 4 0 rfl rfl (vp_in_nI (n := 8) (N := 9) (by decide) (by decide)) dX1_count_105 ?_
      exact hret _ _ _ _ _ hP (by rw [xf_count, if_neg (not_not_intro c_1), if_neg h0, if_neg h1, if_neg h2, if_neg h3, if_pos h4] <;> rfl) hS dX1_count_106
    by_cases h5 : k = 5
    · refine lv_tableIn (tgt := 107) hx hb dX1_count_25 (by rw [h5]; decide) (by rw [h5]; decide) (by rw [h5]; rfl) (by decide) ?_
      refine lv_aload_n hx hb dX1_count_107 rfl (lv_at hl 0 rfl) ?_
      refine va_get (D := D) (ci := 1) (v := .int kp) (C := RX1) (T := TX1) (N := 4) hx hb hts iw_X1_count_X1 hown hE.1 hP 0 rfl rfl 3 (by decide) (hts (.fieldLink RX1 109 "EchoTaps" "kept" "I") (by decide +kernel)) (fun _ h9 => h9) rfl dX1_count_108 ?_
      exact hret _ _ _ _ _ hP (by rw [xf_count, if_neg (not_not_intro c_1), if_neg h0, if_neg h1, if_neg h2, if_neg h3, if_neg h4, if_pos h5] <;> rfl) hS dX1_count_111
    refine lv_tableOut (tgt := 112) hx hb dX1_count_25 (sw5 h0 h1 h2 h3 h4 h5) (by decide) ?_
    refine lv_bipush (v := (-2)) hx hb dX1_count_112 (by decide) ?_
    exact hret _ _ _ _ _ hP (by rw [xf_count, if_neg (not_not_intro c_1), if_neg h0, if_neg h1, if_neg h2, if_neg h3, if_neg h4, if_neg h5]) hS dX1_count_114
  · have c_1 : ¬ (pf_in k 10 14) = 0 := c_1
    refine lv_aload_n hx hb dX1_count_11 rfl (lv_at hl 0 rfl) ?_
    refine va_get (D := D) (ci := 1) (v := .ref h) (C := RX1) (T := TX1) (N := 4) hx hb hts iw_X1_count_X1 hown hE.1 hP 0 rfl rfl 0 (by decide) (hts (.fieldLink RX1 12 "EchoTaps" "line" "LEchoTaps$Line;") (by decide +kernel)) (fun _ h9 => h9) rfl dX1_count_12 ?_
    refine va_get (D := D) (ci := 0) (v := .ref (as 0)) (C := RX0) (T := TX0) (N := 11) hx hb hts iw_X1_count_X0 hown hE.1 hP 1 rfl rfl 0 (by decide) (hts (.fieldLink RX1 31 "EchoTaps$Line" "rules" "[I") (by decide +kernel)) (fun _ h9 => h9) rfl dX1_count_15 ?_
    refine lv_iload_n hx hb dX1_count_18 rfl (lv_at hl 1 rfl) ?_
    refine lv_bipush (v := 10) hx hb dX1_count_19 (by decide) ?_
    refine lv_isub hx hb dX1_count_21 ?_
    refine va_iald hx hb hE.1 hP 2 0 rfl rfl (in_cnt c_1) dX1_count_22 ?_
    exact hret _ _ _ _ _ hP ((if_pos c_1).symm) hS dX1_count_23
end
section
theorem LLW_adr {cA : ClassId} {h1 h2 : Nat} {as1 as2 : Nat → Nat} {st1 st2 st1' st2' : St} : ((LW cA h2 as2 st2') ++ (LW cA h1 as1 st1')).map Prod.fst = ((LW cA h2 as2 st2) ++ (LW cA h1 as1 st1)).map Prod.fst := rfl
def xl_c (limit : Int32) (s : St) (a : Int32) : Int32 := if limit < pf_ab (s 7 1) then 0 else a + 1
noncomputable def xl_r (loud limit : Int32) : Nat → Nat → Int32 → St → Int32 → Int32
  | 0, _, _, _, _ => -6
  | n + 1, k, z, st, a => if xl_c limit (lf_hs st (pf_ce (pf_nx z) loud) 0) a < 8 then xl_r loud limit n (k + 1) (pf_nx z) (lf_hs st (pf_ce (pf_nx z) loud) 0) (xl_c limit (lf_hs st (pf_ce (pf_nx z) loud) 0) a) else nI k
noncomputable def xl_s (loud limit : Int32) : Nat → Int32 → St → Int32 → St
  | 0, _, st, _ => st
  | n + 1, z, st, a => if xl_c limit (lf_hs st (pf_ce (pf_nx z) loud) 0) a < 8 then xl_s loud limit n (pf_nx z) (lf_hs st (pf_ce (pf_nx z) loud) 0) (xl_c limit (lf_hs st (pf_ce (pf_nx z) loud) 0) a) else lf_hs st (pf_ce (pf_nx z) loud) 0
noncomputable def xf_learnt (st : St) (z loud limit : Int32) : Int32 := if pf_sr z loud = 0 ∨ pf_in limit 0 999 = 0 then -2 else xl_r loud limit 200 1 z st 0
noncomputable def xs_learnt (st st2 : St) (z loud limit : Int32) : St := if pf_sr z loud = 0 ∨ pf_in limit 0 999 = 0 then st2 else xl_s loud limit 200 z st 0
abbrev rm_X1_learnt : Room := { frames := 5, cells := 0, slots := 0, locals := 120 }
theorem iw_X1_learnt_X0 : ∀ w ∈ wsX00, w ∈ wsX1_learnt := by decide +kernel
theorem iw_X1_learnt_X1 : ∀ w ∈ wsX10, w ∈ wsX1_learnt := by decide +kernel
set_option maxRecDepth 100000 in
set_option maxHeartbeats 4000000 in
theorem c_X1_learnt (l : Launch) (D : va_G) (cA cZ cR : ClassId) (ob h t i : Nat) (kp : Int32) (as : Nat → Nat) (st : St) (as2 : Nat → Nat) (st2 : St) (z loud limit : Int32) : BMi l D cA cZ cR yX1_learnt wsX1_learnt rm_X1_learnt [.ref ob, .int z, .int loud, .int limit] ([EO ob h t i kp] ++ ((LW cA h as st) ++ (LW cA t as2 st2))) ([EO ob h t i kp] ++ ((LW cA h as st) ++ (LW cA t as2 (xs_learnt st st2 z loud limit)))) (xf_learnt st z loud limit) := by
  refine bm_open (maxL := 7) (by decide) rfl rfl rfl (Nat.le_of_ble_eq_true rfl) ?_
  intro p e s m args below meth c A Q hx hb hml hts hown hE hP hD hA hS hret ls hl
  have hown : s.vm.findClass RX1 = some m.cls := hown
  have hl : lv_has ls 7 [(0, .ref ob), (1, .int z), (2, .int loud), (3, .int limit)] := hl
  obtain ⟨H, locs, eH, eL⟩ : ∃ (H : Heap) (locs : List Loc), H = s.heap ∧ locs = [] := ⟨_, _, rfl, rfl⟩
  rw [← eH, ← eL]
  rw [← eH] at hP
  have hS : va_S A s.heap H locs := by rw [eH, eL]; exact hS
  clear eH eL
  refine lv_iload_n hx hb dX1_learnt_0 rfl (lv_at hl 1 rfl) ?_
  refine lv_iload_n hx hb dX1_learnt_1 rfl (lv_at hl 2 rfl) ?_
  refine sm_i [.int z, .int loud] [] ⟨hx, hb, hml, hown, hts⟩ (c_X1_startsRun l z loud) (va_cwS 2 hts gX1_learnt_X1_startsRun rfl rfl rfl (by decide +kernel) ⟨Nat.le_of_ble_eq_true rfl, Nat.le_of_ble_eq_true rfl⟩) rfl hl.1 rfl (Nat.le_of_ble_eq_true rfl) dX1_learnt_2 ⟨Nat.zero_le _, Nat.zero_le _⟩ ?_
  refine lv_if_eq (tgt := 19) hx hb dX1_learnt_5 (by decide) (fun c_1 => ?_) (fun c_1 => ?_)
  · have c_1 : (pf_sr z loud) = 0 := c_1
    refine lv_bipush (v := (-2)) hx hb dX1_learnt_19 (by decide) ?_
    have e1 : xs_learnt st st2 z loud limit = st2 := if_pos (Or.inl c_1)
    exact hret _ _ _ _ _ (by rw [e1]; exact hP) ((if_pos (Or.inl c_1)).symm) hS dX1_learnt_21
  · have c_1 : ¬ (pf_sr z loud) = 0 := c_1
    refine lv_iload_n hx hb dX1_learnt_8 rfl (lv_at hl 3 rfl) ?_
    refine lv_iconst (v := 0) hx hb dX1_learnt_9 (by decide) ?_
    refine lv_sipush (v := 999) hx hb dX1_learnt_10 (by decide) ?_
    refine sm_i [.int limit, .int 0, .int 999] [] ⟨hx, hb, hml, hown, hts⟩ (c_X1_within l limit 0 999) (va_cwS 3 hts gX1_learnt_X1_within rfl rfl rfl (by decide +kernel) ⟨Nat.le_of_ble_eq_true rfl, Nat.le_of_ble_eq_true rfl⟩) rfl hl.1 rfl (Nat.le_of_ble_eq_true rfl) dX1_learnt_13 ⟨Nat.zero_le _, Nat.zero_le _⟩ ?_
    refine lv_if_ne (tgt := 22) hx hb dX1_learnt_16 (by decide) (fun c_2 => ?_) (fun c_2 => ?_)
    · have c_2 : ¬ (pf_in limit 0 999) = 0 := c_2
      have e1 : xs_learnt st st2 z loud limit = xl_s loud limit 200 z st 0 := if_neg (fun q => q.elim c_1 c_2)
      have e2 : xf_learnt st z loud limit = xl_r loud limit 200 1 z st 0 := if_neg (fun q => q.elim c_1 c_2)
      rw [e1, e2] at hret
      refine lv_aload_n hx hb dX1_learnt_22 rfl (lv_at hl 0 rfl) ?_
      refine va_get (D := D) (ci := 1) (v := .ref t) (C := RX1) (T := TX1) (N := 4) hx hb hts iw_X1_learnt_X1 hown hE.1 hP 0 rfl rfl 1 (by decide) (hts (.fieldLink RX1 16 "EchoTaps" "trial" "LEchoTaps$Line;") (by decide +kernel)) (fun _ h9 => h9) rfl dX1_learnt_23 ?_
      refine lv_aload_n hx hb dX1_learnt_26 rfl (lv_at hl 0 rfl) ?_
      refine va_get (D := D) (ci := 1) (v := .ref h) (C := RX1) (T := TX1) (N := 4) hx hb hts iw_X1_learnt_X1 hown hE.1 hP 0 rfl rfl 0 (by decide) (hts (.fieldLink RX1 12 "EchoTaps" "line" "LEchoTaps$Line;") (by decide +kernel)) (fun _ h9 => h9) rfl dX1_learnt_27 ?_
      refine bm_v [EO ob h t i kp] ((LW cA h as st) ++ (LW cA t as2 st2)) [] [.ref h] [] ⟨hx, hb, hml, hown, hts⟩ (c_X0_copyFrom l D cA cZ cR t as2 st2 h as st) (cwV 1 hts gX1_learnt_X0_copyFrom rfl rfl rfl (by decide +kernel) ⟨Nat.le_of_ble_eq_true rfl, Nat.le_of_ble_eq_true rfl⟩) hE hP hD hS hA LLW_adr 9 0 rfl rfl rfl hl.1 rfl (Nat.le_of_ble_eq_true rfl) dX1_learnt_30 ⟨Nat.zero_le _, Nat.zero_le _⟩ (fun H locs hP hD hS => ?_)
      have hP : va_P D vwCl ([EO ob h t i kp] ++ ((LW cA h as st) ++ (LW cA t as2 st))) H := hP
      have hD : va_D A ([EO ob h t i kp] ++ ((LW cA h as st) ++ (LW cA t as2 st))) := hD
      refine lv_iload_n hx hb dX1_learnt_33 rfl (lv_at hl 1 rfl) ?_
      refine lv_istore (lv' := [(4, .int z), (0, .ref ob), (1, .int z), (2, .int loud), (3, .int limit)]) hx hb dX1_learnt_34 hl (by decide) rfl (fun ls hl => ?_)
      refine lv_iconst (v := 0) hx hb dX1_learnt_36 (by decide) ?_
      refine lv_istore (lv' := [(5, .int 0), (4, .int z), (0, .ref ob), (1, .int z), (2, .int loud), (3, .int limit)]) hx hb dX1_learnt_37 hl (by decide) rfl (fun ls hl => ?_)
      refine lv_iconst (v := 1) hx hb dX1_learnt_39 (by decide) ?_
      refine lv_istore (lv' := [(6, .int 1), (5, .int 0), (4, .int z), (0, .ref ob), (1, .int z), (2, .int loud), (3, .int limit)]) hx hb dX1_learnt_40 hl (by decide) rfl (fun ls hl => ?_)
      have loop : ∀ (n : Nat) (k : Nat) (y : Int32) (s1 : St) (a : Int32) (hk : k + n = 201) (ha : xl_r loud limit n k y s1 a = xl_r loud limit 200 1 z st 0) (hs : xl_s loud limit n y s1 a = xl_s loud limit 200 z st 0), ∀ (H : Heap) (locs : List Loc), va_P D vwCl ([EO ob h t i kp] ++ ((LW cA h as st) ++ (LW cA t as2 s1))) H → va_D A ([EO ob h t i kp] ++ ((LW cA h as st) ++ (LW cA t as2 s1))) → va_S A s.heap H locs → ∀ ls : Array Slot, lv_has ls 7 [(6, .int (nI k)), (5, .int a), (4, .int y), (3, .int limit), (2, .int loud), (1, .int z), (0, .ref ob)] → W p l e rm_X1_learnt s m args below meth c H locs 0 0 Q (F0 m 42 ls []) := by
        intro n
        induction n with
        | zero =>
          intro k y s1 a hk ha hs H locs hP hD hS ls hl
          obtain rfl : k = 201 := by omega
          refine lv_iload hx hb dX1_learnt_42 (lv_at hl 0 rfl) ?_
          refine lv_sipush (v := 200) hx hb dX1_learnt_44 (by decide) ?_
          refine lv_icmp_gt (tgt := 114) hx hb dX1_learnt_47 (by decide) (fun c_3 => ?_) (fun c_3 => absurd (by decide) c_3)
          refine lv_bipush (v := (-6)) hx hb dX1_learnt_114 (by decide) ?_
          exact hret _ _ _ _ _ (by rw [← hs]; exact hP) ha hS dX1_learnt_116
        | succ n ih =>
          intro k y s1 a hk ha hs H locs hP hD hS ls hl
          refine lv_iload hx hb dX1_learnt_42 (lv_at hl 0 rfl) ?_
          refine lv_sipush (v := 200) hx hb dX1_learnt_44 (by decide) ?_
          refine lv_icmp_gt (tgt := 114) hx hb dX1_learnt_47 (by decide) (fun c_4 => absurd c_4 (nI_nlt (a := 200) (b := k) (by omega) (by decide))) (fun c_4 => ?_)
          refine lv_iload hx hb dX1_learnt_50 (lv_at hl 2 rfl) ?_
          refine sm_i [.int y] [] ⟨hx, hb, hml, hown, hts⟩ (c_X1_nextSeed l y) (va_cwS 1 hts gX1_learnt_X1_nextSeed rfl rfl rfl (by decide +kernel) ⟨Nat.le_of_ble_eq_true rfl, Nat.le_of_ble_eq_true rfl⟩) rfl hl.1 rfl (Nat.le_of_ble_eq_true rfl) dX1_learnt_52 ⟨Nat.zero_le _, Nat.zero_le _⟩ ?_
          refine lv_topi (fun y2 ey2 => ?_)
          refine lv_istore (lv' := [(4, .int y2), (6, .int (nI k)), (5, .int a), (3, .int limit), (2, .int loud), (1, .int z), (0, .ref ob)]) hx hb dX1_learnt_55 hl (by decide) rfl (fun ls hl => ?_)
          refine lv_aload_n hx hb dX1_learnt_57 rfl (lv_at hl 6 rfl) ?_
          refine va_get (D := D) (ci := 1) (v := .ref t) (C := RX1) (T := TX1) (N := 4) hx hb hts iw_X1_learnt_X1 hown hE.1 hP 0 rfl rfl 1 (by decide) (hts (.fieldLink RX1 16 "EchoTaps" "trial" "LEchoTaps$Line;") (by decide +kernel)) (fun _ h9 => h9) rfl dX1_learnt_58 ?_
          refine lv_iload hx hb dX1_learnt_61 (lv_at hl 0 rfl) ?_
          refine lv_iload_n hx hb dX1_learnt_63 rfl (lv_at hl 4 rfl) ?_
          refine sm_i [.int y2, .int loud] [.ref t] ⟨hx, hb, hml, hown, hts⟩ (c_X1_centred l y2 loud) (va_cwS 2 hts gX1_learnt_X1_centred rfl rfl rfl (by decide +kernel) ⟨Nat.le_of_ble_eq_true rfl, Nat.le_of_ble_eq_true rfl⟩) rfl hl.1 rfl (Nat.le_of_ble_eq_true rfl) dX1_learnt_64 ⟨Nat.zero_le _, Nat.zero_le _⟩ ?_
          refine lv_iconst (v := 0) hx hb dX1_learnt_67 (by decide) ?_
          refine bm_i ([EO ob h t i kp] ++ (LW cA h as st)) (LW cA t as2 s1) [] [.int (pf_ce y2 loud), .int 0] [] ⟨hx, hb, hml, hown, hts⟩ (c_X0_hearSpeech l D cA cZ cR t as2 s1 (pf_ce y2 loud) 0) (cwV 2 hts gX1_learnt_X0_hearSpeech rfl rfl rfl (by decide +kernel) ⟨Nat.le_of_ble_eq_true rfl, Nat.le_of_ble_eq_true rfl⟩) hE hP hD hS hA LW_adr 0 0 rfl rfl rfl hl.1 rfl (Nat.le_of_ble_eq_true rfl) dX1_learnt_68 ⟨Nat.zero_le _, Nat.zero_le _⟩ (fun H locs hP hD hS => ?_)
          have hP : va_P D vwCl ([EO ob h t i kp] ++ ((LW cA h as st) ++ (LW cA t as2 (lf_hs s1 (pf_ce y2 loud) 0)))) H := hP
          have hD : va_D A ([EO ob h t i kp] ++ ((LW cA h as st) ++ (LW cA t as2 (lf_hs s1 (pf_ce y2 loud) 0)))) := hD
          have hP : va_P D vwCl ([EO ob h t i kp] ++ ((LW cA h as st) ++ (LW cA t as2 (lf_hs s1 (pf_ce y2 loud) 0)))) H := hP
          have hD : va_D A ([EO ob h t i kp] ++ ((LW cA h as st) ++ (LW cA t as2 (lf_hs s1 (pf_ce y2 loud) 0)))) := hD
          obtain ⟨s2, es2⟩ : ∃ z : St, z = lf_hs s1 (pf_ce y2 loud) 0 := ⟨_, rfl⟩
          rw [← es2] at hP hD
          refine lv_pop hx hb dX1_learnt_71 rfl ?_
          refine lv_aload_n hx hb dX1_learnt_72 rfl (lv_at hl 6 rfl) ?_
          refine va_get (D := D) (ci := 1) (v := .ref t) (C := RX1) (T := TX1) (N := 4) hx hb hts iw_X1_learnt_X1 hown hE.1 hP 0 rfl rfl 1 (by decide) (hts (.fieldLink RX1 16 "EchoTaps" "trial" "LEchoTaps$Line;") (by decide +kernel)) (fun _ h9 => h9) rfl dX1_learnt_73 ?_
          refine va_get (D := D) (ci := 0) (v := .ref (as2 7)) (C := RX0) (T := TX0) (N := 11) hx hb hts iw_X1_learnt_X0 hown hE.1 hP 10 rfl rfl 7 (by decide) (hts (.fieldLink RX1 51 "EchoTaps$Line" "told" "[I") (by decide +kernel)) (fun _ h9 => h9) rfl dX1_learnt_76 ?_
          refine lv_iconst (v := 1) hx hb dX1_learnt_79 (by decide) ?_
          refine va_iald hx hb hE.1 hP 18 0 rfl rfl (vp_in_nI (n := 1) (N := 8) (by decide) (by decide)) dX1_learnt_80 ?_
          refine va_mabs hx hb (hml.trans hl.1.symm) hown (hts (.methodLink RX1 81 Lib.Math.abs.name) (by decide +kernel)) (hts (.static Lib.Math.abs.name) (by decide +kernel)) (hts (.initialized "java/lang/Math") (by decide +kernel)) (hts (.code Lib.Math.abs.name Lib.Math.abs.code 1 (some .int)) (by decide +kernel)) (Nat.le_of_ble_eq_true rfl) (Nat.le_of_ble_eq_true rfl) (Nat.zero_le _) (Nat.zero_le _) dX1_learnt_81 ?_
          refine lv_iload_n hx hb dX1_learnt_84 rfl (lv_at hl 3 rfl) ?_
          have j96 : ∀ (a2 : Int32) (ea2 : a2 = xl_c limit s2 a), W p l e rm_X1_learnt s m args below meth c H locs 0 0 Q (F0 m 96 ls [.int a2]) := by
            intro a2 ea2
            refine lv_istore (lv' := [(5, .int a2), (4, .int y2), (6, .int (nI k)), (3, .int limit), (2, .int loud), (1, .int z), (0, .ref ob)]) hx hb dX1_learnt_96 hl (by decide) rfl (fun ls hl => ?_)
            refine lv_iload hx hb dX1_learnt_98 (lv_at hl 0 rfl) ?_
            refine lv_bipush (v := 8) hx hb dX1_learnt_100 (by decide) ?_
            rw [xl_r, ← ey2, ← es2, ← ea2] at ha
            rw [xl_s, ← ey2, ← es2, ← ea2] at hs
            refine lv_icmp_lt (tgt := 108) hx hb dX1_learnt_102 (by decide) (fun c_5 => ?_) (fun c_5 => ?_)
            · have c_5 : a2 < 8 := c_5
              rw [if_pos c_5] at ha hs
              refine lv_iinc (v := nI (k + 1)) (lv' := [(6, .int (nI (k + 1))), (5, .int a2), (4, .int y2), (3, .int limit), (2, .int loud), (1, .int z), (0, .ref ob)]) hx hb dX1_learnt_108 hl (k := 2) rfl (nI_1 k) (by decide) rfl (fun ls hl => ?_)
              refine lv_goto (tgt := 42) hx hb dX1_learnt_111 (by decide) ?_
              exact ih (k + 1) y2 s2 a2 (by omega) ha hs H locs hP hD hS ls (lv_sub hl [0, 1, 2, 3, 4, 5, 6] rfl)
            · have c_5 : ¬ a2 < 8 := c_5
              rw [if_neg c_5] at ha hs
              refine lv_iload hx hb dX1_learnt_105 (lv_at hl 2 rfl) ?_
              exact hret _ _ _ _ _ (by rw [← hs]; exact hP) ha hS dX1_learnt_107
          refine lv_icmp_gt (tgt := 95) hx hb dX1_learnt_85 (by decide) (fun c_6 => ?_) (fun c_6 => ?_)
          · have c_6 : limit < (pf_ab ((s2 7) 1)) := c_6
            refine lv_iconst (v := 0) hx hb dX1_learnt_95 (by decide) ?_
            exact j96 _ (if_pos c_6).symm
          · have c_6 : ¬ limit < (pf_ab ((s2 7) 1)) := c_6
            refine lv_iload hx hb dX1_learnt_88 (lv_at hl 2 rfl) ?_
            refine lv_iconst (v := 1) hx hb dX1_learnt_90 (by decide) ?_
            refine lv_iadd hx hb dX1_learnt_91 ?_
            refine lv_goto (tgt := 96) hx hb dX1_learnt_92 (by decide) ?_
            exact j96 _ (if_neg c_6).symm
      exact loop 200 1 z st 0 rfl rfl rfl H locs hP hD hS ls (lv_sub hl [0, 1, 2, 6, 5, 4, 3] rfl)
    · have c_2 : (pf_in limit 0 999) = 0 := c_2
      refine lv_bipush (v := (-2)) hx hb dX1_learnt_19 (by decide) ?_
      have e1 : xs_learnt st st2 z loud limit = st2 := if_pos (Or.inr c_2)
      exact hret _ _ _ _ _ (by rw [e1]; exact hP) ((if_pos (Or.inr c_2)).symm) hS dX1_learnt_21
end
section
def im2 (h0 h1 : Nat) : Nat → Option Nat := fun j => if j = 0 then some h0 else some h1
abbrev AO (cR : ClassId) (i h0 h1 : Nat) : Nat × va_E := (i, .inl (cR, 2, .inr (.inr (.inr (.inr (im2 h0 h1))))))
def xb (k : Int32) : Int32 := 1 <<< (k &&& 31)
def xf_image (k : Int32) : Int32 := if pf_in k 0 1 = 0 then -2 else 1
def xk_image (kp k : Int32) : Int32 := if pf_in k 0 1 = 0 then kp else kp ||| xb k
def xs_im0 (st s0 : St) (k : Int32) : St := if k = 0 then st else s0
def xs_im1 (st s1 : St) (k : Int32) : St := if k = 1 then st else s1
def xf_rest (kp k : Int32) : Int32 := if pf_in k 0 1 = 0 then -2 else if kp &&& xb k = 0 then -3 else 1
def xs_rest (st s0 s1 : St) (kp k : Int32) : St := if pf_in k 0 1 = 0 then st else if kp &&& xb k = 0 then st else if k = 0 then s0 else s1
theorem pf_in01 {k : Int32} (h : pf_in k 0 1 = 0) : ¬ k = 0 ∧ ¬ k = 1 := by
  constructor
  · rintro rfl; exact absurd h (by decide)
  · rintro rfl; exact absurd h (by decide)
abbrev rm_X1_image : Room := { frames := 2, cells := 0, slots := 0, locals := 85 }
theorem iw_X1_image_X1 : ∀ w ∈ wsX10, w ∈ wsX1_image := by decide +kernel
set_option maxRecDepth 100000 in
set_option maxHeartbeats 4000000 in
theorem c_X1_image (l : Launch) (D : va_G) (cA cZ cR : ClassId) (ob h t i : Nat) (kp : Int32) (as : Nat → Nat) (st : St) (h0 : Nat) (a0 : Nat → Nat) (s0 : St) (h1 : Nat) (a1 : Nat → Nat) (s1 : St) (k : Int32) : BMi l D cA cZ cR yX1_image wsX1_image rm_X1_image [.ref ob, .int k] ([EO ob h t i kp] ++ ([AO cR i h0 h1] ++ ((LW cA h as st) ++ ((LW cA h0 a0 s0) ++ (LW cA h1 a1 s1))))) ([EO ob h t i (xk_image kp k)] ++ ([AO cR i h0 h1] ++ ((LW cA h as st) ++ ((LW cA h0 a0 (xs_im0 st s0 k)) ++ (LW cA h1 a1 (xs_im1 st s1 k)))))) (xf_image k) := by
  refine bm_open (maxL := 2) (by decide) rfl rfl rfl (Nat.le_of_ble_eq_true rfl) ?_
  intro p e s m args below meth c A Q hx hb hml hts hown hE hP hD hA hS hret ls hl
  have hown : s.vm.findClass RX1 = some m.cls := hown
  have hl : lv_has ls 2 [(0, .ref ob), (1, .int k)] := hl
  obtain ⟨H, locs, eH, eL⟩ : ∃ (H : Heap) (locs : List Loc), H = s.heap ∧ locs = [] := ⟨_, _, rfl, rfl⟩
  rw [← eH, ← eL]
  rw [← eH] at hP
  have hS : va_S A s.heap H locs := by rw [eH, eL]; exact hS
  clear eH eL
  refine lv_iload_n hx hb dX1_image_0 rfl (lv_at hl 1 rfl) ?_
  refine lv_iconst (v := 0) hx hb dX1_image_1 (by decide) ?_
  refine lv_iconst (v := 1) hx hb dX1_image_2 (by decide) ?_
  refine sm_i [.int k, .int 0, .int 1] [] ⟨hx, hb, hml, hown, hts⟩ (c_X1_within l k 0 1) (va_cwS 3 hts gX1_image_X1_within rfl rfl rfl (by decide +kernel) ⟨Nat.le_of_ble_eq_true rfl, Nat.le_of_ble_eq_true rfl⟩) rfl hl.1 rfl (Nat.le_of_ble_eq_true rfl) dX1_image_3 ⟨Nat.zero_le _, Nat.zero_le _⟩ ?_
  refine lv_if_ne (tgt := 12) hx hb dX1_image_6 (by decide) (fun c_1 => ?_) (fun c_1 => ?_)
  · have c_1 : ¬ (pf_in k 0 1) = 0 := c_1
    obtain ⟨j, hj, ek⟩ := in_nI (b := 1) (by decide) c_1
    rcases (show j = 0 ∨ j = 1 by omega) with rfl | rfl
    · obtain rfl : k = 0 := ek
      refine lv_aload_n hx hb dX1_image_12 rfl (lv_at hl 0 rfl) ?_
      refine va_get (D := D) (ci := 1) (v := .ref i) (C := RX1) (T := TX1) (N := 4) hx hb hts iw_X1_image_X1 hown hE.1 hP 0 rfl rfl 2 (by decide) (hts (.fieldLink RX1 19 "EchoTaps" "images" "[LEchoTaps$Line;") (by decide +kernel)) (fun _ h9 => h9) rfl dX1_image_13 ?_
      refine lv_iload_n hx hb dX1_image_16 rfl (lv_at hl 1 rfl) ?_
      refine va_aldq hx hb hE.1 hP 1 2 rfl rfl (vp_in_nI (n := 0) (N := 2) (by decide) (by decide)) dX1_image_17 ?_
      refine W.eq (g2 := F0 m 18 ls [.ref h0]) rfl ?_
      refine lv_aload_n hx hb dX1_image_18 rfl (lv_at hl 0 rfl) ?_
      refine va_get (D := D) (ci := 1) (v := .ref h) (C := RX1) (T := TX1) (N := 4) hx hb hts iw_X1_image_X1 hown hE.1 hP 0 rfl rfl 0 (by decide) (hts (.fieldLink RX1 12 "EchoTaps" "line" "LEchoTaps$Line;") (by decide +kernel)) (fun _ h9 => h9) rfl dX1_image_19 ?_
      have hP : va_P D vwCl ([EO ob h t i kp] ++ ([AO cR i h0 h1] ++ ((LW cA h as st) ++ ((LW cA h0 a0 s0) ++ (LW cA h1 a1 s1))))) H := hP.sub [0, 1, 2, 3, 4, 5, 6, 7, 8, 9, 10, 11, 12, 13, 14, 15, 16, 17, 18, 19, 20, 21, 22, 23, 24, 25, 26, 27, 28] rfl
      have hD : va_D A ([EO ob h t i kp] ++ ([AO cR i h0 h1] ++ ((LW cA h as st) ++ ((LW cA h0 a0 s0) ++ (LW cA h1 a1 s1))))) := hD.sub [0, 1, 2, 3, 4, 5, 6, 7, 8, 9, 10, 11, 12, 13, 14, 15, 16, 17, 18, 19, 20, 21, 22, 23, 24, 25, 26, 27, 28] (by decide) rfl
      refine bm_v ([EO ob h t i kp] ++ [AO cR i h0 h1]) ((LW cA h as st) ++ (LW cA h0 a0 s0)) (LW cA h1 a1 s1) [.ref h] [] ⟨hx, hb, hml, hown, hts⟩ (c_X0_copyFrom l D cA cZ cR h0 a0 s0 h as st) (cwV 1 hts gX1_image_X0_copyFrom rfl rfl rfl (by decide +kernel) ⟨Nat.le_of_ble_eq_true rfl, Nat.le_of_ble_eq_true rfl⟩) hE hP hD hS hA LLW_adr 9 0 rfl rfl rfl hl.1 rfl (Nat.le_of_ble_eq_true rfl) dX1_image_22 ⟨Nat.zero_le _, Nat.zero_le _⟩ (fun H locs hP hD hS => ?_)
      have hP : va_P D vwCl ([EO ob h t i kp] ++ ([AO cR i h0 h1] ++ ((LW cA h as st) ++ ((LW cA h0 a0 st) ++ (LW cA h1 a1 s1))))) H := hP
      have hD : va_D A ([EO ob h t i kp] ++ ([AO cR i h0 h1] ++ ((LW cA h as st) ++ ((LW cA h0 a0 st) ++ (LW cA h1 a1 s1))))) := hD
      refine lv_aload_n hx hb dX1_image_25 rfl (lv_at hl 0 rfl) ?_
      refine lv_dup hx hb dX1_image_26 rfl ?_
      refine va_get (D := D) (ci := 1) (v := .int kp) (C := RX1) (T := TX1) (N := 4) hx hb hts iw_X1_image_X1 hown hE.1 hP 0 rfl rfl 3 (by decide) (hts (.fieldLink RX1 109 "EchoTaps" "kept" "I") (by decide +kernel)) (fun _ h9 => h9) rfl dX1_image_27 ?_
      refine lv_iconst (v := 1) hx hb dX1_image_30 (by decide) ?_
      refine lv_iload_n hx hb dX1_image_31 rfl (lv_at hl 1 rfl) ?_
      refine lv_ishl hx hb dX1_image_32 ?_
      refine lv_ior hx hb dX1_image_33 ?_
      refine va_put (D := D) (ci := 1) (v := .int (kp ||| ((1 : Int32) <<< ((0 : Int32) &&& 31)))) (ty := .int) (C := RX1) (T := TX1) (N := 4) hx hb hts iw_X1_image_X1 tyX1 tyX1_ok nmX1 hown hE.1 hP hD hS 0 rfl rfl 3 (by decide) (hts (.fieldLink RX1 109 "EchoTaps" "kept" "I") (by decide +kernel)) (fun _ h9 => h9) rfl (by decide +kernel) rfl rfl (Nat.le_of_ble_eq_true rfl) dX1_image_34 (fun H locs hP hD hS => ?_)
      have hP : va_P D vwCl ([EO ob h t i (kp ||| ((1 : Int32) <<< ((0 : Int32) &&& 31)))] ++ ([AO cR i h0 h1] ++ ((LW cA h as st) ++ ((LW cA h0 a0 st) ++ (LW cA h1 a1 s1))))) H := hP
      have hD : va_D A ([EO ob h t i (kp ||| ((1 : Int32) <<< ((0 : Int32) &&& 31)))] ++ ([AO cR i h0 h1] ++ ((LW cA h as st) ++ ((LW cA h0 a0 st) ++ (LW cA h1 a1 s1))))) := hD
      refine lv_iconst (v := 1) hx hb dX1_image_37 (by decide) ?_
      exact hret _ _ _ _ _ hP rfl hS dX1_image_38
    · obtain rfl : k = 1 := ek
      refine lv_aload_n hx hb dX1_image_12 rfl (lv_at hl 0 rfl) ?_
      refine va_get (D := D) (ci := 1) (v := .ref i) (C := RX1) (T := TX1) (N := 4) hx hb hts iw_X1_image_X1 hown hE.1 hP 0 rfl rfl 2 (by decide) (hts (.fieldLink RX1 19 "EchoTaps" "images" "[LEchoTaps$Line;") (by decide +kernel)) (fun _ h9 => h9) rfl dX1_image_13 ?_
      refine lv_iload_n hx hb dX1_image_16 rfl (lv_at hl 1 rfl) ?_
      refine va_aldq hx hb hE.1 hP 1 2 rfl rfl (vp_in_nI (n := 1) (N := 2) (by decide) (by decide)) dX1_image_17 ?_
      refine W.eq (g2 := F0 m 18 ls [.ref h1]) rfl ?_
      refine lv_aload_n hx hb dX1_image_18 rfl (lv_at hl 0 rfl) ?_
      refine va_get (D := D) (ci := 1) (v := .ref h) (C := RX1) (T := TX1) (N := 4) hx hb hts iw_X1_image_X1 hown hE.1 hP 0 rfl rfl 0 (by decide) (hts (.fieldLink RX1 12 "EchoTaps" "line" "LEchoTaps$Line;") (by decide +kernel)) (fun _ h9 => h9) rfl dX1_image_19 ?_
      have hP : va_P D vwCl ([EO ob h t i kp] ++ ([AO cR i h0 h1] ++ ((LW cA h0 a0 s0) ++ ((LW cA h as st) ++ (LW cA h1 a1 s1))))) H := hP.sub [0, 1, 11, 12, 13, 14, 15, 16, 17, 18, 19, 2, 3, 4, 5, 6, 7, 8, 9, 10, 20, 21, 22, 23, 24, 25, 26, 27, 28] rfl
      have hD : va_D A ([EO ob h t i kp] ++ ([AO cR i h0 h1] ++ ((LW cA h0 a0 s0) ++ ((LW cA h as st) ++ (LW cA h1 a1 s1))))) := hD.sub [0, 1, 11, 12, 13, 14, 15, 16, 17, 18, 19, 2, 3, 4, 5, 6, 7, 8, 9, 10, 20, 21, 22, 23, 24, 25, 26, 27, 28] (by decide) rfl
      refine bm_v ([EO ob h t i kp] ++ ([AO cR i h0 h1] ++ (LW cA h0 a0 s0))) ((LW cA h as st) ++ (LW cA h1 a1 s1)) [] [.ref h] [] ⟨hx, hb, hml, hown, hts⟩ (c_X0_copyFrom l D cA cZ cR h1 a1 s1 h as st) (cwV 1 hts gX1_image_X0_copyFrom rfl rfl rfl (by decide +kernel) ⟨Nat.le_of_ble_eq_true rfl, Nat.le_of_ble_eq_true rfl⟩) hE hP hD hS hA LLW_adr 9 0 rfl rfl rfl hl.1 rfl (Nat.le_of_ble_eq_true rfl) dX1_image_22 ⟨Nat.zero_le _, Nat.zero_le _⟩ (fun H locs hP hD hS => ?_)
      have hP : va_P D vwCl ([EO ob h t i kp] ++ ([AO cR i h0 h1] ++ ((LW cA h0 a0 s0) ++ ((LW cA h as st) ++ (LW cA h1 a1 st))))) H := hP
      have hD : va_D A ([EO ob h t i kp] ++ ([AO cR i h0 h1] ++ ((LW cA h0 a0 s0) ++ ((LW cA h as st) ++ (LW cA h1 a1 st))))) := hD
      have hP : va_P D vwCl ([EO ob h t i kp] ++ ([AO cR i h0 h1] ++ ((LW cA h as st) ++ ((LW cA h0 a0 s0) ++ (LW cA h1 a1 st))))) H := hP.sub [0, 1, 11, 12, 13, 14, 15, 16, 17, 18, 19, 2, 3, 4, 5, 6, 7, 8, 9, 10, 20, 21, 22, 23, 24, 25, 26, 27, 28] rfl
      have hD : va_D A ([EO ob h t i kp] ++ ([AO cR i h0 h1] ++ ((LW cA h as st) ++ ((LW cA h0 a0 s0) ++ (LW cA h1 a1 st))))) := hD.sub [0, 1, 11, 12, 13, 14, 15, 16, 17, 18, 19, 2, 3, 4, 5, 6, 7, 8, 9, 10, 20, 21, 22, 23, 24, 25, 26, 27, 28] (by decide) rfl
      refine lv_aload_n hx hb dX1_image_25 rfl (lv_at hl 0 rfl) ?_
      refine lv_dup hx hb dX1_image_26 rfl ?_
      refine va_get (D := D) (ci := 1) (v := .int kp) (C := RX1) (T := TX1) (N := 4) hx hb hts iw_X1_image_X1 hown hE.1 hP 0 rfl rfl 3 (by decide) (hts (.fieldLink RX1 109 "EchoTaps" "kept" "I") (by decide +kernel)) (fun _ h9 => h9) rfl dX1_image_27 ?_
      refine lv_iconst (v := 1) hx hb dX1_image_30 (by decide) ?_
      refine lv_iload_n hx hb dX1_image_31 rfl (lv_at hl 1 rfl) ?_
      refine lv_ishl hx hb dX1_image_32 ?_
      refine lv_ior hx hb dX1_image_33 ?_
      refine va_put (D := D) (ci := 1) (v := .int (kp ||| ((1 : Int32) <<< ((1 : Int32) &&& 31)))) (ty := .int) (C := RX1) (T := TX1) (N := 4) hx hb hts iw_X1_image_X1 tyX1 tyX1_ok nmX1 hown hE.1 hP hD hS 0 rfl rfl 3 (by decide) (hts (.fieldLink RX1 109 "EchoTaps" "kept" "I") (by decide +kernel)) (fun _ h9 => h9) rfl (by decide +kernel) rfl rfl (Nat.le_of_ble_eq_true rfl) dX1_image_34 (fun H locs hP hD hS => ?_)
      have hP : va_P D vwCl ([EO ob h t i (kp ||| ((1 : Int32) <<< ((1 : Int32) &&& 31)))] ++ ([AO cR i h0 h1] ++ ((LW cA h as st) ++ ((LW cA h0 a0 s0) ++ (LW cA h1 a1 st))))) H := hP
      have hD : va_D A ([EO ob h t i (kp ||| ((1 : Int32) <<< ((1 : Int32) &&& 31)))] ++ ([AO cR i h0 h1] ++ ((LW cA h as st) ++ ((LW cA h0 a0 s0) ++ (LW cA h1 a1 st))))) := hD
      refine lv_iconst (v := 1) hx hb dX1_image_37 (by decide) ?_
      exact hret _ _ _ _ _ hP rfl hS dX1_image_38
  · have c_1 : (pf_in k 0 1) = 0 := c_1
    have e0 := pf_in01 c_1
    have e1 : xs_im0 st s0 k = s0 := if_neg e0.1
    have e2 : xs_im1 st s1 k = s1 := if_neg e0.2
    have e3 : xk_image kp k = kp := if_pos c_1
    refine lv_bipush (v := (-2)) hx hb dX1_image_9 (by decide) ?_
    exact hret _ _ _ _ _ (by rw [e1, e2, e3]; exact hP) ((if_pos c_1).symm) hS dX1_image_11

abbrev rm_X1_restore : Room := { frames := 2, cells := 0, slots := 0, locals := 85 }
theorem iw_X1_restore_X1 : ∀ w ∈ wsX10, w ∈ wsX1_restore := by decide +kernel
set_option maxRecDepth 100000 in
set_option maxHeartbeats 4000000 in
theorem c_X1_restore (l : Launch) (D : va_G) (cA cZ cR : ClassId) (ob h t i : Nat) (kp : Int32) (as : Nat → Nat) (st : St) (h0 : Nat) (a0 : Nat → Nat) (s0 : St) (h1 : Nat) (a1 : Nat → Nat) (s1 : St) (k : Int32) : BMi l D cA cZ cR yX1_restore wsX1_restore rm_X1_restore [.ref ob, .int k] ([EO ob h t i kp] ++ ([AO cR i h0 h1] ++ ((LW cA h as st) ++ ((LW cA h0 a0 s0) ++ (LW cA h1 a1 s1))))) ([EO ob h t i kp] ++ ([AO cR i h0 h1] ++ ((LW cA h as (xs_rest st s0 s1 kp k)) ++ ((LW cA h0 a0 s0) ++ (LW cA h1 a1 s1))))) (xf_rest kp k) := by
  refine bm_open (maxL := 2) (by decide) rfl rfl rfl (Nat.le_of_ble_eq_true rfl) ?_
  intro p e s m args below meth c A Q hx hb hml hts hown hE hP hD hA hS hret ls hl
  have hown : s.vm.findClass RX1 = some m.cls := hown
  have hl : lv_has ls 2 [(0, .ref ob), (1, .int k)] := hl
  obtain ⟨H, locs, eH, eL⟩ : ∃ (H : Heap) (locs : List Loc), H = s.heap ∧ locs = [] := ⟨_, _, rfl, rfl⟩
  rw [← eH, ← eL]
  rw [← eH] at hP
  have hS : va_S A s.heap H locs := by rw [eH, eL]; exact hS
  clear eH eL
  refine lv_iload_n hx hb dX1_restore_0 rfl (lv_at hl 1 rfl) ?_
  refine lv_iconst (v := 0) hx hb dX1_restore_1 (by decide) ?_
  refine lv_iconst (v := 1) hx hb dX1_restore_2 (by decide) ?_
  refine sm_i [.int k, .int 0, .int 1] [] ⟨hx, hb, hml, hown, hts⟩ (c_X1_within l k 0 1) (va_cwS 3 hts gX1_restore_X1_within rfl rfl rfl (by decide +kernel) ⟨Nat.le_of_ble_eq_true rfl, Nat.le_of_ble_eq_true rfl⟩) rfl hl.1 rfl (Nat.le_of_ble_eq_true rfl) dX1_restore_3 ⟨Nat.zero_le _, Nat.zero_le _⟩ ?_
  refine lv_if_ne (tgt := 12) hx hb dX1_restore_6 (by decide) (fun c_1 => ?_) (fun c_1 => ?_)
  · have c_1 : ¬ (pf_in k 0 1) = 0 := c_1
    refine lv_aload_n hx hb dX1_restore_12 rfl (lv_at hl 0 rfl) ?_
    refine va_get (D := D) (ci := 1) (v := .int kp) (C := RX1) (T := TX1) (N := 4) hx hb hts iw_X1_restore_X1 hown hE.1 hP 0 rfl rfl 3 (by decide) (hts (.fieldLink RX1 109 "EchoTaps" "kept" "I") (by decide +kernel)) (fun _ h9 => h9) rfl dX1_restore_13 ?_
    refine lv_iconst (v := 1) hx hb dX1_restore_16 (by decide) ?_
    refine lv_iload_n hx hb dX1_restore_17 rfl (lv_at hl 1 rfl) ?_
    refine lv_ishl hx hb dX1_restore_18 ?_
    refine lv_iand hx hb dX1_restore_19 ?_
    refine lv_if_ne (tgt := 26) hx hb dX1_restore_20 (by decide) (fun c_2 => ?_) (fun c_2 => ?_)
    · have c_2 : ¬ (kp &&& ((1 : Int32) <<< ((k : Int32) &&& 31))) = 0 := c_2
      have e1 : xs_rest st s0 s1 kp k = if k = 0 then s0 else s1 := by rw [xs_rest, if_neg c_1, xb, if_neg c_2]
      have e2 : xf_rest kp k = 1 := by rw [xf_rest, if_neg c_1, xb, if_neg c_2]
      rw [e1, e2] at hret
      obtain ⟨j, hj, ek⟩ := in_nI (b := 1) (by decide) c_1
      rcases (show j = 0 ∨ j = 1 by omega) with rfl | rfl
      · obtain rfl : k = 0 := ek
        refine lv_aload_n hx hb dX1_restore_26 rfl (lv_at hl 0 rfl) ?_
        refine va_get (D := D) (ci := 1) (v := .ref h) (C := RX1) (T := TX1) (N := 4) hx hb hts iw_X1_restore_X1 hown hE.1 hP 0 rfl rfl 0 (by decide) (hts (.fieldLink RX1 12 "EchoTaps" "line" "LEchoTaps$Line;") (by decide +kernel)) (fun _ h9 => h9) rfl dX1_restore_27 ?_
        refine lv_aload_n hx hb dX1_restore_30 rfl (lv_at hl 0 rfl) ?_
        refine va_get (D := D) (ci := 1) (v := .ref i) (C := RX1) (T := TX1) (N := 4) hx hb hts iw_X1_restore_X1 hown hE.1 hP 0 rfl rfl 2 (by decide) (hts (.fieldLink RX1 19 "EchoTaps" "images" "[LEchoTaps$Line;") (by decide +kernel)) (fun _ h9 => h9) rfl dX1_restore_31 ?_
        refine lv_iload_n hx hb dX1_restore_34 rfl (lv_at hl 1 rfl) ?_
        refine va_aldq hx hb hE.1 hP 1 2 rfl rfl (vp_in_nI (n := 0) (N := 2) (by decide) (by decide)) dX1_restore_35 ?_
        refine W.eq (g2 := F0 m 36 ls [.ref h0, .ref h]) rfl ?_
        have hP : va_P D vwCl ([EO ob h t i kp] ++ ([AO cR i h0 h1] ++ ((LW cA h0 a0 s0) ++ ((LW cA h as st) ++ (LW cA h1 a1 s1))))) H := hP.sub [0, 1, 11, 12, 13, 14, 15, 16, 17, 18, 19, 2, 3, 4, 5, 6, 7, 8, 9, 10, 20, 21, 22, 23, 24, 25, 26, 27, 28] rfl
        have hD : va_D A ([EO ob h t i kp] ++ ([AO cR i h0 h1] ++ ((LW cA h0 a0 s0) ++ ((LW cA h as st) ++ (LW cA h1 a1 s1))))) := hD.sub [0, 1, 11, 12, 13, 14, 15, 16, 17, 18, 19, 2, 3, 4, 5, 6, 7, 8, 9, 10, 20, 21, 22, 23, 24, 25, 26, 27, 28] (by decide) rfl
        refine bm_v ([EO ob h t i kp] ++ [AO cR i h0 h1]) ((LW cA h0 a0 s0) ++ (LW cA h as st)) (LW cA h1 a1 s1) [.ref h0] [] ⟨hx, hb, hml, hown, hts⟩ (c_X0_copyFrom l D cA cZ cR h as st h0 a0 s0) (cwV 1 hts gX1_restore_X0_copyFrom rfl rfl rfl (by decide +kernel) ⟨Nat.le_of_ble_eq_true rfl, Nat.le_of_ble_eq_true rfl⟩) hE hP hD hS hA LLW_adr 9 0 rfl rfl rfl hl.1 rfl (Nat.le_of_ble_eq_true rfl) dX1_restore_36 ⟨Nat.zero_le _, Nat.zero_le _⟩ (fun H locs hP hD hS => ?_)
        have hP : va_P D vwCl ([EO ob h t i kp] ++ ([AO cR i h0 h1] ++ ((LW cA h0 a0 s0) ++ ((LW cA h as s0) ++ (LW cA h1 a1 s1))))) H := hP
        have hD : va_D A ([EO ob h t i kp] ++ ([AO cR i h0 h1] ++ ((LW cA h0 a0 s0) ++ ((LW cA h as s0) ++ (LW cA h1 a1 s1))))) := hD
        have hP : va_P D vwCl ([EO ob h t i kp] ++ ([AO cR i h0 h1] ++ ((LW cA h as s0) ++ ((LW cA h0 a0 s0) ++ (LW cA h1 a1 s1))))) H := hP.sub [0, 1, 11, 12, 13, 14, 15, 16, 17, 18, 19, 2, 3, 4, 5, 6, 7, 8, 9, 10, 20, 21, 22, 23, 24, 25, 26, 27, 28] rfl
        have hD : va_D A ([EO ob h t i kp] ++ ([AO cR i h0 h1] ++ ((LW cA h as s0) ++ ((LW cA h0 a0 s0) ++ (LW cA h1 a1 s1))))) := hD.sub [0, 1, 11, 12, 13, 14, 15, 16, 17, 18, 19, 2, 3, 4, 5, 6, 7, 8, 9, 10, 20, 21, 22, 23, 24, 25, 26, 27, 28] (by decide) rfl
        refine lv_iconst (v := 1) hx hb dX1_restore_39 (by decide) ?_
        exact hret _ _ _ _ _ hP rfl hS dX1_restore_40
      · obtain rfl : k = 1 := ek
        refine lv_aload_n hx hb dX1_restore_26 rfl (lv_at hl 0 rfl) ?_
        refine va_get (D := D) (ci := 1) (v := .ref h) (C := RX1) (T := TX1) (N := 4) hx hb hts iw_X1_restore_X1 hown hE.1 hP 0 rfl rfl 0 (by decide) (hts (.fieldLink RX1 12 "EchoTaps" "line" "LEchoTaps$Line;") (by decide +kernel)) (fun _ h9 => h9) rfl dX1_restore_27 ?_
        refine lv_aload_n hx hb dX1_restore_30 rfl (lv_at hl 0 rfl) ?_
        refine va_get (D := D) (ci := 1) (v := .ref i) (C := RX1) (T := TX1) (N := 4) hx hb hts iw_X1_restore_X1 hown hE.1 hP 0 rfl rfl 2 (by decide) (hts (.fieldLink RX1 19 "EchoTaps" "images" "[LEchoTaps$Line;") (by decide +kernel)) (fun _ h9 => h9) rfl dX1_restore_31 ?_
        refine lv_iload_n hx hb dX1_restore_34 rfl (lv_at hl 1 rfl) ?_
        refine va_aldq hx hb hE.1 hP 1 2 rfl rfl (vp_in_nI (n := 1) (N := 2) (by decide) (by decide)) dX1_restore_35 ?_
        refine W.eq (g2 := F0 m 36 ls [.ref h1, .ref h]) rfl ?_
        have hP : va_P D vwCl ([EO ob h t i kp] ++ ([AO cR i h0 h1] ++ ((LW cA h0 a0 s0) ++ ((LW cA h1 a1 s1) ++ (LW cA h as st))))) H := hP.sub [0, 1, 11, 12, 13, 14, 15, 16, 17, 18, 19, 20, 21, 22, 23, 24, 25, 26, 27, 28, 2, 3, 4, 5, 6, 7, 8, 9, 10] rfl
        have hD : va_D A ([EO ob h t i kp] ++ ([AO cR i h0 h1] ++ ((LW cA h0 a0 s0) ++ ((LW cA h1 a1 s1) ++ (LW cA h as st))))) := hD.sub [0, 1, 11, 12, 13, 14, 15, 16, 17, 18, 19, 20, 21, 22, 23, 24, 25, 26, 27, 28, 2, 3, 4, 5, 6, 7, 8, 9, 10] (by decide) rfl
        refine bm_v ([EO ob h t i kp] ++ ([AO cR i h0 h1] ++ (LW cA h0 a0 s0))) ((LW cA h1 a1 s1) ++ (LW cA h as st)) [] [.ref h1] [] ⟨hx, hb, hml, hown, hts⟩ (c_X0_copyFrom l D cA cZ cR h as st h1 a1 s1) (cwV 1 hts gX1_restore_X0_copyFrom rfl rfl rfl (by decide +kernel) ⟨Nat.le_of_ble_eq_true rfl, Nat.le_of_ble_eq_true rfl⟩) hE hP hD hS hA LLW_adr 9 0 rfl rfl rfl hl.1 rfl (Nat.le_of_ble_eq_true rfl) dX1_restore_36 ⟨Nat.zero_le _, Nat.zero_le _⟩ (fun H locs hP hD hS => ?_)
        have hP : va_P D vwCl ([EO ob h t i kp] ++ ([AO cR i h0 h1] ++ ((LW cA h0 a0 s0) ++ ((LW cA h1 a1 s1) ++ (LW cA h as s1))))) H := hP
        have hD : va_D A ([EO ob h t i kp] ++ ([AO cR i h0 h1] ++ ((LW cA h0 a0 s0) ++ ((LW cA h1 a1 s1) ++ (LW cA h as s1))))) := hD
        have hP : va_P D vwCl ([EO ob h t i kp] ++ ([AO cR i h0 h1] ++ ((LW cA h as s1) ++ ((LW cA h0 a0 s0) ++ (LW cA h1 a1 s1))))) H := hP.sub [0, 1, 20, 21, 22, 23, 24, 25, 26, 27, 28, 2, 3, 4, 5, 6, 7, 8, 9, 10, 11, 12, 13, 14, 15, 16, 17, 18, 19] rfl
        have hD : va_D A ([EO ob h t i kp] ++ ([AO cR i h0 h1] ++ ((LW cA h as s1) ++ ((LW cA h0 a0 s0) ++ (LW cA h1 a1 s1))))) := hD.sub [0, 1, 20, 21, 22, 23, 24, 25, 26, 27, 28, 2, 3, 4, 5, 6, 7, 8, 9, 10, 11, 12, 13, 14, 15, 16, 17, 18, 19] (by decide) rfl
        refine lv_iconst (v := 1) hx hb dX1_restore_39 (by decide) ?_
        exact hret _ _ _ _ _ hP rfl hS dX1_restore_40
    · have c_2 : (kp &&& ((1 : Int32) <<< ((k : Int32) &&& 31))) = 0 := c_2
      have e1 : xs_rest st s0 s1 kp k = st := by rw [xs_rest, if_neg c_1, xb, if_pos c_2]
      have e2 : xf_rest kp k = -3 := by rw [xf_rest, if_neg c_1, xb, if_pos c_2]
      refine lv_bipush (v := (-3)) hx hb dX1_restore_23 (by decide) ?_
      exact hret _ _ _ _ _ (by rw [e1]; exact hP) e2.symm hS dX1_restore_25
  · have c_1 : (pf_in k 0 1) = 0 := c_1
    have e1 : xs_rest st s0 s1 kp k = st := if_pos c_1
    refine lv_bipush (v := (-2)) hx hb dX1_restore_9 (by decide) ?_
    exact hret _ _ _ _ _ (by rw [e1]; exact hP) ((if_pos c_1).symm) hS dX1_restore_11
end
section
theorem lv_ri {p : Program} {l : Launch} {e : Env} {R : Room} {s : State} {m : MethodId} {args : Array Value} {below : List Frame} {meth : Method} {c : Code} {H : Heap} {locs : List Loc} {cells slots : Nat} {Q : State → Prop} {pc : Nat} {ls : Array Slot} {rest : List Value} {x y : Int32} (h : x = y) (k : W p l e R s m args below meth c H locs cells slots Q (F0 m pc ls (.int y :: rest))) : W p l e R s m args below meth c H locs cells slots Q (F0 m pc ls (.int x :: rest)) := h ▸ k
/-! the reference, as functions of its row of numbers -/
def DL (g : Fn) : Prop := ∃ d : Nat, d ≤ 15 ∧ g 4 = nI d
def LG (g : Fn) : Prop := ∃ d : Nat, d ≤ 15 ∧ g 21 = nI d
def mf_seen (g : Fn) (k : Nat) : Int32 := g (33 + k + (g 4).toNatClampNeg)
def mf_est (g : Fn) : Int32 := l_sum (fun k => g (5 + k) * mf_seen g k) 8 / 1024
def mf_mx (f : Fn) : Nat → Int32
  | 0 => 0
  | n + 1 => if pf_sz (f n) ≤ mf_mx f n then mf_mx f n else pf_sz (f n)
def mf_loud (g : Fn) : Int32 := mf_mx (fun i => g (33 + i)) 24
def mf_pow (g : Fn) : Int32 := l_sum (fun k => mf_seen g k * mf_seen g k) 8
def mf_cr (g : Fn) (p : Nat) : Bool := pf_al (fun i => decide (g (33 + i) = g (33 + i + p))) (16 - p)
def mf_sil (g : Fn) : Bool := pf_al (fun i => decide (g (33 + i) = 0)) 16
def mf_tone (g : Fn) : Nat := if mf_sil g = true then 0 else pf_ft (mf_cr g) 8 1
def mf_hold (g : Fn) : Fn := if ¬ g 30 = 1 then (if g 22 ≤ 0 then g else upd g 22 (g 22 - 1)) else upd g 22 (g 1)
def mf_ln (g : Fn) : Nat → Fn
  | 0 => g
  | k + 1 => upd (mf_ln g k) (5 + k) (pf_cl (mf_ln g k (5 + k) + ((mf_ln g k 0).toInt64 * (mf_ln g k 26).toInt64 * (mf_seen (mf_ln g k) k).toInt64 / (mf_ln g k 29).toInt64).toInt32) (-4096) 4095)
theorem mf_ln_out (g : Fn) : ∀ k, k ≤ 8 → ∀ j, (j < 5 ∨ 13 ≤ j) → mf_ln g k j = g j := by
  intro k
  induction k with
  | zero => intro _ j _; rfl
  | succ k ih =>
    intro hk j hj
    rw [mf_ln, pk_un (by omega)]
    exact ih (by omega) j hj
def mf_learn (g : Fn) : Fn := mf_ln g 8
def mf_nor (g : Fn) : Int32 := pf_ce (pf_nx (g 23)) (g 3)
def mf_nos (g : Fn) : Fn := upd g 23 (pf_nx (g 23))
def mf_or (g : Fn) : Int32 := if g 31 ≤ 0 then (if g 2 ≤ pf_sz (g 26) then pf_cl (g 26) (-2000) 2000 else mf_nor g) else g 73
def mf_os (g : Fn) : Fn := if g 31 ≤ 0 then (if g 2 ≤ pf_sz (g 26) then g else mf_nos g) else g
def mf_sk (g : Fn) (R M i : Nat) : Fn := fun j => if R + i < j ∧ j < R + M then g (j - 1) else g j
def mf_sh (g : Fn) (R M : Nat) (v : Int32) : Fn := upd (mf_sk g R M 0) R v
theorem mf_sk0 (g : Fn) (R M : Nat) (h : 1 ≤ M) : mf_sk g R M (M - 1) = g := by
  funext j
  unfold mf_sk
  rw [if_neg]
  omega
theorem mf_sk1 (g : Fn) (R M i : Nat) (h0 : 1 ≤ i) (h : i < M) : upd (mf_sk g R M i) (R + i) (mf_sk g R M i (R + i - 1)) = mf_sk g R M (i - 1) := by
  funext j
  by_cases e : j = R + i
  · subst e
    rw [pk_us]
    unfold mf_sk
    rw [if_neg (by omega), if_pos (by omega)]
  · rw [pk_un e]
    unfold mf_sk
    by_cases h2 : R + i < j ∧ j < R + M
    · rw [if_pos h2, if_pos (by omega)]
    · rw [if_neg h2, if_neg (by omega)]
def mf_ee (g : Fn) (far : Int32) (k : Nat) : Int32 := if k + (g 21).toNatClampNeg = 0 then far else g (33 + (k + (g 21).toNatClampNeg) - 1)
def mf_echo (g : Fn) (far : Int32) : Int32 := l_sum (fun k => g (13 + k) * mf_ee g far k) 8 / 1024
def mf_like (g : Fn) (d : Nat) : Int32 := l_sum (fun i => g (73 + i) * g (33 + i + d)) 24
def mf_sq (g : Fn) (r : Nat) : Int32 := l_sum (fun i => g (r + i) * g (r + i)) 32
def mf_tsz (g : Fn) : Int32 := l_sum (fun k => pf_sz (g (5 + k))) 8
abbrev rm_X2_seen : Room := { frames := 0, cells := 0, slots := 0, locals := 0 }
theorem iw_X2_seen_X2 : ∀ w ∈ wsX20, w ∈ wsX2_seen := by decide +kernel
set_option maxRecDepth 100000 in
set_option maxHeartbeats 4000000 in
theorem c_X2_seen (l : Launch) (D : va_G) (cA cZ cR : ClassId) (h : Nat) (as : Nat → Nat) (g im kp : Fn) (k : Nat) (hk7 : k ≤ 7) (hd : DL g) : BMi l D cA cZ cR yX2_seen wsX2_seen rm_X2_seen [.ref h, .int (nI k)] (MW cA cZ h as g im kp) (MW cA cZ h as g im kp) (mf_seen g k) := by
  refine bm_open (maxL := 2) (by decide) rfl rfl rfl (Nat.le_of_ble_eq_true rfl) ?_
  intro p e s m args below meth c A Q hx hb hml hts hown hE hP hD hA hS hret ls hl
  have hown : s.vm.findClass RX2 = some m.cls := hown
  have hl : lv_has ls 2 [(0, .ref h), (1, .int (nI k))] := hl
  obtain ⟨H, locs, eH, eL⟩ : ∃ (H : Heap) (locs : List Loc), H = s.heap ∧ locs = [] := ⟨_, _, rfl, rfl⟩
  rw [← eH, ← eL]
  rw [← eH] at hP
  have hS : va_S A s.heap H locs := by rw [eH, eL]; exact hS
  clear eH eL
  obtain ⟨d, hd15, ed⟩ := hd
  refine lv_aload_n hx hb dX2_seen_0 rfl (lv_at hl 0 rfl) ?_
  refine va_get (D := D) (ci := 2) (v := .ref (as 0)) (C := RX2) (T := TX2) (N := 3) hx hb hts iw_X2_seen_X2 hown hE.1 hP 0 rfl rfl 0 (by decide) (hts (.fieldLink RX2 7 "EchoTapsModel" "state" "[I") (by decide +kernel)) (fun _ h9 => h9) rfl dX2_seen_1 ?_
  refine lv_bipush (v := 33) hx hb dX2_seen_4 (by decide) ?_
  refine lv_iload_n hx hb dX2_seen_6 rfl (lv_at hl 1 rfl) ?_
  refine lv_iadd hx hb dX2_seen_7 ?_
  refine lv_ri (nI_add 33 k) ?_
  refine lv_aload_n hx hb dX2_seen_8 rfl (lv_at hl 0 rfl) ?_
  refine va_get (D := D) (ci := 2) (v := .ref (as 0)) (C := RX2) (T := TX2) (N := 3) hx hb hts iw_X2_seen_X2 hown hE.1 hP 0 rfl rfl 0 (by decide) (hts (.fieldLink RX2 7 "EchoTapsModel" "state" "[I") (by decide +kernel)) (fun _ h9 => h9) rfl dX2_seen_9 ?_
  refine lv_iconst (v := 4) hx hb dX2_seen_12 (by decide) ?_
  refine va_iald hx hb hE.1 hP 1 0 rfl rfl (vp_in_nI (n := 4) (N := 555) (by decide) (by decide)) dX2_seen_13 ?_
  refine lv_ri ed ?_
  refine lv_iadd hx hb dX2_seen_14 ?_
  refine lv_ri (nI_add (33 + k) d) ?_
  refine va_iald hx hb hE.1 hP 1 0 rfl rfl (vp_in_nI (by omega) (by decide)) dX2_seen_15 ?_
  refine lv_ri (congrArg g (nI_clamp (n := 33 + k + d) (by omega))) ?_
  exact hret _ _ _ _ _ hP (by rw [mf_seen, ed, nI_clamp (by omega)]) hS dX2_seen_16

abbrev rm_X2_estimate : Room := { frames := 1, cells := 0, slots := 0, locals := 21 }
theorem iw_X2_estimate_X2 : ∀ w ∈ wsX20, w ∈ wsX2_estimate := by decide +kernel
set_option maxRecDepth 100000 in
set_option maxHeartbeats 4000000 in
theorem c_X2_estimate (l : Launch) (D : va_G) (cA cZ cR : ClassId) (h : Nat) (as : Nat → Nat) (g im kp : Fn) (hd : DL g) : BMi l D cA cZ cR yX2_estimate wsX2_estimate rm_X2_estimate [.ref h] (MW cA cZ h as g im kp) (MW cA cZ h as g im kp) (mf_est g) := by
  refine bm_open (maxL := 3) (by decide) rfl rfl rfl (Nat.le_of_ble_eq_true rfl) ?_
  intro p e s m args below meth c A Q hx hb hml hts hown hE hP hD hA hS hret ls hl
  have hown : s.vm.findClass RX2 = some m.cls := hown
  have hl : lv_has ls 3 [(0, .ref h)] := hl
  obtain ⟨H, locs, eH, eL⟩ : ∃ (H : Heap) (locs : List Loc), H = s.heap ∧ locs = [] := ⟨_, _, rfl, rfl⟩
  rw [← eH, ← eL]
  rw [← eH] at hP
  have hS : va_S A s.heap H locs := by rw [eH, eL]; exact hS
  clear eH eL
  refine lv_iconst (v := 0) hx hb dX2_estimate_0 (by decide) ?_
  refine lv_istore_n (lv' := [(1, .int 0), (0, .ref h)]) hx hb dX2_estimate_1 rfl hl (by decide) rfl (fun ls hl => ?_)
  refine lv_iconst (v := 0) hx hb dX2_estimate_2 (by decide) ?_
  refine lv_istore_n (lv' := [(2, .int 0), (1, .int 0), (0, .ref h)]) hx hb dX2_estimate_3 rfl hl (by decide) rfl (fun ls hl => ?_)
  have loop : ∀ (n : Nat) (k : Nat) (a : Int32) (hk : k + n = 8) (ha : a = l_sum (fun k => g (5 + k) * mf_seen g k) k), ∀ (H : Heap) (locs : List Loc), va_P D vwCl (MW cA cZ h as g im kp) H → va_D A (MW cA cZ h as g im kp) → va_S A s.heap H locs → ∀ ls : Array Slot, lv_has ls 3 [(1, .int a), (2, .int (nI k)), (0, .ref h)] → W p l e rm_X2_estimate s m args below meth c H locs 0 0 Q (F0 m 4 ls []) := by
    intro n
    induction n with
    | zero =>
      intro k a hk ha H locs hP hD hS ls hl
      obtain rfl : k = 8 := by omega
      refine lv_iload_n hx hb dX2_estimate_4 rfl (lv_at hl 1 rfl) ?_
      refine lv_bipush (v := 8) hx hb dX2_estimate_5 (by decide) ?_
      refine lv_icmp_ge (tgt := 33) hx hb dX2_estimate_7 (by decide) (fun c_1 => ?_) (fun c_1 => absurd (by decide) c_1)
      refine lv_iload_n hx hb dX2_estimate_33 rfl (lv_at hl 0 rfl) ?_
      refine lv_sipush (v := 1024) hx hb dX2_estimate_34 (by decide) ?_
      refine lv_idiv hx hb dX2_estimate_37 (by decide) ?_
      exact hret _ _ _ _ _ hP (by rw [ha]; rfl) hS dX2_estimate_38
    | succ n ih =>
      intro k a hk ha H locs hP hD hS ls hl
      refine lv_iload_n hx hb dX2_estimate_4 rfl (lv_at hl 1 rfl) ?_
      refine lv_bipush (v := 8) hx hb dX2_estimate_5 (by decide) ?_
      refine lv_icmp_ge (tgt := 33) hx hb dX2_estimate_7 (by decide) (fun c_2 => absurd c_2 (nI_ge (a := k) (b := 8) (by omega) (by decide))) (fun c_2 => ?_)
      refine lv_iload_n hx hb dX2_estimate_10 rfl (lv_at hl 0 rfl) ?_
      refine lv_aload_n hx hb dX2_estimate_11 rfl (lv_at hl 2 rfl) ?_
      refine va_get (D := D) (ci := 2) (v := .ref (as 0)) (C := RX2) (T := TX2) (N := 3) hx hb hts iw_X2_estimate_X2 hown hE.1 hP 0 rfl rfl 0 (by decide) (hts (.fieldLink RX2 7 "EchoTapsModel" "state" "[I") (by decide +kernel)) (fun _ h9 => h9) rfl dX2_estimate_12 ?_
      refine lv_iconst (v := 5) hx hb dX2_estimate_15 (by decide) ?_
      refine lv_iload_n hx hb dX2_estimate_16 rfl (lv_at hl 1 rfl) ?_
      refine lv_iadd hx hb dX2_estimate_17 ?_
      refine lv_ri (nI_add 5 k) ?_
      refine va_iald hx hb hE.1 hP 1 0 rfl rfl (vp_in_nI (by omega) (by decide)) dX2_estimate_18 ?_
      refine lv_ri (congrArg g (nI_clamp (n := 5 + k) (by omega))) ?_
      refine lv_aload_n hx hb dX2_estimate_19 rfl (lv_at hl 2 rfl) ?_
      refine lv_iload_n hx hb dX2_estimate_20 rfl (lv_at hl 1 rfl) ?_
      refine bm_i [] (MW cA cZ h as g im kp) [] [.int (nI k)] [.int (g (5 + k)), .int a] ⟨hx, hb, hml, hown, hts⟩ (c_X2_seen l D cA cZ cR h as g im kp k (by omega) hd) (cwV 1 hts gX2_estimate_X2_seen rfl rfl rfl (by decide +kernel) ⟨Nat.le_of_ble_eq_true rfl, Nat.le_of_ble_eq_true rfl⟩) hE hP hD hS hA MW_adr 0 2 rfl rfl rfl hl.1 rfl (Nat.le_of_ble_eq_true rfl) dX2_estimate_21 ⟨Nat.zero_le _, Nat.zero_le _⟩ (fun H locs hP hD hS => ?_)
      have hP : va_P D vwCl (MW cA cZ h as g im kp) H := hP
      have hD : va_D A (MW cA cZ h as g im kp) := hD
      refine lv_imul hx hb dX2_estimate_24 ?_
      refine lv_iadd hx hb dX2_estimate_25 ?_
      refine lv_istore_n (lv' := [(1, .int (a + ((g (5 + k)) * (mf_seen g k)))), (2, .int (nI k)), (0, .ref h)]) hx hb dX2_estimate_26 rfl hl (by decide) rfl (fun ls hl => ?_)
      refine lv_iinc (v := nI (k + 1)) (lv' := [(2, .int (nI (k + 1))), (1, .int (a + ((g (5 + k)) * (mf_seen g k)))), (0, .ref h)]) hx hb dX2_estimate_27 hl (k := 1) rfl (nI_1 k) (by decide) rfl (fun ls hl => ?_)
      refine lv_goto (tgt := 4) hx hb dX2_estimate_30 (by decide) ?_
      exact ih (k + 1) _ (by omega) (by rw [ha]; rfl) H locs hP hD hS ls (lv_sub hl [1, 0, 2] rfl)
  exact loop 8 0 0 rfl rfl H locs hP hD hS ls (lv_sub hl [1, 0, 2] rfl)

abbrev rm_X2_power : Room := { frames := 1, cells := 0, slots := 0, locals := 21 }
set_option maxRecDepth 100000 in
set_option maxHeartbeats 4000000 in
theorem c_X2_power (l : Launch) (D : va_G) (cA cZ cR : ClassId) (h : Nat) (as : Nat → Nat) (g im kp : Fn) (hd : DL g) : BMi l D cA cZ cR yX2_power wsX2_power rm_X2_power [.ref h] (MW cA cZ h as g im kp) (MW cA cZ h as g im kp) (mf_pow g) := by
  refine bm_open (maxL := 3) (by decide) rfl rfl rfl (Nat.le_of_ble_eq_true rfl) ?_
  intro p e s m args below meth c A Q hx hb hml hts hown hE hP hD hA hS hret ls hl
  have hown : s.vm.findClass RX2 = some m.cls := hown
  have hl : lv_has ls 3 [(0, .ref h)] := hl
  obtain ⟨H, locs, eH, eL⟩ : ∃ (H : Heap) (locs : List Loc), H = s.heap ∧ locs = [] := ⟨_, _, rfl, rfl⟩
  rw [← eH, ← eL]
  rw [← eH] at hP
  have hS : va_S A s.heap H locs := by rw [eH, eL]; exact hS
  clear eH eL
  refine lv_iconst (v := 0) hx hb dX2_power_0 (by decide) ?_
  refine lv_istore_n (lv' := [(1, .int 0), (0, .ref h)]) hx hb dX2_power_1 rfl hl (by decide) rfl (fun ls hl => ?_)
  refine lv_iconst (v := 0) hx hb dX2_power_2 (by decide) ?_
  refine lv_istore_n (lv' := [(2, .int 0), (1, .int 0), (0, .ref h)]) hx hb dX2_power_3 rfl hl (by decide) rfl (fun ls hl => ?_)
  have loop : ∀ (n : Nat) (k : Nat) (a : Int32) (hk : k + n = 8) (ha : a = l_sum (fun k => mf_seen g k * mf_seen g k) k), ∀ (H : Heap) (locs : List Loc), va_P D vwCl (MW cA cZ h as g im kp) H → va_D A (MW cA cZ h as g im kp) → va_S A s.heap H locs → ∀ ls : Array Slot, lv_has ls 3 [(1, .int a), (2, .int (nI k)), (0, .ref h)] → W p l e rm_X2_power s m args below meth c H locs 0 0 Q (F0 m 4 ls []) := by
    intro n
    induction n with
    | zero =>
      intro k a hk ha H locs hP hD hS ls hl
      obtain rfl : k = 8 := by omega
      refine lv_iload_n hx hb dX2_power_4 rfl (lv_at hl 1 rfl) ?_
      refine lv_bipush (v := 8) hx hb dX2_power_5 (by decide) ?_
      refine lv_icmp_ge (tgt := 30) hx hb dX2_power_7 (by decide) (fun c_1 => ?_) (fun c_1 => absurd (by decide) c_1)
      refine lv_iload_n hx hb dX2_power_30 rfl (lv_at hl 0 rfl) ?_
      exact hret _ _ _ _ _ hP (by rw [ha]; rfl) hS dX2_power_31
    | succ n ih =>
      intro k a hk ha H locs hP hD hS ls hl
      refine lv_iload_n hx hb dX2_power_4 rfl (lv_at hl 1 rfl) ?_
      refine lv_bipush (v := 8) hx hb dX2_power_5 (by decide) ?_
      refine lv_icmp_ge (tgt := 30) hx hb dX2_power_7 (by decide) (fun c_2 => absurd c_2 (nI_ge (a := k) (b := 8) (by omega) (by decide))) (fun c_2 => ?_)
      refine lv_iload_n hx hb dX2_power_10 rfl (lv_at hl 0 rfl) ?_
      refine lv_aload_n hx hb dX2_power_11 rfl (lv_at hl 2 rfl) ?_
      refine lv_iload_n hx hb dX2_power_12 rfl (lv_at hl 1 rfl) ?_
      refine bm_i [] (MW cA cZ h as g im kp) [] [.int (nI k)] [.int a] ⟨hx, hb, hml, hown, hts⟩ (c_X2_seen l D cA cZ cR h as g im kp k (by omega) hd) (cwV 1 hts gX2_power_X2_seen rfl rfl rfl (by decide +kernel) ⟨Nat.le_of_ble_eq_true rfl, Nat.le_of_ble_eq_true rfl⟩) hE hP hD hS hA MW_adr 0 2 rfl rfl rfl hl.1 rfl (Nat.le_of_ble_eq_true rfl) dX2_power_13 ⟨Nat.zero_le _, Nat.zero_le _⟩ (fun H locs hP hD hS => ?_)
      have hP : va_P D vwCl (MW cA cZ h as g im kp) H := hP
      have hD : va_D A (MW cA cZ h as g im kp) := hD
      refine lv_aload_n hx hb dX2_power_16 rfl (lv_at hl 2 rfl) ?_
      refine lv_iload_n hx hb dX2_power_17 rfl (lv_at hl 1 rfl) ?_
      refine bm_i [] (MW cA cZ h as g im kp) [] [.int (nI k)] [.int (mf_seen g k), .int a] ⟨hx, hb, hml, hown, hts⟩ (c_X2_seen l D cA cZ cR h as g im kp k (by omega) hd) (cwV 1 hts gX2_power_X2_seen rfl rfl rfl (by decide +kernel) ⟨Nat.le_of_ble_eq_true rfl, Nat.le_of_ble_eq_true rfl⟩) hE hP hD hS hA MW_adr 0 2 rfl rfl rfl hl.1 rfl (Nat.le_of_ble_eq_true rfl) dX2_power_18 ⟨Nat.zero_le _, Nat.zero_le _⟩ (fun H locs hP hD hS => ?_)
      have hP : va_P D vwCl (MW cA cZ h as g im kp) H := hP
      have hD : va_D A (MW cA cZ h as g im kp) := hD
      refine lv_imul hx hb dX2_power_21 ?_
      refine lv_iadd hx hb dX2_power_22 ?_
      refine lv_istore_n (lv' := [(1, .int (a + ((mf_seen g k) * (mf_seen g k)))), (2, .int (nI k)), (0, .ref h)]) hx hb dX2_power_23 rfl hl (by decide) rfl (fun ls hl => ?_)
      refine lv_iinc (v := nI (k + 1)) (lv' := [(2, .int (nI (k + 1))), (1, .int (a + ((mf_seen g k) * (mf_seen g k)))), (0, .ref h)]) hx hb dX2_power_24 hl (k := 1) rfl (nI_1 k) (by decide) rfl (fun ls hl => ?_)
      refine lv_goto (tgt := 4) hx hb dX2_power_27 (by decide) ?_
      exact ih (k + 1) _ (by omega) (by rw [ha]; rfl) H locs hP hD hS ls (lv_sub hl [1, 0, 2] rfl)
  exact loop 8 0 0 rfl rfl H locs hP hD hS ls (lv_sub hl [1, 0, 2] rfl)

abbrev rm_X2_loud : Room := { frames := 1, cells := 0, slots := 0, locals := 20 }
theorem iw_X2_loud_X2 : ∀ w ∈ wsX20, w ∈ wsX2_loud := by decide +kernel
set_option maxRecDepth 100000 in
set_option maxHeartbeats 4000000 in
theorem c_X2_loud (l : Launch) (D : va_G) (cA cZ cR : ClassId) (h : Nat) (as : Nat → Nat) (g im kp : Fn) : BMi l D cA cZ cR yX2_loud wsX2_loud rm_X2_loud [.ref h] (MW cA cZ h as g im kp) (MW cA cZ h as g im kp) (mf_loud g) := by
  refine bm_open (maxL := 3) (by decide) rfl rfl rfl (Nat.le_of_ble_eq_true rfl) ?_
  intro p e s m args below meth c A Q hx hb hml hts hown hE hP hD hA hS hret ls hl
  have hown : s.vm.findClass RX2 = some m.cls := hown
  have hl : lv_has ls 3 [(0, .ref h)] := hl
  obtain ⟨H, locs, eH, eL⟩ : ∃ (H : Heap) (locs : List Loc), H = s.heap ∧ locs = [] := ⟨_, _, rfl, rfl⟩
  rw [← eH, ← eL]
  rw [← eH] at hP
  have hS : va_S A s.heap H locs := by rw [eH, eL]; exact hS
  clear eH eL
  refine lv_iconst (v := 0) hx hb dX2_loud_0 (by decide) ?_
  refine lv_istore_n (lv' := [(1, .int 0), (0, .ref h)]) hx hb dX2_loud_1 rfl hl (by decide) rfl (fun ls hl => ?_)
  refine lv_iconst (v := 0) hx hb dX2_loud_2 (by decide) ?_
  refine lv_istore_n (lv' := [(2, .int 0), (1, .int 0), (0, .ref h)]) hx hb dX2_loud_3 rfl hl (by decide) rfl (fun ls hl => ?_)
  have loop : ∀ (n : Nat) (k : Nat) (a : Int32) (hk : k + n = 24) (ha : a = mf_mx (fun i => g (33 + i)) k), ∀ (H : Heap) (locs : List Loc), va_P D vwCl (MW cA cZ h as g im kp) H → va_D A (MW cA cZ h as g im kp) → va_S A s.heap H locs → ∀ ls : Array Slot, lv_has ls 3 [(1, .int a), (2, .int (nI k)), (0, .ref h)] → W p l e rm_X2_loud s m args below meth c H locs 0 0 Q (F0 m 4 ls []) := by
    intro n
    induction n with
    | zero =>
      intro k a hk ha H locs hP hD hS ls hl
      obtain rfl : k = 24 := by omega
      refine lv_iload_n hx hb dX2_loud_4 rfl (lv_at hl 1 rfl) ?_
      refine lv_bipush (v := 24) hx hb dX2_loud_5 (by decide) ?_
      refine lv_icmp_ge (tgt := 49) hx hb dX2_loud_7 (by decide) (fun c_1 => ?_) (fun c_1 => absurd (by decide) c_1)
      refine lv_iload_n hx hb dX2_loud_49 rfl (lv_at hl 0 rfl) ?_
      exact hret _ _ _ _ _ hP (by rw [ha]; rfl) hS dX2_loud_50
    | succ n ih =>
      intro k a hk ha H locs hP hD hS ls hl
      refine lv_iload_n hx hb dX2_loud_4 rfl (lv_at hl 1 rfl) ?_
      refine lv_bipush (v := 24) hx hb dX2_loud_5 (by decide) ?_
      refine lv_icmp_ge (tgt := 49) hx hb dX2_loud_7 (by decide) (fun c_2 => absurd c_2 (nI_ge (a := k) (b := 24) (by omega) (by decide))) (fun c_2 => ?_)
      refine lv_aload_n hx hb dX2_loud_10 rfl (lv_at hl 2 rfl) ?_
      refine va_get (D := D) (ci := 2) (v := .ref (as 0)) (C := RX2) (T := TX2) (N := 3) hx hb hts iw_X2_loud_X2 hown hE.1 hP 0 rfl rfl 0 (by decide) (hts (.fieldLink RX2 7 "EchoTapsModel" "state" "[I") (by decide +kernel)) (fun _ h9 => h9) rfl dX2_loud_11 ?_
      refine lv_bipush (v := 33) hx hb dX2_loud_14 (by decide) ?_
      refine lv_iload_n hx hb dX2_loud_16 rfl (lv_at hl 1 rfl) ?_
      refine lv_iadd hx hb dX2_loud_17 ?_
      refine lv_ri (nI_add 33 k) ?_
      refine va_iald hx hb hE.1 hP 1 0 rfl rfl (vp_in_nI (by omega) (by decide)) dX2_loud_18 ?_
      refine lv_ri (congrArg g (nI_clamp (n := 33 + k) (by omega))) ?_
      refine sm_i [.int (g (33 + k))] [] ⟨hx, hb, hml, hown, hts⟩ (c_X2_size l (g (33 + k))) (va_cwS 1 hts gX2_loud_X2_size rfl rfl rfl (by decide +kernel) ⟨Nat.le_of_ble_eq_true rfl, Nat.le_of_ble_eq_true rfl⟩) rfl hl.1 rfl (Nat.le_of_ble_eq_true rfl) dX2_loud_19 ⟨Nat.zero_le _, Nat.zero_le _⟩ ?_
      refine lv_iload_n hx hb dX2_loud_22 rfl (lv_at hl 0 rfl) ?_
      have j42 : ∀ (v : Int32) (ev : v = if pf_sz (g (33 + k)) ≤ a then a else pf_sz (g (33 + k))), W p l e rm_X2_loud s m args below meth c H locs 0 0 Q (F0 m 42 ls [.int v]) := by
        intro v ev
        refine lv_istore_n (lv' := [(1, .int v), (2, .int (nI k)), (0, .ref h)]) hx hb dX2_loud_42 rfl hl (by decide) rfl (fun ls hl => ?_)
        refine lv_iinc (v := nI (k + 1)) (lv' := [(2, .int (nI (k + 1))), (1, .int v), (0, .ref h)]) hx hb dX2_loud_43 hl (k := 1) rfl (nI_1 k) (by decide) rfl (fun ls hl => ?_)
        refine lv_goto (tgt := 4) hx hb dX2_loud_46 (by decide) ?_
        exact ih (k + 1) _ (by omega) (by rw [mf_mx, ← ha, ev]) H locs hP hD hS ls (lv_sub hl [1, 0, 2] rfl)
      refine lv_icmp_le (tgt := 41) hx hb dX2_loud_23 (by decide) (fun c_3 => ?_) (fun c_3 => ?_)
      · have c_3 : (pf_sz (g (33 + k))) ≤ a := c_3
        refine lv_iload_n hx hb dX2_loud_41 rfl (lv_at hl 0 rfl) ?_
        exact j42 _ (if_pos c_3).symm
      · have c_3 : ¬ (pf_sz (g (33 + k))) ≤ a := c_3
        refine lv_aload_n hx hb dX2_loud_26 rfl (lv_at hl 2 rfl) ?_
        refine va_get (D := D) (ci := 2) (v := .ref (as 0)) (C := RX2) (T := TX2) (N := 3) hx hb hts iw_X2_loud_X2 hown hE.1 hP 0 rfl rfl 0 (by decide) (hts (.fieldLink RX2 7 "EchoTapsModel" "state" "[I") (by decide +kernel)) (fun _ h9 => h9) rfl dX2_loud_27 ?_
        refine lv_bipush (v := 33) hx hb dX2_loud_30 (by decide) ?_
        refine lv_iload_n hx hb dX2_loud_32 rfl (lv_at hl 1 rfl) ?_
        refine lv_iadd hx hb dX2_loud_33 ?_
        refine lv_ri (nI_add 33 k) ?_
        refine va_iald hx hb hE.1 hP 1 0 rfl rfl (vp_in_nI (by omega) (by decide)) dX2_loud_34 ?_
        refine lv_ri (congrArg g (nI_clamp (n := 33 + k) (by omega))) ?_
        refine sm_i [.int (g (33 + k))] [] ⟨hx, hb, hml, hown, hts⟩ (c_X2_size l (g (33 + k))) (va_cwS 1 hts gX2_loud_X2_size rfl rfl rfl (by decide +kernel) ⟨Nat.le_of_ble_eq_true rfl, Nat.le_of_ble_eq_true rfl⟩) rfl hl.1 rfl (Nat.le_of_ble_eq_true rfl) dX2_loud_35 ⟨Nat.zero_le _, Nat.zero_le _⟩ ?_
        refine lv_goto (tgt := 42) hx hb dX2_loud_38 (by decide) ?_
        exact j42 _ (if_neg c_3).symm
  exact loop 24 0 0 rfl rfl H locs hP hD hS ls (lv_sub hl [1, 0, 2] rfl)

abbrev rm_X2_likenessOf : Room := { frames := 0, cells := 0, slots := 0, locals := 0 }
theorem iw_X2_likenessOf_X2 : ∀ w ∈ wsX20, w ∈ wsX2_likenessOf := by decide +kernel
set_option maxRecDepth 100000 in
set_option maxHeartbeats 4000000 in
theorem c_X2_likenessOf (l : Launch) (D : va_G) (cA cZ cR : ClassId) (h : Nat) (as : Nat → Nat) (g im kp : Fn) (d : Nat) (hd15 : d ≤ 15) : BMi l D cA cZ cR yX2_likenessOf wsX2_likenessOf rm_X2_likenessOf [.ref h, .int (nI d)] (MW cA cZ h as g im kp) (MW cA cZ h as g im kp) (mf_like g d) := by
  refine bm_open (maxL := 4) (by decide) rfl rfl rfl (Nat.le_of_ble_eq_true rfl) ?_
  intro p e s m args below meth c A Q hx hb hml hts hown hE hP hD hA hS hret ls hl
  have hown : s.vm.findClass RX2 = some m.cls := hown
  have hl : lv_has ls 4 [(0, .ref h), (1, .int (nI d))] := hl
  obtain ⟨H, locs, eH, eL⟩ : ∃ (H : Heap) (locs : List Loc), H = s.heap ∧ locs = [] := ⟨_, _, rfl, rfl⟩
  rw [← eH, ← eL]
  rw [← eH] at hP
  have hS : va_S A s.heap H locs := by rw [eH, eL]; exact hS
  clear eH eL
  refine lv_iconst (v := 0) hx hb dX2_likenessOf_0 (by decide) ?_
  refine lv_istore_n (lv' := [(2, .int 0), (0, .ref h), (1, .int (nI d))]) hx hb dX2_likenessOf_1 rfl hl (by decide) rfl (fun ls hl => ?_)
  refine lv_iconst (v := 0) hx hb dX2_likenessOf_2 (by decide) ?_
  refine lv_istore_n (lv' := [(3, .int 0), (2, .int 0), (0, .ref h), (1, .int (nI d))]) hx hb dX2_likenessOf_3 rfl hl (by decide) rfl (fun ls hl => ?_)
  have loop : ∀ (n : Nat) (k : Nat) (a : Int32) (hk : k + n = 24) (ha : a = l_sum (fun i => g (73 + i) * g (33 + i + d)) k), ∀ (H : Heap) (locs : List Loc), va_P D vwCl (MW cA cZ h as g im kp) H → va_D A (MW cA cZ h as g im kp) → va_S A s.heap H locs → ∀ ls : Array Slot, lv_has ls 4 [(2, .int a), (3, .int (nI k)), (1, .int (nI d)), (0, .ref h)] → W p l e rm_X2_likenessOf s m args below meth c H locs 0 0 Q (F0 m 4 ls []) := by
    intro n
    induction n with
    | zero =>
      intro k a hk ha H locs hP hD hS ls hl
      obtain rfl : k = 24 := by omega
      refine lv_iload_n hx hb dX2_likenessOf_4 rfl (lv_at hl 1 rfl) ?_
      refine lv_bipush (v := 24) hx hb dX2_likenessOf_5 (by decide) ?_
      refine lv_icmp_ge (tgt := 40) hx hb dX2_likenessOf_7 (by decide) (fun c_1 => ?_) (fun c_1 => absurd (by decide) c_1)
      refine lv_iload_n hx hb dX2_likenessOf_40 rfl (lv_at hl 0 rfl) ?_
      exact hret _ _ _ _ _ hP (by rw [ha]; rfl) hS dX2_likenessOf_41
    | succ n ih =>
      intro k a hk ha H locs hP hD hS ls hl
      refine lv_iload_n hx hb dX2_likenessOf_4 rfl (lv_at hl 1 rfl) ?_
      refine lv_bipush (v := 24) hx hb dX2_likenessOf_5 (by decide) ?_
      refine lv_icmp_ge (tgt := 40) hx hb dX2_likenessOf_7 (by decide) (fun c_2 => absurd c_2 (nI_ge (a := k) (b := 24) (by omega) (by decide))) (fun c_2 => ?_)
      refine lv_iload_n hx hb dX2_likenessOf_10 rfl (lv_at hl 0 rfl) ?_
      refine lv_aload_n hx hb dX2_likenessOf_11 rfl (lv_at hl 3 rfl) ?_
      refine va_get (D := D) (ci := 2) (v := .ref (as 0)) (C := RX2) (T := TX2) (N := 3) hx hb hts iw_X2_likenessOf_X2 hown hE.1 hP 0 rfl rfl 0 (by decide) (hts (.fieldLink RX2 7 "EchoTapsModel" "state" "[I") (by decide +kernel)) (fun _ h9 => h9) rfl dX2_likenessOf_12 ?_
      refine lv_bipush (v := 73) hx hb dX2_likenessOf_15 (by decide) ?_
      refine lv_iload_n hx hb dX2_likenessOf_17 rfl (lv_at hl 1 rfl) ?_
      refine lv_iadd hx hb dX2_likenessOf_18 ?_
      refine lv_ri (nI_add 73 k) ?_
      refine va_iald hx hb hE.1 hP 1 0 rfl rfl (vp_in_nI (by omega) (by decide)) dX2_likenessOf_19 ?_
      refine lv_ri (congrArg g (nI_clamp (n := 73 + k) (by omega))) ?_
      refine lv_aload_n hx hb dX2_likenessOf_20 rfl (lv_at hl 3 rfl) ?_
      refine va_get (D := D) (ci := 2) (v := .ref (as 0)) (C := RX2) (T := TX2) (N := 3) hx hb hts iw_X2_likenessOf_X2 hown hE.1 hP 0 rfl rfl 0 (by decide) (hts (.fieldLink RX2 7 "EchoTapsModel" "state" "[I") (by decide +kernel)) (fun _ h9 => h9) rfl dX2_likenessOf_21 ?_
      refine lv_bipush (v := 33) hx hb dX2_likenessOf_24 (by decide) ?_
      refine lv_iload_n hx hb dX2_likenessOf_26 rfl (lv_at hl 1 rfl) ?_
      refine lv_iadd hx hb dX2_likenessOf_27 ?_
      refine lv_ri (nI_add 33 k) ?_
      refine lv_iload_n hx hb dX2_likenessOf_28 rfl (lv_at hl 2 rfl) ?_
      refine lv_iadd hx hb dX2_likenessOf_29 ?_
      refine lv_ri (nI_add (33 + k) d) ?_
      refine va_iald hx hb hE.1 hP 1 0 rfl rfl (vp_in_nI (by omega) (by decide)) dX2_likenessOf_30 ?_
      refine lv_ri (congrArg g (nI_clamp (n := 33 + k + d) (by omega))) ?_
      refine lv_imul hx hb dX2_likenessOf_31 ?_
      refine lv_iadd hx hb dX2_likenessOf_32 ?_
      refine lv_istore_n (lv' := [(2, .int (a + ((g (73 + k)) * (g (33 + k + d))))), (3, .int (nI k)), (1, .int (nI d)), (0, .ref h)]) hx hb dX2_likenessOf_33 rfl hl (by decide) rfl (fun ls hl => ?_)
      refine lv_iinc (v := nI (k + 1)) (lv' := [(3, .int (nI (k + 1))), (2, .int (a + ((g (73 + k)) * (g (33 + k + d))))), (1, .int (nI d)), (0, .ref h)]) hx hb dX2_likenessOf_34 hl (k := 1) rfl (nI_1 k) (by decide) rfl (fun ls hl => ?_)
      refine lv_goto (tgt := 4) hx hb dX2_likenessOf_37 (by decide) ?_
      exact ih (k + 1) _ (by omega) (by rw [ha]; rfl) H locs hP hD hS ls (lv_sub hl [1, 0, 2, 3] rfl)
  exact loop 24 0 0 rfl rfl H locs hP hD hS ls (lv_sub hl [1, 0, 3, 2] rfl)

abbrev rm_X2_squares : Room := { frames := 0, cells := 0, slots := 0, locals := 0 }
theorem iw_X2_squares_X2 : ∀ w ∈ wsX20, w ∈ wsX2_squares := by decide +kernel
set_option maxRecDepth 100000 in
set_option maxHeartbeats 4000000 in
theorem c_X2_squares (l : Launch) (D : va_G) (cA cZ cR : ClassId) (h : Nat) (as : Nat → Nat) (g im kp : Fn) (r : Nat) (hr5 : r ≤ 500) : BMi l D cA cZ cR yX2_squares wsX2_squares rm_X2_squares [.ref h, .int (nI r)] (MW cA cZ h as g im kp) (MW cA cZ h as g im kp) (mf_sq g r) := by
  refine bm_open (maxL := 4) (by decide) rfl rfl rfl (Nat.le_of_ble_eq_true rfl) ?_
  intro p e s m args below meth c A Q hx hb hml hts hown hE hP hD hA hS hret ls hl
  have hown : s.vm.findClass RX2 = some m.cls := hown
  have hl : lv_has ls 4 [(0, .ref h), (1, .int (nI r))] := hl
  obtain ⟨H, locs, eH, eL⟩ : ∃ (H : Heap) (locs : List Loc), H = s.heap ∧ locs = [] := ⟨_, _, rfl, rfl⟩
  rw [← eH, ← eL]
  rw [← eH] at hP
  have hS : va_S A s.heap H locs := by rw [eH, eL]; exact hS
  clear eH eL
  refine lv_iconst (v := 0) hx hb dX2_squares_0 (by decide) ?_
  refine lv_istore_n (lv' := [(2, .int 0), (0, .ref h), (1, .int (nI r))]) hx hb dX2_squares_1 rfl hl (by decide) rfl (fun ls hl => ?_)
  refine lv_iconst (v := 0) hx hb dX2_squares_2 (by decide) ?_
  refine lv_istore_n (lv' := [(3, .int 0), (2, .int 0), (0, .ref h), (1, .int (nI r))]) hx hb dX2_squares_3 rfl hl (by decide) rfl (fun ls hl => ?_)
  have loop : ∀ (n : Nat) (k : Nat) (a : Int32) (hk : k + n = 32) (ha : a = l_sum (fun i => g (r + i) * g (r + i)) k), ∀ (H : Heap) (locs : List Loc), va_P D vwCl (MW cA cZ h as g im kp) H → va_D A (MW cA cZ h as g im kp) → va_S A s.heap H locs → ∀ ls : Array Slot, lv_has ls 4 [(2, .int a), (3, .int (nI k)), (1, .int (nI r)), (0, .ref h)] → W p l e rm_X2_squares s m args below meth c H locs 0 0 Q (F0 m 4 ls []) := by
    intro n
    induction n with
    | zero =>
      intro k a hk ha H locs hP hD hS ls hl
      obtain rfl : k = 32 := by omega
      refine lv_iload_n hx hb dX2_squares_4 rfl (lv_at hl 1 rfl) ?_
      refine lv_bipush (v := 32) hx hb dX2_squares_5 (by decide) ?_
      refine lv_icmp_ge (tgt := 36) hx hb dX2_squares_7 (by decide) (fun c_1 => ?_) (fun c_1 => absurd (by decide) c_1)
      refine lv_iload_n hx hb dX2_squares_36 rfl (lv_at hl 0 rfl) ?_
      exact hret _ _ _ _ _ hP (by rw [ha]; rfl) hS dX2_squares_37
    | succ n ih =>
      intro k a hk ha H locs hP hD hS ls hl
      refine lv_iload_n hx hb dX2_squares_4 rfl (lv_at hl 1 rfl) ?_
      refine lv_bipush (v := 32) hx hb dX2_squares_5 (by decide) ?_
      refine lv_icmp_ge (tgt := 36) hx hb dX2_squares_7 (by decide) (fun c_2 => absurd c_2 (nI_ge (a := k) (b := 32) (by omega) (by decide))) (fun c_2 => ?_)
      refine lv_iload_n hx hb dX2_squares_10 rfl (lv_at hl 0 rfl) ?_
      refine lv_aload_n hx hb dX2_squares_11 rfl (lv_at hl 3 rfl) ?_
      refine va_get (D := D) (ci := 2) (v := .ref (as 0)) (C := RX2) (T := TX2) (N := 3) hx hb hts iw_X2_squares_X2 hown hE.1 hP 0 rfl rfl 0 (by decide) (hts (.fieldLink RX2 7 "EchoTapsModel" "state" "[I") (by decide +kernel)) (fun _ h9 => h9) rfl dX2_squares_12 ?_
      refine lv_iload_n hx hb dX2_squares_15 rfl (lv_at hl 2 rfl) ?_
      refine lv_iload_n hx hb dX2_squares_16 rfl (lv_at hl 1 rfl) ?_
      refine lv_iadd hx hb dX2_squares_17 ?_
      refine lv_ri (nI_add r k) ?_
      refine va_iald hx hb hE.1 hP 1 0 rfl rfl (vp_in_nI (by omega) (by decide)) dX2_squares_18 ?_
      refine lv_ri (congrArg g (nI_clamp (n := r + k) (by omega))) ?_
      refine lv_aload_n hx hb dX2_squares_19 rfl (lv_at hl 3 rfl) ?_
      refine va_get (D := D) (ci := 2) (v := .ref (as 0)) (C := RX2) (T := TX2) (N := 3) hx hb hts iw_X2_squares_X2 hown hE.1 hP 0 rfl rfl 0 (by decide) (hts (.fieldLink RX2 7 "EchoTapsModel" "state" "[I") (by decide +kernel)) (fun _ h9 => h9) rfl dX2_squares_20 ?_
      refine lv_iload_n hx hb dX2_squares_23 rfl (lv_at hl 2 rfl) ?_
      refine lv_iload_n hx hb dX2_squares_24 rfl (lv_at hl 1 rfl) ?_
      refine lv_iadd hx hb dX2_squares_25 ?_
      refine lv_ri (nI_add r k) ?_
      refine va_iald hx hb hE.1 hP 1 0 rfl rfl (vp_in_nI (by omega) (by decide)) dX2_squares_26 ?_
      refine lv_ri (congrArg g (nI_clamp (n := r + k) (by omega))) ?_
      refine lv_imul hx hb dX2_squares_27 ?_
      refine lv_iadd hx hb dX2_squares_28 ?_
      refine lv_istore_n (lv' := [(2, .int (a + ((g (r + k)) * (g (r + k))))), (3, .int (nI k)), (1, .int (nI r)), (0, .ref h)]) hx hb dX2_squares_29 rfl hl (by decide) rfl (fun ls hl => ?_)
      refine lv_iinc (v := nI (k + 1)) (lv' := [(3, .int (nI (k + 1))), (2, .int (a + ((g (r + k)) * (g (r + k))))), (1, .int (nI r)), (0, .ref h)]) hx hb dX2_squares_30 hl (k := 1) rfl (nI_1 k) (by decide) rfl (fun ls hl => ?_)
      refine lv_goto (tgt := 4) hx hb dX2_squares_33 (by decide) ?_
      exact ih (k + 1) _ (by omega) (by rw [ha]; rfl) H locs hP hD hS ls (lv_sub hl [1, 0, 2, 3] rfl)
  exact loop 32 0 0 rfl rfl H locs hP hD hS ls (lv_sub hl [1, 0, 3, 2] rfl)

abbrev rm_X2_tapSizes : Room := { frames := 1, cells := 0, slots := 0, locals := 20 }
theorem iw_X2_tapSizes_X2 : ∀ w ∈ wsX20, w ∈ wsX2_tapSizes := by decide +kernel
set_option maxRecDepth 100000 in
set_option maxHeartbeats 4000000 in
theorem c_X2_tapSizes (l : Launch) (D : va_G) (cA cZ cR : ClassId) (h : Nat) (as : Nat → Nat) (g im kp : Fn) : BMi l D cA cZ cR yX2_tapSizes wsX2_tapSizes rm_X2_tapSizes [.ref h] (MW cA cZ h as g im kp) (MW cA cZ h as g im kp) (mf_tsz g) := by
  refine bm_open (maxL := 3) (by decide) rfl rfl rfl (Nat.le_of_ble_eq_true rfl) ?_
  intro p e s m args below meth c A Q hx hb hml hts hown hE hP hD hA hS hret ls hl
  have hown : s.vm.findClass RX2 = some m.cls := hown
  have hl : lv_has ls 3 [(0, .ref h)] := hl
  obtain ⟨H, locs, eH, eL⟩ : ∃ (H : Heap) (locs : List Loc), H = s.heap ∧ locs = [] := ⟨_, _, rfl, rfl⟩
  rw [← eH, ← eL]
  rw [← eH] at hP
  have hS : va_S A s.heap H locs := by rw [eH, eL]; exact hS
  clear eH eL
  refine lv_iconst (v := 0) hx hb dX2_tapSizes_0 (by decide) ?_
  refine lv_istore_n (lv' := [(1, .int 0), (0, .ref h)]) hx hb dX2_tapSizes_1 rfl hl (by decide) rfl (fun ls hl => ?_)
  refine lv_iconst (v := 0) hx hb dX2_tapSizes_2 (by decide) ?_
  refine lv_istore_n (lv' := [(2, .int 0), (1, .int 0), (0, .ref h)]) hx hb dX2_tapSizes_3 rfl hl (by decide) rfl (fun ls hl => ?_)
  have loop : ∀ (n : Nat) (k : Nat) (a : Int32) (hk : k + n = 8) (ha : a = l_sum (fun k => pf_sz (g (5 + k))) k), ∀ (H : Heap) (locs : List Loc), va_P D vwCl (MW cA cZ h as g im kp) H → va_D A (MW cA cZ h as g im kp) → va_S A s.heap H locs → ∀ ls : Array Slot, lv_has ls 3 [(1, .int a), (2, .int (nI k)), (0, .ref h)] → W p l e rm_X2_tapSizes s m args below meth c H locs 0 0 Q (F0 m 4 ls []) := by
    intro n
    induction n with
    | zero =>
      intro k a hk ha H locs hP hD hS ls hl
      obtain rfl : k = 8 := by omega
      refine lv_iload_n hx hb dX2_tapSizes_4 rfl (lv_at hl 1 rfl) ?_
      refine lv_bipush (v := 8) hx hb dX2_tapSizes_5 (by decide) ?_
      refine lv_icmp_ge (tgt := 30) hx hb dX2_tapSizes_7 (by decide) (fun c_1 => ?_) (fun c_1 => absurd (by decide) c_1)
      refine lv_iload_n hx hb dX2_tapSizes_30 rfl (lv_at hl 0 rfl) ?_
      exact hret _ _ _ _ _ hP (by rw [ha]; rfl) hS dX2_tapSizes_31
    | succ n ih =>
      intro k a hk ha H locs hP hD hS ls hl
      refine lv_iload_n hx hb dX2_tapSizes_4 rfl (lv_at hl 1 rfl) ?_
      refine lv_bipush (v := 8) hx hb dX2_tapSizes_5 (by decide) ?_
      refine lv_icmp_ge (tgt := 30) hx hb dX2_tapSizes_7 (by decide) (fun c_2 => absurd c_2 (nI_ge (a := k) (b := 8) (by omega) (by decide))) (fun c_2 => ?_)
      refine lv_iload_n hx hb dX2_tapSizes_10 rfl (lv_at hl 0 rfl) ?_
      refine lv_aload_n hx hb dX2_tapSizes_11 rfl (lv_at hl 2 rfl) ?_
      refine va_get (D := D) (ci := 2) (v := .ref (as 0)) (C := RX2) (T := TX2) (N := 3) hx hb hts iw_X2_tapSizes_X2 hown hE.1 hP 0 rfl rfl 0 (by decide) (hts (.fieldLink RX2 7 "EchoTapsModel" "state" "[I") (by decide +kernel)) (fun _ h9 => h9) rfl dX2_tapSizes_12 ?_
      refine lv_iconst (v := 5) hx hb dX2_tapSizes_15 (by decide) ?_
      refine lv_iload_n hx hb dX2_tapSizes_16 rfl (lv_at hl 1 rfl) ?_
      refine lv_iadd hx hb dX2_tapSizes_17 ?_
      refine lv_ri (nI_add 5 k) ?_
      refine va_iald hx hb hE.1 hP 1 0 rfl rfl (vp_in_nI (by omega) (by decide)) dX2_tapSizes_18 ?_
      refine lv_ri (congrArg g (nI_clamp (n := 5 + k) (by omega))) ?_
      refine sm_i [.int (g (5 + k))] [.int a] ⟨hx, hb, hml, hown, hts⟩ (c_X2_size l (g (5 + k))) (va_cwS 1 hts gX2_tapSizes_X2_size rfl rfl rfl (by decide +kernel) ⟨Nat.le_of_ble_eq_true rfl, Nat.le_of_ble_eq_true rfl⟩) rfl hl.1 rfl (Nat.le_of_ble_eq_true rfl) dX2_tapSizes_19 ⟨Nat.zero_le _, Nat.zero_le _⟩ ?_
      refine lv_iadd hx hb dX2_tapSizes_22 ?_
      refine lv_istore_n (lv' := [(1, .int (a + (pf_sz (g (5 + k))))), (2, .int (nI k)), (0, .ref h)]) hx hb dX2_tapSizes_23 rfl hl (by decide) rfl (fun ls hl => ?_)
      refine lv_iinc (v := nI (k + 1)) (lv' := [(2, .int (nI (k + 1))), (1, .int (a + (pf_sz (g (5 + k))))), (0, .ref h)]) hx hb dX2_tapSizes_24 hl (k := 1) rfl (nI_1 k) (by decide) rfl (fun ls hl => ?_)
      refine lv_goto (tgt := 4) hx hb dX2_tapSizes_27 (by decide) ?_
      exact ih (k + 1) _ (by omega) (by rw [ha]; rfl) H locs hP hD hS ls (lv_sub hl [1, 0, 2] rfl)
  exact loop 8 0 0 rfl rfl H locs hP hD hS ls (lv_sub hl [1, 0, 2] rfl)

abbrev rm_X2_comesRound : Room := { frames := 0, cells := 0, slots := 0, locals := 0 }
theorem iw_X2_comesRound_X2 : ∀ w ∈ wsX20, w ∈ wsX2_comesRound := by decide +kernel
set_option maxRecDepth 100000 in
set_option maxHeartbeats 4000000 in
theorem c_X2_comesRound (l : Launch) (D : va_G) (cA cZ cR : ClassId) (h : Nat) (as : Nat → Nat) (g im kp : Fn) (pp : Nat) (hpp : pp ≤ 8) : BMi l D cA cZ cR yX2_comesRound wsX2_comesRound rm_X2_comesRound [.ref h, .int (nI pp)] (MW cA cZ h as g im kp) (MW cA cZ h as g im kp) (pf_b (mf_cr g pp)) := by
  refine bm_openZ (maxL := 4) (by decide) rfl rfl rfl (Nat.le_of_ble_eq_true rfl) (pf_b_z _) ?_
  intro p e s m args below meth c A Q hx hb hml hts hown hE hP hD hA hS hret ls hl
  have hown : s.vm.findClass RX2 = some m.cls := hown
  have hl : lv_has ls 4 [(0, .ref h), (1, .int (nI pp))] := hl
  obtain ⟨H, locs, eH, eL⟩ : ∃ (H : Heap) (locs : List Loc), H = s.heap ∧ locs = [] := ⟨_, _, rfl, rfl⟩
  rw [← eH, ← eL]
  rw [← eH] at hP
  have hS : va_S A s.heap H locs := by rw [eH, eL]; exact hS
  clear eH eL
  refine lv_iconst (v := 1) hx hb dX2_comesRound_0 (by decide) ?_
  refine lv_istore_n (lv' := [(2, .int 1), (0, .ref h), (1, .int (nI pp))]) hx hb dX2_comesRound_1 rfl hl (by decide) rfl (fun ls hl => ?_)
  refine lv_iconst (v := 0) hx hb dX2_comesRound_2 (by decide) ?_
  refine lv_istore_n (lv' := [(3, .int 0), (2, .int 1), (0, .ref h), (1, .int (nI pp))]) hx hb dX2_comesRound_3 rfl hl (by decide) rfl (fun ls hl => ?_)
  have loop : ∀ (n : Nat) (k : Nat) (a : Int32) (hk : k + n = 16 - pp) (ha : a = pf_b (pf_al (fun i => decide (g (33 + i) = g (33 + i + pp))) k)), ∀ (H : Heap) (locs : List Loc), va_P D vwCl (MW cA cZ h as g im kp) H → va_D A (MW cA cZ h as g im kp) → va_S A s.heap H locs → ∀ ls : Array Slot, lv_has ls 4 [(3, .int (nI k)), (2, .int a), (1, .int (nI pp)), (0, .ref h)] → W p l e rm_X2_comesRound s m args below meth c H locs 0 0 Q (F0 m 4 ls []) := by
    intro n
    induction n with
    | zero =>
      intro k a hk ha H locs hP hD hS ls hl
      obtain rfl : k = 16 - pp := by omega
      refine lv_iload_n hx hb dX2_comesRound_4 rfl (lv_at hl 0 rfl) ?_
      refine lv_iload_n hx hb dX2_comesRound_5 rfl (lv_at hl 2 rfl) ?_
      refine lv_iadd hx hb dX2_comesRound_6 ?_
      refine lv_ri (nI_add (16 - pp) pp) ?_
      refine lv_bipush (v := 16) hx hb dX2_comesRound_7 (by decide) ?_
      refine lv_icmp_ge (tgt := 51) hx hb dX2_comesRound_9 (by decide) (fun c_1 => ?_) (fun c_1 => absurd (by rw [show 16 - pp + pp = 16 by omega]; decide) c_1)
      refine lv_iload_n hx hb dX2_comesRound_51 rfl (lv_at hl 1 rfl) ?_
      exact hret _ _ _ _ _ hP ha hS dX2_comesRound_52
    | succ n ih =>
      intro k a hk ha H locs hP hD hS ls hl
      refine lv_iload_n hx hb dX2_comesRound_4 rfl (lv_at hl 0 rfl) ?_
      refine lv_iload_n hx hb dX2_comesRound_5 rfl (lv_at hl 2 rfl) ?_
      refine lv_iadd hx hb dX2_comesRound_6 ?_
      refine lv_ri (nI_add k pp) ?_
      refine lv_bipush (v := 16) hx hb dX2_comesRound_7 (by decide) ?_
      refine lv_icmp_ge (tgt := 51) hx hb dX2_comesRound_9 (by decide) (fun c_2 => absurd c_2 (nI_ge (a := k + pp) (b := 16) (by omega) (by decide))) (fun c_2 => ?_)
      refine lv_iload_n hx hb dX2_comesRound_12 rfl (lv_at hl 1 rfl) ?_
      have j44 : ∀ (v : Int32) (ev : v = pf_b (pf_al (fun i => decide (g (33 + i) = g (33 + i + pp))) (k + 1))), W p l e rm_X2_comesRound s m args below meth c H locs 0 0 Q (F0 m 44 ls [.int v]) := by
        intro v ev
        refine lv_istore_n (lv' := [(2, .int v), (3, .int (nI k)), (1, .int (nI pp)), (0, .ref h)]) hx hb dX2_comesRound_44 rfl hl (by decide) rfl (fun ls hl => ?_)
        refine lv_iinc (v := nI (k + 1)) (lv' := [(3, .int (nI (k + 1))), (2, .int v), (1, .int (nI pp)), (0, .ref h)]) hx hb dX2_comesRound_45 hl (k := 1) rfl (nI_1 k) (by decide) rfl (fun ls hl => ?_)
        refine lv_goto (tgt := 4) hx hb dX2_comesRound_48 (by decide) ?_
        exact ih (k + 1) _ (by omega) ev H locs hP hD hS ls (lv_sub hl [0, 1, 2, 3] rfl)
      refine lv_if_eq (tgt := 43) hx hb dX2_comesRound_13 (by decide) (fun c_3 => ?_) (fun c_3 => ?_)
      · have c_3 : a = 0 := c_3
        refine lv_iconst (v := 0) hx hb dX2_comesRound_43 (by decide) ?_
        have q : pf_al (fun i => decide (g (33 + i) = g (33 + i + pp))) k = false := pf_b0.mp (by rw [← ha]; exact c_3)
        exact j44 _ (by rw [pf_al, q]; rfl)
      · have c_3 : ¬ a = 0 := c_3
        refine lv_aload_n hx hb dX2_comesRound_16 rfl (lv_at hl 3 rfl) ?_
        refine va_get (D := D) (ci := 2) (v := .ref (as 0)) (C := RX2) (T := TX2) (N := 3) hx hb hts iw_X2_comesRound_X2 hown hE.1 hP 0 rfl rfl 0 (by decide) (hts (.fieldLink RX2 7 "EchoTapsModel" "state" "[I") (by decide +kernel)) (fun _ h9 => h9) rfl dX2_comesRound_17 ?_
        refine lv_bipush (v := 33) hx hb dX2_comesRound_20 (by decide) ?_
        refine lv_iload_n hx hb dX2_comesRound_22 rfl (lv_at hl 0 rfl) ?_
        refine lv_iadd hx hb dX2_comesRound_23 ?_
        refine lv_ri (nI_add 33 k) ?_
        refine va_iald hx hb hE.1 hP 1 0 rfl rfl (vp_in_nI (by omega) (by decide)) dX2_comesRound_24 ?_
        refine lv_ri (congrArg g (nI_clamp (n := 33 + k) (by omega))) ?_
        refine lv_aload_n hx hb dX2_comesRound_25 rfl (lv_at hl 3 rfl) ?_
        refine va_get (D := D) (ci := 2) (v := .ref (as 0)) (C := RX2) (T := TX2) (N := 3) hx hb hts iw_X2_comesRound_X2 hown hE.1 hP 0 rfl rfl 0 (by decide) (hts (.fieldLink RX2 7 "EchoTapsModel" "state" "[I") (by decide +kernel)) (fun _ h9 => h9) rfl dX2_comesRound_26 ?_
        refine lv_bipush (v := 33) hx hb dX2_comesRound_29 (by decide) ?_
        refine lv_iload_n hx hb dX2_comesRound_31 rfl (lv_at hl 0 rfl) ?_
        refine lv_iadd hx hb dX2_comesRound_32 ?_
        refine lv_ri (nI_add 33 k) ?_
        refine lv_iload_n hx hb dX2_comesRound_33 rfl (lv_at hl 2 rfl) ?_
        refine lv_iadd hx hb dX2_comesRound_34 ?_
        refine lv_ri (nI_add (33 + k) pp) ?_
        refine va_iald hx hb hE.1 hP 1 0 rfl rfl (vp_in_nI (by omega) (by decide)) dX2_comesRound_35 ?_
        refine lv_ri (congrArg g (nI_clamp (n := 33 + k + pp) (by omega))) ?_
        refine lv_icmp_ne (tgt := 43) hx hb dX2_comesRound_36 (by decide) (fun c_4 => ?_) (fun c_4 => ?_)
        · have c_4 : ¬ (g (33 + k)) = (g (33 + k + pp)) := c_4
          refine lv_iconst (v := 0) hx hb dX2_comesRound_43 (by decide) ?_
          exact j44 _ (by rw [pf_al, decide_eq_false c_4, Bool.and_false]; rfl)
        · have c_4 : (g (33 + k)) = (g (33 + k + pp)) := c_4
          refine lv_iconst (v := 1) hx hb dX2_comesRound_39 (by decide) ?_
          refine lv_goto (tgt := 44) hx hb dX2_comesRound_40 (by decide) ?_
          have q : pf_al (fun i => decide (g (33 + i) = g (33 + i + pp))) k = true := pf_bn (by rw [← ha]; exact c_3)
          exact j44 _ (by rw [pf_al, decide_eq_true c_4, q]; rfl)
  exact loop (16 - pp) 0 1 (Nat.zero_add _) rfl H locs hP hD hS ls (lv_sub hl [0, 1, 3, 2] rfl)

abbrev rm_X2_tone : Room := { frames := 1, cells := 0, slots := 0, locals := 23 }
theorem iw_X2_tone_X2 : ∀ w ∈ wsX20, w ∈ wsX2_tone := by decide +kernel
set_option maxRecDepth 100000 in
set_option maxHeartbeats 4000000 in
theorem c_X2_tone (l : Launch) (D : va_G) (cA cZ cR : ClassId) (h : Nat) (as : Nat → Nat) (g im kp : Fn) : BMi l D cA cZ cR yX2_tone wsX2_tone rm_X2_tone [.ref h] (MW cA cZ h as g im kp) (MW cA cZ h as g im kp) (nI (mf_tone g)) := by
  refine bm_open (maxL := 3) (by decide) rfl rfl rfl (Nat.le_of_ble_eq_true rfl) ?_
  intro p e s m args below meth c A Q hx hb hml hts hown hE hP hD hA hS hret ls hl
  have hown : s.vm.findClass RX2 = some m.cls := hown
  have hl : lv_has ls 3 [(0, .ref h)] := hl
  obtain ⟨H, locs, eH, eL⟩ : ∃ (H : Heap) (locs : List Loc), H = s.heap ∧ locs = [] := ⟨_, _, rfl, rfl⟩
  rw [← eH, ← eL]
  rw [← eH] at hP
  have hS : va_S A s.heap H locs := by rw [eH, eL]; exact hS
  clear eH eL
  refine lv_iconst (v := 0) hx hb dX2_tone_0 (by decide) ?_
  refine lv_istore_n (lv' := [(1, .int 0), (0, .ref h)]) hx hb dX2_tone_1 rfl hl (by decide) rfl (fun ls hl => ?_)
  refine lv_iconst (v := 0) hx hb dX2_tone_2 (by decide) ?_
  refine lv_istore_n (lv' := [(2, .int 0), (1, .int 0), (0, .ref h)]) hx hb dX2_tone_3 rfl hl (by decide) rfl (fun ls hl => ?_)
  have loop : ∀ (n : Nat) (k : Nat) (a : Int32) (hk : k + n = 16) (ha : a = pf_b (!(pf_al (fun i => decide (g (33 + i) = 0)) k))), ∀ (H : Heap) (locs : List Loc), va_P D vwCl (MW cA cZ h as g im kp) H → va_D A (MW cA cZ h as g im kp) → va_S A s.heap H locs → ∀ ls : Array Slot, lv_has ls 3 [(2, .int (nI k)), (1, .int a), (0, .ref h)] → W p l e rm_X2_tone s m args below meth c H locs 0 0 Q (F0 m 4 ls []) := by
    intro n
    induction n with
    | zero =>
      intro k a hk ha H locs hP hD hS ls hl
      obtain rfl : k = 16 := by omega
      refine lv_iload_n hx hb dX2_tone_4 rfl (lv_at hl 0 rfl) ?_
      refine lv_bipush (v := 16) hx hb dX2_tone_5 (by decide) ?_
      refine lv_icmp_ge (tgt := 38) hx hb dX2_tone_7 (by decide) (fun c_1 => ?_) (fun c_1 => absurd (by decide) c_1)
      refine lv_iload_n hx hb dX2_tone_38 rfl (lv_at hl 1 rfl) ?_
      refine lv_if_eq (tgt := 66) hx hb dX2_tone_39 (by decide) (fun c_2 => ?_) (fun c_2 => ?_)
      · have c_2 : a = 0 := c_2
        have hs : mf_sil g = true := by have q := pf_b0.mp (ha ▸ c_2); rw [Bool.not_eq_false'] at q; exact q
        refine lv_iconst (v := 0) hx hb dX2_tone_66 (by decide) ?_
        exact hret _ _ _ _ _ hP (by rw [mf_tone, hs]; rfl) hS dX2_tone_67
      · have c_2 : ¬ a = 0 := c_2
        have hs : mf_sil g = false := by have q := pf_bn (ha ▸ c_2); rw [Bool.not_eq_true'] at q; exact q
        refine lv_iconst (v := 1) hx hb dX2_tone_42 (by decide) ?_
        refine lv_istore_n (lv' := [(2, .int 1), (1, .int a), (0, .ref h)]) hx hb dX2_tone_43 rfl hl (by decide) rfl (fun ls hl => ?_)
        have loop2 : ∀ (n : Nat) (k : Nat) (hk2 : k + n = 9) (hb2 : pf_ft (mf_cr g) n k = pf_ft (mf_cr g) 8 1), ∀ (H : Heap) (locs : List Loc), va_P D vwCl (MW cA cZ h as g im kp) H → va_D A (MW cA cZ h as g im kp) → va_S A s.heap H locs → ∀ ls : Array Slot, lv_has ls 3 [(2, .int (nI k)), (0, .ref h)] → W p l e rm_X2_tone s m args below meth c H locs 0 0 Q (F0 m 44 ls []) := by
          intro n
          induction n with
          | zero =>
            intro k hk2 hb2 H locs hP hD hS ls hl
            obtain rfl : k = 9 := by omega
            refine lv_iload_n hx hb dX2_tone_44 rfl (lv_at hl 0 rfl) ?_
            refine lv_bipush (v := 8) hx hb dX2_tone_45 (by decide) ?_
            refine lv_icmp_gt (tgt := 66) hx hb dX2_tone_47 (by decide) (fun c_3 => ?_) (fun c_3 => absurd (by decide) c_3)
            refine lv_iconst (v := 0) hx hb dX2_tone_66 (by decide) ?_
            exact hret _ _ _ _ _ hP (by rw [mf_tone, hs, ← hb2]; rfl) hS dX2_tone_67
          | succ n ih =>
            intro k hk2 hb2 H locs hP hD hS ls hl
            refine lv_iload_n hx hb dX2_tone_44 rfl (lv_at hl 0 rfl) ?_
            refine lv_bipush (v := 8) hx hb dX2_tone_45 (by decide) ?_
            refine lv_icmp_gt (tgt := 66) hx hb dX2_tone_47 (by decide) (fun c_4 => absurd c_4 (nI_nlt (a := 8) (b := k) (by omega) (by decide))) (fun c_4 => ?_)
            refine lv_aload_n hx hb dX2_tone_50 rfl (lv_at hl 1 rfl) ?_
            refine lv_iload_n hx hb dX2_tone_51 rfl (lv_at hl 0 rfl) ?_
            refine bm_i [] (MW cA cZ h as g im kp) [] [.int (nI k)] [] ⟨hx, hb, hml, hown, hts⟩ (c_X2_comesRound l D cA cZ cR h as g im kp k (by omega)) (cwV 1 hts gX2_tone_X2_comesRound rfl rfl rfl (by decide +kernel) ⟨Nat.le_of_ble_eq_true rfl, Nat.le_of_ble_eq_true rfl⟩) hE hP hD hS hA MW_adr 0 2 rfl rfl rfl hl.1 rfl (Nat.le_of_ble_eq_true rfl) dX2_tone_52 ⟨Nat.zero_le _, Nat.zero_le _⟩ (fun H locs hP hD hS => ?_)
            have hP : va_P D vwCl (MW cA cZ h as g im kp) H := hP
            have hD : va_D A (MW cA cZ h as g im kp) := hD
            refine lv_if_eq (tgt := 60) hx hb dX2_tone_55 (by decide) (fun c_5 => ?_) (fun c_5 => ?_)
            · have c_5 : (pf_b (mf_cr g k)) = 0 := c_5
              refine lv_iinc (v := nI (k + 1)) (lv' := [(2, .int (nI (k + 1))), (0, .ref h)]) hx hb dX2_tone_60 hl (k := 0) rfl (nI_1 k) (by decide) rfl (fun ls hl => ?_)
              refine lv_goto (tgt := 44) hx hb dX2_tone_63 (by decide) ?_
              exact ih (k + 1) (by omega) (by rw [← hb2, pf_ft, pf_b0.mp c_5]; rfl) H locs hP hD hS ls (lv_sub hl [0, 1] rfl)
            · have c_5 : ¬ (pf_b (mf_cr g k)) = 0 := c_5
              refine lv_iload_n hx hb dX2_tone_58 rfl (lv_at hl 0 rfl) ?_
              exact hret _ _ _ _ _ hP (by rw [mf_tone, hs, ← hb2, pf_ft, pf_bn c_5]; rfl) hS dX2_tone_59
        exact loop2 8 1 rfl rfl H locs hP hD hS ls (lv_sub hl [0, 2] rfl)
    | succ n ih =>
      intro k a hk ha H locs hP hD hS ls hl
      refine lv_iload_n hx hb dX2_tone_4 rfl (lv_at hl 0 rfl) ?_
      refine lv_bipush (v := 16) hx hb dX2_tone_5 (by decide) ?_
      refine lv_icmp_ge (tgt := 38) hx hb dX2_tone_7 (by decide) (fun c_6 => absurd c_6 (nI_ge (a := k) (b := 16) (by omega) (by decide))) (fun c_6 => ?_)
      refine lv_iload_n hx hb dX2_tone_10 rfl (lv_at hl 1 rfl) ?_
      have j31 : ∀ (v : Int32) (ev : v = pf_b (!(pf_al (fun i => decide (g (33 + i) = 0)) (k + 1)))), W p l e rm_X2_tone s m args below meth c H locs 0 0 Q (F0 m 31 ls [.int v]) := by
        intro v ev
        refine lv_istore_n (lv' := [(1, .int v), (2, .int (nI k)), (0, .ref h)]) hx hb dX2_tone_31 rfl hl (by decide) rfl (fun ls hl => ?_)
        refine lv_iinc (v := nI (k + 1)) (lv' := [(2, .int (nI (k + 1))), (1, .int v), (0, .ref h)]) hx hb dX2_tone_32 hl (k := 1) rfl (nI_1 k) (by decide) rfl (fun ls hl => ?_)
        refine lv_goto (tgt := 4) hx hb dX2_tone_35 (by decide) ?_
        exact ih (k + 1) _ (by omega) ev H locs hP hD hS ls (lv_sub hl [0, 1, 2] rfl)
      refine lv_if_ne (tgt := 26) hx hb dX2_tone_11 (by decide) (fun c_7 => ?_) (fun c_7 => ?_)
      · have c_7 : ¬ a = 0 := c_7
        refine lv_iconst (v := 1) hx hb dX2_tone_26 (by decide) ?_
        refine lv_goto (tgt := 31) hx hb dX2_tone_27 (by decide) ?_
        exact j31 _ (by have q := pf_bn (ha ▸ c_7); rw [Bool.not_eq_true'] at q; rw [pf_al, q]; rfl)
      · have c_7 : a = 0 := c_7
        refine lv_aload_n hx hb dX2_tone_14 rfl (lv_at hl 2 rfl) ?_
        refine va_get (D := D) (ci := 2) (v := .ref (as 0)) (C := RX2) (T := TX2) (N := 3) hx hb hts iw_X2_tone_X2 hown hE.1 hP 0 rfl rfl 0 (by decide) (hts (.fieldLink RX2 7 "EchoTapsModel" "state" "[I") (by decide +kernel)) (fun _ h9 => h9) rfl dX2_tone_15 ?_
        refine lv_bipush (v := 33) hx hb dX2_tone_18 (by decide) ?_
        refine lv_iload_n hx hb dX2_tone_20 rfl (lv_at hl 0 rfl) ?_
        refine lv_iadd hx hb dX2_tone_21 ?_
        refine lv_ri (nI_add 33 k) ?_
        refine va_iald hx hb hE.1 hP 1 0 rfl rfl (vp_in_nI (by omega) (by decide)) dX2_tone_22 ?_
        refine lv_ri (congrArg g (nI_clamp (n := 33 + k) (by omega))) ?_
        have q : pf_al (fun i => decide (g (33 + i) = 0)) k = true := by have q := pf_b0.mp (ha ▸ c_7); rw [Bool.not_eq_false'] at q; exact q
        refine lv_if_eq (tgt := 30) hx hb dX2_tone_23 (by decide) (fun c_8 => ?_) (fun c_8 => ?_)
        · have c_8 : (g (33 + k)) = 0 := c_8
          refine lv_iconst (v := 0) hx hb dX2_tone_30 (by decide) ?_
          exact j31 _ (by rw [pf_al, decide_eq_true c_8, q]; rfl)
        · have c_8 : ¬ (g (33 + k)) = 0 := c_8
          refine lv_iconst (v := 1) hx hb dX2_tone_26 (by decide) ?_
          refine lv_goto (tgt := 31) hx hb dX2_tone_27 (by decide) ?_
          exact j31 _ (by rw [pf_al, decide_eq_false c_8, Bool.and_false]; rfl)
  exact loop 16 0 0 rfl rfl H locs hP hD hS ls (lv_sub hl [0, 1, 2] rfl)

abbrev rm_X2_hold : Room := { frames := 0, cells := 0, slots := 0, locals := 0 }
theorem iw_X2_hold_X2 : ∀ w ∈ wsX20, w ∈ wsX2_hold := by decide +kernel
set_option maxRecDepth 100000 in
set_option maxHeartbeats 4000000 in
theorem c_X2_hold (l : Launch) (D : va_G) (cA cZ cR : ClassId) (h : Nat) (as : Nat → Nat) (g im kp : Fn) : BMv l D cA cZ cR yX2_hold wsX2_hold rm_X2_hold [.ref h] (MW cA cZ h as g im kp) (MW cA cZ h as (mf_hold g) im kp) := by
  refine bm_openV (maxL := 1) (by decide) rfl rfl rfl (Nat.le_of_ble_eq_true rfl) ?_
  intro p e s m args below meth c A Q hx hb hml hts hown hE hP hD hA hS hret ls hl
  have hown : s.vm.findClass RX2 = some m.cls := hown
  have hl : lv_has ls 1 [(0, .ref h)] := hl
  obtain ⟨H, locs, eH, eL⟩ : ∃ (H : Heap) (locs : List Loc), H = s.heap ∧ locs = [] := ⟨_, _, rfl, rfl⟩
  rw [← eH, ← eL]
  rw [← eH] at hP
  have hS : va_S A s.heap H locs := by rw [eH, eL]; exact hS
  clear eH eL
  refine lv_aload_n hx hb dX2_hold_0 rfl (lv_at hl 0 rfl) ?_
  refine va_get (D := D) (ci := 2) (v := .ref (as 0)) (C := RX2) (T := TX2) (N := 3) hx hb hts iw_X2_hold_X2 hown hE.1 hP 0 rfl rfl 0 (by decide) (hts (.fieldLink RX2 7 "EchoTapsModel" "state" "[I") (by decide +kernel)) (fun _ h9 => h9) rfl dX2_hold_1 ?_
  refine lv_bipush (v := 30) hx hb dX2_hold_4 (by decide) ?_
  refine va_iald hx hb hE.1 hP 1 0 rfl rfl (vp_in_nI (n := 30) (N := 555) (by decide) (by decide)) dX2_hold_6 ?_
  refine lv_iconst (v := 1) hx hb dX2_hold_7 (by decide) ?_
  refine lv_icmp_ne (tgt := 27) hx hb dX2_hold_8 (by decide) (fun c_1 => ?_) (fun c_1 => ?_)
  · have c_1 : ¬ (g 30) = 1 := c_1
    refine lv_aload_n hx hb dX2_hold_27 rfl (lv_at hl 0 rfl) ?_
    refine va_get (D := D) (ci := 2) (v := .ref (as 0)) (C := RX2) (T := TX2) (N := 3) hx hb hts iw_X2_hold_X2 hown hE.1 hP 0 rfl rfl 0 (by decide) (hts (.fieldLink RX2 7 "EchoTapsModel" "state" "[I") (by decide +kernel)) (fun _ h9 => h9) rfl dX2_hold_28 ?_
    refine lv_bipush (v := 22) hx hb dX2_hold_31 (by decide) ?_
    refine va_iald hx hb hE.1 hP 1 0 rfl rfl (vp_in_nI (n := 22) (N := 555) (by decide) (by decide)) dX2_hold_33 ?_
    refine lv_if_le (tgt := 48) hx hb dX2_hold_34 (by decide) (fun c_2 => ?_) (fun c_2 => ?_)
    · have c_2 : (g 22) ≤ 0 := c_2
      have e1 : mf_hold g = g := by rw [mf_hold, if_pos c_1, if_pos c_2]
      exact hret _ _ _ _ (by rw [e1]; exact hP) hS dX2_hold_48
    · have c_2 : ¬ (g 22) ≤ 0 := c_2
      have e1 : mf_hold g = upd g 22 (g 22 - 1) := by rw [mf_hold, if_pos c_1, if_neg c_2]
      refine lv_aload_n hx hb dX2_hold_37 rfl (lv_at hl 0 rfl) ?_
      refine va_get (D := D) (ci := 2) (v := .ref (as 0)) (C := RX2) (T := TX2) (N := 3) hx hb hts iw_X2_hold_X2 hown hE.1 hP 0 rfl rfl 0 (by decide) (hts (.fieldLink RX2 7 "EchoTapsModel" "state" "[I") (by decide +kernel)) (fun _ h9 => h9) rfl dX2_hold_38 ?_
      refine lv_bipush (v := 22) hx hb dX2_hold_41 (by decide) ?_
      refine lv_dup2_11 hx hb dX2_hold_43 rfl rfl ?_
      refine va_iald hx hb hE.1 hP 1 0 rfl rfl (vp_in_nI (n := 22) (N := 555) (by decide) (by decide)) dX2_hold_44 ?_
      refine lv_iconst (v := 1) hx hb dX2_hold_45 (by decide) ?_
      refine lv_isub hx hb dX2_hold_46 ?_
      refine va_iast hx hb hE.1 hP hD hS 1 0 rfl rfl (vp_in_nI (n := 22) (N := 555) (by decide) (by decide)) dX2_hold_47 (fun H locs hP hD hS => ?_)
      have hP : va_P D vwCl (MW cA cZ h as (upd g 22 ((g 22) - 1)) im kp) H := hP
      have hD : va_D A (MW cA cZ h as (upd g 22 ((g 22) - 1)) im kp) := hD
      exact hret _ _ _ _ (by rw [e1]; exact hP) hS dX2_hold_48
  · have c_1 : (g 30) = 1 := c_1
    have e1 : mf_hold g = upd g 22 (g 1) := by rw [mf_hold, if_neg (not_not_intro c_1)]
    refine lv_aload_n hx hb dX2_hold_11 rfl (lv_at hl 0 rfl) ?_
    refine va_get (D := D) (ci := 2) (v := .ref (as 0)) (C := RX2) (T := TX2) (N := 3) hx hb hts iw_X2_hold_X2 hown hE.1 hP 0 rfl rfl 0 (by decide) (hts (.fieldLink RX2 7 "EchoTapsModel" "state" "[I") (by decide +kernel)) (fun _ h9 => h9) rfl dX2_hold_12 ?_
    refine lv_bipush (v := 22) hx hb dX2_hold_15 (by decide) ?_
    refine lv_aload_n hx hb dX2_hold_17 rfl (lv_at hl 0 rfl) ?_
    refine va_get (D := D) (ci := 2) (v := .ref (as 0)) (C := RX2) (T := TX2) (N := 3) hx hb hts iw_X2_hold_X2 hown hE.1 hP 0 rfl rfl 0 (by decide) (hts (.fieldLink RX2 7 "EchoTapsModel" "state" "[I") (by decide +kernel)) (fun _ h9 => h9) rfl dX2_hold_18 ?_
    refine lv_iconst (v := 1) hx hb dX2_hold_21 (by decide) ?_
    refine va_iald hx hb hE.1 hP 1 0 rfl rfl (vp_in_nI (n := 1) (N := 555) (by decide) (by decide)) dX2_hold_22 ?_
    refine va_iast hx hb hE.1 hP hD hS 1 0 rfl rfl (vp_in_nI (n := 22) (N := 555) (by decide) (by decide)) dX2_hold_23 (fun H locs hP hD hS => ?_)
    have hP : va_P D vwCl (MW cA cZ h as (upd g 22 (g 1)) im kp) H := hP
    have hD : va_D A (MW cA cZ h as (upd g 22 (g 1)) im kp) := hD
    refine lv_goto (tgt := 48) hx hb dX2_hold_24 (by decide) ?_
    exact hret _ _ _ _ (by rw [e1]; exact hP) hS dX2_hold_48

abbrev rm_X2_learn : Room := { frames := 1, cells := 0, slots := 0, locals := 22 }
theorem iw_X2_learn_X2 : ∀ w ∈ wsX20, w ∈ wsX2_learn := by decide +kernel
set_option maxRecDepth 100000 in
set_option maxHeartbeats 4000000 in
theorem c_X2_learn (l : Launch) (D : va_G) (cA cZ cR : ClassId) (h : Nat) (as : Nat → Nat) (g im kp : Fn) (hd : DL g) (hp29 : 0 < g 29) : BMv l D cA cZ cR yX2_learn wsX2_learn rm_X2_learn [.ref h] (MW cA cZ h as g im kp) (MW cA cZ h as (mf_learn g) im kp) := by
  refine bm_openV (maxL := 4) (by decide) rfl rfl rfl (Nat.le_of_ble_eq_true rfl) ?_
  intro p e s m args below meth c A Q hx hb hml hts hown hE hP hD hA hS hret ls hl
  have hown : s.vm.findClass RX2 = some m.cls := hown
  have hl : lv_has ls 4 [(0, .ref h)] := hl
  obtain ⟨H, locs, eH, eL⟩ : ∃ (H : Heap) (locs : List Loc), H = s.heap ∧ locs = [] := ⟨_, _, rfl, rfl⟩
  rw [← eH, ← eL]
  rw [← eH] at hP
  have hS : va_S A s.heap H locs := by rw [eH, eL]; exact hS
  clear eH eL
  refine lv_iconst (v := 0) hx hb dX2_learn_0 (by decide) ?_
  refine lv_istore_n (lv' := [(1, .int 0), (0, .ref h)]) hx hb dX2_learn_1 rfl hl (by decide) rfl (fun ls hl => ?_)
  have hz : ¬ (g 29).toInt64 = 0 := pf_l0 hp29
  have hP : va_P D vwCl (MW cA cZ h as (mf_ln g 0) im kp) H := hP
  have hD : va_D A (MW cA cZ h as (mf_ln g 0) im kp) := hD
  have loop : ∀ (n : Nat) (k : Nat) (hk : k + n = 8), ∀ (H : Heap) (locs : List Loc), va_P D vwCl (MW cA cZ h as (mf_ln g k) im kp) H → va_D A (MW cA cZ h as (mf_ln g k) im kp) → va_S A s.heap H locs → ∀ ls : Array Slot, lv_has ls 4 [(1, .int (nI k)), (0, .ref h)] → W p l e rm_X2_learn s m args below meth c H locs 0 0 Q (F0 m 2 ls []) := by
    intro n
    induction n with
    | zero =>
      intro k hk H locs hP hD hS ls hl
      obtain rfl : k = 8 := by omega
      refine lv_iload_n hx hb dX2_learn_2 rfl (lv_at hl 0 rfl) ?_
      refine lv_bipush (v := 8) hx hb dX2_learn_3 (by decide) ?_
      refine lv_icmp_ge (tgt := 75) hx hb dX2_learn_5 (by decide) (fun c_1 => ?_) (fun c_1 => absurd (by decide) c_1)
      exact hret _ _ _ _ hP hS dX2_learn_75
    | succ n ih =>
      intro k hk H locs hP hD hS ls hl
      have e29 : mf_ln g k 29 = g 29 := mf_ln_out g k (by omega) 29 (by omega)
      have e4 : mf_ln g k 4 = g 4 := mf_ln_out g k (by omega) 4 (by omega)
      have hd : DL (mf_ln g k) := by unfold DL; rw [e4]; exact hd
      obtain ⟨gk, egk⟩ : ∃ z : Fn, z = mf_ln g k := ⟨_, rfl⟩
      rw [← egk] at hP hD e29 hd
      refine lv_iload_n hx hb dX2_learn_2 rfl (lv_at hl 0 rfl) ?_
      refine lv_bipush (v := 8) hx hb dX2_learn_3 (by decide) ?_
      refine lv_icmp_ge (tgt := 75) hx hb dX2_learn_5 (by decide) (fun c_2 => absurd c_2 (nI_ge (a := k) (b := 8) (by omega) (by decide))) (fun c_2 => ?_)
      refine lv_aload_n hx hb dX2_learn_8 rfl (lv_at hl 1 rfl) ?_
      refine va_get (D := D) (ci := 2) (v := .ref (as 0)) (C := RX2) (T := TX2) (N := 3) hx hb hts iw_X2_learn_X2 hown hE.1 hP 0 rfl rfl 0 (by decide) (hts (.fieldLink RX2 7 "EchoTapsModel" "state" "[I") (by decide +kernel)) (fun _ h9 => h9) rfl dX2_learn_9 ?_
      refine lv_iconst (v := 0) hx hb dX2_learn_12 (by decide) ?_
      refine va_iald hx hb hE.1 hP 1 0 rfl rfl (vp_in_nI (n := 0) (N := 555) (by decide) (by decide)) dX2_learn_13 ?_
      refine lv_i2l hx hb dX2_learn_14 rfl ?_
      refine lv_aload_n hx hb dX2_learn_15 rfl (lv_at hl 1 rfl) ?_
      refine va_get (D := D) (ci := 2) (v := .ref (as 0)) (C := RX2) (T := TX2) (N := 3) hx hb hts iw_X2_learn_X2 hown hE.1 hP 0 rfl rfl 0 (by decide) (hts (.fieldLink RX2 7 "EchoTapsModel" "state" "[I") (by decide +kernel)) (fun _ h9 => h9) rfl dX2_learn_16 ?_
      refine lv_bipush (v := 26) hx hb dX2_learn_19 (by decide) ?_
      refine va_iald hx hb hE.1 hP 1 0 rfl rfl (vp_in_nI (n := 26) (N := 555) (by decide) (by decide)) dX2_learn_21 ?_
      refine lv_i2l hx hb dX2_learn_22 rfl ?_
      refine lv_lmul hx hb dX2_learn_23 ?_
      refine lv_aload_n hx hb dX2_learn_24 rfl (lv_at hl 1 rfl) ?_
      refine lv_iload_n hx hb dX2_learn_25 rfl (lv_at hl 0 rfl) ?_
      refine bm_i [] (MW cA cZ h as gk im kp) [] [.int (nI k)] [.long (((gk 0).toInt64) * ((gk 26).toInt64))] ⟨hx, hb, hml, hown, hts⟩ (c_X2_seen l D cA cZ cR h as gk im kp k (by omega) hd) (cwV 1 hts gX2_learn_X2_seen rfl rfl rfl (by decide +kernel) ⟨Nat.le_of_ble_eq_true rfl, Nat.le_of_ble_eq_true rfl⟩) hE hP hD hS hA MW_adr 0 2 rfl rfl rfl hl.1 rfl (Nat.le_of_ble_eq_true rfl) dX2_learn_26 ⟨Nat.zero_le _, Nat.zero_le _⟩ (fun H locs hP hD hS => ?_)
      have hP : va_P D vwCl (MW cA cZ h as gk im kp) H := hP
      have hD : va_D A (MW cA cZ h as gk im kp) := hD
      refine lv_i2l hx hb dX2_learn_29 rfl ?_
      refine lv_lmul hx hb dX2_learn_30 ?_
      refine lv_aload_n hx hb dX2_learn_31 rfl (lv_at hl 1 rfl) ?_
      refine va_get (D := D) (ci := 2) (v := .ref (as 0)) (C := RX2) (T := TX2) (N := 3) hx hb hts iw_X2_learn_X2 hown hE.1 hP 0 rfl rfl 0 (by decide) (hts (.fieldLink RX2 7 "EchoTapsModel" "state" "[I") (by decide +kernel)) (fun _ h9 => h9) rfl dX2_learn_32 ?_
      refine lv_bipush (v := 29) hx hb dX2_learn_35 (by decide) ?_
      refine va_iald hx hb hE.1 hP 1 0 rfl rfl (vp_in_nI (n := 29) (N := 555) (by decide) (by decide)) dX2_learn_37 ?_
      refine lv_i2l hx hb dX2_learn_38 rfl ?_
      refine lv_ldiv hx hb dX2_learn_39 (show ¬ (gk 29).toInt64 = 0 by rw [e29]; exact hz) ?_
      refine lv_lstore_n (lv' := [(2, .long (((((gk 0).toInt64) * ((gk 26).toInt64)) * ((mf_seen gk k).toInt64)) / ((gk 29).toInt64))), (1, .int (nI k)), (0, .ref h)]) hx hb dX2_learn_40 rfl hl (by decide) rfl (fun ls hl => ?_)
      refine lv_aload_n hx hb dX2_learn_41 rfl (lv_at hl 2 rfl) ?_
      refine va_get (D := D) (ci := 2) (v := .ref (as 0)) (C := RX2) (T := TX2) (N := 3) hx hb hts iw_X2_learn_X2 hown hE.1 hP 0 rfl rfl 0 (by decide) (hts (.fieldLink RX2 7 "EchoTapsModel" "state" "[I") (by decide +kernel)) (fun _ h9 => h9) rfl dX2_learn_42 ?_
      refine lv_iconst (v := 5) hx hb dX2_learn_45 (by decide) ?_
      refine lv_iload_n hx hb dX2_learn_46 rfl (lv_at hl 1 rfl) ?_
      refine lv_iadd hx hb dX2_learn_47 ?_
      refine lv_ri (nI_add 5 k) ?_
      refine lv_aload_n hx hb dX2_learn_48 rfl (lv_at hl 2 rfl) ?_
      refine va_get (D := D) (ci := 2) (v := .ref (as 0)) (C := RX2) (T := TX2) (N := 3) hx hb hts iw_X2_learn_X2 hown hE.1 hP 0 rfl rfl 0 (by decide) (hts (.fieldLink RX2 7 "EchoTapsModel" "state" "[I") (by decide +kernel)) (fun _ h9 => h9) rfl dX2_learn_49 ?_
      refine lv_iconst (v := 5) hx hb dX2_learn_52 (by decide) ?_
      refine lv_iload_n hx hb dX2_learn_53 rfl (lv_at hl 1 rfl) ?_
      refine lv_iadd hx hb dX2_learn_54 ?_
      refine lv_ri (nI_add 5 k) ?_
      refine va_iald hx hb hE.1 hP 1 0 rfl rfl (vp_in_nI (by omega) (by decide)) dX2_learn_55 ?_
      refine lv_ri (congrArg gk (nI_clamp (n := 5 + k) (by omega))) ?_
      refine lv_lload_n hx hb dX2_learn_56 rfl (lv_at hl 0 rfl) ?_
      refine lv_l2i hx hb dX2_learn_57 rfl ?_
      refine lv_iadd hx hb dX2_learn_58 ?_
      refine lv_sipush (v := (-4096)) hx hb dX2_learn_59 (by decide) ?_
      refine lv_sipush (v := 4095) hx hb dX2_learn_62 (by decide) ?_
      refine sm_i [.int ((gk (5 + k)) + ((((((gk 0).toInt64) * ((gk 26).toInt64)) * ((mf_seen gk k).toInt64)) / ((gk 29).toInt64)).toInt32)), .int (-4096), .int 4095] [.int (nI (5 + k)), .ref (as 0)] ⟨hx, hb, hml, hown, hts⟩ (c_X2_within l ((gk (5 + k)) + ((((((gk 0).toInt64) * ((gk 26).toInt64)) * ((mf_seen gk k).toInt64)) / ((gk 29).toInt64)).toInt32)) (-4096) 4095) (va_cwS 3 hts gX2_learn_X2_within rfl rfl rfl (by decide +kernel) ⟨Nat.le_of_ble_eq_true rfl, Nat.le_of_ble_eq_true rfl⟩) rfl hl.1 rfl (Nat.le_of_ble_eq_true rfl) dX2_learn_65 ⟨Nat.zero_le _, Nat.zero_le _⟩ ?_
      refine va_iast hx hb hE.1 hP hD hS 1 0 rfl rfl (vp_in_nI (by omega) (by decide)) dX2_learn_68 (fun H locs hP hD hS => ?_)
      rw [show (nI (5 + k)).toNatClampNeg = 5 + k from nI_clamp (by omega)] at hP hD
      have hP : va_P D vwCl (MW cA cZ h as (upd gk (5 + k) (pf_cl ((gk (5 + k)) + ((((((gk 0).toInt64) * ((gk 26).toInt64)) * ((mf_seen gk k).toInt64)) / ((gk 29).toInt64)).toInt32)) (-4096) 4095)) im kp) H := hP
      have hD : va_D A (MW cA cZ h as (upd gk (5 + k) (pf_cl ((gk (5 + k)) + ((((((gk 0).toInt64) * ((gk 26).toInt64)) * ((mf_seen gk k).toInt64)) / ((gk 29).toInt64)).toInt32)) (-4096) 4095)) im kp) := hD
      refine lv_iinc (v := nI (k + 1)) (lv' := [(1, .int (nI (k + 1))), (2, .long (((((gk 0).toInt64) * ((gk 26).toInt64)) * ((mf_seen gk k).toInt64)) / ((gk 29).toInt64))), (0, .ref h)]) hx hb dX2_learn_69 hl (k := 1) rfl (nI_1 k) (by decide) rfl (fun ls hl => ?_)
      refine lv_goto (tgt := 2) hx hb dX2_learn_72 (by decide) ?_
      rw [egk] at hP hD
      exact ih (k + 1) (by omega) H locs hP hD hS ls (lv_sub hl [0, 2] rfl)
  exact loop 8 0 rfl H locs hP hD hS ls (lv_sub hl [0, 1] rfl)

abbrev rm_X2_noise : Room := { frames := 1, cells := 0, slots := 0, locals := 20 }
theorem iw_X2_noise_X2 : ∀ w ∈ wsX20, w ∈ wsX2_noise := by decide +kernel
set_option maxRecDepth 100000 in
set_option maxHeartbeats 4000000 in
theorem c_X2_noise (l : Launch) (D : va_G) (cA cZ cR : ClassId) (h : Nat) (as : Nat → Nat) (g im kp : Fn) : BMi l D cA cZ cR yX2_noise wsX2_noise rm_X2_noise [.ref h] (MW cA cZ h as g im kp) (MW cA cZ h as (mf_nos g) im kp) (mf_nor g) := by
  refine bm_open (maxL := 1) (by decide) rfl rfl rfl (Nat.le_of_ble_eq_true rfl) ?_
  intro p e s m args below meth c A Q hx hb hml hts hown hE hP hD hA hS hret ls hl
  have hown : s.vm.findClass RX2 = some m.cls := hown
  have hl : lv_has ls 1 [(0, .ref h)] := hl
  obtain ⟨H, locs, eH, eL⟩ : ∃ (H : Heap) (locs : List Loc), H = s.heap ∧ locs = [] := ⟨_, _, rfl, rfl⟩
  rw [← eH, ← eL]
  rw [← eH] at hP
  have hS : va_S A s.heap H locs := by rw [eH, eL]; exact hS
  clear eH eL
  refine lv_aload_n hx hb dX2_noise_0 rfl (lv_at hl 0 rfl) ?_
  refine va_get (D := D) (ci := 2) (v := .ref (as 0)) (C := RX2) (T := TX2) (N := 3) hx hb hts iw_X2_noise_X2 hown hE.1 hP 0 rfl rfl 0 (by decide) (hts (.fieldLink RX2 7 "EchoTapsModel" "state" "[I") (by decide +kernel)) (fun _ h9 => h9) rfl dX2_noise_1 ?_
  refine lv_bipush (v := 23) hx hb dX2_noise_4 (by decide) ?_
  refine lv_aload_n hx hb dX2_noise_6 rfl (lv_at hl 0 rfl) ?_
  refine va_get (D := D) (ci := 2) (v := .ref (as 0)) (C := RX2) (T := TX2) (N := 3) hx hb hts iw_X2_noise_X2 hown hE.1 hP 0 rfl rfl 0 (by decide) (hts (.fieldLink RX2 7 "EchoTapsModel" "state" "[I") (by decide +kernel)) (fun _ h9 => h9) rfl dX2_noise_7 ?_
  refine lv_bipush (v := 23) hx hb dX2_noise_10 (by decide) ?_
  refine va_iald hx hb hE.1 hP 1 0 rfl rfl (vp_in_nI (n := 23) (N := 555) (by decide) (by decide)) dX2_noise_12 ?_
  refine sm_i [.int (g 23)] [.int 23, .ref (as 0)] ⟨hx, hb, hml, hown, hts⟩ (c_X2_next l (g 23)) (va_cwS 1 hts gX2_noise_X2_next rfl rfl rfl (by decide +kernel) ⟨Nat.le_of_ble_eq_true rfl, Nat.le_of_ble_eq_true rfl⟩) rfl hl.1 rfl (Nat.le_of_ble_eq_true rfl) dX2_noise_13 ⟨Nat.zero_le _, Nat.zero_le _⟩ ?_
  refine va_iast hx hb hE.1 hP hD hS 1 0 rfl rfl (vp_in_nI (n := 23) (N := 555) (by decide) (by decide)) dX2_noise_16 (fun H locs hP hD hS => ?_)
  have hP : va_P D vwCl (MW cA cZ h as (upd g 23 (pf_nx (g 23))) im kp) H := hP
  have hD : va_D A (MW cA cZ h as (upd g 23 (pf_nx (g 23))) im kp) := hD
  refine lv_aload_n hx hb dX2_noise_17 rfl (lv_at hl 0 rfl) ?_
  refine va_get (D := D) (ci := 2) (v := .ref (as 0)) (C := RX2) (T := TX2) (N := 3) hx hb hts iw_X2_noise_X2 hown hE.1 hP 0 rfl rfl 0 (by decide) (hts (.fieldLink RX2 7 "EchoTapsModel" "state" "[I") (by decide +kernel)) (fun _ h9 => h9) rfl dX2_noise_18 ?_
  refine lv_bipush (v := 23) hx hb dX2_noise_21 (by decide) ?_
  refine va_iald hx hb hE.1 hP 1 0 rfl rfl (vp_in_nI (n := 23) (N := 555) (by decide) (by decide)) dX2_noise_23 ?_
  refine lv_iconst (v := 2) hx hb dX2_noise_24 (by decide) ?_
  refine lv_aload_n hx hb dX2_noise_25 rfl (lv_at hl 0 rfl) ?_
  refine va_get (D := D) (ci := 2) (v := .ref (as 0)) (C := RX2) (T := TX2) (N := 3) hx hb hts iw_X2_noise_X2 hown hE.1 hP 0 rfl rfl 0 (by decide) (hts (.fieldLink RX2 7 "EchoTapsModel" "state" "[I") (by decide +kernel)) (fun _ h9 => h9) rfl dX2_noise_26 ?_
  refine lv_iconst (v := 3) hx hb dX2_noise_29 (by decide) ?_
  refine va_iald hx hb hE.1 hP 1 0 rfl rfl (vp_in_nI (n := 3) (N := 555) (by decide) (by decide)) dX2_noise_30 ?_
  refine lv_imul hx hb dX2_noise_31 ?_
  refine lv_iconst (v := 1) hx hb dX2_noise_32 (by decide) ?_
  refine lv_iadd hx hb dX2_noise_33 ?_
  refine lv_irem hx hb dX2_noise_34 (pf_odd _) ?_
  refine lv_aload_n hx hb dX2_noise_35 rfl (lv_at hl 0 rfl) ?_
  refine va_get (D := D) (ci := 2) (v := .ref (as 0)) (C := RX2) (T := TX2) (N := 3) hx hb hts iw_X2_noise_X2 hown hE.1 hP 0 rfl rfl 0 (by decide) (hts (.fieldLink RX2 7 "EchoTapsModel" "state" "[I") (by decide +kernel)) (fun _ h9 => h9) rfl dX2_noise_36 ?_
  refine lv_iconst (v := 3) hx hb dX2_noise_39 (by decide) ?_
  refine va_iald hx hb hE.1 hP 1 0 rfl rfl (vp_in_nI (n := 3) (N := 555) (by decide) (by decide)) dX2_noise_40 ?_
  refine lv_isub hx hb dX2_noise_41 ?_
  exact hret _ _ _ _ _ hP rfl hS dX2_noise_42

abbrev rm_X2_outNow : Room := { frames := 2, cells := 0, slots := 0, locals := 40 }
theorem iw_X2_outNow_X2 : ∀ w ∈ wsX20, w ∈ wsX2_outNow := by decide +kernel
set_option maxRecDepth 100000 in
set_option maxHeartbeats 4000000 in
theorem c_X2_outNow (l : Launch) (D : va_G) (cA cZ cR : ClassId) (h : Nat) (as : Nat → Nat) (g im kp : Fn) : BMi l D cA cZ cR yX2_outNow wsX2_outNow rm_X2_outNow [.ref h] (MW cA cZ h as g im kp) (MW cA cZ h as (mf_os g) im kp) (mf_or g) := by
  refine bm_open (maxL := 1) (by decide) rfl rfl rfl (Nat.le_of_ble_eq_true rfl) ?_
  intro p e s m args below meth c A Q hx hb hml hts hown hE hP hD hA hS hret ls hl
  have hown : s.vm.findClass RX2 = some m.cls := hown
  have hl : lv_has ls 1 [(0, .ref h)] := hl
  obtain ⟨H, locs, eH, eL⟩ : ∃ (H : Heap) (locs : List Loc), H = s.heap ∧ locs = [] := ⟨_, _, rfl, rfl⟩
  rw [← eH, ← eL]
  rw [← eH] at hP
  have hS : va_S A s.heap H locs := by rw [eH, eL]; exact hS
  clear eH eL
  refine lv_aload_n hx hb dX2_outNow_0 rfl (lv_at hl 0 rfl) ?_
  refine va_get (D := D) (ci := 2) (v := .ref (as 0)) (C := RX2) (T := TX2) (N := 3) hx hb hts iw_X2_outNow_X2 hown hE.1 hP 0 rfl rfl 0 (by decide) (hts (.fieldLink RX2 7 "EchoTapsModel" "state" "[I") (by decide +kernel)) (fun _ h9 => h9) rfl dX2_outNow_1 ?_
  refine lv_bipush (v := 31) hx hb dX2_outNow_4 (by decide) ?_
  refine va_iald hx hb hE.1 hP 1 0 rfl rfl (vp_in_nI (n := 31) (N := 555) (by decide) (by decide)) dX2_outNow_6 ?_
  refine lv_if_le (tgt := 18) hx hb dX2_outNow_7 (by decide) (fun c_1 => ?_) (fun c_1 => ?_)
  · have c_1 : (g 31) ≤ 0 := c_1
    refine lv_aload_n hx hb dX2_outNow_18 rfl (lv_at hl 0 rfl) ?_
    refine va_get (D := D) (ci := 2) (v := .ref (as 0)) (C := RX2) (T := TX2) (N := 3) hx hb hts iw_X2_outNow_X2 hown hE.1 hP 0 rfl rfl 0 (by decide) (hts (.fieldLink RX2 7 "EchoTapsModel" "state" "[I") (by decide +kernel)) (fun _ h9 => h9) rfl dX2_outNow_19 ?_
    refine lv_bipush (v := 26) hx hb dX2_outNow_22 (by decide) ?_
    refine va_iald hx hb hE.1 hP 1 0 rfl rfl (vp_in_nI (n := 26) (N := 555) (by decide) (by decide)) dX2_outNow_24 ?_
    refine sm_i [.int (g 26)] [] ⟨hx, hb, hml, hown, hts⟩ (c_X2_size l (g 26)) (va_cwS 1 hts gX2_outNow_X2_size rfl rfl rfl (by decide +kernel) ⟨Nat.le_of_ble_eq_true rfl, Nat.le_of_ble_eq_true rfl⟩) rfl hl.1 rfl (Nat.le_of_ble_eq_true rfl) dX2_outNow_25 ⟨Nat.zero_le _, Nat.zero_le _⟩ ?_
    refine lv_aload_n hx hb dX2_outNow_28 rfl (lv_at hl 0 rfl) ?_
    refine va_get (D := D) (ci := 2) (v := .ref (as 0)) (C := RX2) (T := TX2) (N := 3) hx hb hts iw_X2_outNow_X2 hown hE.1 hP 0 rfl rfl 0 (by decide) (hts (.fieldLink RX2 7 "EchoTapsModel" "state" "[I") (by decide +kernel)) (fun _ h9 => h9) rfl dX2_outNow_29 ?_
    refine lv_iconst (v := 2) hx hb dX2_outNow_32 (by decide) ?_
    refine va_iald hx hb hE.1 hP 1 0 rfl rfl (vp_in_nI (n := 2) (N := 555) (by decide) (by decide)) dX2_outNow_33 ?_
    refine lv_icmp_ge (tgt := 44) hx hb dX2_outNow_34 (by decide) (fun c_2 => ?_) (fun c_2 => ?_)
    · have c_2 : (g 2) ≤ (pf_sz (g 26)) := c_2
      have e1 : mf_os g = g := by rw [mf_os, if_pos c_1, if_pos c_2]
      refine lv_aload_n hx hb dX2_outNow_44 rfl (lv_at hl 0 rfl) ?_
      refine va_get (D := D) (ci := 2) (v := .ref (as 0)) (C := RX2) (T := TX2) (N := 3) hx hb hts iw_X2_outNow_X2 hown hE.1 hP 0 rfl rfl 0 (by decide) (hts (.fieldLink RX2 7 "EchoTapsModel" "state" "[I") (by decide +kernel)) (fun _ h9 => h9) rfl dX2_outNow_45 ?_
      refine lv_bipush (v := 26) hx hb dX2_outNow_48 (by decide) ?_
      refine va_iald hx hb hE.1 hP 1 0 rfl rfl (vp_in_nI (n := 26) (N := 555) (by decide) (by decide)) dX2_outNow_50 ?_
      refine lv_sipush (v := (-2000)) hx hb dX2_outNow_51 (by decide) ?_
      refine lv_sipush (v := 2000) hx hb dX2_outNow_54 (by decide) ?_
      refine sm_i [.int (g 26), .int (-2000), .int 2000] [] ⟨hx, hb, hml, hown, hts⟩ (c_X2_within l (g 26) (-2000) 2000) (va_cwS 3 hts gX2_outNow_X2_within rfl rfl rfl (by decide +kernel) ⟨Nat.le_of_ble_eq_true rfl, Nat.le_of_ble_eq_true rfl⟩) rfl hl.1 rfl (Nat.le_of_ble_eq_true rfl) dX2_outNow_57 ⟨Nat.zero_le _, Nat.zero_le _⟩ ?_
      exact hret _ _ _ _ _ (by rw [e1]; exact hP) (by rw [mf_or, if_pos c_1, if_pos c_2]) hS dX2_outNow_60
    · have c_2 : ¬ (g 2) ≤ (pf_sz (g 26)) := c_2
      have e1 : mf_os g = mf_nos g := by rw [mf_os, if_pos c_1, if_neg c_2]
      refine lv_aload_n hx hb dX2_outNow_37 rfl (lv_at hl 0 rfl) ?_
      refine bm_i [] (MW cA cZ h as g im kp) [] [] [] ⟨hx, hb, hml, hown, hts⟩ (c_X2_noise l D cA cZ cR h as g im kp) (cwV 0 hts gX2_outNow_X2_noise rfl rfl rfl (by decide +kernel) ⟨Nat.le_of_ble_eq_true rfl, Nat.le_of_ble_eq_true rfl⟩) hE hP hD hS hA MW_adr 0 2 rfl rfl rfl hl.1 rfl (Nat.le_of_ble_eq_true rfl) dX2_outNow_38 ⟨Nat.zero_le _, Nat.zero_le _⟩ (fun H locs hP hD hS => ?_)
      have hP : va_P D vwCl (MW cA cZ h as (mf_nos g) im kp) H := hP
      have hD : va_D A (MW cA cZ h as (mf_nos g) im kp) := hD
      refine lv_goto (tgt := 60) hx hb dX2_outNow_41 (by decide) ?_
      exact hret _ _ _ _ _ (by rw [e1]; exact hP) (by rw [mf_or, if_pos c_1, if_neg c_2]) hS dX2_outNow_60
  · have c_1 : ¬ (g 31) ≤ 0 := c_1
    have e1 : mf_os g = g := by rw [mf_os, if_neg c_1]
    refine lv_aload_n hx hb dX2_outNow_10 rfl (lv_at hl 0 rfl) ?_
    refine va_get (D := D) (ci := 2) (v := .ref (as 0)) (C := RX2) (T := TX2) (N := 3) hx hb hts iw_X2_outNow_X2 hown hE.1 hP 0 rfl rfl 0 (by decide) (hts (.fieldLink RX2 7 "EchoTapsModel" "state" "[I") (by decide +kernel)) (fun _ h9 => h9) rfl dX2_outNow_11 ?_
    refine lv_bipush (v := 73) hx hb dX2_outNow_14 (by decide) ?_
    refine va_iald hx hb hE.1 hP 1 0 rfl rfl (vp_in_nI (n := 73) (N := 555) (by decide) (by decide)) dX2_outNow_16 ?_
    exact hret _ _ _ _ _ (by rw [e1]; exact hP) (by rw [mf_or, if_neg c_1] <;> rfl) hS dX2_outNow_17

abbrev rm_X2_shift : Room := { frames := 0, cells := 0, slots := 0, locals := 0 }
theorem iw_X2_shift_X2 : ∀ w ∈ wsX20, w ∈ wsX2_shift := by decide +kernel
set_option maxRecDepth 100000 in
set_option maxHeartbeats 4000000 in
theorem c_X2_shift (l : Launch) (D : va_G) (cA cZ cR : ClassId) (h : Nat) (as : Nat → Nat) (g im kp : Fn) (R M : Nat) (v : Int32) (h1 : 1 ≤ M) (h5 : R + M ≤ 555) : BMv l D cA cZ cR yX2_shift wsX2_shift rm_X2_shift [.ref h, .int (nI R), .int (nI M), .int v] (MW cA cZ h as g im kp) (MW cA cZ h as (mf_sh g R M v) im kp) := by
  refine bm_openV (maxL := 5) (by decide) rfl rfl rfl (Nat.le_of_ble_eq_true rfl) ?_
  intro p e s m args below meth c A Q hx hb hml hts hown hE hP hD hA hS hret ls hl
  have hown : s.vm.findClass RX2 = some m.cls := hown
  have hl : lv_has ls 5 [(0, .ref h), (1, .int (nI R)), (2, .int (nI M)), (3, .int v)] := hl
  obtain ⟨H, locs, eH, eL⟩ : ∃ (H : Heap) (locs : List Loc), H = s.heap ∧ locs = [] := ⟨_, _, rfl, rfl⟩
  rw [← eH, ← eL]
  rw [← eH] at hP
  have hS : va_S A s.heap H locs := by rw [eH, eL]; exact hS
  clear eH eL
  refine lv_iload_n hx hb dX2_shift_0 rfl (lv_at hl 2 rfl) ?_
  refine lv_iconst (v := 1) hx hb dX2_shift_1 (by decide) ?_
  refine lv_isub hx hb dX2_shift_2 ?_
  refine lv_ri (pk_sub (a := M) (b := 1) (by omega)) ?_
  refine lv_istore (lv' := [(4, .int (nI (M - 1))), (0, .ref h), (1, .int (nI R)), (2, .int (nI M)), (3, .int v)]) hx hb dX2_shift_3 hl (by decide) rfl (fun ls hl => ?_)
  have hP : va_P D vwCl (MW cA cZ h as (mf_sk g R M (M - 1)) im kp) H := by rw [mf_sk0 g R M h1]; exact hP
  have hD : va_D A (MW cA cZ h as (mf_sk g R M (M - 1)) im kp) := by rw [mf_sk0 g R M h1]; exact hD
  have loop : ∀ (n : Nat) (i : Nat) (hi : i = n ∧ i < M), ∀ (H : Heap) (locs : List Loc), va_P D vwCl (MW cA cZ h as (mf_sk g R M i) im kp) H → va_D A (MW cA cZ h as (mf_sk g R M i) im kp) → va_S A s.heap H locs → ∀ ls : Array Slot, lv_has ls 5 [(4, .int (nI i)), (3, .int v), (2, .int (nI M)), (1, .int (nI R)), (0, .ref h)] → W p l e rm_X2_shift s m args below meth c H locs 0 0 Q (F0 m 5 ls []) := by
    intro n
    induction n with
    | zero =>
      intro i hi H locs hP hD hS ls hl
      obtain rfl : i = 0 := by omega
      refine lv_iload hx hb dX2_shift_5 (lv_at hl 0 rfl) ?_
      refine lv_if_le (tgt := 36) hx hb dX2_shift_7 (by decide) (fun c_1 => ?_) (fun c_1 => absurd (by decide) c_1)
      refine lv_aload_n hx hb dX2_shift_36 rfl (lv_at hl 4 rfl) ?_
      refine va_get (D := D) (ci := 2) (v := .ref (as 0)) (C := RX2) (T := TX2) (N := 3) hx hb hts iw_X2_shift_X2 hown hE.1 hP 0 rfl rfl 0 (by decide) (hts (.fieldLink RX2 7 "EchoTapsModel" "state" "[I") (by decide +kernel)) (fun _ h9 => h9) rfl dX2_shift_37 ?_
      refine lv_iload_n hx hb dX2_shift_40 rfl (lv_at hl 3 rfl) ?_
      refine lv_iload_n hx hb dX2_shift_41 rfl (lv_at hl 1 rfl) ?_
      refine va_iast hx hb hE.1 hP hD hS 1 0 rfl rfl (vp_in_nI (by omega) (by decide)) dX2_shift_42 (fun H locs hP hD hS => ?_)
      rw [show (nI (R)).toNatClampNeg = R from nI_clamp (by omega)] at hP hD
      have hP : va_P D vwCl (MW cA cZ h as (upd (mf_sk g R M 0) R v) im kp) H := hP
      have hD : va_D A (MW cA cZ h as (upd (mf_sk g R M 0) R v) im kp) := hD
      exact hret _ _ _ _ hP hS dX2_shift_43
    | succ n ih =>
      intro i hi H locs hP hD hS ls hl
      obtain ⟨gi, egi⟩ : ∃ z : Fn, z = mf_sk g R M i := ⟨_, rfl⟩
      rw [← egi] at hP hD
      refine lv_iload hx hb dX2_shift_5 (lv_at hl 0 rfl) ?_
      refine lv_if_le (tgt := 36) hx hb dX2_shift_7 (by decide) (fun c_2 => absurd c_2 (nI_nle (n := i) (by omega) (by omega))) (fun c_2 => ?_)
      refine lv_aload_n hx hb dX2_shift_10 rfl (lv_at hl 4 rfl) ?_
      refine va_get (D := D) (ci := 2) (v := .ref (as 0)) (C := RX2) (T := TX2) (N := 3) hx hb hts iw_X2_shift_X2 hown hE.1 hP 0 rfl rfl 0 (by decide) (hts (.fieldLink RX2 7 "EchoTapsModel" "state" "[I") (by decide +kernel)) (fun _ h9 => h9) rfl dX2_shift_11 ?_
      refine lv_iload_n hx hb dX2_shift_14 rfl (lv_at hl 3 rfl) ?_
      refine lv_iload hx hb dX2_shift_15 (lv_at hl 0 rfl) ?_
      refine lv_iadd hx hb dX2_shift_17 ?_
      refine lv_ri (nI_add R i) ?_
      refine lv_aload_n hx hb dX2_shift_18 rfl (lv_at hl 4 rfl) ?_
      refine va_get (D := D) (ci := 2) (v := .ref (as 0)) (C := RX2) (T := TX2) (N := 3) hx hb hts iw_X2_shift_X2 hown hE.1 hP 0 rfl rfl 0 (by decide) (hts (.fieldLink RX2 7 "EchoTapsModel" "state" "[I") (by decide +kernel)) (fun _ h9 => h9) rfl dX2_shift_19 ?_
      refine lv_iload_n hx hb dX2_shift_22 rfl (lv_at hl 3 rfl) ?_
      refine lv_iload hx hb dX2_shift_23 (lv_at hl 0 rfl) ?_
      refine lv_iadd hx hb dX2_shift_25 ?_
      refine lv_ri (nI_add R i) ?_
      refine lv_iconst (v := 1) hx hb dX2_shift_26 (by decide) ?_
      refine lv_isub hx hb dX2_shift_27 ?_
      refine lv_ri (pk_sub (a := R + i) (b := 1) (by omega)) ?_
      refine va_iald hx hb hE.1 hP 1 0 rfl rfl (vp_in_nI (by omega) (by decide)) dX2_shift_28 ?_
      refine lv_ri (congrArg gi (nI_clamp (n := (R + i) - 1) (by omega))) ?_
      refine va_iast hx hb hE.1 hP hD hS 1 0 rfl rfl (vp_in_nI (by omega) (by decide)) dX2_shift_29 (fun H locs hP hD hS => ?_)
      rw [show (nI (R + i)).toNatClampNeg = R + i from nI_clamp (by omega)] at hP hD
      have hP : va_P D vwCl (MW cA cZ h as (upd gi (R + i) (gi ((R + i) - 1))) im kp) H := hP
      have hD : va_D A (MW cA cZ h as (upd gi (R + i) (gi ((R + i) - 1))) im kp) := hD
      refine lv_iinc (v := nI (i - 1)) (lv' := [(4, .int (nI (i - 1))), (3, .int v), (2, .int (nI M)), (1, .int (nI R)), (0, .ref h)]) hx hb dX2_shift_30 hl (k := 0) rfl (by rw [show i = (i - 1) + 1 by omega]; exact pk_m1 (i - 1)) (by decide) rfl (fun ls hl => ?_)
      refine lv_goto (tgt := 5) hx hb dX2_shift_33 (by decide) ?_
      rw [egi, mf_sk1 g R M i (by omega) (by omega)] at hP hD
      exact ih (i - 1) (by omega) H locs hP hD hS ls (lv_sub hl [0, 1, 2, 3, 4] rfl)
  exact loop (M - 1) (M - 1) (by omega) H locs hP hD hS ls (lv_sub hl [0, 4, 3, 2, 1] rfl)

abbrev rm_X2_echo : Room := { frames := 0, cells := 0, slots := 0, locals := 0 }
theorem iw_X2_echo_X2 : ∀ w ∈ wsX20, w ∈ wsX2_echo := by decide +kernel
set_option maxRecDepth 100000 in
set_option maxHeartbeats 4000000 in
theorem c_X2_echo (l : Launch) (D : va_G) (cA cZ cR : ClassId) (h : Nat) (as : Nat → Nat) (g im kp : Fn) (far : Int32) (hg : LG g) : BMi l D cA cZ cR yX2_echo wsX2_echo rm_X2_echo [.ref h, .int far] (MW cA cZ h as g im kp) (MW cA cZ h as g im kp) (mf_echo g far) := by
  refine bm_open (maxL := 5) (by decide) rfl rfl rfl (Nat.le_of_ble_eq_true rfl) ?_
  intro p e s m args below meth c A Q hx hb hml hts hown hE hP hD hA hS hret ls hl
  have hown : s.vm.findClass RX2 = some m.cls := hown
  have hl : lv_has ls 5 [(0, .ref h), (1, .int far)] := hl
  obtain ⟨H, locs, eH, eL⟩ : ∃ (H : Heap) (locs : List Loc), H = s.heap ∧ locs = [] := ⟨_, _, rfl, rfl⟩
  rw [← eH, ← eL]
  rw [← eH] at hP
  have hS : va_S A s.heap H locs := by rw [eH, eL]; exact hS
  clear eH eL
  obtain ⟨d, hd15, ed⟩ := hg
  refine lv_iconst (v := 0) hx hb dX2_echo_0 (by decide) ?_
  refine lv_istore_n (lv' := [(2, .int 0), (0, .ref h), (1, .int far)]) hx hb dX2_echo_1 rfl hl (by decide) rfl (fun ls hl => ?_)
  refine lv_iconst (v := 0) hx hb dX2_echo_2 (by decide) ?_
  refine lv_istore_n (lv' := [(3, .int 0), (2, .int 0), (0, .ref h), (1, .int far)]) hx hb dX2_echo_3 rfl hl (by decide) rfl (fun ls hl => ?_)
  have loop : ∀ (n : Nat) (k : Nat) (a : Int32) (hk : k + n = 8) (ha : a = l_sum (fun k => g (13 + k) * mf_ee g far k) k), ∀ (H : Heap) (locs : List Loc), va_P D vwCl (MW cA cZ h as g im kp) H → va_D A (MW cA cZ h as g im kp) → va_S A s.heap H locs → ∀ ls : Array Slot, lv_has ls 5 [(2, .int a), (3, .int (nI k)), (1, .int far), (0, .ref h)] → W p l e rm_X2_echo s m args below meth c H locs 0 0 Q (F0 m 4 ls []) := by
    intro n
    induction n with
    | zero =>
      intro k a hk ha H locs hP hD hS ls hl
      obtain rfl : k = 8 := by omega
      refine lv_iload_n hx hb dX2_echo_4 rfl (lv_at hl 1 rfl) ?_
      refine lv_bipush (v := 8) hx hb dX2_echo_5 (by decide) ?_
      refine lv_icmp_ge (tgt := 61) hx hb dX2_echo_7 (by decide) (fun c_1 => ?_) (fun c_1 => absurd (by decide) c_1)
      refine lv_iload_n hx hb dX2_echo_61 rfl (lv_at hl 0 rfl) ?_
      refine lv_sipush (v := 1024) hx hb dX2_echo_62 (by decide) ?_
      refine lv_idiv hx hb dX2_echo_65 (by decide) ?_
      exact hret _ _ _ _ _ hP (by rw [ha]; rfl) hS dX2_echo_66
    | succ n ih =>
      intro k a hk ha H locs hP hD hS ls hl
      refine lv_iload_n hx hb dX2_echo_4 rfl (lv_at hl 1 rfl) ?_
      refine lv_bipush (v := 8) hx hb dX2_echo_5 (by decide) ?_
      refine lv_icmp_ge (tgt := 61) hx hb dX2_echo_7 (by decide) (fun c_2 => absurd c_2 (nI_ge (a := k) (b := 8) (by omega) (by decide))) (fun c_2 => ?_)
      refine lv_iload_n hx hb dX2_echo_10 rfl (lv_at hl 1 rfl) ?_
      refine lv_aload_n hx hb dX2_echo_11 rfl (lv_at hl 3 rfl) ?_
      refine va_get (D := D) (ci := 2) (v := .ref (as 0)) (C := RX2) (T := TX2) (N := 3) hx hb hts iw_X2_echo_X2 hown hE.1 hP 0 rfl rfl 0 (by decide) (hts (.fieldLink RX2 7 "EchoTapsModel" "state" "[I") (by decide +kernel)) (fun _ h9 => h9) rfl dX2_echo_12 ?_
      refine lv_bipush (v := 21) hx hb dX2_echo_15 (by decide) ?_
      refine va_iald hx hb hE.1 hP 1 0 rfl rfl (vp_in_nI (n := 21) (N := 555) (by decide) (by decide)) dX2_echo_17 ?_
      refine lv_ri ed ?_
      refine lv_iadd hx hb dX2_echo_18 ?_
      refine lv_ri (nI_add k d) ?_
      refine lv_istore (lv' := [(4, .int (nI (k + d))), (2, .int a), (3, .int (nI k)), (1, .int far), (0, .ref h)]) hx hb dX2_echo_19 hl (by decide) rfl (fun ls hl => ?_)
      refine lv_iload_n hx hb dX2_echo_21 rfl (lv_at hl 1 rfl) ?_
      refine lv_aload_n hx hb dX2_echo_22 rfl (lv_at hl 4 rfl) ?_
      refine va_get (D := D) (ci := 2) (v := .ref (as 0)) (C := RX2) (T := TX2) (N := 3) hx hb hts iw_X2_echo_X2 hown hE.1 hP 0 rfl rfl 0 (by decide) (hts (.fieldLink RX2 7 "EchoTapsModel" "state" "[I") (by decide +kernel)) (fun _ h9 => h9) rfl dX2_echo_23 ?_
      refine lv_bipush (v := 13) hx hb dX2_echo_26 (by decide) ?_
      refine lv_iload_n hx hb dX2_echo_28 rfl (lv_at hl 2 rfl) ?_
      refine lv_iadd hx hb dX2_echo_29 ?_
      refine lv_ri (nI_add 13 k) ?_
      refine va_iald hx hb hE.1 hP 1 0 rfl rfl (vp_in_nI (by omega) (by decide)) dX2_echo_30 ?_
      refine lv_ri (congrArg g (nI_clamp (n := 13 + k) (by omega))) ?_
      refine lv_iload hx hb dX2_echo_31 (lv_at hl 0 rfl) ?_
      have j52 : ∀ (v : Int32) (ev : v = mf_ee g far k), W p l e rm_X2_echo s m args below meth c H locs 0 0 Q (F0 m 52 ls [.int v, .int (g (13 + k)), .int a]) := by
        intro v ev
        refine lv_imul hx hb dX2_echo_52 ?_
        refine lv_iadd hx hb dX2_echo_53 ?_
        refine lv_istore_n (lv' := [(2, .int (a + ((g (13 + k)) * v))), (4, .int (nI (k + d))), (3, .int (nI k)), (1, .int far), (0, .ref h)]) hx hb dX2_echo_54 rfl hl (by decide) rfl (fun ls hl => ?_)
        refine lv_iinc (v := nI (k + 1)) (lv' := [(3, .int (nI (k + 1))), (2, .int (a + ((g (13 + k)) * v))), (4, .int (nI (k + d))), (1, .int far), (0, .ref h)]) hx hb dX2_echo_55 hl (k := 2) rfl (nI_1 k) (by decide) rfl (fun ls hl => ?_)
        refine lv_goto (tgt := 4) hx hb dX2_echo_58 (by decide) ?_
        exact ih (k + 1) _ (by omega) (by rw [ha, l_sum, ev]) H locs hP hD hS ls (lv_sub hl [1, 0, 3, 4] rfl)
      refine lv_if_ne (tgt := 40) hx hb dX2_echo_33 (by decide) (fun c_3 => ?_) (fun c_3 => ?_)
      · have c_3 : ¬ (nI (k + d)) = 0 := c_3
        have hkd : ¬ k + d = 0 := fun q => c_3 (by rw [q]; rfl)
        refine lv_aload_n hx hb dX2_echo_40 rfl (lv_at hl 4 rfl) ?_
        refine va_get (D := D) (ci := 2) (v := .ref (as 0)) (C := RX2) (T := TX2) (N := 3) hx hb hts iw_X2_echo_X2 hown hE.1 hP 0 rfl rfl 0 (by decide) (hts (.fieldLink RX2 7 "EchoTapsModel" "state" "[I") (by decide +kernel)) (fun _ h9 => h9) rfl dX2_echo_41 ?_
        refine lv_bipush (v := 33) hx hb dX2_echo_44 (by decide) ?_
        refine lv_iload hx hb dX2_echo_46 (lv_at hl 0 rfl) ?_
        refine lv_iadd hx hb dX2_echo_48 ?_
        refine lv_ri (nI_add 33 (k + d)) ?_
        refine lv_iconst (v := 1) hx hb dX2_echo_49 (by decide) ?_
        refine lv_isub hx hb dX2_echo_50 ?_
        refine lv_ri (pk_sub (a := 33 + (k + d)) (b := 1) (by omega)) ?_
        refine va_iald hx hb hE.1 hP 1 0 rfl rfl (vp_in_nI (by omega) (by decide)) dX2_echo_51 ?_
        refine lv_ri (congrArg g (nI_clamp (n := (33 + (k + d)) - 1) (by omega))) ?_
        exact j52 _ (by rw [mf_ee, ed, nI_clamp (by omega), if_neg hkd])
      · have c_3 : (nI (k + d)) = 0 := c_3
        have hkd : k + d = 0 := (nI_eq (by omega) (by decide)).mp c_3
        refine lv_iload_n hx hb dX2_echo_36 rfl (lv_at hl 3 rfl) ?_
        refine lv_goto (tgt := 52) hx hb dX2_echo_37 (by decide) ?_
        exact j52 _ (by rw [mf_ee, ed, nI_clamp (by omega), if_pos hkd])
  exact loop 8 0 0 rfl rfl H locs hP hD hS ls (lv_sub hl [1, 0, 3, 2] rfl)
end
section
theorem DL.of {g g' : Fn} (e : g' 4 = g 4) (h : DL g) : DL g' := by unfold DL; rw [e]; exact h
theorem LG.of {g g' : Fn} (e : g' 21 = g 21) (h : LG g) : LG g' := by unfold LG; rw [e]; exact h
theorem mf_sh_out {g : Fn} {R M j : Nat} {v : Int32} (h : j < R ∨ R + M ≤ j) (hM : 1 ≤ M) : mf_sh g R M v j = g j := by
  unfold mf_sh
  rw [pk_un (by omega), mf_sk, if_neg (by omega)]
theorem mf_hold_out {g : Fn} {j : Nat} (h : j ≠ 22) : mf_hold g j = g j := by
  unfold mf_hold
  split
  · split
    · rfl
    · exact pk_un h
  · exact pk_un h
theorem mf_os_out {g : Fn} {j : Nat} (h : j ≠ 23) : mf_os g j = g j := by
  unfold mf_os mf_nos
  split
  · split
    · rfl
    · exact pk_un h
  · rfl
theorem mf_learn_out {g : Fn} {j : Nat} (h : j < 5 ∨ 13 ≤ j) : mf_learn g j = g j := mf_ln_out g 8 (by decide) j h
def mf_lr (g : Fn) : Int32 := if ¬ g 22 = 0 then 0 else if ¬ g 31 = 0 then 0 else if g 29 ≤ 0 then 0 else 1
def mf_bt (x : Int32) : Int32 := if x ≤ 0 then 0 else 1
def mf_tk (near loud : Int32) : Int32 := if 2 * pf_sz near ≤ loud then 0 else 1
def mf_lq (g : Fn) (lr : Int32) : Fn := if lr = 0 then g else mf_learn g
def mf_tick (g : Fn) (far near : Int32) : Fn :=
  let g1 := mf_sh g 33 40 far
  let g2 := mf_sh g1 73 40 near
  let g3 := upd g2 24 (g2 24 + 1)
  let g4 := upd g3 25 (mf_est g3)
  let g5 := upd g4 26 (near - g4 25)
  let g6 := upd g5 28 (mf_loud g5)
  let g7 := upd g6 29 (mf_pow g6)
  let g8 := upd g7 30 (mf_tk near (g7 28))
  let g9 := mf_hold g8
  let ga := upd g9 31 (nI (mf_tone g9))
  let gb := upd ga 32 (lf_b1 (mf_lr ga))
  let gc := mf_lq gb (mf_lr ga)
  let gd := upd (mf_os gc) 27 (mf_or gc)
  let ge := mf_sh gd 113 40 (gd 27)
  let gf := mf_sh ge 153 201 (ge 30)
  mf_sh gf 354 201 (mf_bt (gf 31))
theorem mf_tick_spec (g : Fn) (far near : Int32) : ∃ g1 g2 g3 g4 g5 g6 g7 g8 g9 ga gb gc gd ge gf : Fn, g1 = mf_sh g 33 40 far ∧ g2 = mf_sh g1 73 40 near ∧ g3 = upd g2 24 (g2 24 + 1) ∧ g4 = upd g3 25 (mf_est g3) ∧ g5 = upd g4 26 (near - g4 25) ∧ g6 = upd g5 28 (mf_loud g5) ∧ g7 = upd g6 29 (mf_pow g6) ∧ g8 = upd g7 30 (mf_tk near (g7 28)) ∧ g9 = mf_hold g8 ∧ ga = upd g9 31 (nI (mf_tone g9)) ∧ gb = upd ga 32 (lf_b1 (mf_lr ga)) ∧ gc = mf_lq gb (mf_lr ga) ∧ gd = upd (mf_os gc) 27 (mf_or gc) ∧ ge = mf_sh gd 113 40 (gd 27) ∧ gf = mf_sh ge 153 201 (ge 30) ∧ mf_tick g far near = mf_sh gf 354 201 (mf_bt (gf 31)) :=
  ⟨_, _, _, _, _, _, _, _, _, _, _, _, _, _, _, rfl, rfl, rfl, rfl, rfl, rfl, rfl, rfl, rfl, rfl, rfl, rfl, rfl, rfl, rfl, rfl⟩
theorem mf_lq_out {g : Fn} {lr : Int32} {j : Nat} (h : j < 5 ∨ 13 ≤ j) : mf_lq g lr j = g j := by
  unfold mf_lq
  split
  · rfl
  · exact mf_learn_out h
/-- what a TICK leaves -/
theorem mf_tick_out (g : Fn) (far near : Int32) {j : Nat} (h : j < 5 ∨ (13 ≤ j ∧ j < 22)) : mf_tick g far near j = g j := by
  obtain ⟨g1, g2, g3, g4, g5, g6, g7, g8, g9, ga, gb, gc, gd, ge, gf, e1, e2, e3, e4, e5, e6, e7, e8, e9, ea, eb, ec, ed, ee, ef, et⟩ := mf_tick_spec g far near
  rw [et, mf_sh_out (by omega) (by decide), ef, mf_sh_out (by omega) (by decide), ee, mf_sh_out (by omega) (by decide), ed, pk_un (by omega), mf_os_out (by omega), ec, mf_lq_out (by omega), eb, pk_un (by omega), ea, pk_un (by omega), e9, mf_hold_out (by omega), e8, pk_un (by omega), e7, pk_un (by omega), e6, pk_un (by omega), e5, pk_un (by omega), e4, pk_un (by omega), e3, pk_un (by omega), e2, mf_sh_out (by omega) (by decide), e1, mf_sh_out (by omega) (by decide)]
def mf_spk (g : Fn) (far v : Int32) : Fn := mf_tick g far (pf_cl (mf_echo g far + v) (-2000) 2000)
theorem mf_lr_p {g : Fn} (h : ¬ mf_lr g = 0) : 0 < g 29 := by
  unfold mf_lr at h
  split at h
  · exact absurd rfl h
  · split at h
    · exact absurd rfl h
    · split at h
      · exact absurd rfl h
      · rename_i q; exact Int32.not_le.mp q
abbrev rm_X2_tickOf : Room := { frames := 3, cells := 0, slots := 0, locals := 60 }
theorem iw_X2_tickOf_X2 : ∀ w ∈ wsX20, w ∈ wsX2_tickOf := by decide +kernel
set_option maxRecDepth 100000 in
set_option maxHeartbeats 4000000 in
theorem c_X2_tickOf (l : Launch) (D : va_G) (cA cZ cR : ClassId) (h : Nat) (as : Nat → Nat) (g im kp : Fn) (far near : Int32) (hd : DL g) : BMi l D cA cZ cR yX2_tickOf wsX2_tickOf rm_X2_tickOf [.ref h, .int far, .int near] (MW cA cZ h as g im kp) (MW cA cZ h as (mf_tick g far near) im kp) (mf_tick g far near 27) := by
  refine bm_open (maxL := 4) (by decide) rfl rfl rfl (Nat.le_of_ble_eq_true rfl) ?_
  intro p e s m args below meth c A Q hx hb hml hts hown hE hP hD hA hS hret ls hl
  have hown : s.vm.findClass RX2 = some m.cls := hown
  have hl : lv_has ls 4 [(0, .ref h), (1, .int far), (2, .int near)] := hl
  obtain ⟨H, locs, eH, eL⟩ : ∃ (H : Heap) (locs : List Loc), H = s.heap ∧ locs = [] := ⟨_, _, rfl, rfl⟩
  rw [← eH, ← eL]
  rw [← eH] at hP
  have hS : va_S A s.heap H locs := by rw [eH, eL]; exact hS
  clear eH eL
  refine lv_aload_n hx hb dX2_tickOf_0 rfl (lv_at hl 0 rfl) ?_
  refine lv_bipush (v := 33) hx hb dX2_tickOf_1 (by decide) ?_
  refine lv_bipush (v := 40) hx hb dX2_tickOf_3 (by decide) ?_
  refine lv_iload_n hx hb dX2_tickOf_5 rfl (lv_at hl 1 rfl) ?_
  refine bm_v [] (MW cA cZ h as g im kp) [] [.int 33, .int 40, .int far] [] ⟨hx, hb, hml, hown, hts⟩ (c_X2_shift l D cA cZ cR h as g im kp 33 40 far (by decide) (by decide)) (cwV 3 hts gX2_tickOf_X2_shift rfl rfl rfl (by decide +kernel) ⟨Nat.le_of_ble_eq_true rfl, Nat.le_of_ble_eq_true rfl⟩) hE hP hD hS hA MW_adr 0 2 rfl rfl rfl hl.1 rfl (Nat.le_of_ble_eq_true rfl) dX2_tickOf_6 ⟨Nat.zero_le _, Nat.zero_le _⟩ (fun H locs hP hD hS => ?_)
  have hP : va_P D vwCl (MW cA cZ h as (mf_sh g 33 40 far) im kp) H := hP
  have hD : va_D A (MW cA cZ h as (mf_sh g 33 40 far) im kp) := hD
  have hP : va_P D vwCl (MW cA cZ h as (mf_sh g 33 40 far) im kp) H := hP
  have hD : va_D A (MW cA cZ h as (mf_sh g 33 40 far) im kp) := hD
  obtain ⟨g1, eg1⟩ : ∃ z : Fn, z = mf_sh g 33 40 far := ⟨_, rfl⟩
  rw [← eg1] at hP hD
  have hd : DL g1 := DL.of (by rw [eg1]; exact mf_sh_out (Or.inl (by decide)) (by decide)) hd
  refine lv_aload_n hx hb dX2_tickOf_9 rfl (lv_at hl 0 rfl) ?_
  refine lv_bipush (v := 73) hx hb dX2_tickOf_10 (by decide) ?_
  refine lv_bipush (v := 40) hx hb dX2_tickOf_12 (by decide) ?_
  refine lv_iload_n hx hb dX2_tickOf_14 rfl (lv_at hl 2 rfl) ?_
  refine bm_v [] (MW cA cZ h as g1 im kp) [] [.int 73, .int 40, .int near] [] ⟨hx, hb, hml, hown, hts⟩ (c_X2_shift l D cA cZ cR h as g1 im kp 73 40 near (by decide) (by decide)) (cwV 3 hts gX2_tickOf_X2_shift rfl rfl rfl (by decide +kernel) ⟨Nat.le_of_ble_eq_true rfl, Nat.le_of_ble_eq_true rfl⟩) hE hP hD hS hA MW_adr 0 2 rfl rfl rfl hl.1 rfl (Nat.le_of_ble_eq_true rfl) dX2_tickOf_15 ⟨Nat.zero_le _, Nat.zero_le _⟩ (fun H locs hP hD hS => ?_)
  have hP : va_P D vwCl (MW cA cZ h as (mf_sh g1 73 40 near) im kp) H := hP
  have hD : va_D A (MW cA cZ h as (mf_sh g1 73 40 near) im kp) := hD
  have hP : va_P D vwCl (MW cA cZ h as (mf_sh g1 73 40 near) im kp) H := hP
  have hD : va_D A (MW cA cZ h as (mf_sh g1 73 40 near) im kp) := hD
  obtain ⟨g2, eg2⟩ : ∃ z : Fn, z = mf_sh g1 73 40 near := ⟨_, rfl⟩
  rw [← eg2] at hP hD
  have hd : DL g2 := DL.of (by rw [eg2]; exact mf_sh_out (Or.inl (by decide)) (by decide)) hd
  refine lv_aload_n hx hb dX2_tickOf_18 rfl (lv_at hl 0 rfl) ?_
  refine va_get (D := D) (ci := 2) (v := .ref (as 0)) (C := RX2) (T := TX2) (N := 3) hx hb hts iw_X2_tickOf_X2 hown hE.1 hP 0 rfl rfl 0 (by decide) (hts (.fieldLink RX2 7 "EchoTapsModel" "state" "[I") (by decide +kernel)) (fun _ h9 => h9) rfl dX2_tickOf_19 ?_
  refine lv_bipush (v := 24) hx hb dX2_tickOf_22 (by decide) ?_
  refine lv_dup2_11 hx hb dX2_tickOf_24 rfl rfl ?_
  refine va_iald hx hb hE.1 hP 1 0 rfl rfl (vp_in_nI (n := 24) (N := 555) (by decide) (by decide)) dX2_tickOf_25 ?_
  refine lv_iconst (v := 1) hx hb dX2_tickOf_26 (by decide) ?_
  refine lv_iadd hx hb dX2_tickOf_27 ?_
  refine va_iast hx hb hE.1 hP hD hS 1 0 rfl rfl (vp_in_nI (n := 24) (N := 555) (by decide) (by decide)) dX2_tickOf_28 (fun H locs hP hD hS => ?_)
  have hP : va_P D vwCl (MW cA cZ h as (upd g2 24 ((g2 24) + 1)) im kp) H := hP
  have hD : va_D A (MW cA cZ h as (upd g2 24 ((g2 24) + 1)) im kp) := hD
  have hP : va_P D vwCl (MW cA cZ h as (upd g2 24 (g2 24 + 1)) im kp) H := hP
  have hD : va_D A (MW cA cZ h as (upd g2 24 (g2 24 + 1)) im kp) := hD
  obtain ⟨g3, eg3⟩ : ∃ z : Fn, z = upd g2 24 (g2 24 + 1) := ⟨_, rfl⟩
  rw [← eg3] at hP hD
  have hd : DL g3 := DL.of (by rw [eg3]; exact pk_un (by decide)) hd
  refine lv_aload_n hx hb dX2_tickOf_29 rfl (lv_at hl 0 rfl) ?_
  refine va_get (D := D) (ci := 2) (v := .ref (as 0)) (C := RX2) (T := TX2) (N := 3) hx hb hts iw_X2_tickOf_X2 hown hE.1 hP 0 rfl rfl 0 (by decide) (hts (.fieldLink RX2 7 "EchoTapsModel" "state" "[I") (by decide +kernel)) (fun _ h9 => h9) rfl dX2_tickOf_30 ?_
  refine lv_bipush (v := 25) hx hb dX2_tickOf_33 (by decide) ?_
  refine lv_aload_n hx hb dX2_tickOf_35 rfl (lv_at hl 0 rfl) ?_
  refine bm_i [] (MW cA cZ h as g3 im kp) [] [] [.int 25, .ref (as 0)] ⟨hx, hb, hml, hown, hts⟩ (c_X2_estimate l D cA cZ cR h as g3 im kp hd) (cwV 0 hts gX2_tickOf_X2_estimate rfl rfl rfl (by decide +kernel) ⟨Nat.le_of_ble_eq_true rfl, Nat.le_of_ble_eq_true rfl⟩) hE hP hD hS hA MW_adr 0 2 rfl rfl rfl hl.1 rfl (Nat.le_of_ble_eq_true rfl) dX2_tickOf_36 ⟨Nat.zero_le _, Nat.zero_le _⟩ (fun H locs hP hD hS => ?_)
  have hP : va_P D vwCl (MW cA cZ h as g3 im kp) H := hP
  have hD : va_D A (MW cA cZ h as g3 im kp) := hD
  refine va_iast hx hb hE.1 hP hD hS 1 0 rfl rfl (vp_in_nI (n := 25) (N := 555) (by decide) (by decide)) dX2_tickOf_39 (fun H locs hP hD hS => ?_)
  have hP : va_P D vwCl (MW cA cZ h as (upd g3 25 (mf_est g3)) im kp) H := hP
  have hD : va_D A (MW cA cZ h as (upd g3 25 (mf_est g3)) im kp) := hD
  have hP : va_P D vwCl (MW cA cZ h as (upd g3 25 (mf_est g3)) im kp) H := hP
  have hD : va_D A (MW cA cZ h as (upd g3 25 (mf_est g3)) im kp) := hD
  obtain ⟨g4, eg4⟩ : ∃ z : Fn, z = upd g3 25 (mf_est g3) := ⟨_, rfl⟩
  rw [← eg4] at hP hD
  have hd : DL g4 := DL.of (by rw [eg4]; exact pk_un (by decide)) hd
  refine lv_aload_n hx hb dX2_tickOf_40 rfl (lv_at hl 0 rfl) ?_
  refine va_get (D := D) (ci := 2) (v := .ref (as 0)) (C := RX2) (T := TX2) (N := 3) hx hb hts iw_X2_tickOf_X2 hown hE.1 hP 0 rfl rfl 0 (by decide) (hts (.fieldLink RX2 7 "EchoTapsModel" "state" "[I") (by decide +kernel)) (fun _ h9 => h9) rfl dX2_tickOf_41 ?_
  refine lv_bipush (v := 26) hx hb dX2_tickOf_44 (by decide) ?_
  refine lv_iload_n hx hb dX2_tickOf_46 rfl (lv_at hl 2 rfl) ?_
  refine lv_aload_n hx hb dX2_tickOf_47 rfl (lv_at hl 0 rfl) ?_
  refine va_get (D := D) (ci := 2) (v := .ref (as 0)) (C := RX2) (T := TX2) (N := 3) hx hb hts iw_X2_tickOf_X2 hown hE.1 hP 0 rfl rfl 0 (by decide) (hts (.fieldLink RX2 7 "EchoTapsModel" "state" "[I") (by decide +kernel)) (fun _ h9 => h9) rfl dX2_tickOf_48 ?_
  refine lv_bipush (v := 25) hx hb dX2_tickOf_51 (by decide) ?_
  refine va_iald hx hb hE.1 hP 1 0 rfl rfl (vp_in_nI (n := 25) (N := 555) (by decide) (by decide)) dX2_tickOf_53 ?_
  refine lv_isub hx hb dX2_tickOf_54 ?_
  refine va_iast hx hb hE.1 hP hD hS 1 0 rfl rfl (vp_in_nI (n := 26) (N := 555) (by decide) (by decide)) dX2_tickOf_55 (fun H locs hP hD hS => ?_)
  have hP : va_P D vwCl (MW cA cZ h as (upd g4 26 (near - (g4 25))) im kp) H := hP
  have hD : va_D A (MW cA cZ h as (upd g4 26 (near - (g4 25))) im kp) := hD
  have hP : va_P D vwCl (MW cA cZ h as (upd g4 26 (near - g4 25)) im kp) H := hP
  have hD : va_D A (MW cA cZ h as (upd g4 26 (near - g4 25)) im kp) := hD
  obtain ⟨g5, eg5⟩ : ∃ z : Fn, z = upd g4 26 (near - g4 25) := ⟨_, rfl⟩
  rw [← eg5] at hP hD
  have hd : DL g5 := DL.of (by rw [eg5]; exact pk_un (by decide)) hd
  refine lv_aload_n hx hb dX2_tickOf_56 rfl (lv_at hl 0 rfl) ?_
  refine va_get (D := D) (ci := 2) (v := .ref (as 0)) (C := RX2) (T := TX2) (N := 3) hx hb hts iw_X2_tickOf_X2 hown hE.1 hP 0 rfl rfl 0 (by decide) (hts (.fieldLink RX2 7 "EchoTapsModel" "state" "[I") (by decide +kernel)) (fun _ h9 => h9) rfl dX2_tickOf_57 ?_
  refine lv_bipush (v := 28) hx hb dX2_tickOf_60 (by decide) ?_
  refine lv_aload_n hx hb dX2_tickOf_62 rfl (lv_at hl 0 rfl) ?_
  refine bm_i [] (MW cA cZ h as g5 im kp) [] [] [.int 28, .ref (as 0)] ⟨hx, hb, hml, hown, hts⟩ (c_X2_loud l D cA cZ cR h as g5 im kp) (cwV 0 hts gX2_tickOf_X2_loud rfl rfl rfl (by decide +kernel) ⟨Nat.le_of_ble_eq_true rfl, Nat.le_of_ble_eq_true rfl⟩) hE hP hD hS hA MW_adr 0 2 rfl rfl rfl hl.1 rfl (Nat.le_of_ble_eq_true rfl) dX2_tickOf_63 ⟨Nat.zero_le _, Nat.zero_le _⟩ (fun H locs hP hD hS => ?_)
  have hP : va_P D vwCl (MW cA cZ h as g5 im kp) H := hP
  have hD : va_D A (MW cA cZ h as g5 im kp) := hD
  refine va_iast hx hb hE.1 hP hD hS 1 0 rfl rfl (vp_in_nI (n := 28) (N := 555) (by decide) (by decide)) dX2_tickOf_66 (fun H locs hP hD hS => ?_)
  have hP : va_P D vwCl (MW cA cZ h as (upd g5 28 (mf_loud g5)) im kp) H := hP
  have hD : va_D A (MW cA cZ h as (upd g5 28 (mf_loud g5)) im kp) := hD
  have hP : va_P D vwCl (MW cA cZ h as (upd g5 28 (mf_loud g5)) im kp) H := hP
  have hD : va_D A (MW cA cZ h as (upd g5 28 (mf_loud g5)) im kp) := hD
  obtain ⟨g6, eg6⟩ : ∃ z : Fn, z = upd g5 28 (mf_loud g5) := ⟨_, rfl⟩
  rw [← eg6] at hP hD
  have hd : DL g6 := DL.of (by rw [eg6]; exact pk_un (by decide)) hd
  refine lv_aload_n hx hb dX2_tickOf_67 rfl (lv_at hl 0 rfl) ?_
  refine va_get (D := D) (ci := 2) (v := .ref (as 0)) (C := RX2) (T := TX2) (N := 3) hx hb hts iw_X2_tickOf_X2 hown hE.1 hP 0 rfl rfl 0 (by decide) (hts (.fieldLink RX2 7 "EchoTapsModel" "state" "[I") (by decide +kernel)) (fun _ h9 => h9) rfl dX2_tickOf_68 ?_
  refine lv_bipush (v := 29) hx hb dX2_tickOf_71 (by decide) ?_
  refine lv_aload_n hx hb dX2_tickOf_73 rfl (lv_at hl 0 rfl) ?_
  refine bm_i [] (MW cA cZ h as g6 im kp) [] [] [.int 29, .ref (as 0)] ⟨hx, hb, hml, hown, hts⟩ (c_X2_power l D cA cZ cR h as g6 im kp hd) (cwV 0 hts gX2_tickOf_X2_power rfl rfl rfl (by decide +kernel) ⟨Nat.le_of_ble_eq_true rfl, Nat.le_of_ble_eq_true rfl⟩) hE hP hD hS hA MW_adr 0 2 rfl rfl rfl hl.1 rfl (Nat.le_of_ble_eq_true rfl) dX2_tickOf_74 ⟨Nat.zero_le _, Nat.zero_le _⟩ (fun H locs hP hD hS => ?_)
  have hP : va_P D vwCl (MW cA cZ h as g6 im kp) H := hP
  have hD : va_D A (MW cA cZ h as g6 im kp) := hD
  refine va_iast hx hb hE.1 hP hD hS 1 0 rfl rfl (vp_in_nI (n := 29) (N := 555) (by decide) (by decide)) dX2_tickOf_77 (fun H locs hP hD hS => ?_)
  have hP : va_P D vwCl (MW cA cZ h as (upd g6 29 (mf_pow g6)) im kp) H := hP
  have hD : va_D A (MW cA cZ h as (upd g6 29 (mf_pow g6)) im kp) := hD
  have hP : va_P D vwCl (MW cA cZ h as (upd g6 29 (mf_pow g6)) im kp) H := hP
  have hD : va_D A (MW cA cZ h as (upd g6 29 (mf_pow g6)) im kp) := hD
  obtain ⟨g7, eg7⟩ : ∃ z : Fn, z = upd g6 29 (mf_pow g6) := ⟨_, rfl⟩
  rw [← eg7] at hP hD
  have hd : DL g7 := DL.of (by rw [eg7]; exact pk_un (by decide)) hd
  refine lv_aload_n hx hb dX2_tickOf_78 rfl (lv_at hl 0 rfl) ?_
  refine va_get (D := D) (ci := 2) (v := .ref (as 0)) (C := RX2) (T := TX2) (N := 3) hx hb hts iw_X2_tickOf_X2 hown hE.1 hP 0 rfl rfl 0 (by decide) (hts (.fieldLink RX2 7 "EchoTapsModel" "state" "[I") (by decide +kernel)) (fun _ h9 => h9) rfl dX2_tickOf_79 ?_
  refine lv_bipush (v := 30) hx hb dX2_tickOf_82 (by decide) ?_
  refine lv_iconst (v := 2) hx hb dX2_tickOf_84 (by decide) ?_
  refine lv_iload_n hx hb dX2_tickOf_85 rfl (lv_at hl 2 rfl) ?_
  refine sm_i [.int near] [.int 2, .int 30, .ref (as 0)] ⟨hx, hb, hml, hown, hts⟩ (c_X2_size l near) (va_cwS 1 hts gX2_tickOf_X2_size rfl rfl rfl (by decide +kernel) ⟨Nat.le_of_ble_eq_true rfl, Nat.le_of_ble_eq_true rfl⟩) rfl hl.1 rfl (Nat.le_of_ble_eq_true rfl) dX2_tickOf_86 ⟨Nat.zero_le _, Nat.zero_le _⟩ ?_
  refine lv_imul hx hb dX2_tickOf_89 ?_
  refine lv_aload_n hx hb dX2_tickOf_90 rfl (lv_at hl 0 rfl) ?_
  refine va_get (D := D) (ci := 2) (v := .ref (as 0)) (C := RX2) (T := TX2) (N := 3) hx hb hts iw_X2_tickOf_X2 hown hE.1 hP 0 rfl rfl 0 (by decide) (hts (.fieldLink RX2 7 "EchoTapsModel" "state" "[I") (by decide +kernel)) (fun _ h9 => h9) rfl dX2_tickOf_91 ?_
  refine lv_bipush (v := 28) hx hb dX2_tickOf_94 (by decide) ?_
  refine va_iald hx hb hE.1 hP 1 0 rfl rfl (vp_in_nI (n := 28) (N := 555) (by decide) (by decide)) dX2_tickOf_96 ?_
  have j105 : ∀ (tk : Int32) (etk : tk = mf_tk near (g7 28)), W p l e rm_X2_tickOf s m args below meth c H locs 0 0 Q (F0 m 105 ls [.int tk, .int 30, .ref (as 0)]) := by
    intro tk etk
    refine va_iast hx hb hE.1 hP hD hS 1 0 rfl rfl (vp_in_nI (n := 30) (N := 555) (by decide) (by decide)) dX2_tickOf_105 (fun H locs hP hD hS => ?_)
    have hP : va_P D vwCl (MW cA cZ h as (upd g7 30 tk) im kp) H := hP
    have hD : va_D A (MW cA cZ h as (upd g7 30 tk) im kp) := hD
    have hP : va_P D vwCl (MW cA cZ h as (upd g7 30 tk) im kp) H := hP
    have hD : va_D A (MW cA cZ h as (upd g7 30 tk) im kp) := hD
    obtain ⟨g8, eg8⟩ : ∃ z : Fn, z = upd g7 30 tk := ⟨_, rfl⟩
    rw [← eg8] at hP hD
    have hd : DL g8 := DL.of (by rw [eg8]; exact pk_un (by decide)) hd
    refine lv_aload_n hx hb dX2_tickOf_106 rfl (lv_at hl 0 rfl) ?_
    refine bm_v [] (MW cA cZ h as g8 im kp) [] [] [] ⟨hx, hb, hml, hown, hts⟩ (c_X2_hold l D cA cZ cR h as g8 im kp) (cwV 0 hts gX2_tickOf_X2_hold rfl rfl rfl (by decide +kernel) ⟨Nat.le_of_ble_eq_true rfl, Nat.le_of_ble_eq_true rfl⟩) hE hP hD hS hA MW_adr 0 2 rfl rfl rfl hl.1 rfl (Nat.le_of_ble_eq_true rfl) dX2_tickOf_107 ⟨Nat.zero_le _, Nat.zero_le _⟩ (fun H locs hP hD hS => ?_)
    have hP : va_P D vwCl (MW cA cZ h as (mf_hold g8) im kp) H := hP
    have hD : va_D A (MW cA cZ h as (mf_hold g8) im kp) := hD
    have hP : va_P D vwCl (MW cA cZ h as (mf_hold g8) im kp) H := hP
    have hD : va_D A (MW cA cZ h as (mf_hold g8) im kp) := hD
    obtain ⟨g9, eg9⟩ : ∃ z : Fn, z = mf_hold g8 := ⟨_, rfl⟩
    rw [← eg9] at hP hD
    have hd : DL g9 := DL.of (by rw [eg9]; exact mf_hold_out (by decide)) hd
    refine lv_aload_n hx hb dX2_tickOf_110 rfl (lv_at hl 0 rfl) ?_
    refine va_get (D := D) (ci := 2) (v := .ref (as 0)) (C := RX2) (T := TX2) (N := 3) hx hb hts iw_X2_tickOf_X2 hown hE.1 hP 0 rfl rfl 0 (by decide) (hts (.fieldLink RX2 7 "EchoTapsModel" "state" "[I") (by decide +kernel)) (fun _ h9 => h9) rfl dX2_tickOf_111 ?_
    refine lv_bipush (v := 31) hx hb dX2_tickOf_114 (by decide) ?_
    refine lv_aload_n hx hb dX2_tickOf_116 rfl (lv_at hl 0 rfl) ?_
    refine bm_i [] (MW cA cZ h as g9 im kp) [] [] [.int 31, .ref (as 0)] ⟨hx, hb, hml, hown, hts⟩ (c_X2_tone l D cA cZ cR h as g9 im kp) (cwV 0 hts gX2_tickOf_X2_tone rfl rfl rfl (by decide +kernel) ⟨Nat.le_of_ble_eq_true rfl, Nat.le_of_ble_eq_true rfl⟩) hE hP hD hS hA MW_adr 0 2 rfl rfl rfl hl.1 rfl (Nat.le_of_ble_eq_true rfl) dX2_tickOf_117 ⟨Nat.zero_le _, Nat.zero_le _⟩ (fun H locs hP hD hS => ?_)
    have hP : va_P D vwCl (MW cA cZ h as g9 im kp) H := hP
    have hD : va_D A (MW cA cZ h as g9 im kp) := hD
    refine va_iast hx hb hE.1 hP hD hS 1 0 rfl rfl (vp_in_nI (n := 31) (N := 555) (by decide) (by decide)) dX2_tickOf_120 (fun H locs hP hD hS => ?_)
    have hP : va_P D vwCl (MW cA cZ h as (upd g9 31 (nI (mf_tone g9))) im kp) H := hP
    have hD : va_D A (MW cA cZ h as (upd g9 31 (nI (mf_tone g9))) im kp) := hD
    have hP : va_P D vwCl (MW cA cZ h as (upd g9 31 (nI (mf_tone g9))) im kp) H := hP
    have hD : va_D A (MW cA cZ h as (upd g9 31 (nI (mf_tone g9))) im kp) := hD
    obtain ⟨ga, ega⟩ : ∃ z : Fn, z = upd g9 31 (nI (mf_tone g9)) := ⟨_, rfl⟩
    rw [← ega] at hP hD
    have hd : DL ga := DL.of (by rw [ega]; exact pk_un (by decide)) hd
    refine lv_aload_n hx hb dX2_tickOf_121 rfl (lv_at hl 0 rfl) ?_
    refine va_get (D := D) (ci := 2) (v := .ref (as 0)) (C := RX2) (T := TX2) (N := 3) hx hb hts iw_X2_tickOf_X2 hown hE.1 hP 0 rfl rfl 0 (by decide) (hts (.fieldLink RX2 7 "EchoTapsModel" "state" "[I") (by decide +kernel)) (fun _ h9 => h9) rfl dX2_tickOf_122 ?_
    refine lv_bipush (v := 22) hx hb dX2_tickOf_125 (by decide) ?_
    refine va_iald hx hb hE.1 hP 1 0 rfl rfl (vp_in_nI (n := 22) (N := 555) (by decide) (by decide)) dX2_tickOf_127 ?_
    have j156 : ∀ (lr : Int32) (elr : lr = mf_lr ga), W p l e rm_X2_tickOf s m args below meth c H locs 0 0 Q (F0 m 156 ls [.int lr]) := by
      intro lr elr
      refine lv_istore_n (lv' := [(3, .int lr), (0, .ref h), (1, .int far), (2, .int near)]) hx hb dX2_tickOf_156 rfl hl (by decide) rfl (fun ls hl => ?_)
      refine lv_aload_n hx hb dX2_tickOf_157 rfl (lv_at hl 1 rfl) ?_
      refine va_get (D := D) (ci := 2) (v := .ref (as 0)) (C := RX2) (T := TX2) (N := 3) hx hb hts iw_X2_tickOf_X2 hown hE.1 hP 0 rfl rfl 0 (by decide) (hts (.fieldLink RX2 7 "EchoTapsModel" "state" "[I") (by decide +kernel)) (fun _ h9 => h9) rfl dX2_tickOf_158 ?_
      refine lv_bipush (v := 32) hx hb dX2_tickOf_161 (by decide) ?_
      refine lv_iload_n hx hb dX2_tickOf_163 rfl (lv_at hl 0 rfl) ?_
      have j172 : ∀ (b1 : Int32) (eb1 : b1 = lf_b1 lr), W p l e rm_X2_tickOf s m args below meth c H locs 0 0 Q (F0 m 172 ls [.int b1, .int 32, .ref (as 0)]) := by
        intro b1 eb1
        refine va_iast hx hb hE.1 hP hD hS 1 0 rfl rfl (vp_in_nI (n := 32) (N := 555) (by decide) (by decide)) dX2_tickOf_172 (fun H locs hP hD hS => ?_)
        have hP : va_P D vwCl (MW cA cZ h as (upd ga 32 b1) im kp) H := hP
        have hD : va_D A (MW cA cZ h as (upd ga 32 b1) im kp) := hD
        have hP : va_P D vwCl (MW cA cZ h as (upd ga 32 b1) im kp) H := hP
        have hD : va_D A (MW cA cZ h as (upd ga 32 b1) im kp) := hD
        obtain ⟨gb, egb⟩ : ∃ z : Fn, z = upd ga 32 b1 := ⟨_, rfl⟩
        rw [← egb] at hP hD
        have hd : DL gb := DL.of (by rw [egb]; exact pk_un (by decide)) hd
        refine lv_iload_n hx hb dX2_tickOf_173 rfl (lv_at hl 0 rfl) ?_
        have j181 : ∀ (gc : Fn) (egc : gc = mf_lq gb lr), ∀ (H : Heap) (locs : List Loc), va_P D vwCl (MW cA cZ h as gc im kp) H → va_D A (MW cA cZ h as gc im kp) → va_S A s.heap H locs → W p l e rm_X2_tickOf s m args below meth c H locs 0 0 Q (F0 m 181 ls []) := by
          intro gc egc H locs hP hD hS
          refine lv_aload_n hx hb dX2_tickOf_181 rfl (lv_at hl 1 rfl) ?_
          refine va_get (D := D) (ci := 2) (v := .ref (as 0)) (C := RX2) (T := TX2) (N := 3) hx hb hts iw_X2_tickOf_X2 hown hE.1 hP 0 rfl rfl 0 (by decide) (hts (.fieldLink RX2 7 "EchoTapsModel" "state" "[I") (by decide +kernel)) (fun _ h9 => h9) rfl dX2_tickOf_182 ?_
          refine lv_bipush (v := 27) hx hb dX2_tickOf_185 (by decide) ?_
          refine lv_aload_n hx hb dX2_tickOf_187 rfl (lv_at hl 1 rfl) ?_
          refine bm_i [] (MW cA cZ h as gc im kp) [] [] [.int 27, .ref (as 0)] ⟨hx, hb, hml, hown, hts⟩ (c_X2_outNow l D cA cZ cR h as gc im kp) (cwV 0 hts gX2_tickOf_X2_outNow rfl rfl rfl (by decide +kernel) ⟨Nat.le_of_ble_eq_true rfl, Nat.le_of_ble_eq_true rfl⟩) hE hP hD hS hA MW_adr 0 2 rfl rfl rfl hl.1 rfl (Nat.le_of_ble_eq_true rfl) dX2_tickOf_188 ⟨Nat.zero_le _, Nat.zero_le _⟩ (fun H locs hP hD hS => ?_)
          have hP : va_P D vwCl (MW cA cZ h as (mf_os gc) im kp) H := hP
          have hD : va_D A (MW cA cZ h as (mf_os gc) im kp) := hD
          refine va_iast hx hb hE.1 hP hD hS 1 0 rfl rfl (vp_in_nI (n := 27) (N := 555) (by decide) (by decide)) dX2_tickOf_191 (fun H locs hP hD hS => ?_)
          have hP : va_P D vwCl (MW cA cZ h as (upd (mf_os gc) 27 (mf_or gc)) im kp) H := hP
          have hD : va_D A (MW cA cZ h as (upd (mf_os gc) 27 (mf_or gc)) im kp) := hD
          have hP : va_P D vwCl (MW cA cZ h as (upd (mf_os gc) 27 (mf_or gc)) im kp) H := hP
          have hD : va_D A (MW cA cZ h as (upd (mf_os gc) 27 (mf_or gc)) im kp) := hD
          obtain ⟨gd, egd⟩ : ∃ z : Fn, z = upd (mf_os gc) 27 (mf_or gc) := ⟨_, rfl⟩
          rw [← egd] at hP hD
          refine lv_aload_n hx hb dX2_tickOf_192 rfl (lv_at hl 1 rfl) ?_
          refine lv_bipush (v := 113) hx hb dX2_tickOf_193 (by decide) ?_
          refine lv_bipush (v := 40) hx hb dX2_tickOf_195 (by decide) ?_
          refine lv_aload_n hx hb dX2_tickOf_197 rfl (lv_at hl 1 rfl) ?_
          refine va_get (D := D) (ci := 2) (v := .ref (as 0)) (C := RX2) (T := TX2) (N := 3) hx hb hts iw_X2_tickOf_X2 hown hE.1 hP 0 rfl rfl 0 (by decide) (hts (.fieldLink RX2 7 "EchoTapsModel" "state" "[I") (by decide +kernel)) (fun _ h9 => h9) rfl dX2_tickOf_198 ?_
          refine lv_bipush (v := 27) hx hb dX2_tickOf_201 (by decide) ?_
          refine va_iald hx hb hE.1 hP 1 0 rfl rfl (vp_in_nI (n := 27) (N := 555) (by decide) (by decide)) dX2_tickOf_203 ?_
          refine bm_v [] (MW cA cZ h as gd im kp) [] [.int 113, .int 40, .int (gd 27)] [] ⟨hx, hb, hml, hown, hts⟩ (c_X2_shift l D cA cZ cR h as gd im kp 113 40 (gd 27) (by decide) (by decide)) (cwV 3 hts gX2_tickOf_X2_shift rfl rfl rfl (by decide +kernel) ⟨Nat.le_of_ble_eq_true rfl, Nat.le_of_ble_eq_true rfl⟩) hE hP hD hS hA MW_adr 0 2 rfl rfl rfl hl.1 rfl (Nat.le_of_ble_eq_true rfl) dX2_tickOf_204 ⟨Nat.zero_le _, Nat.zero_le _⟩ (fun H locs hP hD hS => ?_)
          have hP : va_P D vwCl (MW cA cZ h as (mf_sh gd 113 40 (gd 27)) im kp) H := hP
          have hD : va_D A (MW cA cZ h as (mf_sh gd 113 40 (gd 27)) im kp) := hD
          have hP : va_P D vwCl (MW cA cZ h as (mf_sh gd 113 40 (gd 27)) im kp) H := hP
          have hD : va_D A (MW cA cZ h as (mf_sh gd 113 40 (gd 27)) im kp) := hD
          obtain ⟨ge, ege⟩ : ∃ z : Fn, z = mf_sh gd 113 40 (gd 27) := ⟨_, rfl⟩
          rw [← ege] at hP hD
          refine lv_aload_n hx hb dX2_tickOf_207 rfl (lv_at hl 1 rfl) ?_
          refine lv_sipush (v := 153) hx hb dX2_tickOf_208 (by decide) ?_
          refine lv_sipush (v := 201) hx hb dX2_tickOf_211 (by decide) ?_
          refine lv_aload_n hx hb dX2_tickOf_214 rfl (lv_at hl 1 rfl) ?_
          refine va_get (D := D) (ci := 2) (v := .ref (as 0)) (C := RX2) (T := TX2) (N := 3) hx hb hts iw_X2_tickOf_X2 hown hE.1 hP 0 rfl rfl 0 (by decide) (hts (.fieldLink RX2 7 "EchoTapsModel" "state" "[I") (by decide +kernel)) (fun _ h9 => h9) rfl dX2_tickOf_215 ?_
          refine lv_bipush (v := 30) hx hb dX2_tickOf_218 (by decide) ?_
          refine va_iald hx hb hE.1 hP 1 0 rfl rfl (vp_in_nI (n := 30) (N := 555) (by decide) (by decide)) dX2_tickOf_220 ?_
          refine bm_v [] (MW cA cZ h as ge im kp) [] [.int 153, .int 201, .int (ge 30)] [] ⟨hx, hb, hml, hown, hts⟩ (c_X2_shift l D cA cZ cR h as ge im kp 153 201 (ge 30) (by decide) (by decide)) (cwV 3 hts gX2_tickOf_X2_shift rfl rfl rfl (by decide +kernel) ⟨Nat.le_of_ble_eq_true rfl, Nat.le_of_ble_eq_true rfl⟩) hE hP hD hS hA MW_adr 0 2 rfl rfl rfl hl.1 rfl (Nat.le_of_ble_eq_true rfl) dX2_tickOf_221 ⟨Nat.zero_le _, Nat.zero_le _⟩ (fun H locs hP hD hS => ?_)
          have hP : va_P D vwCl (MW cA cZ h as (mf_sh ge 153 201 (ge 30)) im kp) H := hP
          have hD : va_D A (MW cA cZ h as (mf_sh ge 153 201 (ge 30)) im kp) := hD
          have hP : va_P D vwCl (MW cA cZ h as (mf_sh ge 153 201 (ge 30)) im kp) H := hP
          have hD : va_D A (MW cA cZ h as (mf_sh ge 153 201 (ge 30)) im kp) := hD
          obtain ⟨gf, egf⟩ : ∃ z : Fn, z = mf_sh ge 153 201 (ge 30) := ⟨_, rfl⟩
          rw [← egf] at hP hD
          refine lv_aload_n hx hb dX2_tickOf_224 rfl (lv_at hl 1 rfl) ?_
          refine lv_sipush (v := 354) hx hb dX2_tickOf_225 (by decide) ?_
          refine lv_sipush (v := 201) hx hb dX2_tickOf_228 (by decide) ?_
          refine lv_aload_n hx hb dX2_tickOf_231 rfl (lv_at hl 1 rfl) ?_
          refine va_get (D := D) (ci := 2) (v := .ref (as 0)) (C := RX2) (T := TX2) (N := 3) hx hb hts iw_X2_tickOf_X2 hown hE.1 hP 0 rfl rfl 0 (by decide) (hts (.fieldLink RX2 7 "EchoTapsModel" "state" "[I") (by decide +kernel)) (fun _ h9 => h9) rfl dX2_tickOf_232 ?_
          refine lv_bipush (v := 31) hx hb dX2_tickOf_235 (by decide) ?_
          refine va_iald hx hb hE.1 hP 1 0 rfl rfl (vp_in_nI (n := 31) (N := 555) (by decide) (by decide)) dX2_tickOf_237 ?_
          have j246 : ∀ (bt : Int32) (ebt : bt = mf_bt (gf 31)), W p l e rm_X2_tickOf s m args below meth c H locs 0 0 Q (F0 m 246 ls [.int bt, .int 201, .int 354, .ref h]) := by
            intro bt ebt
            refine bm_v [] (MW cA cZ h as gf im kp) [] [.int 354, .int 201, .int bt] [] ⟨hx, hb, hml, hown, hts⟩ (c_X2_shift l D cA cZ cR h as gf im kp 354 201 bt (by decide) (by decide)) (cwV 3 hts gX2_tickOf_X2_shift rfl rfl rfl (by decide +kernel) ⟨Nat.le_of_ble_eq_true rfl, Nat.le_of_ble_eq_true rfl⟩) hE hP hD hS hA MW_adr 0 2 rfl rfl rfl hl.1 rfl (Nat.le_of_ble_eq_true rfl) dX2_tickOf_246 ⟨Nat.zero_le _, Nat.zero_le _⟩ (fun H locs hP hD hS => ?_)
            have hP : va_P D vwCl (MW cA cZ h as (mf_sh gf 354 201 bt) im kp) H := hP
            have hD : va_D A (MW cA cZ h as (mf_sh gf 354 201 bt) im kp) := hD
            have hP : va_P D vwCl (MW cA cZ h as (mf_sh gf 354 201 bt) im kp) H := hP
            have hD : va_D A (MW cA cZ h as (mf_sh gf 354 201 bt) im kp) := hD
            obtain ⟨gz, egz⟩ : ∃ z : Fn, z = mf_sh gf 354 201 bt := ⟨_, rfl⟩
            rw [← egz] at hP hD
            refine lv_aload_n hx hb dX2_tickOf_249 rfl (lv_at hl 1 rfl) ?_
            refine va_get (D := D) (ci := 2) (v := .ref (as 0)) (C := RX2) (T := TX2) (N := 3) hx hb hts iw_X2_tickOf_X2 hown hE.1 hP 0 rfl rfl 0 (by decide) (hts (.fieldLink RX2 7 "EchoTapsModel" "state" "[I") (by decide +kernel)) (fun _ h9 => h9) rfl dX2_tickOf_250 ?_
            refine lv_bipush (v := 27) hx hb dX2_tickOf_253 (by decide) ?_
            refine va_iald hx hb hE.1 hP 1 0 rfl rfl (vp_in_nI (n := 27) (N := 555) (by decide) (by decide)) dX2_tickOf_255 ?_
            have e1 : mf_tick g far near = gz := by subst egz ebt egf ege egd egc egb eb1 elr ega eg9 eg8 etk eg7 eg6 eg5 eg4 eg3 eg2 eg1; rfl
            exact hret _ _ _ _ _ (by rw [e1]; exact hP) (by rw [e1] <;> rfl) hS dX2_tickOf_256
          refine lv_if_le (tgt := 245) hx hb dX2_tickOf_238 (by decide) (fun c_1 => ?_) (fun c_1 => ?_)
          · have c_1 : (gf 31) ≤ 0 := c_1
            refine lv_iconst (v := 0) hx hb dX2_tickOf_245 (by decide) ?_
            exact j246 _ (if_pos c_1).symm
          · have c_1 : ¬ (gf 31) ≤ 0 := c_1
            refine lv_iconst (v := 1) hx hb dX2_tickOf_241 (by decide) ?_
            refine lv_goto (tgt := 246) hx hb dX2_tickOf_242 (by decide) ?_
            exact j246 _ (if_neg c_1).symm
        refine lv_if_eq (tgt := 181) hx hb dX2_tickOf_174 (by decide) (fun c_2 => ?_) (fun c_2 => ?_)
        · have c_2 : lr = 0 := c_2
          exact j181 _ (if_pos c_2).symm H locs hP hD hS
        · have c_2 : ¬ lr = 0 := c_2
          have hp29 : 0 < gb 29 := by rw [egb, pk_un (by decide)]; exact mf_lr_p (by rw [← elr]; exact c_2)
          refine lv_aload_n hx hb dX2_tickOf_177 rfl (lv_at hl 1 rfl) ?_
          refine bm_v [] (MW cA cZ h as gb im kp) [] [] [] ⟨hx, hb, hml, hown, hts⟩ (c_X2_learn l D cA cZ cR h as gb im kp hd hp29) (cwV 0 hts gX2_tickOf_X2_learn rfl rfl rfl (by decide +kernel) ⟨Nat.le_of_ble_eq_true rfl, Nat.le_of_ble_eq_true rfl⟩) hE hP hD hS hA MW_adr 0 2 rfl rfl rfl hl.1 rfl (Nat.le_of_ble_eq_true rfl) dX2_tickOf_178 ⟨Nat.zero_le _, Nat.zero_le _⟩ (fun H locs hP hD hS => ?_)
          have hP : va_P D vwCl (MW cA cZ h as (mf_learn gb) im kp) H := hP
          have hD : va_D A (MW cA cZ h as (mf_learn gb) im kp) := hD
          exact j181 _ (if_neg c_2).symm H locs hP hD hS
      refine lv_if_eq (tgt := 171) hx hb dX2_tickOf_164 (by decide) (fun c_3 => ?_) (fun c_3 => ?_)
      · have c_3 : lr = 0 := c_3
        refine lv_iconst (v := 0) hx hb dX2_tickOf_171 (by decide) ?_
        exact j172 _ (if_pos c_3).symm
      · have c_3 : ¬ lr = 0 := c_3
        refine lv_iconst (v := 1) hx hb dX2_tickOf_167 (by decide) ?_
        refine lv_goto (tgt := 172) hx hb dX2_tickOf_168 (by decide) ?_
        exact j172 _ (if_neg c_3).symm
    refine lv_if_ne (tgt := 155) hx hb dX2_tickOf_128 (by decide) (fun c_4 => ?_) (fun c_4 => ?_)
    · have c_4 : ¬ (ga 22) = 0 := c_4
      refine lv_iconst (v := 0) hx hb dX2_tickOf_155 (by decide) ?_
      exact j156 _ (if_pos c_4).symm
    · have c_4 : (ga 22) = 0 := c_4
      refine lv_aload_n hx hb dX2_tickOf_131 rfl (lv_at hl 0 rfl) ?_
      refine va_get (D := D) (ci := 2) (v := .ref (as 0)) (C := RX2) (T := TX2) (N := 3) hx hb hts iw_X2_tickOf_X2 hown hE.1 hP 0 rfl rfl 0 (by decide) (hts (.fieldLink RX2 7 "EchoTapsModel" "state" "[I") (by decide +kernel)) (fun _ h9 => h9) rfl dX2_tickOf_132 ?_
      refine lv_bipush (v := 31) hx hb dX2_tickOf_135 (by decide) ?_
      refine va_iald hx hb hE.1 hP 1 0 rfl rfl (vp_in_nI (n := 31) (N := 555) (by decide) (by decide)) dX2_tickOf_137 ?_
      refine lv_if_ne (tgt := 155) hx hb dX2_tickOf_138 (by decide) (fun c_5 => ?_) (fun c_5 => ?_)
      · have c_5 : ¬ (ga 31) = 0 := c_5
        refine lv_iconst (v := 0) hx hb dX2_tickOf_155 (by decide) ?_
        exact j156 _ (by rw [mf_lr, if_neg (not_not_intro c_4), if_pos c_5])
      · have c_5 : (ga 31) = 0 := c_5
        refine lv_aload_n hx hb dX2_tickOf_141 rfl (lv_at hl 0 rfl) ?_
        refine va_get (D := D) (ci := 2) (v := .ref (as 0)) (C := RX2) (T := TX2) (N := 3) hx hb hts iw_X2_tickOf_X2 hown hE.1 hP 0 rfl rfl 0 (by decide) (hts (.fieldLink RX2 7 "EchoTapsModel" "state" "[I") (by decide +kernel)) (fun _ h9 => h9) rfl dX2_tickOf_142 ?_
        refine lv_bipush (v := 29) hx hb dX2_tickOf_145 (by decide) ?_
        refine va_iald hx hb hE.1 hP 1 0 rfl rfl (vp_in_nI (n := 29) (N := 555) (by decide) (by decide)) dX2_tickOf_147 ?_
        refine lv_if_le (tgt := 155) hx hb dX2_tickOf_148 (by decide) (fun c_6 => ?_) (fun c_6 => ?_)
        · have c_6 : (ga 29) ≤ 0 := c_6
          refine lv_iconst (v := 0) hx hb dX2_tickOf_155 (by decide) ?_
          exact j156 _ (by rw [mf_lr, if_neg (not_not_intro c_4), if_neg (not_not_intro c_5), if_pos c_6])
        · have c_6 : ¬ (ga 29) ≤ 0 := c_6
          refine lv_iconst (v := 1) hx hb dX2_tickOf_151 (by decide) ?_
          refine lv_goto (tgt := 156) hx hb dX2_tickOf_152 (by decide) ?_
          exact j156 _ (by rw [mf_lr, if_neg (not_not_intro c_4), if_neg (not_not_intro c_5), if_neg c_6])
  refine lv_icmp_le (tgt := 104) hx hb dX2_tickOf_97 (by decide) (fun c_7 => ?_) (fun c_7 => ?_)
  · have c_7 : (2 * (pf_sz near)) ≤ (g7 28) := c_7
    refine lv_iconst (v := 0) hx hb dX2_tickOf_104 (by decide) ?_
    exact j105 _ (if_pos c_7).symm
  · have c_7 : ¬ (2 * (pf_sz near)) ≤ (g7 28) := c_7
    refine lv_iconst (v := 1) hx hb dX2_tickOf_100 (by decide) ?_
    refine lv_goto (tgt := 105) hx hb dX2_tickOf_101 (by decide) ?_
    exact j105 _ (if_neg c_7).symm

abbrev rm_X2_speakOf : Room := { frames := 4, cells := 0, slots := 0, locals := 83 }
set_option maxRecDepth 100000 in
set_option maxHeartbeats 4000000 in
theorem c_X2_speakOf (l : Launch) (D : va_G) (cA cZ cR : ClassId) (h : Nat) (as : Nat → Nat) (g im kp : Fn) (far v : Int32) (hd : DL g) (hg : LG g) : BMi l D cA cZ cR yX2_speakOf wsX2_speakOf rm_X2_speakOf [.ref h, .int far, .int v] (MW cA cZ h as g im kp) (MW cA cZ h as (mf_spk g far v) im kp) (mf_spk g far v 27) := by
  refine bm_open (maxL := 3) (by decide) rfl rfl rfl (Nat.le_of_ble_eq_true rfl) ?_
  intro p e s m args below meth c A Q hx hb hml hts hown hE hP hD hA hS hret ls hl
  have hown : s.vm.findClass RX2 = some m.cls := hown
  have hl : lv_has ls 3 [(0, .ref h), (1, .int far), (2, .int v)] := hl
  obtain ⟨H, locs, eH, eL⟩ : ∃ (H : Heap) (locs : List Loc), H = s.heap ∧ locs = [] := ⟨_, _, rfl, rfl⟩
  rw [← eH, ← eL]
  rw [← eH] at hP
  have hS : va_S A s.heap H locs := by rw [eH, eL]; exact hS
  clear eH eL
  refine lv_aload_n hx hb dX2_speakOf_0 rfl (lv_at hl 0 rfl) ?_
  refine lv_iload_n hx hb dX2_speakOf_1 rfl (lv_at hl 1 rfl) ?_
  refine lv_aload_n hx hb dX2_speakOf_2 rfl (lv_at hl 0 rfl) ?_
  refine lv_iload_n hx hb dX2_speakOf_3 rfl (lv_at hl 1 rfl) ?_
  refine bm_i [] (MW cA cZ h as g im kp) [] [.int far] [.int far, .ref h] ⟨hx, hb, hml, hown, hts⟩ (c_X2_echo l D cA cZ cR h as g im kp far hg) (cwV 1 hts gX2_speakOf_X2_echo rfl rfl rfl (by decide +kernel) ⟨Nat.le_of_ble_eq_true rfl, Nat.le_of_ble_eq_true rfl⟩) hE hP hD hS hA MW_adr 0 2 rfl rfl rfl hl.1 rfl (Nat.le_of_ble_eq_true rfl) dX2_speakOf_4 ⟨Nat.zero_le _, Nat.zero_le _⟩ (fun H locs hP hD hS => ?_)
  have hP : va_P D vwCl (MW cA cZ h as g im kp) H := hP
  have hD : va_D A (MW cA cZ h as g im kp) := hD
  refine lv_iload_n hx hb dX2_speakOf_7 rfl (lv_at hl 2 rfl) ?_
  refine lv_iadd hx hb dX2_speakOf_8 ?_
  refine lv_sipush (v := (-2000)) hx hb dX2_speakOf_9 (by decide) ?_
  refine lv_sipush (v := 2000) hx hb dX2_speakOf_12 (by decide) ?_
  refine sm_i [.int ((mf_echo g far) + v), .int (-2000), .int 2000] [.int far, .ref h] ⟨hx, hb, hml, hown, hts⟩ (c_X2_within l ((mf_echo g far) + v) (-2000) 2000) (va_cwS 3 hts gX2_speakOf_X2_within rfl rfl rfl (by decide +kernel) ⟨Nat.le_of_ble_eq_true rfl, Nat.le_of_ble_eq_true rfl⟩) rfl hl.1 rfl (Nat.le_of_ble_eq_true rfl) dX2_speakOf_15 ⟨Nat.zero_le _, Nat.zero_le _⟩ ?_
  refine lv_topi (fun nr enr => ?_)
  refine bm_i [] (MW cA cZ h as g im kp) [] [.int far, .int nr] [] ⟨hx, hb, hml, hown, hts⟩ (c_X2_tickOf l D cA cZ cR h as g im kp far nr hd) (cwV 2 hts gX2_speakOf_X2_tickOf rfl rfl rfl (by decide +kernel) ⟨Nat.le_of_ble_eq_true rfl, Nat.le_of_ble_eq_true rfl⟩) hE hP hD hS hA MW_adr 0 2 rfl rfl rfl hl.1 rfl (Nat.le_of_ble_eq_true rfl) dX2_speakOf_18 ⟨Nat.zero_le _, Nat.zero_le _⟩ (fun H locs hP hD hS => ?_)
  have hP : va_P D vwCl (MW cA cZ h as (mf_tick g far nr) im kp) H := hP
  have hD : va_D A (MW cA cZ h as (mf_tick g far nr) im kp) := hD
  have e1 : mf_spk g far v = mf_tick g far nr := by rw [enr]; rfl
  exact hret _ _ _ _ _ (by rw [e1]; exact hP) (by rw [e1]) hS dX2_speakOf_21
end
section
noncomputable def yf_tick (g : Fn) (far near : Int32) : Int32 := if pf_in far (-1000) 1000 = 0 ∨ pf_in near (-2000) 2000 = 0 then -1000000002 else mf_tick g far near 27
noncomputable def ys_tick (g : Fn) (far near : Int32) : Fn := if pf_in far (-1000) 1000 = 0 ∨ pf_in near (-2000) 2000 = 0 then g else mf_tick g far near
noncomputable def yf_speak (g : Fn) (far v : Int32) : Int32 := if pf_in far (-1000) 1000 = 0 ∨ pf_in v (-2000) 2000 = 0 then -1000000002 else mf_spk g far v 27
noncomputable def ys_speak (g : Fn) (far v : Int32) : Fn := if pf_in far (-1000) 1000 = 0 ∨ pf_in v (-2000) 2000 = 0 then g else mf_spk g far v
def yf_tap (g : Fn) (k : Int32) : Int32 := if pf_in k 0 7 = 0 then -1000000002 else g (5 + k.toNatClampNeg)
def yf_last (g : Fn) (k : Int32) : Int32 := if pf_in k 0 7 = 0 then -1000000002 else if g 24 = 0 then -1000000003 else g (25 + k.toNatClampNeg)
def yf_ago (g : Fn) (i k : Int32) : Int32 := if pf_in i 0 31 = 0 ∨ pf_in k 0 2 = 0 then -1000000002 else if i < g 24 then g (33 + 40 * k.toNatClampNeg + i.toNatClampNeg) else -1000000006
def yf_part (g : Fn) (k v : Int32) : Int32 := if pf_in k 0 8 = 0 ∨ xo_part k v = 0 then -1000000002 else g (13 + k.toNatClampNeg)
def ys_part (g : Fn) (k v : Int32) : Fn := if pf_in k 0 8 = 0 ∨ xo_part k v = 0 then g else upd g (13 + k.toNatClampNeg) v
def yf_rule (g : Fn) (k v : Int32) : Int32 := if pf_in k 0 4 = 0 ∨ pf_in v 0 (pf_most k) = 0 then -2 else g k.toNatClampNeg
def ys_rule (g : Fn) (k v : Int32) : Fn := if pf_in k 0 4 = 0 ∨ pf_in v 0 (pf_most k) = 0 then g else upd g k.toNatClampNeg v
def yf_like (g : Fn) (d : Int32) : Int32 := if pf_in d 0 15 = 0 then -1000000002 else mf_like g d.toNatClampNeg
def mk_b (g : Fn) : Nat → Nat
  | 0 => 0
  | k + 1 => if pf_sz (mf_like g (k + 1)) ≤ pf_sz (mf_like g (mk_b g k)) then mk_b g k else k + 1
theorem mk_b_le (g : Fn) : ∀ k, mk_b g k ≤ k := by
  intro k
  induction k with
  | zero => exact Nat.le_refl 0
  | succ k ih =>
    rw [mk_b]
    split <;> omega
def mf_zr (g : Fn) : Nat → Fn
  | 0 => g
  | k + 1 => upd (mf_zr g k) (5 + k) 0
def yf_seek (g : Fn) : Int32 := if mf_like g (mk_b g 15) = 0 then -3 else nI (mk_b g 15)
def ys_seek (g : Fn) : Fn := if mf_like g (mk_b g 15) = 0 then g else mf_zr (upd g 4 (nI (mk_b g 15))) 8
def yf_gain (g : Fn) (n : Nat) (k : Int32) : Int32 := if pf_in k 0 1 = 0 then -2 else if mf_sq g 113 = 0 then -3 else (if k = 0 then mf_sq g 73 else mf_sq g 113) / pf_gd n (mf_sq g 113) (mf_sq g 73)
def mf_bg (g : Fn) (r : Nat) (i : Int32) : Nat → Int32 → Int32
  | 0, f => if i = -1 then f else -6
  | n + 1, f => if g (r + n) = 1 ∧ g (r + n + 1) = 0 then (if f = i then g 24 - nI n else mf_bg g r i n (f + 1)) else mf_bg g r i n f
def yf_began (g : Fn) (T : Nat) (i k : Int32) : Int32 := if pf_in k 0 1 = 0 then -2 else mf_bg g (if k = 0 then 153 else 354) i (if 200 ≤ T then 200 else T) 0
def mf_sv (im g : Fn) (t k : Nat) : Fn := fun j => if 555 * t ≤ j ∧ j < 555 * t + k then g (j - 555 * t) else im j
def mf_ld (g im : Fn) (t k : Nat) : Fn := fun j => if j < k then im (555 * t + j) else g j
theorem mf_sv0 (im g : Fn) (t : Nat) : mf_sv im g t 0 = im := by funext j; unfold mf_sv; rw [if_neg (by omega)]
theorem mf_sv1 (im g : Fn) (t k : Nat) : upd (mf_sv im g t k) (555 * t + k) (g k) = mf_sv im g t (k + 1) := by
  funext j
  by_cases e : j = 555 * t + k
  · subst e; rw [pk_us, mf_sv, if_pos (by omega), show 555 * t + k - 555 * t = k by omega]
  · rw [pk_un e, mf_sv, mf_sv]
    by_cases h : 555 * t ≤ j ∧ j < 555 * t + k
    · rw [if_pos h, if_pos (by omega)]
    · rw [if_neg h, if_neg (by omega)]
theorem mf_ld0 (g im : Fn) (t : Nat) : mf_ld g im t 0 = g := by funext j; unfold mf_ld; rw [if_neg (by omega)]
theorem mf_ld1 (g im : Fn) (t k : Nat) : upd (mf_ld g im t k) k (im (555 * t + k)) = mf_ld g im t (k + 1) := by
  funext j
  by_cases e : j = k
  · subst e; rw [pk_us, mf_ld, if_pos (by omega)]
  · rw [pk_un e, mf_ld, mf_ld]
    by_cases h : j < k
    · rw [if_pos h, if_pos (by omega)]
    · rw [if_neg h, if_neg (by omega)]
theorem MW_cg {D : va_G} {cA cZ : ClassId} {h : Nat} {as : Nat → Nat} {g g' im kp : Fn} {H : Heap} (e : ∀ j, j < 555 → g j = g' j) (hP : va_P D vwCl (MW cA cZ h as g im kp) H) : va_P D vwCl (MW cA cZ h as g' im kp) H := by
  intro k q hk
  match k, hk with
  | 0, hk => cases hk; exact hP 0 _ rfl
  | 1, hk => cases hk; exact va_at_cg e (hP 1 _ rfl)
  | 2, hk => cases hk; exact hP 2 _ rfl
  | 3, hk => cases hk; exact hP 3 _ rfl
  | k + 4, hk => simp at hk
noncomputable def yr_g (loud : Int32) : Nat → Int32 → Fn → Fn
  | 0, _, g => g
  | n + 1, z, g => yr_g loud n (pf_nx z) (mf_spk g (pf_ce (pf_nx z) loud) 0)
noncomputable def yr_sum (loud : Int32) : Nat → Int32 → Fn → Int32 → Int32
  | 0, _, _, a => a
  | n + 1, z, g, a => yr_sum loud n (pf_nx z) (mf_spk g (pf_ce (pf_nx z) loud) 0) (a + pf_sz (mf_spk g (pf_ce (pf_nx z) loud) 0 26))
noncomputable def yf_run (g : Fn) (z n loud : Int32) : Int32 := if pf_in z 0 65536 = 0 ∨ pf_in n 1 60 = 0 ∨ pf_in loud 0 1000 = 0 then -2 else yr_sum loud n.toNatClampNeg z g 0
noncomputable def ys_run (g : Fn) (z n loud : Int32) : Fn := if pf_in z 0 65536 = 0 ∨ pf_in n 1 60 = 0 ∨ pf_in loud 0 1000 = 0 then g else yr_g loud n.toNatClampNeg z g
def yl_c (limit : Int32) (g : Fn) (a : Int32) : Int32 := if limit < pf_sz (g 26) then 0 else a + 1
def yl_e (k : Nat) (a : Int32) : Int32 := if ¬ a = 8 then -6 else nI k
noncomputable def yl_r (loud limit : Int32) : Nat → Nat → Int32 → Fn → Int32 → Int32
  | 0, k, _, _, a => yl_e k a
  | n + 1, k, z, g, a => if 8 ≤ a then yl_e k a else yl_r loud limit n (k + 1) (pf_nx z) (mf_spk g (pf_ce (pf_nx z) loud) 0) (yl_c limit (mf_spk g (pf_ce (pf_nx z) loud) 0) a)
noncomputable def yf_learnt (g : Fn) (z loud limit : Int32) : Int32 := if pf_in z 0 65536 = 0 ∨ pf_in loud 0 1000 = 0 ∨ pf_in limit 0 999 = 0 then -2 else yl_r loud limit 200 0 z g 0
noncomputable def ym_learnt (g im : Fn) (z loud limit : Int32) : Fn := if pf_in z 0 65536 = 0 ∨ pf_in loud 0 1000 = 0 ∨ pf_in limit 0 999 = 0 then im else mf_sv im g 2 555
def ym_image (g im : Fn) (k : Int32) : Fn := if pf_in k 0 1 = 0 then im else mf_sv im g k.toNatClampNeg 555
def yk_image (kp : Fn) (k : Int32) : Fn := if pf_in k 0 1 = 0 then kp else upd kp k.toNatClampNeg 1
def yf_rest (kp : Fn) (k : Int32) : Int32 := if pf_in k 0 1 = 0 then -2 else if kp k.toNatClampNeg = 0 then -3 else 1
def yg_rest (g im kp : Fn) (k : Int32) : Fn := if pf_in k 0 1 = 0 then g else if kp k.toNatClampNeg = 0 then g else mf_ld g im k.toNatClampNeg 555
def yk2 (x y : Int32) : Int32 := if x = 0 then 0 else y
def yf_count (g kp : Fn) (k : Int32) : Int32 := if ¬ pf_in k 10 14 = 0 then g (k - 10).toNatClampNeg else if k = 0 then g 24 else if k = 1 then g 22 else if k = 2 then g 23 else if k = 3 then mf_tsz g else if k = 4 then g 21 else if k = 5 then yk2 (kp 0) 1 + yk2 (kp 1) 2 else -2
theorem mf_spk_out (g : Fn) (far v : Int32) {j : Nat} (h : j < 5 ∨ (13 ≤ j ∧ j < 22)) : mf_spk g far v j = g j := mf_tick_out g far _ h
theorem sw3 {k : Int32} (h0 : ¬ k = 0) (h1 : ¬ k = 1) (h2 : ¬ k = 2) (h3 : ¬ k = 3) : k.toInt < 0 ∨ 3 < k.toInt := by
  have g0 := lv_neT h0 (a := 0) rfl
  have g1 := lv_neT h1 (a := 1) rfl
  have g2 := lv_neT h2 (a := 2) rfl
  have g3 := lv_neT h3 (a := 3) rfl
  omega
abbrev rm_X2_most : Room := { frames := 0, cells := 0, slots := 0, locals := 0 }
set_option maxRecDepth 100000 in
set_option maxHeartbeats 4000000 in
theorem c_X2_most (l : Launch) (r : Int32) : SMi l yX2_most wsX2_most rm_X2_most [.int r] (pf_most r) := by
  refine sm_open (maxL := 1) (by decide) rfl (Nat.le_of_ble_eq_true rfl) ?_
  intro p e s m args below meth c Q H locs hx hb hml hts hown hret ls hl
  have hown : s.vm.findClass RX2 = some m.cls := hown
  have hl : lv_has ls 1 [(0, .int r)] := hl
  refine lv_iload_n hx hb dX2_most_0 rfl (lv_at hl 0 rfl) ?_
  by_cases h0 : r = 0
  · refine lv_tableIn (tgt := 32) hx hb dX2_most_1 (by rw [h0]; decide) (by rw [h0]; decide) (by rw [h0]; rfl) (by decide) ?_
    refine lv_sipush (v := 1024) hx hb dX2_most_32 (by decide) ?_
    exact hret _ _ _ (by rw [pf_most, if_pos h0]) dX2_most_35
  by_cases h1 : r = 1
  · refine lv_tableIn (tgt := 36) hx hb dX2_most_1 (by rw [h1]; decide) (by rw [h1]; decide) (by rw [h1]; rfl) (by decide) ?_
    refine lv_bipush (v := 20) hx hb dX2_most_36 (by decide) ?_
    exact hret _ _ _ (by rw [pf_most, if_neg h0, if_pos h1]) dX2_most_38
  by_cases h2 : r = 2
  · refine lv_tableIn (tgt := 39) hx hb dX2_most_1 (by rw [h2]; decide) (by rw [h2]; decide) (by rw [h2]; rfl) (by decide) ?_
    refine lv_sipush (v := 500) hx hb dX2_most_39 (by decide) ?_
    exact hret _ _ _ (by rw [pf_most, if_neg h0, if_neg h1, if_pos h2]) dX2_most_42
  by_cases h3 : r = 3
  · refine lv_tableIn (tgt := 43) hx hb dX2_most_1 (by rw [h3]; decide) (by rw [h3]; decide) (by rw [h3]; rfl) (by decide) ?_
    refine lv_bipush (v := 50) hx hb dX2_most_43 (by decide) ?_
    exact hret _ _ _ (by rw [pf_most, if_neg h0, if_neg h1, if_neg h2, if_pos h3]) dX2_most_45
  refine lv_tableOut (tgt := 46) hx hb dX2_most_1 (sw3 h0 h1 h2 h3) (by decide) ?_
  refine lv_bipush (v := 15) hx hb dX2_most_46 (by decide) ?_
  exact hret _ _ _ (by rw [pf_most, if_neg h0, if_neg h1, if_neg h2, if_neg h3]) dX2_most_48

abbrev rm_X2_common : Room := { frames := 0, cells := 0, slots := 0, locals := 0 }
set_option maxRecDepth 100000 in
set_option maxHeartbeats 4000000 in
theorem c_X2_common (l : Launch) (N : Nat) (a b : Int32) (hN : pf_ge N a b) : SMi l yX2_common wsX2_common rm_X2_common [.int a, .int b] (pf_gd N a b) := by
  refine sm_open (maxL := 5) (by decide) rfl (Nat.le_of_ble_eq_true rfl) ?_
  intro p e s m args below meth c Q H locs hx hb hml hts hown hret ls hl
  have hown : s.vm.findClass RX2 = some m.cls := hown
  have hl : lv_has ls 5 [(0, .int a), (1, .int b)] := hl
  refine lv_iload_n hx hb dX2_common_0 rfl (lv_at hl 0 rfl) ?_
  refine lv_istore_n (lv' := [(2, .int a), (0, .int a), (1, .int b)]) hx hb dX2_common_1 rfl hl (by decide) rfl (fun ls hl => ?_)
  refine lv_iload_n hx hb dX2_common_2 rfl (lv_at hl 2 rfl) ?_
  refine lv_istore_n (lv' := [(3, .int b), (2, .int a), (0, .int a), (1, .int b)]) hx hb dX2_common_3 rfl hl (by decide) rfl (fun ls hl => ?_)
  have loop : ∀ (n : Nat) (x y : Int32) (he : pf_ge n x y) (hg : pf_gd n x y = pf_gd N a b), ∀ ls : Array Slot, lv_has ls 5 [(3, .int y), (2, .int x), (1, .int b), (0, .int a)] → W p l e rm_X2_common s m args below meth c H locs 0 0 Q (F0 m 4 ls []) := by
    intro n
    induction n with
    | zero =>
      intro x y he hg ls hl
      refine lv_iload_n hx hb dX2_common_4 rfl (lv_at hl 0 rfl) ?_
      refine lv_if_eq (tgt := 21) hx hb dX2_common_5 (by decide) (fun c_1 => ?_) (fun c_1 => absurd he c_1)
      refine lv_iload_n hx hb dX2_common_21 rfl (lv_at hl 1 rfl) ?_
      exact hret _ _ _ hg dX2_common_22
    | succ n ih =>
      intro x y he hg ls hl
      refine lv_iload_n hx hb dX2_common_4 rfl (lv_at hl 0 rfl) ?_
      refine lv_if_eq (tgt := 21) hx hb dX2_common_5 (by decide) (fun c_2 => ?_) (fun c_2 => ?_)
      · have c_2 : y = 0 := c_2
        rw [pf_gd, if_pos c_2] at hg
        refine lv_iload_n hx hb dX2_common_21 rfl (lv_at hl 1 rfl) ?_
        exact hret _ _ _ hg dX2_common_22
      · have c_2 : ¬ y = 0 := c_2
        rw [pf_gd, if_neg c_2] at hg
        have he := he.resolve_left c_2
        refine lv_iload_n hx hb dX2_common_8 rfl (lv_at hl 1 rfl) ?_
        refine lv_iload_n hx hb dX2_common_9 rfl (lv_at hl 0 rfl) ?_
        refine lv_irem hx hb dX2_common_10 c_2 ?_
        refine lv_istore (lv' := [(4, .int (pf_rm x y)), (3, .int y), (2, .int x), (1, .int b), (0, .int a)]) hx hb dX2_common_11 hl (by decide) rfl (fun ls hl => ?_)
        refine lv_iload_n hx hb dX2_common_13 rfl (lv_at hl 1 rfl) ?_
        refine lv_istore_n (lv' := [(2, .int y), (4, .int (pf_rm x y)), (3, .int y), (1, .int b), (0, .int a)]) hx hb dX2_common_14 rfl hl (by decide) rfl (fun ls hl => ?_)
        refine lv_iload hx hb dX2_common_15 (lv_at hl 1 rfl) ?_
        refine lv_istore_n (lv' := [(3, .int (pf_rm x y)), (2, .int y), (4, .int (pf_rm x y)), (1, .int b), (0, .int a)]) hx hb dX2_common_17 rfl hl (by decide) rfl (fun ls hl => ?_)
        refine lv_goto (tgt := 4) hx hb dX2_common_18 (by decide) ?_
        exact ih _ _ he hg ls (lv_sub hl [0, 1, 3, 4] rfl)
  exact loop N a b hN rfl ls (lv_sub hl [0, 1, 3, 2] rfl)

abbrev rm_X2_tick : Room := { frames := 4, cells := 0, slots := 0, locals := 83 }
set_option maxRecDepth 100000 in
set_option maxHeartbeats 4000000 in
theorem c_X2_tick (l : Launch) (D : va_G) (cA cZ cR : ClassId) (h : Nat) (as : Nat → Nat) (g im kp : Fn) (far near : Int32) (hd : DL g) : BMi l D cA cZ cR yX2_tick wsX2_tick rm_X2_tick [.ref h, .int far, .int near] (MW cA cZ h as g im kp) (MW cA cZ h as (ys_tick g far near) im kp) (yf_tick g far near) := by
  refine bm_open (maxL := 3) (by decide) rfl rfl rfl (Nat.le_of_ble_eq_true rfl) ?_
  intro p e s m args below meth c A Q hx hb hml hts hown hE hP hD hA hS hret ls hl
  have hown : s.vm.findClass RX2 = some m.cls := hown
  have hl : lv_has ls 3 [(0, .ref h), (1, .int far), (2, .int near)] := hl
  obtain ⟨H, locs, eH, eL⟩ : ∃ (H : Heap) (locs : List Loc), H = s.heap ∧ locs = [] := ⟨_, _, rfl, rfl⟩
  rw [← eH, ← eL]
  rw [← eH] at hP
  have hS : va_S A s.heap H locs := by rw [eH, eL]; exact hS
  clear eH eL
  refine lv_iload_n hx hb dX2_tick_0 rfl (lv_at hl 1 rfl) ?_
  refine lv_sipush (v := (-1000)) hx hb dX2_tick_1 (by decide) ?_
  refine lv_sipush (v := 1000) hx hb dX2_tick_4 (by decide) ?_
  refine sm_i [.int far, .int (-1000), .int 1000] [] ⟨hx, hb, hml, hown, hts⟩ (c_X2_in l far (-1000) 1000) (va_cwS 3 hts gX2_tick_X2_in rfl rfl rfl (by decide +kernel) ⟨Nat.le_of_ble_eq_true rfl, Nat.le_of_ble_eq_true rfl⟩) rfl hl.1 rfl (Nat.le_of_ble_eq_true rfl) dX2_tick_7 ⟨Nat.zero_le _, Nat.zero_le _⟩ ?_
  refine lv_if_eq (tgt := 35) hx hb dX2_tick_10 (by decide) (fun c_1 => ?_) (fun c_1 => ?_)
  · have c_1 : (pf_in far (-1000) 1000) = 0 := c_1
    have e1 : ys_tick g far near = g := if_pos (Or.inl c_1)
    refine lv_ldc (v := (-1000000002)) hx hb hown (hts (.constant RX2 79 (-1000000002)) (by decide +kernel)) dX2_tick_35 ?_
    exact hret _ _ _ _ _ (by rw [e1]; exact hP) ((if_pos (Or.inl c_1)).symm) hS dX2_tick_37
  · have c_1 : ¬ (pf_in far (-1000) 1000) = 0 := c_1
    refine lv_iload_n hx hb dX2_tick_13 rfl (lv_at hl 2 rfl) ?_
    refine lv_sipush (v := (-2000)) hx hb dX2_tick_14 (by decide) ?_
    refine lv_sipush (v := 2000) hx hb dX2_tick_17 (by decide) ?_
    refine sm_i [.int near, .int (-2000), .int 2000] [] ⟨hx, hb, hml, hown, hts⟩ (c_X2_in l near (-2000) 2000) (va_cwS 3 hts gX2_tick_X2_in rfl rfl rfl (by decide +kernel) ⟨Nat.le_of_ble_eq_true rfl, Nat.le_of_ble_eq_true rfl⟩) rfl hl.1 rfl (Nat.le_of_ble_eq_true rfl) dX2_tick_20 ⟨Nat.zero_le _, Nat.zero_le _⟩ ?_
    refine lv_if_eq (tgt := 35) hx hb dX2_tick_23 (by decide) (fun c_2 => ?_) (fun c_2 => ?_)
    · have c_2 : (pf_in near (-2000) 2000) = 0 := c_2
      have e1 : ys_tick g far near = g := if_pos (Or.inr c_2)
      refine lv_ldc (v := (-1000000002)) hx hb hown (hts (.constant RX2 79 (-1000000002)) (by decide +kernel)) dX2_tick_35 ?_
      exact hret _ _ _ _ _ (by rw [e1]; exact hP) ((if_pos (Or.inr c_2)).symm) hS dX2_tick_37
    · have c_2 : ¬ (pf_in near (-2000) 2000) = 0 := c_2
      have e1 : ys_tick g far near = mf_tick g far near := if_neg (fun q => q.elim c_1 c_2)
      refine lv_aload_n hx hb dX2_tick_26 rfl (lv_at hl 0 rfl) ?_
      refine lv_iload_n hx hb dX2_tick_27 rfl (lv_at hl 1 rfl) ?_
      refine lv_iload_n hx hb dX2_tick_28 rfl (lv_at hl 2 rfl) ?_
      refine bm_i [] (MW cA cZ h as g im kp) [] [.int far, .int near] [] ⟨hx, hb, hml, hown, hts⟩ (c_X2_tickOf l D cA cZ cR h as g im kp far near hd) (cwV 2 hts gX2_tick_X2_tickOf rfl rfl rfl (by decide +kernel) ⟨Nat.le_of_ble_eq_true rfl, Nat.le_of_ble_eq_true rfl⟩) hE hP hD hS hA MW_adr 0 2 rfl rfl rfl hl.1 rfl (Nat.le_of_ble_eq_true rfl) dX2_tick_29 ⟨Nat.zero_le _, Nat.zero_le _⟩ (fun H locs hP hD hS => ?_)
      have hP : va_P D vwCl (MW cA cZ h as (mf_tick g far near) im kp) H := hP
      have hD : va_D A (MW cA cZ h as (mf_tick g far near) im kp) := hD
      refine lv_goto (tgt := 37) hx hb dX2_tick_32 (by decide) ?_
      exact hret _ _ _ _ _ (by rw [e1]; exact hP) ((if_neg (fun q => q.elim c_1 c_2)).symm) hS dX2_tick_37

abbrev rm_X2_speak : Room := { frames := 5, cells := 0, slots := 0, locals := 105 }
set_option maxRecDepth 100000 in
set_option maxHeartbeats 4000000 in
theorem c_X2_speak (l : Launch) (D : va_G) (cA cZ cR : ClassId) (h : Nat) (as : Nat → Nat) (g im kp : Fn) (far v : Int32) (hd : DL g) (hg : LG g) : BMi l D cA cZ cR yX2_speak wsX2_speak rm_X2_speak [.ref h, .int far, .int v] (MW cA cZ h as g im kp) (MW cA cZ h as (ys_speak g far v) im kp) (yf_speak g far v) := by
  refine bm_open (maxL := 3) (by decide) rfl rfl rfl (Nat.le_of_ble_eq_true rfl) ?_
  intro p e s m args below meth c A Q hx hb hml hts hown hE hP hD hA hS hret ls hl
  have hown : s.vm.findClass RX2 = some m.cls := hown
  have hl : lv_has ls 3 [(0, .ref h), (1, .int far), (2, .int v)] := hl
  obtain ⟨H, locs, eH, eL⟩ : ∃ (H : Heap) (locs : List Loc), H = s.heap ∧ locs = [] := ⟨_, _, rfl, rfl⟩
  rw [← eH, ← eL]
  rw [← eH] at hP
  have hS : va_S A s.heap H locs := by rw [eH, eL]; exact hS
  clear eH eL
  refine lv_iload_n hx hb dX2_speak_0 rfl (lv_at hl 1 rfl) ?_
  refine lv_sipush (v := (-1000)) hx hb dX2_speak_1 (by decide) ?_
  refine lv_sipush (v := 1000) hx hb dX2_speak_4 (by decide) ?_
  refine sm_i [.int far, .int (-1000), .int 1000] [] ⟨hx, hb, hml, hown, hts⟩ (c_X2_in l far (-1000) 1000) (va_cwS 3 hts gX2_speak_X2_in rfl rfl rfl (by decide +kernel) ⟨Nat.le_of_ble_eq_true rfl, Nat.le_of_ble_eq_true rfl⟩) rfl hl.1 rfl (Nat.le_of_ble_eq_true rfl) dX2_speak_7 ⟨Nat.zero_le _, Nat.zero_le _⟩ ?_
  refine lv_if_eq (tgt := 35) hx hb dX2_speak_10 (by decide) (fun c_1 => ?_) (fun c_1 => ?_)
  · have c_1 : (pf_in far (-1000) 1000) = 0 := c_1
    have e1 : ys_speak g far v = g := if_pos (Or.inl c_1)
    refine lv_ldc (v := (-1000000002)) hx hb hown (hts (.constant RX2 79 (-1000000002)) (by decide +kernel)) dX2_speak_35 ?_
    exact hret _ _ _ _ _ (by rw [e1]; exact hP) ((if_pos (Or.inl c_1)).symm) hS dX2_speak_37
  · have c_1 : ¬ (pf_in far (-1000) 1000) = 0 := c_1
    refine lv_iload_n hx hb dX2_speak_13 rfl (lv_at hl 2 rfl) ?_
    refine lv_sipush (v := (-2000)) hx hb dX2_speak_14 (by decide) ?_
    refine lv_sipush (v := 2000) hx hb dX2_speak_17 (by decide) ?_
    refine sm_i [.int v, .int (-2000), .int 2000] [] ⟨hx, hb, hml, hown, hts⟩ (c_X2_in l v (-2000) 2000) (va_cwS 3 hts gX2_speak_X2_in rfl rfl rfl (by decide +kernel) ⟨Nat.le_of_ble_eq_true rfl, Nat.le_of_ble_eq_true rfl⟩) rfl hl.1 rfl (Nat.le_of_ble_eq_true rfl) dX2_speak_20 ⟨Nat.zero_le _, Nat.zero_le _⟩ ?_
    refine lv_if_eq (tgt := 35) hx hb dX2_speak_23 (by decide) (fun c_2 => ?_) (fun c_2 => ?_)
    · have c_2 : (pf_in v (-2000) 2000) = 0 := c_2
      have e1 : ys_speak g far v = g := if_pos (Or.inr c_2)
      refine lv_ldc (v := (-1000000002)) hx hb hown (hts (.constant RX2 79 (-1000000002)) (by decide +kernel)) dX2_speak_35 ?_
      exact hret _ _ _ _ _ (by rw [e1]; exact hP) ((if_pos (Or.inr c_2)).symm) hS dX2_speak_37
    · have c_2 : ¬ (pf_in v (-2000) 2000) = 0 := c_2
      have e1 : ys_speak g far v = mf_spk g far v := if_neg (fun q => q.elim c_1 c_2)
      refine lv_aload_n hx hb dX2_speak_26 rfl (lv_at hl 0 rfl) ?_
      refine lv_iload_n hx hb dX2_speak_27 rfl (lv_at hl 1 rfl) ?_
      refine lv_iload_n hx hb dX2_speak_28 rfl (lv_at hl 2 rfl) ?_
      refine bm_i [] (MW cA cZ h as g im kp) [] [.int far, .int v] [] ⟨hx, hb, hml, hown, hts⟩ (c_X2_speakOf l D cA cZ cR h as g im kp far v hd hg) (cwV 2 hts gX2_speak_X2_speakOf rfl rfl rfl (by decide +kernel) ⟨Nat.le_of_ble_eq_true rfl, Nat.le_of_ble_eq_true rfl⟩) hE hP hD hS hA MW_adr 0 2 rfl rfl rfl hl.1 rfl (Nat.le_of_ble_eq_true rfl) dX2_speak_29 ⟨Nat.zero_le _, Nat.zero_le _⟩ (fun H locs hP hD hS => ?_)
      have hP : va_P D vwCl (MW cA cZ h as (mf_spk g far v) im kp) H := hP
      have hD : va_D A (MW cA cZ h as (mf_spk g far v) im kp) := hD
      refine lv_goto (tgt := 37) hx hb dX2_speak_32 (by decide) ?_
      exact hret _ _ _ _ _ (by rw [e1]; exact hP) ((if_neg (fun q => q.elim c_1 c_2)).symm) hS dX2_speak_37

abbrev rm_X2_tap : Room := { frames := 1, cells := 0, slots := 0, locals := 22 }
theorem iw_X2_tap_X2 : ∀ w ∈ wsX20, w ∈ wsX2_tap := by decide +kernel
set_option maxRecDepth 100000 in
set_option maxHeartbeats 4000000 in
theorem c_X2_tap (l : Launch) (D : va_G) (cA cZ cR : ClassId) (h : Nat) (as : Nat → Nat) (g im kp : Fn) (k : Int32) : BMi l D cA cZ cR yX2_tap wsX2_tap rm_X2_tap [.ref h, .int k] (MW cA cZ h as g im kp) (MW cA cZ h as g im kp) (yf_tap g k) := by
  refine bm_open (maxL := 2) (by decide) rfl rfl rfl (Nat.le_of_ble_eq_true rfl) ?_
  intro p e s m args below meth c A Q hx hb hml hts hown hE hP hD hA hS hret ls hl
  have hown : s.vm.findClass RX2 = some m.cls := hown
  have hl : lv_has ls 2 [(0, .ref h), (1, .int k)] := hl
  obtain ⟨H, locs, eH, eL⟩ : ∃ (H : Heap) (locs : List Loc), H = s.heap ∧ locs = [] := ⟨_, _, rfl, rfl⟩
  rw [← eH, ← eL]
  rw [← eH] at hP
  have hS : va_S A s.heap H locs := by rw [eH, eL]; exact hS
  clear eH eL
  refine lv_iload_n hx hb dX2_tap_0 rfl (lv_at hl 1 rfl) ?_
  refine lv_iconst (v := 0) hx hb dX2_tap_1 (by decide) ?_
  refine lv_bipush (v := 7) hx hb dX2_tap_2 (by decide) ?_
  refine sm_i [.int k, .int 0, .int 7] [] ⟨hx, hb, hml, hown, hts⟩ (c_X2_in l k 0 7) (va_cwS 3 hts gX2_tap_X2_in rfl rfl rfl (by decide +kernel) ⟨Nat.le_of_ble_eq_true rfl, Nat.le_of_ble_eq_true rfl⟩) rfl hl.1 rfl (Nat.le_of_ble_eq_true rfl) dX2_tap_4 ⟨Nat.zero_le _, Nat.zero_le _⟩ ?_
  refine lv_if_eq (tgt := 21) hx hb dX2_tap_7 (by decide) (fun c_1 => ?_) (fun c_1 => ?_)
  · have c_1 : (pf_in k 0 7) = 0 := c_1
    refine lv_ldc (v := (-1000000002)) hx hb hown (hts (.constant RX2 79 (-1000000002)) (by decide +kernel)) dX2_tap_21 ?_
    exact hret _ _ _ _ _ hP ((if_pos c_1).symm) hS dX2_tap_23
  · have c_1 : ¬ (pf_in k 0 7) = 0 := c_1
    obtain ⟨j, hj, rfl⟩ := in_nI (b := 7) (by decide) c_1
    refine lv_aload_n hx hb dX2_tap_10 rfl (lv_at hl 0 rfl) ?_
    refine va_get (D := D) (ci := 2) (v := .ref (as 0)) (C := RX2) (T := TX2) (N := 3) hx hb hts iw_X2_tap_X2 hown hE.1 hP 0 rfl rfl 0 (by decide) (hts (.fieldLink RX2 7 "EchoTapsModel" "state" "[I") (by decide +kernel)) (fun _ h9 => h9) rfl dX2_tap_11 ?_
    refine lv_iconst (v := 5) hx hb dX2_tap_14 (by decide) ?_
    refine lv_iload_n hx hb dX2_tap_15 rfl (lv_at hl 1 rfl) ?_
    refine lv_iadd hx hb dX2_tap_16 ?_
    refine lv_ri (nI_add 5 j) ?_
    refine va_iald hx hb hE.1 hP 1 0 rfl rfl (vp_in_nI (by omega) (by decide)) dX2_tap_17 ?_
    refine lv_ri (congrArg g (nI_clamp (n := 5 + j) (by omega))) ?_
    refine lv_goto (tgt := 23) hx hb dX2_tap_18 (by decide) ?_
    exact hret _ _ _ _ _ hP (by rw [yf_tap, if_neg c_1, nI_clamp (by omega)]) hS dX2_tap_23

abbrev rm_X2_last : Room := { frames := 1, cells := 0, slots := 0, locals := 22 }
theorem iw_X2_last_X2 : ∀ w ∈ wsX20, w ∈ wsX2_last := by decide +kernel
set_option maxRecDepth 100000 in
set_option maxHeartbeats 4000000 in
theorem c_X2_last (l : Launch) (D : va_G) (cA cZ cR : ClassId) (h : Nat) (as : Nat → Nat) (g im kp : Fn) (k : Int32) : BMi l D cA cZ cR yX2_last wsX2_last rm_X2_last [.ref h, .int k] (MW cA cZ h as g im kp) (MW cA cZ h as g im kp) (yf_last g k) := by
  refine bm_open (maxL := 2) (by decide) rfl rfl rfl (Nat.le_of_ble_eq_true rfl) ?_
  intro p e s m args below meth c A Q hx hb hml hts hown hE hP hD hA hS hret ls hl
  have hown : s.vm.findClass RX2 = some m.cls := hown
  have hl : lv_has ls 2 [(0, .ref h), (1, .int k)] := hl
  obtain ⟨H, locs, eH, eL⟩ : ∃ (H : Heap) (locs : List Loc), H = s.heap ∧ locs = [] := ⟨_, _, rfl, rfl⟩
  rw [← eH, ← eL]
  rw [← eH] at hP
  have hS : va_S A s.heap H locs := by rw [eH, eL]; exact hS
  clear eH eL
  refine lv_iload_n hx hb dX2_last_0 rfl (lv_at hl 1 rfl) ?_
  refine lv_iconst (v := 0) hx hb dX2_last_1 (by decide) ?_
  refine lv_bipush (v := 7) hx hb dX2_last_2 (by decide) ?_
  refine sm_i [.int k, .int 0, .int 7] [] ⟨hx, hb, hml, hown, hts⟩ (c_X2_in l k 0 7) (va_cwS 3 hts gX2_last_X2_in rfl rfl rfl (by decide +kernel) ⟨Nat.le_of_ble_eq_true rfl, Nat.le_of_ble_eq_true rfl⟩) rfl hl.1 rfl (Nat.le_of_ble_eq_true rfl) dX2_last_4 ⟨Nat.zero_le _, Nat.zero_le _⟩ ?_
  refine lv_if_ne (tgt := 13) hx hb dX2_last_7 (by decide) (fun c_1 => ?_) (fun c_1 => ?_)
  · have c_1 : ¬ (pf_in k 0 7) = 0 := c_1
    obtain ⟨j, hj, rfl⟩ := in_nI (b := 7) (by decide) c_1
    refine lv_aload_n hx hb dX2_last_13 rfl (lv_at hl 0 rfl) ?_
    refine va_get (D := D) (ci := 2) (v := .ref (as 0)) (C := RX2) (T := TX2) (N := 3) hx hb hts iw_X2_last_X2 hown hE.1 hP 0 rfl rfl 0 (by decide) (hts (.fieldLink RX2 7 "EchoTapsModel" "state" "[I") (by decide +kernel)) (fun _ h9 => h9) rfl dX2_last_14 ?_
    refine lv_bipush (v := 24) hx hb dX2_last_17 (by decide) ?_
    refine va_iald hx hb hE.1 hP 1 0 rfl rfl (vp_in_nI (n := 24) (N := 555) (by decide) (by decide)) dX2_last_19 ?_
    refine lv_if_ne (tgt := 28) hx hb dX2_last_20 (by decide) (fun c_2 => ?_) (fun c_2 => ?_)
    · have c_2 : ¬ (g 24) = 0 := c_2
      refine lv_aload_n hx hb dX2_last_28 rfl (lv_at hl 0 rfl) ?_
      refine va_get (D := D) (ci := 2) (v := .ref (as 0)) (C := RX2) (T := TX2) (N := 3) hx hb hts iw_X2_last_X2 hown hE.1 hP 0 rfl rfl 0 (by decide) (hts (.fieldLink RX2 7 "EchoTapsModel" "state" "[I") (by decide +kernel)) (fun _ h9 => h9) rfl dX2_last_29 ?_
      refine lv_bipush (v := 25) hx hb dX2_last_32 (by decide) ?_
      refine lv_iload_n hx hb dX2_last_34 rfl (lv_at hl 1 rfl) ?_
      refine lv_iadd hx hb dX2_last_35 ?_
      refine lv_ri (nI_add 25 j) ?_
      refine va_iald hx hb hE.1 hP 1 0 rfl rfl (vp_in_nI (by omega) (by decide)) dX2_last_36 ?_
      refine lv_ri (congrArg g (nI_clamp (n := 25 + j) (by omega))) ?_
      exact hret _ _ _ _ _ hP (by rw [yf_last, if_neg c_1, if_neg c_2, nI_clamp (by omega)]) hS dX2_last_37
    · have c_2 : (g 24) = 0 := c_2
      refine lv_ldc (v := (-1000000003)) hx hb hown (hts (.constant RX2 80 (-1000000003)) (by decide +kernel)) dX2_last_23 ?_
      refine lv_goto (tgt := 37) hx hb dX2_last_25 (by decide) ?_
      exact hret _ _ _ _ _ hP (by rw [yf_last, if_neg c_1, if_pos c_2]) hS dX2_last_37
  · have c_1 : (pf_in k 0 7) = 0 := c_1
    refine lv_ldc (v := (-1000000002)) hx hb hown (hts (.constant RX2 79 (-1000000002)) (by decide +kernel)) dX2_last_10 ?_
    exact hret _ _ _ _ _ hP ((if_pos c_1).symm) hS dX2_last_12

abbrev rm_X2_ago : Room := { frames := 1, cells := 0, slots := 0, locals := 22 }
theorem iw_X2_ago_X2 : ∀ w ∈ wsX20, w ∈ wsX2_ago := by decide +kernel
set_option maxRecDepth 100000 in
set_option maxHeartbeats 4000000 in
theorem c_X2_ago (l : Launch) (D : va_G) (cA cZ cR : ClassId) (h : Nat) (as : Nat → Nat) (g im kp : Fn) (i k : Int32) : BMi l D cA cZ cR yX2_ago wsX2_ago rm_X2_ago [.ref h, .int i, .int k] (MW cA cZ h as g im kp) (MW cA cZ h as g im kp) (yf_ago g i k) := by
  refine bm_open (maxL := 3) (by decide) rfl rfl rfl (Nat.le_of_ble_eq_true rfl) ?_
  intro p e s m args below meth c A Q hx hb hml hts hown hE hP hD hA hS hret ls hl
  have hown : s.vm.findClass RX2 = some m.cls := hown
  have hl : lv_has ls 3 [(0, .ref h), (1, .int i), (2, .int k)] := hl
  obtain ⟨H, locs, eH, eL⟩ : ∃ (H : Heap) (locs : List Loc), H = s.heap ∧ locs = [] := ⟨_, _, rfl, rfl⟩
  rw [← eH, ← eL]
  rw [← eH] at hP
  have hS : va_S A s.heap H locs := by rw [eH, eL]; exact hS
  clear eH eL
  refine lv_iload_n hx hb dX2_ago_0 rfl (lv_at hl 1 rfl) ?_
  refine lv_iconst (v := 0) hx hb dX2_ago_1 (by decide) ?_
  refine lv_bipush (v := 31) hx hb dX2_ago_2 (by decide) ?_
  refine sm_i [.int i, .int 0, .int 31] [] ⟨hx, hb, hml, hown, hts⟩ (c_X2_in l i 0 31) (va_cwS 3 hts gX2_ago_X2_in rfl rfl rfl (by decide +kernel) ⟨Nat.le_of_ble_eq_true rfl, Nat.le_of_ble_eq_true rfl⟩) rfl hl.1 rfl (Nat.le_of_ble_eq_true rfl) dX2_ago_4 ⟨Nat.zero_le _, Nat.zero_le _⟩ ?_
  refine lv_if_eq (tgt := 19) hx hb dX2_ago_7 (by decide) (fun c_1 => ?_) (fun c_1 => ?_)
  · have c_1 : (pf_in i 0 31) = 0 := c_1
    refine lv_ldc (v := (-1000000002)) hx hb hown (hts (.constant RX2 79 (-1000000002)) (by decide +kernel)) dX2_ago_19 ?_
    exact hret _ _ _ _ _ hP ((if_pos (Or.inl c_1)).symm) hS dX2_ago_21
  · have c_1 : ¬ (pf_in i 0 31) = 0 := c_1
    refine lv_iload_n hx hb dX2_ago_10 rfl (lv_at hl 2 rfl) ?_
    refine lv_iconst (v := 0) hx hb dX2_ago_11 (by decide) ?_
    refine lv_iconst (v := 2) hx hb dX2_ago_12 (by decide) ?_
    refine sm_i [.int k, .int 0, .int 2] [] ⟨hx, hb, hml, hown, hts⟩ (c_X2_in l k 0 2) (va_cwS 3 hts gX2_ago_X2_in rfl rfl rfl (by decide +kernel) ⟨Nat.le_of_ble_eq_true rfl, Nat.le_of_ble_eq_true rfl⟩) rfl hl.1 rfl (Nat.le_of_ble_eq_true rfl) dX2_ago_13 ⟨Nat.zero_le _, Nat.zero_le _⟩ ?_
    refine lv_if_ne (tgt := 22) hx hb dX2_ago_16 (by decide) (fun c_2 => ?_) (fun c_2 => ?_)
    · have c_2 : ¬ (pf_in k 0 2) = 0 := c_2
      obtain ⟨j, hj, rfl⟩ := in_nI (b := 31) (by decide) c_1
      obtain ⟨q, hq, rfl⟩ := in_nI (b := 2) (by decide) c_2
      refine lv_iload_n hx hb dX2_ago_22 rfl (lv_at hl 1 rfl) ?_
      refine lv_aload_n hx hb dX2_ago_23 rfl (lv_at hl 0 rfl) ?_
      refine va_get (D := D) (ci := 2) (v := .ref (as 0)) (C := RX2) (T := TX2) (N := 3) hx hb hts iw_X2_ago_X2 hown hE.1 hP 0 rfl rfl 0 (by decide) (hts (.fieldLink RX2 7 "EchoTapsModel" "state" "[I") (by decide +kernel)) (fun _ h9 => h9) rfl dX2_ago_24 ?_
      refine lv_bipush (v := 24) hx hb dX2_ago_27 (by decide) ?_
      refine va_iald hx hb hE.1 hP 1 0 rfl rfl (vp_in_nI (n := 24) (N := 555) (by decide) (by decide)) dX2_ago_29 ?_
      refine lv_icmp_lt (tgt := 38) hx hb dX2_ago_30 (by decide) (fun c_3 => ?_) (fun c_3 => ?_)
      · have c_3 : (nI j) < (g 24) := c_3
        refine lv_aload_n hx hb dX2_ago_38 rfl (lv_at hl 0 rfl) ?_
        refine va_get (D := D) (ci := 2) (v := .ref (as 0)) (C := RX2) (T := TX2) (N := 3) hx hb hts iw_X2_ago_X2 hown hE.1 hP 0 rfl rfl 0 (by decide) (hts (.fieldLink RX2 7 "EchoTapsModel" "state" "[I") (by decide +kernel)) (fun _ h9 => h9) rfl dX2_ago_39 ?_
        refine lv_bipush (v := 33) hx hb dX2_ago_42 (by decide) ?_
        refine lv_bipush (v := 40) hx hb dX2_ago_44 (by decide) ?_
        refine lv_iload_n hx hb dX2_ago_46 rfl (lv_at hl 2 rfl) ?_
        refine lv_imul hx hb dX2_ago_47 ?_
        refine lv_ri (pk_mul 40 q) ?_
        refine lv_iadd hx hb dX2_ago_48 ?_
        refine lv_ri (nI_add 33 (40 * q)) ?_
        refine lv_iload_n hx hb dX2_ago_49 rfl (lv_at hl 1 rfl) ?_
        refine lv_iadd hx hb dX2_ago_50 ?_
        refine lv_ri (nI_add (33 + (40 * q)) j) ?_
        refine va_iald hx hb hE.1 hP 1 0 rfl rfl (vp_in_nI (by omega) (by decide)) dX2_ago_51 ?_
        refine lv_ri (congrArg g (nI_clamp (n := 33 + (40 * q) + j) (by omega))) ?_
        exact hret _ _ _ _ _ hP (by rw [yf_ago, if_neg (fun q => q.elim c_1 c_2), if_pos c_3, nI_clamp (by omega), nI_clamp (by omega)]) hS dX2_ago_52
      · have c_3 : ¬ (nI j) < (g 24) := c_3
        refine lv_ldc (v := (-1000000006)) hx hb hown (hts (.constant RX2 81 (-1000000006)) (by decide +kernel)) dX2_ago_33 ?_
        refine lv_goto (tgt := 52) hx hb dX2_ago_35 (by decide) ?_
        exact hret _ _ _ _ _ hP (by rw [yf_ago, if_neg (fun q => q.elim c_1 c_2), if_neg c_3]) hS dX2_ago_52
    · have c_2 : (pf_in k 0 2) = 0 := c_2
      refine lv_ldc (v := (-1000000002)) hx hb hown (hts (.constant RX2 79 (-1000000002)) (by decide +kernel)) dX2_ago_19 ?_
      exact hret _ _ _ _ _ hP ((if_pos (Or.inr c_2)).symm) hS dX2_ago_21

abbrev rm_X2_part : Room := { frames := 1, cells := 0, slots := 0, locals := 22 }
theorem iw_X2_part_X2 : ∀ w ∈ wsX20, w ∈ wsX2_part := by decide +kernel
set_option maxRecDepth 100000 in
set_option maxHeartbeats 4000000 in
theorem c_X2_part (l : Launch) (D : va_G) (cA cZ cR : ClassId) (h : Nat) (as : Nat → Nat) (g im kp : Fn) (k v : Int32) : BMi l D cA cZ cR yX2_part wsX2_part rm_X2_part [.ref h, .int k, .int v] (MW cA cZ h as g im kp) (MW cA cZ h as (ys_part g k v) im kp) (yf_part g k v) := by
  refine bm_open (maxL := 4) (by decide) rfl rfl rfl (Nat.le_of_ble_eq_true rfl) ?_
  intro p e s m args below meth c A Q hx hb hml hts hown hE hP hD hA hS hret ls hl
  have hown : s.vm.findClass RX2 = some m.cls := hown
  have hl : lv_has ls 4 [(0, .ref h), (1, .int k), (2, .int v)] := hl
  obtain ⟨H, locs, eH, eL⟩ : ∃ (H : Heap) (locs : List Loc), H = s.heap ∧ locs = [] := ⟨_, _, rfl, rfl⟩
  rw [← eH, ← eL]
  rw [← eH] at hP
  have hS : va_S A s.heap H locs := by rw [eH, eL]; exact hS
  clear eH eL
  refine lv_iload_n hx hb dX2_part_0 rfl (lv_at hl 1 rfl) ?_
  refine lv_iconst (v := 0) hx hb dX2_part_1 (by decide) ?_
  refine lv_bipush (v := 8) hx hb dX2_part_2 (by decide) ?_
  refine sm_i [.int k, .int 0, .int 8] [] ⟨hx, hb, hml, hown, hts⟩ (c_X2_in l k 0 8) (va_cwS 3 hts gX2_part_X2_in rfl rfl rfl (by decide +kernel) ⟨Nat.le_of_ble_eq_true rfl, Nat.le_of_ble_eq_true rfl⟩) rfl hl.1 rfl (Nat.le_of_ble_eq_true rfl) dX2_part_4 ⟨Nat.zero_le _, Nat.zero_le _⟩ ?_
  refine lv_if_eq (tgt := 44) hx hb dX2_part_7 (by decide) (fun c_1 => ?_) (fun c_1 => ?_)
  · have c_1 : (pf_in k 0 8) = 0 := c_1
    have e1 : ys_part g k v = g := if_pos (Or.inl c_1)
    refine lv_ldc (v := (-1000000002)) hx hb hown (hts (.constant RX2 79 (-1000000002)) (by decide +kernel)) dX2_part_44 ?_
    exact hret _ _ _ _ _ (by rw [e1]; exact hP) ((if_pos (Or.inl c_1)).symm) hS dX2_part_46
  · have c_1 : ¬ (pf_in k 0 8) = 0 := c_1
    obtain ⟨j, hj, rfl⟩ := in_nI (b := 8) (by decide) c_1
    refine lv_iload_n hx hb dX2_part_10 rfl (lv_at hl 2 rfl) ?_
    refine lv_iload_n hx hb dX2_part_11 rfl (lv_at hl 1 rfl) ?_
    refine lv_bipush (v := 8) hx hb dX2_part_12 (by decide) ?_
    have j24 : ∀ (lo : Int32) (elo : lo = if nI j = 8 then 0 else -1024), W p l e rm_X2_part s m args below meth c H locs 0 0 Q (F0 m 24 ls [.int lo, .int v]) := by
      intro lo elo
      refine lv_iload_n hx hb dX2_part_24 rfl (lv_at hl 1 rfl) ?_
      refine lv_bipush (v := 8) hx hb dX2_part_25 (by decide) ?_
      have j38 : ∀ (hi : Int32) (ehi : hi = if nI j = 8 then 15 else 1023), W p l e rm_X2_part s m args below meth c H locs 0 0 Q (F0 m 38 ls [.int hi, .int lo, .int v]) := by
        intro hi ehi
        refine sm_i [.int v, .int lo, .int hi] [] ⟨hx, hb, hml, hown, hts⟩ (c_X2_in l v lo hi) (va_cwS 3 hts gX2_part_X2_in rfl rfl rfl (by decide +kernel) ⟨Nat.le_of_ble_eq_true rfl, Nat.le_of_ble_eq_true rfl⟩) rfl hl.1 rfl (Nat.le_of_ble_eq_true rfl) dX2_part_38 ⟨Nat.zero_le _, Nat.zero_le _⟩ ?_
        have eo : xo_part (nI j) v = pf_in v lo hi := by rw [elo, ehi, xo_part]; split <;> rfl
        refine lv_if_ne (tgt := 47) hx hb dX2_part_41 (by decide) (fun c_2 => ?_) (fun c_2 => ?_)
        · have c_2 : ¬ (pf_in v lo hi) = 0 := c_2
          have cc : ¬ (pf_in (nI j) 0 8 = 0 ∨ xo_part (nI j) v = 0) := fun q => q.elim c_1 (by rw [eo]; exact c_2)
          have e1 : ys_part g (nI j) v = upd g (13 + j) v := by rw [ys_part, if_neg cc, nI_clamp (by omega)]
          refine lv_aload_n hx hb dX2_part_47 rfl (lv_at hl 0 rfl) ?_
          refine va_get (D := D) (ci := 2) (v := .ref (as 0)) (C := RX2) (T := TX2) (N := 3) hx hb hts iw_X2_part_X2 hown hE.1 hP 0 rfl rfl 0 (by decide) (hts (.fieldLink RX2 7 "EchoTapsModel" "state" "[I") (by decide +kernel)) (fun _ h9 => h9) rfl dX2_part_48 ?_
          refine lv_bipush (v := 13) hx hb dX2_part_51 (by decide) ?_
          refine lv_iload_n hx hb dX2_part_53 rfl (lv_at hl 1 rfl) ?_
          refine lv_iadd hx hb dX2_part_54 ?_
          refine lv_ri (nI_add 13 j) ?_
          refine va_iald hx hb hE.1 hP 1 0 rfl rfl (vp_in_nI (by omega) (by decide)) dX2_part_55 ?_
          refine lv_ri (congrArg g (nI_clamp (n := 13 + j) (by omega))) ?_
          refine lv_istore_n (lv' := [(3, .int (g (13 + j))), (0, .ref h), (1, .int (nI j)), (2, .int v)]) hx hb dX2_part_56 rfl hl (by decide) rfl (fun ls hl => ?_)
          refine lv_aload_n hx hb dX2_part_57 rfl (lv_at hl 1 rfl) ?_
          refine va_get (D := D) (ci := 2) (v := .ref (as 0)) (C := RX2) (T := TX2) (N := 3) hx hb hts iw_X2_part_X2 hown hE.1 hP 0 rfl rfl 0 (by decide) (hts (.fieldLink RX2 7 "EchoTapsModel" "state" "[I") (by decide +kernel)) (fun _ h9 => h9) rfl dX2_part_58 ?_
          refine lv_bipush (v := 13) hx hb dX2_part_61 (by decide) ?_
          refine lv_iload_n hx hb dX2_part_63 rfl (lv_at hl 2 rfl) ?_
          refine lv_iadd hx hb dX2_part_64 ?_
          refine lv_ri (nI_add 13 j) ?_
          refine lv_iload_n hx hb dX2_part_65 rfl (lv_at hl 3 rfl) ?_
          refine va_iast hx hb hE.1 hP hD hS 1 0 rfl rfl (vp_in_nI (by omega) (by decide)) dX2_part_66 (fun H locs hP hD hS => ?_)
          rw [show (nI (13 + j)).toNatClampNeg = 13 + j from nI_clamp (by omega)] at hP hD
          have hP : va_P D vwCl (MW cA cZ h as (upd g (13 + j) v) im kp) H := hP
          have hD : va_D A (MW cA cZ h as (upd g (13 + j) v) im kp) := hD
          refine lv_iload_n hx hb dX2_part_67 rfl (lv_at hl 0 rfl) ?_
          exact hret _ _ _ _ _ (by rw [e1]; exact hP) (by rw [yf_part, if_neg cc, nI_clamp (by omega)]) hS dX2_part_68
        · have c_2 : (pf_in v lo hi) = 0 := c_2
          have cc : pf_in (nI j) 0 8 = 0 ∨ xo_part (nI j) v = 0 := Or.inr (by rw [eo]; exact c_2)
          have e1 : ys_part g (nI j) v = g := if_pos cc
          refine lv_ldc (v := (-1000000002)) hx hb hown (hts (.constant RX2 79 (-1000000002)) (by decide +kernel)) dX2_part_44 ?_
          exact hret _ _ _ _ _ (by rw [e1]; exact hP) ((if_pos cc).symm) hS dX2_part_46
      refine lv_icmp_ne (tgt := 35) hx hb dX2_part_27 (by decide) (fun c_3 => ?_) (fun c_3 => ?_)
      · have c_3 : ¬ (nI j) = 8 := c_3
        refine lv_sipush (v := 1023) hx hb dX2_part_35 (by decide) ?_
        exact j38 _ (if_neg c_3).symm
      · have c_3 : (nI j) = 8 := c_3
        refine lv_bipush (v := 15) hx hb dX2_part_30 (by decide) ?_
        refine lv_goto (tgt := 38) hx hb dX2_part_32 (by decide) ?_
        exact j38 _ (if_pos c_3).symm
    refine lv_icmp_ne (tgt := 21) hx hb dX2_part_14 (by decide) (fun c_4 => ?_) (fun c_4 => ?_)
    · have c_4 : ¬ (nI j) = 8 := c_4
      refine lv_sipush (v := (-1024)) hx hb dX2_part_21 (by decide) ?_
      exact j24 _ (if_neg c_4).symm
    · have c_4 : (nI j) = 8 := c_4
      refine lv_iconst (v := 0) hx hb dX2_part_17 (by decide) ?_
      refine lv_goto (tgt := 24) hx hb dX2_part_18 (by decide) ?_
      exact j24 _ (if_pos c_4).symm

abbrev rm_X2_rule : Room := { frames := 1, cells := 0, slots := 0, locals := 22 }
theorem iw_X2_rule_X2 : ∀ w ∈ wsX20, w ∈ wsX2_rule := by decide +kernel
set_option maxRecDepth 100000 in
set_option maxHeartbeats 4000000 in
theorem c_X2_rule (l : Launch) (D : va_G) (cA cZ cR : ClassId) (h : Nat) (as : Nat → Nat) (g im kp : Fn) (k v : Int32) : BMi l D cA cZ cR yX2_rule wsX2_rule rm_X2_rule [.ref h, .int k, .int v] (MW cA cZ h as g im kp) (MW cA cZ h as (ys_rule g k v) im kp) (yf_rule g k v) := by
  refine bm_open (maxL := 4) (by decide) rfl rfl rfl (Nat.le_of_ble_eq_true rfl) ?_
  intro p e s m args below meth c A Q hx hb hml hts hown hE hP hD hA hS hret ls hl
  have hown : s.vm.findClass RX2 = some m.cls := hown
  have hl : lv_has ls 4 [(0, .ref h), (1, .int k), (2, .int v)] := hl
  obtain ⟨H, locs, eH, eL⟩ : ∃ (H : Heap) (locs : List Loc), H = s.heap ∧ locs = [] := ⟨_, _, rfl, rfl⟩
  rw [← eH, ← eL]
  rw [← eH] at hP
  have hS : va_S A s.heap H locs := by rw [eH, eL]; exact hS
  clear eH eL
  refine lv_iload_n hx hb dX2_rule_0 rfl (lv_at hl 1 rfl) ?_
  refine lv_iconst (v := 0) hx hb dX2_rule_1 (by decide) ?_
  refine lv_iconst (v := 4) hx hb dX2_rule_2 (by decide) ?_
  refine sm_i [.int k, .int 0, .int 4] [] ⟨hx, hb, hml, hown, hts⟩ (c_X2_in l k 0 4) (va_cwS 3 hts gX2_rule_X2_in rfl rfl rfl (by decide +kernel) ⟨Nat.le_of_ble_eq_true rfl, Nat.le_of_ble_eq_true rfl⟩) rfl hl.1 rfl (Nat.le_of_ble_eq_true rfl) dX2_rule_3 ⟨Nat.zero_le _, Nat.zero_le _⟩ ?_
  refine lv_if_eq (tgt := 21) hx hb dX2_rule_6 (by decide) (fun c_1 => ?_) (fun c_1 => ?_)
  · have c_1 : (pf_in k 0 4) = 0 := c_1
    refine lv_bipush (v := (-2)) hx hb dX2_rule_21 (by decide) ?_
    have e1 : ys_rule g k v = g := if_pos (Or.inl c_1)
    exact hret _ _ _ _ _ (by rw [e1]; exact hP) ((if_pos (Or.inl c_1)).symm) hS dX2_rule_23
  · have c_1 : ¬ (pf_in k 0 4) = 0 := c_1
    refine lv_iload_n hx hb dX2_rule_9 rfl (lv_at hl 2 rfl) ?_
    refine lv_iconst (v := 0) hx hb dX2_rule_10 (by decide) ?_
    refine lv_iload_n hx hb dX2_rule_11 rfl (lv_at hl 1 rfl) ?_
    refine sm_i [.int k] [.int 0, .int v] ⟨hx, hb, hml, hown, hts⟩ (c_X2_most l k) (va_cwS 1 hts gX2_rule_X2_most rfl rfl rfl (by decide +kernel) ⟨Nat.le_of_ble_eq_true rfl, Nat.le_of_ble_eq_true rfl⟩) rfl hl.1 rfl (Nat.le_of_ble_eq_true rfl) dX2_rule_12 ⟨Nat.zero_le _, Nat.zero_le _⟩ ?_
    refine sm_i [.int v, .int 0, .int (pf_most k)] [] ⟨hx, hb, hml, hown, hts⟩ (c_X2_in l v 0 (pf_most k)) (va_cwS 3 hts gX2_rule_X2_in rfl rfl rfl (by decide +kernel) ⟨Nat.le_of_ble_eq_true rfl, Nat.le_of_ble_eq_true rfl⟩) rfl hl.1 rfl (Nat.le_of_ble_eq_true rfl) dX2_rule_15 ⟨Nat.zero_le _, Nat.zero_le _⟩ ?_
    refine lv_if_ne (tgt := 24) hx hb dX2_rule_18 (by decide) (fun c_2 => ?_) (fun c_2 => ?_)
    · have c_2 : ¬ (pf_in v 0 (pf_most k)) = 0 := c_2
      obtain ⟨j, hj, rfl⟩ := in_nI (b := 4) (by decide) c_1
      have e1 : ys_rule g (nI j) v = upd g (0 + j) v := by rw [ys_rule, if_neg (fun q => q.elim c_1 c_2), nI_clamp (by omega), Nat.zero_add]
      refine lv_aload_n hx hb dX2_rule_24 rfl (lv_at hl 0 rfl) ?_
      refine va_get (D := D) (ci := 2) (v := .ref (as 0)) (C := RX2) (T := TX2) (N := 3) hx hb hts iw_X2_rule_X2 hown hE.1 hP 0 rfl rfl 0 (by decide) (hts (.fieldLink RX2 7 "EchoTapsModel" "state" "[I") (by decide +kernel)) (fun _ h9 => h9) rfl dX2_rule_25 ?_
      refine lv_iconst (v := 0) hx hb dX2_rule_28 (by decide) ?_
      refine lv_iload_n hx hb dX2_rule_29 rfl (lv_at hl 1 rfl) ?_
      refine lv_iadd hx hb dX2_rule_30 ?_
      refine lv_ri (nI_add 0 j) ?_
      refine va_iald hx hb hE.1 hP 1 0 rfl rfl (vp_in_nI (by omega) (by decide)) dX2_rule_31 ?_
      refine lv_ri (congrArg g (nI_clamp (n := 0 + j) (by omega))) ?_
      refine lv_istore_n (lv' := [(3, .int (g (0 + j))), (0, .ref h), (1, .int (nI j)), (2, .int v)]) hx hb dX2_rule_32 rfl hl (by decide) rfl (fun ls hl => ?_)
      refine lv_aload_n hx hb dX2_rule_33 rfl (lv_at hl 1 rfl) ?_
      refine va_get (D := D) (ci := 2) (v := .ref (as 0)) (C := RX2) (T := TX2) (N := 3) hx hb hts iw_X2_rule_X2 hown hE.1 hP 0 rfl rfl 0 (by decide) (hts (.fieldLink RX2 7 "EchoTapsModel" "state" "[I") (by decide +kernel)) (fun _ h9 => h9) rfl dX2_rule_34 ?_
      refine lv_iconst (v := 0) hx hb dX2_rule_37 (by decide) ?_
      refine lv_iload_n hx hb dX2_rule_38 rfl (lv_at hl 2 rfl) ?_
      refine lv_iadd hx hb dX2_rule_39 ?_
      refine lv_ri (nI_add 0 j) ?_
      refine lv_iload_n hx hb dX2_rule_40 rfl (lv_at hl 3 rfl) ?_
      refine va_iast hx hb hE.1 hP hD hS 1 0 rfl rfl (vp_in_nI (by omega) (by decide)) dX2_rule_41 (fun H locs hP hD hS => ?_)
      rw [show (nI (0 + j)).toNatClampNeg = 0 + j from nI_clamp (by omega)] at hP hD
      have hP : va_P D vwCl (MW cA cZ h as (upd g (0 + j) v) im kp) H := hP
      have hD : va_D A (MW cA cZ h as (upd g (0 + j) v) im kp) := hD
      refine lv_iload_n hx hb dX2_rule_42 rfl (lv_at hl 0 rfl) ?_
      exact hret _ _ _ _ _ (by rw [e1]; exact hP) (by rw [yf_rule, if_neg (fun q => q.elim c_1 c_2), nI_clamp (by omega), Nat.zero_add]) hS dX2_rule_43
    · have c_2 : (pf_in v 0 (pf_most k)) = 0 := c_2
      refine lv_bipush (v := (-2)) hx hb dX2_rule_21 (by decide) ?_
      have e1 : ys_rule g k v = g := if_pos (Or.inr c_2)
      exact hret _ _ _ _ _ (by rw [e1]; exact hP) ((if_pos (Or.inr c_2)).symm) hS dX2_rule_23

abbrev rm_X2_likeness : Room := { frames := 1, cells := 0, slots := 0, locals := 23 }
set_option maxRecDepth 100000 in
set_option maxHeartbeats 4000000 in
theorem c_X2_likeness (l : Launch) (D : va_G) (cA cZ cR : ClassId) (h : Nat) (as : Nat → Nat) (g im kp : Fn) (d : Int32) : BMi l D cA cZ cR yX2_likeness wsX2_likeness rm_X2_likeness [.ref h, .int d] (MW cA cZ h as g im kp) (MW cA cZ h as g im kp) (yf_like g d) := by
  refine bm_open (maxL := 2) (by decide) rfl rfl rfl (Nat.le_of_ble_eq_true rfl) ?_
  intro p e s m args below meth c A Q hx hb hml hts hown hE hP hD hA hS hret ls hl
  have hown : s.vm.findClass RX2 = some m.cls := hown
  have hl : lv_has ls 2 [(0, .ref h), (1, .int d)] := hl
  obtain ⟨H, locs, eH, eL⟩ : ∃ (H : Heap) (locs : List Loc), H = s.heap ∧ locs = [] := ⟨_, _, rfl, rfl⟩
  rw [← eH, ← eL]
  rw [← eH] at hP
  have hS : va_S A s.heap H locs := by rw [eH, eL]; exact hS
  clear eH eL
  refine lv_iload_n hx hb dX2_likeness_0 rfl (lv_at hl 1 rfl) ?_
  refine lv_iconst (v := 0) hx hb dX2_likeness_1 (by decide) ?_
  refine lv_bipush (v := 15) hx hb dX2_likeness_2 (by decide) ?_
  refine sm_i [.int d, .int 0, .int 15] [] ⟨hx, hb, hml, hown, hts⟩ (c_X2_in l d 0 15) (va_cwS 3 hts gX2_likeness_X2_in rfl rfl rfl (by decide +kernel) ⟨Nat.le_of_ble_eq_true rfl, Nat.le_of_ble_eq_true rfl⟩) rfl hl.1 rfl (Nat.le_of_ble_eq_true rfl) dX2_likeness_4 ⟨Nat.zero_le _, Nat.zero_le _⟩ ?_
  refine lv_if_eq (tgt := 18) hx hb dX2_likeness_7 (by decide) (fun c_1 => ?_) (fun c_1 => ?_)
  · have c_1 : (pf_in d 0 15) = 0 := c_1
    refine lv_ldc (v := (-1000000002)) hx hb hown (hts (.constant RX2 79 (-1000000002)) (by decide +kernel)) dX2_likeness_18 ?_
    exact hret _ _ _ _ _ hP ((if_pos c_1).symm) hS dX2_likeness_20
  · have c_1 : ¬ (pf_in d 0 15) = 0 := c_1
    obtain ⟨j, hj, rfl⟩ := in_nI (b := 15) (by decide) c_1
    refine lv_aload_n hx hb dX2_likeness_10 rfl (lv_at hl 0 rfl) ?_
    refine lv_iload_n hx hb dX2_likeness_11 rfl (lv_at hl 1 rfl) ?_
    refine bm_i [] (MW cA cZ h as g im kp) [] [.int (nI j)] [] ⟨hx, hb, hml, hown, hts⟩ (c_X2_likenessOf l D cA cZ cR h as g im kp j (by omega)) (cwV 1 hts gX2_likeness_X2_likenessOf rfl rfl rfl (by decide +kernel) ⟨Nat.le_of_ble_eq_true rfl, Nat.le_of_ble_eq_true rfl⟩) hE hP hD hS hA MW_adr 0 2 rfl rfl rfl hl.1 rfl (Nat.le_of_ble_eq_true rfl) dX2_likeness_12 ⟨Nat.zero_le _, Nat.zero_le _⟩ (fun H locs hP hD hS => ?_)
    have hP : va_P D vwCl (MW cA cZ h as g im kp) H := hP
    have hD : va_D A (MW cA cZ h as g im kp) := hD
    refine lv_goto (tgt := 20) hx hb dX2_likeness_15 (by decide) ?_
    exact hret _ _ _ _ _ hP (by rw [yf_like, if_neg c_1, nI_clamp (by omega)]) hS dX2_likeness_20

abbrev rm_X2_seek : Room := { frames := 1, cells := 0, slots := 0, locals := 23 }
theorem iw_X2_seek_X2 : ∀ w ∈ wsX20, w ∈ wsX2_seek := by decide +kernel
set_option maxRecDepth 100000 in
set_option maxHeartbeats 4000000 in
theorem c_X2_seek (l : Launch) (D : va_G) (cA cZ cR : ClassId) (h : Nat) (as : Nat → Nat) (g im kp : Fn) : BMi l D cA cZ cR yX2_seek wsX2_seek rm_X2_seek [.ref h] (MW cA cZ h as g im kp) (MW cA cZ h as (ys_seek g) im kp) (yf_seek g) := by
  refine bm_open (maxL := 3) (by decide) rfl rfl rfl (Nat.le_of_ble_eq_true rfl) ?_
  intro p e s m args below meth c A Q hx hb hml hts hown hE hP hD hA hS hret ls hl
  have hown : s.vm.findClass RX2 = some m.cls := hown
  have hl : lv_has ls 3 [(0, .ref h)] := hl
  obtain ⟨H, locs, eH, eL⟩ : ∃ (H : Heap) (locs : List Loc), H = s.heap ∧ locs = [] := ⟨_, _, rfl, rfl⟩
  rw [← eH, ← eL]
  rw [← eH] at hP
  have hS : va_S A s.heap H locs := by rw [eH, eL]; exact hS
  clear eH eL
  refine lv_iconst (v := 0) hx hb dX2_seek_0 (by decide) ?_
  refine lv_istore_n (lv' := [(1, .int 0), (0, .ref h)]) hx hb dX2_seek_1 rfl hl (by decide) rfl (fun ls hl => ?_)
  refine lv_iconst (v := 1) hx hb dX2_seek_2 (by decide) ?_
  refine lv_istore_n (lv' := [(2, .int 1), (1, .int 0), (0, .ref h)]) hx hb dX2_seek_3 rfl hl (by decide) rfl (fun ls hl => ?_)
  have loop : ∀ (n : Nat) (k b : Nat) (hk : k + n = 16) (hk1 : 1 ≤ k) (hbb : b = mk_b g (k - 1)), ∀ (H : Heap) (locs : List Loc), va_P D vwCl (MW cA cZ h as g im kp) H → va_D A (MW cA cZ h as g im kp) → va_S A s.heap H locs → ∀ ls : Array Slot, lv_has ls 3 [(2, .int (nI k)), (1, .int (nI b)), (0, .ref h)] → W p l e rm_X2_seek s m args below meth c H locs 0 0 Q (F0 m 4 ls []) := by
    intro n
    induction n with
    | zero =>
      intro k b hk hk1 hbb H locs hP hD hS ls hl
      obtain rfl : k = 16 := by omega
      have hb15 : b ≤ 15 := by rw [hbb]; exact mk_b_le g 15
      have ebb : mk_b g 15 = b := hbb.symm
      refine lv_iload_n hx hb dX2_seek_4 rfl (lv_at hl 0 rfl) ?_
      refine lv_bipush (v := 15) hx hb dX2_seek_5 (by decide) ?_
      refine lv_icmp_gt (tgt := 41) hx hb dX2_seek_7 (by decide) (fun c_1 => ?_) (fun c_1 => absurd (by decide) c_1)
      refine lv_aload_n hx hb dX2_seek_41 rfl (lv_at hl 2 rfl) ?_
      refine lv_iload_n hx hb dX2_seek_42 rfl (lv_at hl 1 rfl) ?_
      refine bm_i [] (MW cA cZ h as g im kp) [] [.int (nI b)] [] ⟨hx, hb, hml, hown, hts⟩ (c_X2_likenessOf l D cA cZ cR h as g im kp b (by omega)) (cwV 1 hts gX2_seek_X2_likenessOf rfl rfl rfl (by decide +kernel) ⟨Nat.le_of_ble_eq_true rfl, Nat.le_of_ble_eq_true rfl⟩) hE hP hD hS hA MW_adr 0 2 rfl rfl rfl hl.1 rfl (Nat.le_of_ble_eq_true rfl) dX2_seek_43 ⟨Nat.zero_le _, Nat.zero_le _⟩ (fun H locs hP hD hS => ?_)
      have hP : va_P D vwCl (MW cA cZ h as g im kp) H := hP
      have hD : va_D A (MW cA cZ h as g im kp) := hD
      refine lv_if_ne (tgt := 52) hx hb dX2_seek_46 (by decide) (fun c_2 => ?_) (fun c_2 => ?_)
      · have c_2 : ¬ (mf_like g b) = 0 := c_2
        have e1 : ys_seek g = mf_zr (upd g 4 (nI b)) 8 := by rw [ys_seek, ebb, if_neg c_2]
        have e2 : yf_seek g = nI b := by rw [yf_seek, ebb, if_neg c_2]
        rw [e1, e2] at hret
        refine lv_aload_n hx hb dX2_seek_52 rfl (lv_at hl 2 rfl) ?_
        refine va_get (D := D) (ci := 2) (v := .ref (as 0)) (C := RX2) (T := TX2) (N := 3) hx hb hts iw_X2_seek_X2 hown hE.1 hP 0 rfl rfl 0 (by decide) (hts (.fieldLink RX2 7 "EchoTapsModel" "state" "[I") (by decide +kernel)) (fun _ h9 => h9) rfl dX2_seek_53 ?_
        refine lv_iconst (v := 4) hx hb dX2_seek_56 (by decide) ?_
        refine lv_iload_n hx hb dX2_seek_57 rfl (lv_at hl 1 rfl) ?_
        refine va_iast hx hb hE.1 hP hD hS 1 0 rfl rfl (vp_in_nI (n := 4) (N := 555) (by decide) (by decide)) dX2_seek_58 (fun H locs hP hD hS => ?_)
        have hP : va_P D vwCl (MW cA cZ h as (upd g 4 (nI b)) im kp) H := hP
        have hD : va_D A (MW cA cZ h as (upd g 4 (nI b)) im kp) := hD
        refine lv_iconst (v := 0) hx hb dX2_seek_59 (by decide) ?_
        refine lv_istore_n (lv' := [(2, .int 0), (1, .int (nI b)), (0, .ref h)]) hx hb dX2_seek_60 rfl hl (by decide) rfl (fun ls hl => ?_)
        obtain ⟨g4, eg4⟩ : ∃ z : Fn, z = upd g 4 (nI b) := ⟨_, rfl⟩
        rw [← eg4] at hP hD hret
        have hP : va_P D vwCl (MW cA cZ h as (mf_zr g4 0) im kp) H := hP
        have hD : va_D A (MW cA cZ h as (mf_zr g4 0) im kp) := hD
        have loop2 : ∀ (n : Nat) (k : Nat) (hk2 : k + n = 8), ∀ (H : Heap) (locs : List Loc), va_P D vwCl (MW cA cZ h as (mf_zr g4 k) im kp) H → va_D A (MW cA cZ h as (mf_zr g4 k) im kp) → va_S A s.heap H locs → ∀ ls : Array Slot, lv_has ls 3 [(2, .int (nI k)), (1, .int (nI b)), (0, .ref h)] → W p l e rm_X2_seek s m args below meth c H locs 0 0 Q (F0 m 61 ls []) := by
          intro n
          induction n with
          | zero =>
            intro k hk2 H locs hP hD hS ls hl
            obtain rfl : k = 8 := by omega
            refine lv_iload_n hx hb dX2_seek_61 rfl (lv_at hl 0 rfl) ?_
            refine lv_bipush (v := 8) hx hb dX2_seek_62 (by decide) ?_
            refine lv_icmp_ge (tgt := 82) hx hb dX2_seek_64 (by decide) (fun c_3 => ?_) (fun c_3 => absurd (by decide) c_3)
            refine lv_iload_n hx hb dX2_seek_82 rfl (lv_at hl 1 rfl) ?_
            exact hret _ _ _ _ _ hP rfl hS dX2_seek_83
          | succ n ih =>
            intro k hk2 H locs hP hD hS ls hl
            obtain ⟨gk, egk⟩ : ∃ z : Fn, z = mf_zr g4 k := ⟨_, rfl⟩
            rw [← egk] at hP hD
            refine lv_iload_n hx hb dX2_seek_61 rfl (lv_at hl 0 rfl) ?_
            refine lv_bipush (v := 8) hx hb dX2_seek_62 (by decide) ?_
            refine lv_icmp_ge (tgt := 82) hx hb dX2_seek_64 (by decide) (fun c_4 => absurd c_4 (nI_ge (a := k) (b := 8) (by omega) (by decide))) (fun c_4 => ?_)
            refine lv_aload_n hx hb dX2_seek_67 rfl (lv_at hl 2 rfl) ?_
            refine va_get (D := D) (ci := 2) (v := .ref (as 0)) (C := RX2) (T := TX2) (N := 3) hx hb hts iw_X2_seek_X2 hown hE.1 hP 0 rfl rfl 0 (by decide) (hts (.fieldLink RX2 7 "EchoTapsModel" "state" "[I") (by decide +kernel)) (fun _ h9 => h9) rfl dX2_seek_68 ?_
            refine lv_iconst (v := 5) hx hb dX2_seek_71 (by decide) ?_
            refine lv_iload_n hx hb dX2_seek_72 rfl (lv_at hl 0 rfl) ?_
            refine lv_iadd hx hb dX2_seek_73 ?_
            refine lv_ri (nI_add 5 k) ?_
            refine lv_iconst (v := 0) hx hb dX2_seek_74 (by decide) ?_
            refine va_iast hx hb hE.1 hP hD hS 1 0 rfl rfl (vp_in_nI (by omega) (by decide)) dX2_seek_75 (fun H locs hP hD hS => ?_)
            rw [show (nI (5 + k)).toNatClampNeg = 5 + k from nI_clamp (by omega)] at hP hD
            have hP : va_P D vwCl (MW cA cZ h as (upd gk (5 + k) 0) im kp) H := hP
            have hD : va_D A (MW cA cZ h as (upd gk (5 + k) 0) im kp) := hD
            refine lv_iinc (v := nI (k + 1)) (lv' := [(2, .int (nI (k + 1))), (1, .int (nI b)), (0, .ref h)]) hx hb dX2_seek_76 hl (k := 0) rfl (nI_1 k) (by decide) rfl (fun ls hl => ?_)
            refine lv_goto (tgt := 61) hx hb dX2_seek_79 (by decide) ?_
            rw [egk] at hP hD
            exact ih (k + 1) (by omega) H locs hP hD hS ls (lv_sub hl [0, 1, 2] rfl)
        exact loop2 8 0 rfl H locs hP hD hS ls (lv_sub hl [0, 1, 2] rfl)
      · have c_2 : (mf_like g b) = 0 := c_2
        have e1 : ys_seek g = g := by rw [ys_seek, ebb, if_pos c_2]
        have e2 : yf_seek g = -3 := by rw [yf_seek, ebb, if_pos c_2]
        refine lv_bipush (v := (-3)) hx hb dX2_seek_49 (by decide) ?_
        exact hret _ _ _ _ _ (by rw [e1]; exact hP) e2.symm hS dX2_seek_51
    | succ n ih =>
      intro k b hk hk1 hbb H locs hP hD hS ls hl
      obtain ⟨k0, rfl⟩ : ∃ k0, k = k0 + 1 := ⟨k - 1, by omega⟩
      have hb15 : b ≤ 15 := by have := mk_b_le g k0; rw [Nat.add_sub_cancel] at hbb; omega
      refine lv_iload_n hx hb dX2_seek_4 rfl (lv_at hl 0 rfl) ?_
      refine lv_bipush (v := 15) hx hb dX2_seek_5 (by decide) ?_
      refine lv_icmp_gt (tgt := 41) hx hb dX2_seek_7 (by decide) (fun c_5 => absurd c_5 (nI_nlt (a := 15) (b := k0 + 1) (by omega) (by decide))) (fun c_5 => ?_)
      refine lv_aload_n hx hb dX2_seek_10 rfl (lv_at hl 2 rfl) ?_
      refine lv_iload_n hx hb dX2_seek_11 rfl (lv_at hl 0 rfl) ?_
      refine bm_i [] (MW cA cZ h as g im kp) [] [.int (nI (k0 + 1))] [] ⟨hx, hb, hml, hown, hts⟩ (c_X2_likenessOf l D cA cZ cR h as g im kp (k0 + 1) (by omega)) (cwV 1 hts gX2_seek_X2_likenessOf rfl rfl rfl (by decide +kernel) ⟨Nat.le_of_ble_eq_true rfl, Nat.le_of_ble_eq_true rfl⟩) hE hP hD hS hA MW_adr 0 2 rfl rfl rfl hl.1 rfl (Nat.le_of_ble_eq_true rfl) dX2_seek_12 ⟨Nat.zero_le _, Nat.zero_le _⟩ (fun H locs hP hD hS => ?_)
      have hP : va_P D vwCl (MW cA cZ h as g im kp) H := hP
      have hD : va_D A (MW cA cZ h as g im kp) := hD
      refine sm_i [.int (mf_like g (k0 + 1))] [] ⟨hx, hb, hml, hown, hts⟩ (c_X2_size l (mf_like g (k0 + 1))) (va_cwS 1 hts gX2_seek_X2_size rfl rfl rfl (by decide +kernel) ⟨Nat.le_of_ble_eq_true rfl, Nat.le_of_ble_eq_true rfl⟩) rfl hl.1 rfl (Nat.le_of_ble_eq_true rfl) dX2_seek_15 ⟨Nat.zero_le _, Nat.zero_le _⟩ ?_
      refine lv_aload_n hx hb dX2_seek_18 rfl (lv_at hl 2 rfl) ?_
      refine lv_iload_n hx hb dX2_seek_19 rfl (lv_at hl 1 rfl) ?_
      refine bm_i [] (MW cA cZ h as g im kp) [] [.int (nI b)] [.int (pf_sz (mf_like g (k0 + 1)))] ⟨hx, hb, hml, hown, hts⟩ (c_X2_likenessOf l D cA cZ cR h as g im kp b (by omega)) (cwV 1 hts gX2_seek_X2_likenessOf rfl rfl rfl (by decide +kernel) ⟨Nat.le_of_ble_eq_true rfl, Nat.le_of_ble_eq_true rfl⟩) hE hP hD hS hA MW_adr 0 2 rfl rfl rfl hl.1 rfl (Nat.le_of_ble_eq_true rfl) dX2_seek_20 ⟨Nat.zero_le _, Nat.zero_le _⟩ (fun H locs hP hD hS => ?_)
      have hP : va_P D vwCl (MW cA cZ h as g im kp) H := hP
      have hD : va_D A (MW cA cZ h as g im kp) := hD
      refine sm_i [.int (mf_like g b)] [.int (pf_sz (mf_like g (k0 + 1)))] ⟨hx, hb, hml, hown, hts⟩ (c_X2_size l (mf_like g b)) (va_cwS 1 hts gX2_seek_X2_size rfl rfl rfl (by decide +kernel) ⟨Nat.le_of_ble_eq_true rfl, Nat.le_of_ble_eq_true rfl⟩) rfl hl.1 rfl (Nat.le_of_ble_eq_true rfl) dX2_seek_23 ⟨Nat.zero_le _, Nat.zero_le _⟩ ?_
      rw [Nat.add_sub_cancel] at hbb
      have j34 : ∀ (b2 : Nat) (eb2 : b2 = if pf_sz (mf_like g (k0 + 1)) ≤ pf_sz (mf_like g b) then b else k0 + 1), W p l e rm_X2_seek s m args below meth c H locs 0 0 Q (F0 m 34 ls [.int (nI b2)]) := by
        intro b2 eb2
        refine lv_istore_n (lv' := [(1, .int (nI b2)), (2, .int (nI (k0 + 1))), (0, .ref h)]) hx hb dX2_seek_34 rfl hl (by decide) rfl (fun ls hl => ?_)
        refine lv_iinc (v := nI ((k0 + 1) + 1)) (lv' := [(2, .int (nI ((k0 + 1) + 1))), (1, .int (nI b2)), (0, .ref h)]) hx hb dX2_seek_35 hl (k := 1) rfl (nI_1 (k0 + 1)) (by decide) rfl (fun ls hl => ?_)
        refine lv_goto (tgt := 4) hx hb dX2_seek_38 (by decide) ?_
        exact ih (k0 + 1 + 1) b2 (by omega) (by omega) (by rw [Nat.add_sub_cancel, eb2, mk_b, ← hbb]) H locs hP hD hS ls (lv_sub hl [0, 1, 2] rfl)
      refine lv_icmp_le (tgt := 33) hx hb dX2_seek_26 (by decide) (fun c_6 => ?_) (fun c_6 => ?_)
      · have c_6 : (pf_sz (mf_like g (k0 + 1))) ≤ (pf_sz (mf_like g b)) := c_6
        refine lv_iload_n hx hb dX2_seek_33 rfl (lv_at hl 1 rfl) ?_
        exact j34 _ (if_pos c_6).symm
      · have c_6 : ¬ (pf_sz (mf_like g (k0 + 1))) ≤ (pf_sz (mf_like g b)) := c_6
        refine lv_iload_n hx hb dX2_seek_29 rfl (lv_at hl 0 rfl) ?_
        refine lv_goto (tgt := 34) hx hb dX2_seek_30 (by decide) ?_
        exact j34 _ (if_neg c_6).symm
  exact loop 15 1 0 rfl (by decide) rfl H locs hP hD hS ls (lv_sub hl [0, 1, 2] rfl)

abbrev rm_X2_gain : Room := { frames := 1, cells := 0, slots := 0, locals := 24 }
set_option maxRecDepth 100000 in
set_option maxHeartbeats 4000000 in
theorem c_X2_gain (l : Launch) (D : va_G) (cA cZ cR : ClassId) (h : Nat) (as : Nat → Nat) (g im kp : Fn) (N : Nat) (k : Int32) (hN : pf_ge N (mf_sq g 113) (mf_sq g 73)) (hz : ¬ mf_sq g 113 = 0 → ¬ pf_gd N (mf_sq g 113) (mf_sq g 73) = 0) : BMi l D cA cZ cR yX2_gain wsX2_gain rm_X2_gain [.ref h, .int k] (MW cA cZ h as g im kp) (MW cA cZ h as g im kp) (yf_gain g N k) := by
  refine bm_open (maxL := 4) (by decide) rfl rfl rfl (Nat.le_of_ble_eq_true rfl) ?_
  intro p e s m args below meth c A Q hx hb hml hts hown hE hP hD hA hS hret ls hl
  have hown : s.vm.findClass RX2 = some m.cls := hown
  have hl : lv_has ls 4 [(0, .ref h), (1, .int k)] := hl
  obtain ⟨H, locs, eH, eL⟩ : ∃ (H : Heap) (locs : List Loc), H = s.heap ∧ locs = [] := ⟨_, _, rfl, rfl⟩
  rw [← eH, ← eL]
  rw [← eH] at hP
  have hS : va_S A s.heap H locs := by rw [eH, eL]; exact hS
  clear eH eL
  refine lv_iload_n hx hb dX2_gain_0 rfl (lv_at hl 1 rfl) ?_
  refine lv_iconst (v := 0) hx hb dX2_gain_1 (by decide) ?_
  refine lv_iconst (v := 1) hx hb dX2_gain_2 (by decide) ?_
  refine sm_i [.int k, .int 0, .int 1] [] ⟨hx, hb, hml, hown, hts⟩ (c_X2_in l k 0 1) (va_cwS 3 hts gX2_gain_X2_in rfl rfl rfl (by decide +kernel) ⟨Nat.le_of_ble_eq_true rfl, Nat.le_of_ble_eq_true rfl⟩) rfl hl.1 rfl (Nat.le_of_ble_eq_true rfl) dX2_gain_3 ⟨Nat.zero_le _, Nat.zero_le _⟩ ?_
  refine lv_if_ne (tgt := 12) hx hb dX2_gain_6 (by decide) (fun c_1 => ?_) (fun c_1 => ?_)
  · have c_1 : ¬ (pf_in k 0 1) = 0 := c_1
    refine lv_aload_n hx hb dX2_gain_12 rfl (lv_at hl 0 rfl) ?_
    refine lv_bipush (v := 73) hx hb dX2_gain_13 (by decide) ?_
    refine bm_i [] (MW cA cZ h as g im kp) [] [.int 73] [] ⟨hx, hb, hml, hown, hts⟩ (c_X2_squares l D cA cZ cR h as g im kp 73 (by omega)) (cwV 1 hts gX2_gain_X2_squares rfl rfl rfl (by decide +kernel) ⟨Nat.le_of_ble_eq_true rfl, Nat.le_of_ble_eq_true rfl⟩) hE hP hD hS hA MW_adr 0 2 rfl rfl rfl hl.1 rfl (Nat.le_of_ble_eq_true rfl) dX2_gain_15 ⟨Nat.zero_le _, Nat.zero_le _⟩ (fun H locs hP hD hS => ?_)
    have hP : va_P D vwCl (MW cA cZ h as g im kp) H := hP
    have hD : va_D A (MW cA cZ h as g im kp) := hD
    refine lv_istore_n (lv' := [(2, .int (mf_sq g 73)), (0, .ref h), (1, .int k)]) hx hb dX2_gain_18 rfl hl (by decide) rfl (fun ls hl => ?_)
    refine lv_aload_n hx hb dX2_gain_19 rfl (lv_at hl 1 rfl) ?_
    refine lv_bipush (v := 113) hx hb dX2_gain_20 (by decide) ?_
    refine bm_i [] (MW cA cZ h as g im kp) [] [.int 113] [] ⟨hx, hb, hml, hown, hts⟩ (c_X2_squares l D cA cZ cR h as g im kp 113 (by omega)) (cwV 1 hts gX2_gain_X2_squares rfl rfl rfl (by decide +kernel) ⟨Nat.le_of_ble_eq_true rfl, Nat.le_of_ble_eq_true rfl⟩) hE hP hD hS hA MW_adr 0 2 rfl rfl rfl hl.1 rfl (Nat.le_of_ble_eq_true rfl) dX2_gain_22 ⟨Nat.zero_le _, Nat.zero_le _⟩ (fun H locs hP hD hS => ?_)
    have hP : va_P D vwCl (MW cA cZ h as g im kp) H := hP
    have hD : va_D A (MW cA cZ h as g im kp) := hD
    refine lv_istore_n (lv' := [(3, .int (mf_sq g 113)), (2, .int (mf_sq g 73)), (0, .ref h), (1, .int k)]) hx hb dX2_gain_25 rfl hl (by decide) rfl (fun ls hl => ?_)
    refine lv_iload_n hx hb dX2_gain_26 rfl (lv_at hl 0 rfl) ?_
    refine lv_if_ne (tgt := 33) hx hb dX2_gain_27 (by decide) (fun c_2 => ?_) (fun c_2 => ?_)
    · have c_2 : ¬ (mf_sq g 113) = 0 := c_2
      refine lv_iload_n hx hb dX2_gain_33 rfl (lv_at hl 3 rfl) ?_
      have j42 :  W p l e rm_X2_gain s m args below meth c H locs 0 0 Q (F0 m 42 ls [.int (if k = 0 then mf_sq g 73 else mf_sq g 113)]) := by
        refine lv_iload_n hx hb dX2_gain_42 rfl (lv_at hl 0 rfl) ?_
        refine lv_iload_n hx hb dX2_gain_43 rfl (lv_at hl 1 rfl) ?_
        refine sm_i [.int (mf_sq g 113), .int (mf_sq g 73)] [.int (if k = 0 then mf_sq g 73 else mf_sq g 113)] ⟨hx, hb, hml, hown, hts⟩ (c_X2_common l N (mf_sq g 113) (mf_sq g 73) hN) (va_cwS 2 hts gX2_gain_X2_common rfl rfl rfl (by decide +kernel) ⟨Nat.le_of_ble_eq_true rfl, Nat.le_of_ble_eq_true rfl⟩) rfl hl.1 rfl (Nat.le_of_ble_eq_true rfl) dX2_gain_44 ⟨Nat.zero_le _, Nat.zero_le _⟩ ?_
        refine lv_idiv hx hb dX2_gain_47 (hz c_2) ?_
        exact hret _ _ _ _ _ hP (by rw [yf_gain, if_neg c_1, if_neg c_2]) hS dX2_gain_48
      refine lv_if_ne (tgt := 41) hx hb dX2_gain_34 (by decide) (fun c_3 => ?_) (fun c_3 => ?_)
      · have c_3 : ¬ k = 0 := c_3
        refine lv_iload_n hx hb dX2_gain_41 rfl (lv_at hl 0 rfl) ?_
        rw [if_neg c_3] at j42
        exact j42
      · have c_3 : k = 0 := c_3
        refine lv_iload_n hx hb dX2_gain_37 rfl (lv_at hl 1 rfl) ?_
        refine lv_goto (tgt := 42) hx hb dX2_gain_38 (by decide) ?_
        rw [if_pos c_3] at j42
        exact j42
    · have c_2 : (mf_sq g 113) = 0 := c_2
      refine lv_bipush (v := (-3)) hx hb dX2_gain_30 (by decide) ?_
      exact hret _ _ _ _ _ hP (by rw [yf_gain, if_neg c_1, if_pos c_2]) hS dX2_gain_32
  · have c_1 : (pf_in k 0 1) = 0 := c_1
    refine lv_bipush (v := (-2)) hx hb dX2_gain_9 (by decide) ?_
    exact hret _ _ _ _ _ hP ((if_pos c_1).symm) hS dX2_gain_11

abbrev rm_X2_began : Room := { frames := 1, cells := 0, slots := 0, locals := 22 }
theorem iw_X2_began_X2 : ∀ w ∈ wsX20, w ∈ wsX2_began := by decide +kernel
set_option maxRecDepth 100000 in
set_option maxHeartbeats 4000000 in
theorem c_X2_began (l : Launch) (D : va_G) (cA cZ cR : ClassId) (h : Nat) (as : Nat → Nat) (g im kp : Fn) (T : Nat) (i k : Int32) (hT : T < 2 ^ 30) (eT : g 24 = nI T) : BMi l D cA cZ cR yX2_began wsX2_began rm_X2_began [.ref h, .int i, .int k] (MW cA cZ h as g im kp) (MW cA cZ h as g im kp) (yf_began g T i k) := by
  refine bm_open (maxL := 7) (by decide) rfl rfl rfl (Nat.le_of_ble_eq_true rfl) ?_
  intro p e s m args below meth c A Q hx hb hml hts hown hE hP hD hA hS hret ls hl
  have hown : s.vm.findClass RX2 = some m.cls := hown
  have hl : lv_has ls 7 [(0, .ref h), (1, .int i), (2, .int k)] := hl
  obtain ⟨H, locs, eH, eL⟩ : ∃ (H : Heap) (locs : List Loc), H = s.heap ∧ locs = [] := ⟨_, _, rfl, rfl⟩
  rw [← eH, ← eL]
  rw [← eH] at hP
  have hS : va_S A s.heap H locs := by rw [eH, eL]; exact hS
  clear eH eL
  refine lv_iload_n hx hb dX2_began_0 rfl (lv_at hl 2 rfl) ?_
  refine lv_iconst (v := 0) hx hb dX2_began_1 (by decide) ?_
  refine lv_iconst (v := 1) hx hb dX2_began_2 (by decide) ?_
  refine sm_i [.int k, .int 0, .int 1] [] ⟨hx, hb, hml, hown, hts⟩ (c_X2_in l k 0 1) (va_cwS 3 hts gX2_began_X2_in rfl rfl rfl (by decide +kernel) ⟨Nat.le_of_ble_eq_true rfl, Nat.le_of_ble_eq_true rfl⟩) rfl hl.1 rfl (Nat.le_of_ble_eq_true rfl) dX2_began_3 ⟨Nat.zero_le _, Nat.zero_le _⟩ ?_
  refine lv_if_ne (tgt := 12) hx hb dX2_began_6 (by decide) (fun c_1 => ?_) (fun c_1 => ?_)
  · have c_1 : ¬ (pf_in k 0 1) = 0 := c_1
    refine lv_iload_n hx hb dX2_began_12 rfl (lv_at hl 2 rfl) ?_
    have j25 : ∀ (r : Nat) (er : r = if k = 0 then 153 else 354), W p l e rm_X2_began s m args below meth c H locs 0 0 Q (F0 m 25 ls [.int (nI r)]) := by
      intro r er
      have hr : r ≤ 354 := by rw [er]; split <;> omega
      refine lv_istore_n (lv' := [(3, .int (nI r)), (0, .ref h), (1, .int i), (2, .int k)]) hx hb dX2_began_25 rfl hl (by decide) rfl (fun ls hl => ?_)
      refine lv_aload_n hx hb dX2_began_26 rfl (lv_at hl 1 rfl) ?_
      refine va_get (D := D) (ci := 2) (v := .ref (as 0)) (C := RX2) (T := TX2) (N := 3) hx hb hts iw_X2_began_X2 hown hE.1 hP 0 rfl rfl 0 (by decide) (hts (.fieldLink RX2 7 "EchoTapsModel" "state" "[I") (by decide +kernel)) (fun _ h9 => h9) rfl dX2_began_27 ?_
      refine lv_bipush (v := 24) hx hb dX2_began_30 (by decide) ?_
      refine va_iald hx hb hE.1 hP 1 0 rfl rfl (vp_in_nI (n := 24) (N := 555) (by decide) (by decide)) dX2_began_32 ?_
      refine lv_sipush (v := 200) hx hb dX2_began_33 (by decide) ?_
      have j52 : ∀ (F : Nat) (eF : F = if 200 ≤ T then 200 else T), W p l e rm_X2_began s m args below meth c H locs 0 0 Q (F0 m 52 ls [.int (nI F)]) := by
        intro F eF
        have hF : F ≤ 200 := by rw [eF]; split <;> omega
        refine lv_istore (lv' := [(4, .int (nI F)), (3, .int (nI r)), (0, .ref h), (1, .int i), (2, .int k)]) hx hb dX2_began_52 hl (by decide) rfl (fun ls hl => ?_)
        refine lv_iconst (v := 0) hx hb dX2_began_54 (by decide) ?_
        refine lv_istore (lv' := [(5, .int 0), (4, .int (nI F)), (3, .int (nI r)), (0, .ref h), (1, .int i), (2, .int k)]) hx hb dX2_began_55 hl (by decide) rfl (fun ls hl => ?_)
        refine lv_iload hx hb dX2_began_57 (lv_at hl 1 rfl) ?_
        refine lv_iconst (v := 1) hx hb dX2_began_59 (by decide) ?_
        refine lv_isub hx hb dX2_began_60 ?_
        refine lv_ri (show nI F - 1 = nI F + (-1) from Int32.sub_eq_add_neg _ _) ?_
        refine lv_istore (lv' := [(6, .int (nI F + (-1))), (5, .int 0), (4, .int (nI F)), (3, .int (nI r)), (0, .ref h), (1, .int i), (2, .int k)]) hx hb dX2_began_61 hl (by decide) rfl (fun ls hl => ?_)
        have e2 : yf_began g T i k = mf_bg g r i F 0 := by rw [yf_began, if_neg c_1, er, eF]
        rw [e2] at hret
        have loop : ∀ (n : Nat) (f : Int32) (hn : n ≤ 200) (hg : mf_bg g r i n f = mf_bg g r i F 0), ∀ (H : Heap) (locs : List Loc), va_P D vwCl (MW cA cZ h as g im kp) H → va_D A (MW cA cZ h as g im kp) → va_S A s.heap H locs → ∀ ls : Array Slot, lv_has ls 7 [(6, .int (nI n + (-1))), (5, .int f), (3, .int (nI r)), (2, .int k), (1, .int i), (0, .ref h)] → W p l e rm_X2_began s m args below meth c H locs 0 0 Q (F0 m 63 ls []) := by
          intro n
          induction n with
          | zero =>
            intro f hn hg H locs hP hD hS ls hl
            refine lv_iload hx hb dX2_began_63 (lv_at hl 0 rfl) ?_
            refine lv_if_lt (tgt := 121) hx hb dX2_began_65 (by decide) (fun c_2 => ?_) (fun c_2 => absurd (by decide) c_2)
            refine lv_iload_n hx hb dX2_began_121 rfl (lv_at hl 4 rfl) ?_
            refine lv_iconst (v := (-1)) hx hb dX2_began_122 (by decide) ?_
            refine lv_icmp_ne (tgt := 131) hx hb dX2_began_123 (by decide) (fun c_3 => ?_) (fun c_3 => ?_)
            · have c_3 : ¬ i = (-1) := c_3
              refine lv_bipush (v := (-6)) hx hb dX2_began_131 (by decide) ?_
              exact hret _ _ _ _ _ hP (by rw [← hg, mf_bg, if_neg c_3]) hS dX2_began_133
            · have c_3 : i = (-1) := c_3
              refine lv_iload hx hb dX2_began_126 (lv_at hl 1 rfl) ?_
              refine lv_goto (tgt := 133) hx hb dX2_began_128 (by decide) ?_
              exact hret _ _ _ _ _ hP (by rw [← hg, mf_bg, if_pos c_3]) hS dX2_began_133
          | succ n ih =>
            intro f hn hg H locs hP hD hS ls hl
            rw [pk_m1] at hl
            refine lv_iload hx hb dX2_began_63 (lv_at hl 0 rfl) ?_
            refine lv_if_lt (tgt := 121) hx hb dX2_began_65 (by decide) (fun c_4 => absurd c_4 (nI_pos (n := n) (by omega))) (fun c_4 => ?_)
            refine lv_aload_n hx hb dX2_began_68 rfl (lv_at hl 5 rfl) ?_
            refine va_get (D := D) (ci := 2) (v := .ref (as 0)) (C := RX2) (T := TX2) (N := 3) hx hb hts iw_X2_began_X2 hown hE.1 hP 0 rfl rfl 0 (by decide) (hts (.fieldLink RX2 7 "EchoTapsModel" "state" "[I") (by decide +kernel)) (fun _ h9 => h9) rfl dX2_began_69 ?_
            refine lv_iload_n hx hb dX2_began_72 rfl (lv_at hl 2 rfl) ?_
            refine lv_iload hx hb dX2_began_73 (lv_at hl 0 rfl) ?_
            refine lv_iadd hx hb dX2_began_75 ?_
            refine lv_ri (nI_add r n) ?_
            refine va_iald hx hb hE.1 hP 1 0 rfl rfl (vp_in_nI (by omega) (by decide)) dX2_began_76 ?_
            refine lv_ri (congrArg g (nI_clamp (n := r + n) (by omega))) ?_
            refine lv_iconst (v := 1) hx hb dX2_began_77 (by decide) ?_
            refine lv_icmp_ne (tgt := 115) hx hb dX2_began_78 (by decide) (fun c_5 => ?_) (fun c_5 => ?_)
            · have c_5 : ¬ (g (r + n)) = 1 := c_5
              rw [mf_bg, if_neg (fun q => c_5 q.1)] at hg
              refine lv_iinc (v := nI n + (-1)) (lv' := [(6, .int (nI n + (-1))), (5, .int f), (3, .int (nI r)), (2, .int k), (1, .int i), (0, .ref h)]) hx hb dX2_began_115 hl (k := 0) rfl (rfl) (by decide) rfl (fun ls hl => ?_)
              refine lv_goto (tgt := 63) hx hb dX2_began_118 (by decide) ?_
              exact ih _ (by omega) hg H locs hP hD hS ls (lv_sub hl [0, 1, 2, 3, 4, 5] rfl)
            · have c_5 : (g (r + n)) = 1 := c_5
              refine lv_aload_n hx hb dX2_began_81 rfl (lv_at hl 5 rfl) ?_
              refine va_get (D := D) (ci := 2) (v := .ref (as 0)) (C := RX2) (T := TX2) (N := 3) hx hb hts iw_X2_began_X2 hown hE.1 hP 0 rfl rfl 0 (by decide) (hts (.fieldLink RX2 7 "EchoTapsModel" "state" "[I") (by decide +kernel)) (fun _ h9 => h9) rfl dX2_began_82 ?_
              refine lv_iload_n hx hb dX2_began_85 rfl (lv_at hl 2 rfl) ?_
              refine lv_iload hx hb dX2_began_86 (lv_at hl 0 rfl) ?_
              refine lv_iadd hx hb dX2_began_88 ?_
              refine lv_ri (nI_add r n) ?_
              refine lv_iconst (v := 1) hx hb dX2_began_89 (by decide) ?_
              refine lv_iadd hx hb dX2_began_90 ?_
              refine lv_ri (nI_add (r + n) 1) ?_
              refine va_iald hx hb hE.1 hP 1 0 rfl rfl (vp_in_nI (by omega) (by decide)) dX2_began_91 ?_
              refine lv_ri (congrArg g (nI_clamp (n := r + n + 1) (by omega))) ?_
              refine lv_if_ne (tgt := 115) hx hb dX2_began_92 (by decide) (fun c_6 => ?_) (fun c_6 => ?_)
              · have c_6 : ¬ (g (r + n + 1)) = 0 := c_6
                rw [mf_bg, if_neg (fun q => c_6 q.2)] at hg
                refine lv_iinc (v := nI n + (-1)) (lv' := [(6, .int (nI n + (-1))), (5, .int f), (3, .int (nI r)), (2, .int k), (1, .int i), (0, .ref h)]) hx hb dX2_began_115 hl (k := 0) rfl (rfl) (by decide) rfl (fun ls hl => ?_)
                refine lv_goto (tgt := 63) hx hb dX2_began_118 (by decide) ?_
                exact ih _ (by omega) hg H locs hP hD hS ls (lv_sub hl [0, 1, 2, 3, 4, 5] rfl)
              · have c_6 : (g (r + n + 1)) = 0 := c_6
                rw [mf_bg, if_pos ⟨c_5, c_6⟩] at hg
                refine lv_iload hx hb dX2_began_95 (lv_at hl 1 rfl) ?_
                refine lv_iload_n hx hb dX2_began_97 rfl (lv_at hl 4 rfl) ?_
                refine lv_icmp_ne (tgt := 112) hx hb dX2_began_98 (by decide) (fun c_7 => ?_) (fun c_7 => ?_)
                · have c_7 : ¬ f = i := c_7
                  rw [if_neg c_7] at hg
                  refine lv_iinc (v := f + 1) (lv' := [(5, .int (f + 1)), (6, .int (nI n)), (3, .int (nI r)), (2, .int k), (1, .int i), (0, .ref h)]) hx hb dX2_began_112 hl (k := 1) rfl (rfl) (by decide) rfl (fun ls hl => ?_)
                  refine lv_iinc (v := nI n + (-1)) (lv' := [(6, .int (nI n + (-1))), (5, .int (f + 1)), (3, .int (nI r)), (2, .int k), (1, .int i), (0, .ref h)]) hx hb dX2_began_115 hl (k := 1) rfl (rfl) (by decide) rfl (fun ls hl => ?_)
                  refine lv_goto (tgt := 63) hx hb dX2_began_118 (by decide) ?_
                  exact ih _ (by omega) hg H locs hP hD hS ls (lv_sub hl [0, 1, 2, 3, 4, 5] rfl)
                · have c_7 : f = i := c_7
                  rw [if_pos c_7] at hg
                  refine lv_aload_n hx hb dX2_began_101 rfl (lv_at hl 5 rfl) ?_
                  refine va_get (D := D) (ci := 2) (v := .ref (as 0)) (C := RX2) (T := TX2) (N := 3) hx hb hts iw_X2_began_X2 hown hE.1 hP 0 rfl rfl 0 (by decide) (hts (.fieldLink RX2 7 "EchoTapsModel" "state" "[I") (by decide +kernel)) (fun _ h9 => h9) rfl dX2_began_102 ?_
                  refine lv_bipush (v := 24) hx hb dX2_began_105 (by decide) ?_
                  refine va_iald hx hb hE.1 hP 1 0 rfl rfl (vp_in_nI (n := 24) (N := 555) (by decide) (by decide)) dX2_began_107 ?_
                  refine lv_iload hx hb dX2_began_108 (lv_at hl 0 rfl) ?_
                  refine lv_isub hx hb dX2_began_110 ?_
                  exact hret _ _ _ _ _ hP hg hS dX2_began_111
        exact loop F 0 hF rfl H locs hP hD hS ls (lv_sub hl [0, 1, 3, 6, 5, 4] rfl)
      refine lv_icmp_ge (tgt := 49) hx hb dX2_began_36 (by decide) (fun c_8 => ?_) (fun c_8 => ?_)
      · have c_8 : 200 ≤ (g 24) := c_8
        have h2 : 200 ≤ T := (nI_leI (a := 200) (by decide) (by omega)).mp (by rw [← eT]; exact c_8)
        refine lv_sipush (v := 200) hx hb dX2_began_49 (by decide) ?_
        exact j52 200 (if_pos h2).symm
      · have c_8 : ¬ 200 ≤ (g 24) := c_8
        have h2 : ¬ 200 ≤ T := fun q => c_8 (by rw [eT]; exact (nI_leI (a := 200) (by decide) (by omega)).mpr q)
        refine lv_aload_n hx hb dX2_began_39 rfl (lv_at hl 1 rfl) ?_
        refine va_get (D := D) (ci := 2) (v := .ref (as 0)) (C := RX2) (T := TX2) (N := 3) hx hb hts iw_X2_began_X2 hown hE.1 hP 0 rfl rfl 0 (by decide) (hts (.fieldLink RX2 7 "EchoTapsModel" "state" "[I") (by decide +kernel)) (fun _ h9 => h9) rfl dX2_began_40 ?_
        refine lv_bipush (v := 24) hx hb dX2_began_43 (by decide) ?_
        refine va_iald hx hb hE.1 hP 1 0 rfl rfl (vp_in_nI (n := 24) (N := 555) (by decide) (by decide)) dX2_began_45 ?_
        refine lv_ri eT ?_
        refine lv_goto (tgt := 52) hx hb dX2_began_46 (by decide) ?_
        exact j52 T (if_neg h2).symm
    refine lv_if_ne (tgt := 22) hx hb dX2_began_13 (by decide) (fun c_9 => ?_) (fun c_9 => ?_)
    · have c_9 : ¬ k = 0 := c_9
      refine lv_sipush (v := 354) hx hb dX2_began_22 (by decide) ?_
      exact j25 354 (if_neg c_9).symm
    · have c_9 : k = 0 := c_9
      refine lv_sipush (v := 153) hx hb dX2_began_16 (by decide) ?_
      refine lv_goto (tgt := 25) hx hb dX2_began_19 (by decide) ?_
      exact j25 153 (if_pos c_9).symm
  · have c_1 : (pf_in k 0 1) = 0 := c_1
    refine lv_bipush (v := (-2)) hx hb dX2_began_9 (by decide) ?_
    exact hret _ _ _ _ _ hP ((if_pos c_1).symm) hS dX2_began_11
end
section
abbrev rm_X2_save : Room := { frames := 0, cells := 0, slots := 0, locals := 0 }
theorem iw_X2_save_X2 : ∀ w ∈ wsX20, w ∈ wsX2_save := by decide +kernel
set_option maxRecDepth 100000 in
set_option maxHeartbeats 4000000 in
theorem c_X2_save (l : Launch) (D : va_G) (cA cZ cR : ClassId) (h : Nat) (as : Nat → Nat) (g im kp : Fn) (t : Nat) (ht : t ≤ 2) : BMv l D cA cZ cR yX2_save wsX2_save rm_X2_save [.ref h, .int (nI t)] (MW cA cZ h as g im kp) (MW cA cZ h as g (mf_sv im g t 555) kp) := by
  refine bm_openV (maxL := 3) (by decide) rfl rfl rfl (Nat.le_of_ble_eq_true rfl) ?_
  intro p e s m args below meth c A Q hx hb hml hts hown hE hP hD hA hS hret ls hl
  have hown : s.vm.findClass RX2 = some m.cls := hown
  have hl : lv_has ls 3 [(0, .ref h), (1, .int (nI t))] := hl
  obtain ⟨H, locs, eH, eL⟩ : ∃ (H : Heap) (locs : List Loc), H = s.heap ∧ locs = [] := ⟨_, _, rfl, rfl⟩
  rw [← eH, ← eL]
  rw [← eH] at hP
  have hS : va_S A s.heap H locs := by rw [eH, eL]; exact hS
  clear eH eL
  refine lv_iconst (v := 0) hx hb dX2_save_0 (by decide) ?_
  refine lv_istore_n (lv' := [(2, .int 0), (0, .ref h), (1, .int (nI t))]) hx hb dX2_save_1 rfl hl (by decide) rfl (fun ls hl => ?_)
  have hP : va_P D vwCl (MW cA cZ h as g (mf_sv im g t 0) kp) H := by rw [mf_sv0]; exact hP
  have hD : va_D A (MW cA cZ h as g (mf_sv im g t 0) kp) := by rw [mf_sv0]; exact hD
  have loop : ∀ (n : Nat) (k : Nat) (hk : k + n = 555), ∀ (H : Heap) (locs : List Loc), va_P D vwCl (MW cA cZ h as g (mf_sv im g t k) kp) H → va_D A (MW cA cZ h as g (mf_sv im g t k) kp) → va_S A s.heap H locs → ∀ ls : Array Slot, lv_has ls 3 [(2, .int (nI k)), (1, .int (nI t)), (0, .ref h)] → W p l e rm_X2_save s m args below meth c H locs 0 0 Q (F0 m 2 ls []) := by
    intro n
    induction n with
    | zero =>
      intro k hk H locs hP hD hS ls hl
      obtain rfl : k = 555 := by omega
      refine lv_iload_n hx hb dX2_save_2 rfl (lv_at hl 0 rfl) ?_
      refine lv_sipush (v := 555) hx hb dX2_save_3 (by decide) ?_
      refine lv_icmp_ge (tgt := 33) hx hb dX2_save_6 (by decide) (fun c_1 => ?_) (fun c_1 => absurd (by decide) c_1)
      exact hret _ _ _ _ hP hS dX2_save_33
    | succ n ih =>
      intro k hk H locs hP hD hS ls hl
      obtain ⟨mk, emk⟩ : ∃ z : Fn, z = mf_sv im g t k := ⟨_, rfl⟩
      rw [← emk] at hP hD
      refine lv_iload_n hx hb dX2_save_2 rfl (lv_at hl 0 rfl) ?_
      refine lv_sipush (v := 555) hx hb dX2_save_3 (by decide) ?_
      refine lv_icmp_ge (tgt := 33) hx hb dX2_save_6 (by decide) (fun c_2 => absurd c_2 (nI_ge (a := k) (b := 555) (by omega) (by decide))) (fun c_2 => ?_)
      refine lv_aload_n hx hb dX2_save_9 rfl (lv_at hl 2 rfl) ?_
      refine va_get (D := D) (ci := 2) (v := .ref (as 1)) (C := RX2) (T := TX2) (N := 3) hx hb hts iw_X2_save_X2 hown hE.1 hP 0 rfl rfl 1 (by decide) (hts (.fieldLink RX2 13 "EchoTapsModel" "images" "[I") (by decide +kernel)) (fun _ h9 => h9) rfl dX2_save_10 ?_
      refine lv_sipush (v := 555) hx hb dX2_save_13 (by decide) ?_
      refine lv_iload_n hx hb dX2_save_16 rfl (lv_at hl 1 rfl) ?_
      refine lv_imul hx hb dX2_save_17 ?_
      refine lv_ri (pk_mul 555 t) ?_
      refine lv_iload_n hx hb dX2_save_18 rfl (lv_at hl 0 rfl) ?_
      refine lv_iadd hx hb dX2_save_19 ?_
      refine lv_ri (nI_add (555 * t) k) ?_
      refine lv_aload_n hx hb dX2_save_20 rfl (lv_at hl 2 rfl) ?_
      refine va_get (D := D) (ci := 2) (v := .ref (as 0)) (C := RX2) (T := TX2) (N := 3) hx hb hts iw_X2_save_X2 hown hE.1 hP 0 rfl rfl 0 (by decide) (hts (.fieldLink RX2 7 "EchoTapsModel" "state" "[I") (by decide +kernel)) (fun _ h9 => h9) rfl dX2_save_21 ?_
      refine lv_iload_n hx hb dX2_save_24 rfl (lv_at hl 0 rfl) ?_
      refine va_iald hx hb hE.1 hP 1 0 rfl rfl (vp_in_nI (by omega) (by decide)) dX2_save_25 ?_
      refine lv_ri (congrArg g (nI_clamp (n := k) (by omega))) ?_
      refine va_iast hx hb hE.1 hP hD hS 2 0 rfl rfl (vp_in_nI (by omega) (by decide)) dX2_save_26 (fun H locs hP hD hS => ?_)
      rw [show (nI (555 * t + k)).toNatClampNeg = 555 * t + k from nI_clamp (by omega)] at hP hD
      have hP : va_P D vwCl (MW cA cZ h as g (upd mk (555 * t + k) (g k)) kp) H := hP
      have hD : va_D A (MW cA cZ h as g (upd mk (555 * t + k) (g k)) kp) := hD
      refine lv_iinc (v := nI (k + 1)) (lv' := [(2, .int (nI (k + 1))), (1, .int (nI t)), (0, .ref h)]) hx hb dX2_save_27 hl (k := 0) rfl (nI_1 k) (by decide) rfl (fun ls hl => ?_)
      refine lv_goto (tgt := 2) hx hb dX2_save_30 (by decide) ?_
      rw [emk, mf_sv1] at hP hD
      exact ih (k + 1) (by omega) H locs hP hD hS ls (lv_sub hl [0, 1, 2] rfl)
  exact loop 555 0 rfl H locs hP hD hS ls (lv_sub hl [0, 2, 1] rfl)

abbrev rm_X2_load : Room := { frames := 0, cells := 0, slots := 0, locals := 0 }
theorem iw_X2_load_X2 : ∀ w ∈ wsX20, w ∈ wsX2_load := by decide +kernel
set_option maxRecDepth 100000 in
set_option maxHeartbeats 4000000 in
theorem c_X2_load (l : Launch) (D : va_G) (cA cZ cR : ClassId) (h : Nat) (as : Nat → Nat) (g im kp : Fn) (t : Nat) (ht : t ≤ 2) : BMv l D cA cZ cR yX2_load wsX2_load rm_X2_load [.ref h, .int (nI t)] (MW cA cZ h as g im kp) (MW cA cZ h as (mf_ld g im t 555) im kp) := by
  refine bm_openV (maxL := 3) (by decide) rfl rfl rfl (Nat.le_of_ble_eq_true rfl) ?_
  intro p e s m args below meth c A Q hx hb hml hts hown hE hP hD hA hS hret ls hl
  have hown : s.vm.findClass RX2 = some m.cls := hown
  have hl : lv_has ls 3 [(0, .ref h), (1, .int (nI t))] := hl
  obtain ⟨H, locs, eH, eL⟩ : ∃ (H : Heap) (locs : List Loc), H = s.heap ∧ locs = [] := ⟨_, _, rfl, rfl⟩
  rw [← eH, ← eL]
  rw [← eH] at hP
  have hS : va_S A s.heap H locs := by rw [eH, eL]; exact hS
  clear eH eL
  refine lv_iconst (v := 0) hx hb dX2_load_0 (by decide) ?_
  refine lv_istore_n (lv' := [(2, .int 0), (0, .ref h), (1, .int (nI t))]) hx hb dX2_load_1 rfl hl (by decide) rfl (fun ls hl => ?_)
  have hP : va_P D vwCl (MW cA cZ h as (mf_ld g im t 0) im kp) H := by rw [mf_ld0]; exact hP
  have hD : va_D A (MW cA cZ h as (mf_ld g im t 0) im kp) := by rw [mf_ld0]; exact hD
  have loop : ∀ (n : Nat) (k : Nat) (hk : k + n = 555), ∀ (H : Heap) (locs : List Loc), va_P D vwCl (MW cA cZ h as (mf_ld g im t k) im kp) H → va_D A (MW cA cZ h as (mf_ld g im t k) im kp) → va_S A s.heap H locs → ∀ ls : Array Slot, lv_has ls 3 [(2, .int (nI k)), (1, .int (nI t)), (0, .ref h)] → W p l e rm_X2_load s m args below meth c H locs 0 0 Q (F0 m 2 ls []) := by
    intro n
    induction n with
    | zero =>
      intro k hk H locs hP hD hS ls hl
      obtain rfl : k = 555 := by omega
      refine lv_iload_n hx hb dX2_load_2 rfl (lv_at hl 0 rfl) ?_
      refine lv_sipush (v := 555) hx hb dX2_load_3 (by decide) ?_
      refine lv_icmp_ge (tgt := 33) hx hb dX2_load_6 (by decide) (fun c_1 => ?_) (fun c_1 => absurd (by decide) c_1)
      exact hret _ _ _ _ hP hS dX2_load_33
    | succ n ih =>
      intro k hk H locs hP hD hS ls hl
      obtain ⟨gk, egk⟩ : ∃ z : Fn, z = mf_ld g im t k := ⟨_, rfl⟩
      rw [← egk] at hP hD
      refine lv_iload_n hx hb dX2_load_2 rfl (lv_at hl 0 rfl) ?_
      refine lv_sipush (v := 555) hx hb dX2_load_3 (by decide) ?_
      refine lv_icmp_ge (tgt := 33) hx hb dX2_load_6 (by decide) (fun c_2 => absurd c_2 (nI_ge (a := k) (b := 555) (by omega) (by decide))) (fun c_2 => ?_)
      refine lv_aload_n hx hb dX2_load_9 rfl (lv_at hl 2 rfl) ?_
      refine va_get (D := D) (ci := 2) (v := .ref (as 0)) (C := RX2) (T := TX2) (N := 3) hx hb hts iw_X2_load_X2 hown hE.1 hP 0 rfl rfl 0 (by decide) (hts (.fieldLink RX2 7 "EchoTapsModel" "state" "[I") (by decide +kernel)) (fun _ h9 => h9) rfl dX2_load_10 ?_
      refine lv_iload_n hx hb dX2_load_13 rfl (lv_at hl 0 rfl) ?_
      refine lv_aload_n hx hb dX2_load_14 rfl (lv_at hl 2 rfl) ?_
      refine va_get (D := D) (ci := 2) (v := .ref (as 1)) (C := RX2) (T := TX2) (N := 3) hx hb hts iw_X2_load_X2 hown hE.1 hP 0 rfl rfl 1 (by decide) (hts (.fieldLink RX2 13 "EchoTapsModel" "images" "[I") (by decide +kernel)) (fun _ h9 => h9) rfl dX2_load_15 ?_
      refine lv_sipush (v := 555) hx hb dX2_load_18 (by decide) ?_
      refine lv_iload_n hx hb dX2_load_21 rfl (lv_at hl 1 rfl) ?_
      refine lv_imul hx hb dX2_load_22 ?_
      refine lv_ri (pk_mul 555 t) ?_
      refine lv_iload_n hx hb dX2_load_23 rfl (lv_at hl 0 rfl) ?_
      refine lv_iadd hx hb dX2_load_24 ?_
      refine lv_ri (nI_add (555 * t) k) ?_
      refine va_iald hx hb hE.1 hP 2 0 rfl rfl (vp_in_nI (by omega) (by decide)) dX2_load_25 ?_
      refine lv_ri (congrArg im (nI_clamp (n := 555 * t + k) (by omega))) ?_
      refine va_iast hx hb hE.1 hP hD hS 1 0 rfl rfl (vp_in_nI (by omega) (by decide)) dX2_load_26 (fun H locs hP hD hS => ?_)
      rw [show (nI (k)).toNatClampNeg = k from nI_clamp (by omega)] at hP hD
      have hP : va_P D vwCl (MW cA cZ h as (upd gk k (im (555 * t + k))) im kp) H := hP
      have hD : va_D A (MW cA cZ h as (upd gk k (im (555 * t + k))) im kp) := hD
      refine lv_iinc (v := nI (k + 1)) (lv' := [(2, .int (nI (k + 1))), (1, .int (nI t)), (0, .ref h)]) hx hb dX2_load_27 hl (k := 0) rfl (nI_1 k) (by decide) rfl (fun ls hl => ?_)
      refine lv_goto (tgt := 2) hx hb dX2_load_30 (by decide) ?_
      rw [egk, mf_ld1] at hP hD
      exact ih (k + 1) (by omega) H locs hP hD hS ls (lv_sub hl [0, 1, 2] rfl)
  exact loop 555 0 rfl H locs hP hD hS ls (lv_sub hl [0, 2, 1] rfl)

abbrev rm_X2_run : Room := { frames := 5, cells := 0, slots := 0, locals := 105 }
theorem iw_X2_run_X2 : ∀ w ∈ wsX20, w ∈ wsX2_run := by decide +kernel
set_option maxRecDepth 100000 in
set_option maxHeartbeats 4000000 in
theorem c_X2_run (l : Launch) (D : va_G) (cA cZ cR : ClassId) (h : Nat) (as : Nat → Nat) (g im kp : Fn) (z n0 loud : Int32) (hd : DL g) (hg : LG g) : BMi l D cA cZ cR yX2_run wsX2_run rm_X2_run [.ref h, .int z, .int n0, .int loud] (MW cA cZ h as g im kp) (MW cA cZ h as (ys_run g z n0 loud) im kp) (yf_run g z n0 loud) := by
  refine bm_open (maxL := 7) (by decide) rfl rfl rfl (Nat.le_of_ble_eq_true rfl) ?_
  intro p e s m args below meth c A Q hx hb hml hts hown hE hP hD hA hS hret ls hl
  have hown : s.vm.findClass RX2 = some m.cls := hown
  have hl : lv_has ls 7 [(0, .ref h), (1, .int z), (2, .int n0), (3, .int loud)] := hl
  obtain ⟨H, locs, eH, eL⟩ : ∃ (H : Heap) (locs : List Loc), H = s.heap ∧ locs = [] := ⟨_, _, rfl, rfl⟩
  rw [← eH, ← eL]
  rw [← eH] at hP
  have hS : va_S A s.heap H locs := by rw [eH, eL]; exact hS
  clear eH eL
  refine lv_iload_n hx hb dX2_run_0 rfl (lv_at hl 1 rfl) ?_
  refine lv_iconst (v := 0) hx hb dX2_run_1 (by decide) ?_
  refine lv_ldc (v := 65536) hx hb hown (hts (.constant RX2 88 (65536)) (by decide +kernel)) dX2_run_2 ?_
  refine sm_i [.int z, .int 0, .int 65536] [] ⟨hx, hb, hml, hown, hts⟩ (c_X2_in l z 0 65536) (va_cwS 3 hts gX2_run_X2_in rfl rfl rfl (by decide +kernel) ⟨Nat.le_of_ble_eq_true rfl, Nat.le_of_ble_eq_true rfl⟩) rfl hl.1 rfl (Nat.le_of_ble_eq_true rfl) dX2_run_4 ⟨Nat.zero_le _, Nat.zero_le _⟩ ?_
  refine lv_if_eq (tgt := 31) hx hb dX2_run_7 (by decide) (fun c_1 => ?_) (fun c_1 => ?_)
  · have c_1 : (pf_in z 0 65536) = 0 := c_1
    refine lv_bipush (v := (-2)) hx hb dX2_run_31 (by decide) ?_
    have e1 : ys_run g z n0 loud = g := if_pos (Or.inl c_1)
    exact hret _ _ _ _ _ (by rw [e1]; exact hP) ((if_pos (Or.inl c_1)).symm) hS dX2_run_33
  · have c_1 : ¬ (pf_in z 0 65536) = 0 := c_1
    refine lv_iload_n hx hb dX2_run_10 rfl (lv_at hl 2 rfl) ?_
    refine lv_iconst (v := 1) hx hb dX2_run_11 (by decide) ?_
    refine lv_bipush (v := 60) hx hb dX2_run_12 (by decide) ?_
    refine sm_i [.int n0, .int 1, .int 60] [] ⟨hx, hb, hml, hown, hts⟩ (c_X2_in l n0 1 60) (va_cwS 3 hts gX2_run_X2_in rfl rfl rfl (by decide +kernel) ⟨Nat.le_of_ble_eq_true rfl, Nat.le_of_ble_eq_true rfl⟩) rfl hl.1 rfl (Nat.le_of_ble_eq_true rfl) dX2_run_14 ⟨Nat.zero_le _, Nat.zero_le _⟩ ?_
    refine lv_if_eq (tgt := 31) hx hb dX2_run_17 (by decide) (fun c_2 => ?_) (fun c_2 => ?_)
    · have c_2 : (pf_in n0 1 60) = 0 := c_2
      refine lv_bipush (v := (-2)) hx hb dX2_run_31 (by decide) ?_
      have e1 : ys_run g z n0 loud = g := if_pos (Or.inr (Or.inl c_2))
      exact hret _ _ _ _ _ (by rw [e1]; exact hP) ((if_pos (Or.inr (Or.inl c_2))).symm) hS dX2_run_33
    · have c_2 : ¬ (pf_in n0 1 60) = 0 := c_2
      refine lv_iload_n hx hb dX2_run_20 rfl (lv_at hl 3 rfl) ?_
      refine lv_iconst (v := 0) hx hb dX2_run_21 (by decide) ?_
      refine lv_sipush (v := 1000) hx hb dX2_run_22 (by decide) ?_
      refine sm_i [.int loud, .int 0, .int 1000] [] ⟨hx, hb, hml, hown, hts⟩ (c_X2_in l loud 0 1000) (va_cwS 3 hts gX2_run_X2_in rfl rfl rfl (by decide +kernel) ⟨Nat.le_of_ble_eq_true rfl, Nat.le_of_ble_eq_true rfl⟩) rfl hl.1 rfl (Nat.le_of_ble_eq_true rfl) dX2_run_25 ⟨Nat.zero_le _, Nat.zero_le _⟩ ?_
      refine lv_if_ne (tgt := 34) hx hb dX2_run_28 (by decide) (fun c_3 => ?_) (fun c_3 => ?_)
      · have c_3 : ¬ (pf_in loud 0 1000) = 0 := c_3
        obtain ⟨N, hN, rfl⟩ := in_nI60 c_2
        have e1 : ys_run g z (nI N) loud = yr_g loud (nI N).toNatClampNeg z g := if_neg (fun q => q.elim c_1 (fun q => q.elim c_2 c_3))
        have e2 : yf_run g z (nI N) loud = yr_sum loud (nI N).toNatClampNeg z g 0 := if_neg (fun q => q.elim c_1 (fun q => q.elim c_2 c_3))
        rw [nI_clamp (by omega)] at e1 e2
        rw [e1, e2] at hret
        refine lv_iload_n hx hb dX2_run_34 rfl (lv_at hl 1 rfl) ?_
        refine lv_istore (lv' := [(4, .int z), (0, .ref h), (1, .int z), (2, .int (nI N)), (3, .int loud)]) hx hb dX2_run_35 hl (by decide) rfl (fun ls hl => ?_)
        refine lv_iconst (v := 0) hx hb dX2_run_37 (by decide) ?_
        refine lv_istore (lv' := [(5, .int 0), (4, .int z), (0, .ref h), (1, .int z), (2, .int (nI N)), (3, .int loud)]) hx hb dX2_run_38 hl (by decide) rfl (fun ls hl => ?_)
        refine lv_iconst (v := 0) hx hb dX2_run_40 (by decide) ?_
        refine lv_istore (lv' := [(6, .int 0), (5, .int 0), (4, .int z), (0, .ref h), (1, .int z), (2, .int (nI N)), (3, .int loud)]) hx hb dX2_run_41 hl (by decide) rfl (fun ls hl => ?_)
        have loop : ∀ (n : Nat) (k : Nat) (y : Int32) (g1 : Fn) (a : Int32) (hk : k + n = N) (hd : DL g1) (hg : LG g1) (ha : yr_sum loud n y g1 a = yr_sum loud N z g 0) (hs : yr_g loud n y g1 = yr_g loud N z g), ∀ (H : Heap) (locs : List Loc), va_P D vwCl (MW cA cZ h as g1 im kp) H → va_D A (MW cA cZ h as g1 im kp) → va_S A s.heap H locs → ∀ ls : Array Slot, lv_has ls 7 [(6, .int (nI k)), (5, .int a), (4, .int y), (3, .int loud), (2, .int (nI N)), (1, .int z), (0, .ref h)] → W p l e rm_X2_run s m args below meth c H locs 0 0 Q (F0 m 43 ls []) := by
          intro n
          induction n with
          | zero =>
            intro k y g1 a hk hd hg ha hs H locs hP hD hS ls hl
            obtain rfl : k = N := by omega
            refine lv_iload hx hb dX2_run_43 (lv_at hl 0 rfl) ?_
            refine lv_iload_n hx hb dX2_run_45 rfl (lv_at hl 4 rfl) ?_
            refine lv_icmp_ge (tgt := 93) hx hb dX2_run_46 (by decide) (fun c_4 => ?_) (fun c_4 => absurd (Int32.le_refl _) c_4)
            refine lv_iload hx hb dX2_run_93 (lv_at hl 1 rfl) ?_
            exact hret _ _ _ _ _ (by rw [← hs]; exact hP) ha hS dX2_run_95
          | succ n ih =>
            intro k y g1 a hk hd hg ha hs H locs hP hD hS ls hl
            refine lv_iload hx hb dX2_run_43 (lv_at hl 0 rfl) ?_
            refine lv_iload_n hx hb dX2_run_45 rfl (lv_at hl 4 rfl) ?_
            refine lv_icmp_ge (tgt := 93) hx hb dX2_run_46 (by decide) (fun c_5 => absurd c_5 (nI_ge (a := k) (b := N) (by omega) (by omega))) (fun c_5 => ?_)
            refine lv_iload hx hb dX2_run_49 (lv_at hl 2 rfl) ?_
            refine sm_i [.int y] [] ⟨hx, hb, hml, hown, hts⟩ (c_X2_next l y) (va_cwS 1 hts gX2_run_X2_next rfl rfl rfl (by decide +kernel) ⟨Nat.le_of_ble_eq_true rfl, Nat.le_of_ble_eq_true rfl⟩) rfl hl.1 rfl (Nat.le_of_ble_eq_true rfl) dX2_run_51 ⟨Nat.zero_le _, Nat.zero_le _⟩ ?_
            refine lv_topi (fun y2 ey2 => ?_)
            refine lv_istore (lv' := [(4, .int y2), (6, .int (nI k)), (5, .int a), (3, .int loud), (2, .int (nI N)), (1, .int z), (0, .ref h)]) hx hb dX2_run_54 hl (by decide) rfl (fun ls hl => ?_)
            refine lv_aload_n hx hb dX2_run_56 rfl (lv_at hl 6 rfl) ?_
            refine lv_iload hx hb dX2_run_57 (lv_at hl 0 rfl) ?_
            refine lv_iconst (v := 2) hx hb dX2_run_59 (by decide) ?_
            refine lv_iload_n hx hb dX2_run_60 rfl (lv_at hl 3 rfl) ?_
            refine lv_imul hx hb dX2_run_61 ?_
            refine lv_iconst (v := 1) hx hb dX2_run_62 (by decide) ?_
            refine lv_iadd hx hb dX2_run_63 ?_
            refine lv_irem hx hb dX2_run_64 (pf_odd _) ?_
            refine lv_iload_n hx hb dX2_run_65 rfl (lv_at hl 3 rfl) ?_
            refine lv_isub hx hb dX2_run_66 ?_
            refine lv_topi (fun fr efr => ?_)
            refine lv_iconst (v := 0) hx hb dX2_run_67 (by decide) ?_
            refine bm_i [] (MW cA cZ h as g1 im kp) [] [.int fr, .int 0] [] ⟨hx, hb, hml, hown, hts⟩ (c_X2_speakOf l D cA cZ cR h as g1 im kp fr 0 hd hg) (cwV 2 hts gX2_run_X2_speakOf rfl rfl rfl (by decide +kernel) ⟨Nat.le_of_ble_eq_true rfl, Nat.le_of_ble_eq_true rfl⟩) hE hP hD hS hA MW_adr 0 2 rfl rfl rfl hl.1 rfl (Nat.le_of_ble_eq_true rfl) dX2_run_68 ⟨Nat.zero_le _, Nat.zero_le _⟩ (fun H locs hP hD hS => ?_)
            have hP : va_P D vwCl (MW cA cZ h as (mf_spk g1 fr 0) im kp) H := hP
            have hD : va_D A (MW cA cZ h as (mf_spk g1 fr 0) im kp) := hD
            have hP : va_P D vwCl (MW cA cZ h as (mf_spk g1 fr 0) im kp) H := hP
            have hD : va_D A (MW cA cZ h as (mf_spk g1 fr 0) im kp) := hD
            obtain ⟨g2, eg2⟩ : ∃ z : Fn, z = mf_spk g1 fr 0 := ⟨_, rfl⟩
            rw [← eg2] at hP hD
            have efr : pf_ce y2 loud = fr := efr.symm
            rw [yr_sum, ← ey2, efr, ← eg2] at ha
            rw [yr_g, ← ey2, efr, ← eg2] at hs
            have hd : DL g2 := DL.of (by rw [eg2]; exact mf_spk_out g1 fr 0 (by decide)) hd
            have hg : LG g2 := LG.of (by rw [eg2]; exact mf_spk_out g1 fr 0 (by decide)) hg
            refine lv_pop hx hb dX2_run_71 rfl ?_
            refine lv_iload hx hb dX2_run_72 (lv_at hl 2 rfl) ?_
            refine lv_aload_n hx hb dX2_run_74 rfl (lv_at hl 6 rfl) ?_
            refine va_get (D := D) (ci := 2) (v := .ref (as 0)) (C := RX2) (T := TX2) (N := 3) hx hb hts iw_X2_run_X2 hown hE.1 hP 0 rfl rfl 0 (by decide) (hts (.fieldLink RX2 7 "EchoTapsModel" "state" "[I") (by decide +kernel)) (fun _ h9 => h9) rfl dX2_run_75 ?_
            refine lv_bipush (v := 26) hx hb dX2_run_78 (by decide) ?_
            refine va_iald hx hb hE.1 hP 1 0 rfl rfl (vp_in_nI (n := 26) (N := 555) (by decide) (by decide)) dX2_run_80 ?_
            refine sm_i [.int (g2 26)] [.int a] ⟨hx, hb, hml, hown, hts⟩ (c_X2_size l (g2 26)) (va_cwS 1 hts gX2_run_X2_size rfl rfl rfl (by decide +kernel) ⟨Nat.le_of_ble_eq_true rfl, Nat.le_of_ble_eq_true rfl⟩) rfl hl.1 rfl (Nat.le_of_ble_eq_true rfl) dX2_run_81 ⟨Nat.zero_le _, Nat.zero_le _⟩ ?_
            refine lv_iadd hx hb dX2_run_84 ?_
            refine lv_istore (lv' := [(5, .int (a + (pf_sz (g2 26)))), (4, .int y2), (6, .int (nI k)), (3, .int loud), (2, .int (nI N)), (1, .int z), (0, .ref h)]) hx hb dX2_run_85 hl (by decide) rfl (fun ls hl => ?_)
            refine lv_iinc (v := nI (k + 1)) (lv' := [(6, .int (nI (k + 1))), (5, .int (a + (pf_sz (g2 26)))), (4, .int y2), (3, .int loud), (2, .int (nI N)), (1, .int z), (0, .ref h)]) hx hb dX2_run_87 hl (k := 2) rfl (nI_1 k) (by decide) rfl (fun ls hl => ?_)
            refine lv_goto (tgt := 43) hx hb dX2_run_90 (by decide) ?_
            exact ih (k + 1) y2 g2 _ (by omega) hd hg ha hs H locs hP hD hS ls (lv_sub hl [0, 1, 2, 3, 4, 5, 6] rfl)
        exact loop N 0 z g 0 (by omega) hd hg rfl rfl H locs hP hD hS ls (lv_sub hl [0, 1, 2, 6, 5, 4, 3] rfl)
      · have c_3 : (pf_in loud 0 1000) = 0 := c_3
        refine lv_bipush (v := (-2)) hx hb dX2_run_31 (by decide) ?_
        have e1 : ys_run g z n0 loud = g := if_pos (Or.inr (Or.inr c_3))
        exact hret _ _ _ _ _ (by rw [e1]; exact hP) ((if_pos (Or.inr (Or.inr c_3))).symm) hS dX2_run_33

abbrev rm_X2_learnt : Room := { frames := 5, cells := 0, slots := 0, locals := 105 }
theorem iw_X2_learnt_X2 : ∀ w ∈ wsX20, w ∈ wsX2_learnt := by decide +kernel
set_option maxRecDepth 100000 in
set_option maxHeartbeats 4000000 in
theorem c_X2_learnt (l : Launch) (D : va_G) (cA cZ cR : ClassId) (h : Nat) (as : Nat → Nat) (g im kp : Fn) (z loud limit : Int32) (hd : DL g) (hg : LG g) : BMi l D cA cZ cR yX2_learnt wsX2_learnt rm_X2_learnt [.ref h, .int z, .int loud, .int limit] (MW cA cZ h as g im kp) (MW cA cZ h as g (ym_learnt g im z loud limit) kp) (yf_learnt g z loud limit) := by
  refine bm_open (maxL := 7) (by decide) rfl rfl rfl (Nat.le_of_ble_eq_true rfl) ?_
  intro p e s m args below meth c A Q hx hb hml hts hown hE hP hD hA hS hret ls hl
  have hown : s.vm.findClass RX2 = some m.cls := hown
  have hl : lv_has ls 7 [(0, .ref h), (1, .int z), (2, .int loud), (3, .int limit)] := hl
  obtain ⟨H, locs, eH, eL⟩ : ∃ (H : Heap) (locs : List Loc), H = s.heap ∧ locs = [] := ⟨_, _, rfl, rfl⟩
  rw [← eH, ← eL]
  rw [← eH] at hP
  have hS : va_S A s.heap H locs := by rw [eH, eL]; exact hS
  clear eH eL
  refine lv_iload_n hx hb dX2_learnt_0 rfl (lv_at hl 1 rfl) ?_
  refine lv_iconst (v := 0) hx hb dX2_learnt_1 (by decide) ?_
  refine lv_ldc (v := 65536) hx hb hown (hts (.constant RX2 88 (65536)) (by decide +kernel)) dX2_learnt_2 ?_
  refine sm_i [.int z, .int 0, .int 65536] [] ⟨hx, hb, hml, hown, hts⟩ (c_X2_in l z 0 65536) (va_cwS 3 hts gX2_learnt_X2_in rfl rfl rfl (by decide +kernel) ⟨Nat.le_of_ble_eq_true rfl, Nat.le_of_ble_eq_true rfl⟩) rfl hl.1 rfl (Nat.le_of_ble_eq_true rfl) dX2_learnt_4 ⟨Nat.zero_le _, Nat.zero_le _⟩ ?_
  refine lv_if_eq (tgt := 32) hx hb dX2_learnt_7 (by decide) (fun c_1 => ?_) (fun c_1 => ?_)
  · have c_1 : (pf_in z 0 65536) = 0 := c_1
    refine lv_bipush (v := (-2)) hx hb dX2_learnt_32 (by decide) ?_
    have e1 : ym_learnt g im z loud limit = im := if_pos (Or.inl c_1)
    exact hret _ _ _ _ _ (by rw [e1]; exact hP) ((if_pos (Or.inl c_1)).symm) hS dX2_learnt_34
  · have c_1 : ¬ (pf_in z 0 65536) = 0 := c_1
    refine lv_iload_n hx hb dX2_learnt_10 rfl (lv_at hl 2 rfl) ?_
    refine lv_iconst (v := 0) hx hb dX2_learnt_11 (by decide) ?_
    refine lv_sipush (v := 1000) hx hb dX2_learnt_12 (by decide) ?_
    refine sm_i [.int loud, .int 0, .int 1000] [] ⟨hx, hb, hml, hown, hts⟩ (c_X2_in l loud 0 1000) (va_cwS 3 hts gX2_learnt_X2_in rfl rfl rfl (by decide +kernel) ⟨Nat.le_of_ble_eq_true rfl, Nat.le_of_ble_eq_true rfl⟩) rfl hl.1 rfl (Nat.le_of_ble_eq_true rfl) dX2_learnt_15 ⟨Nat.zero_le _, Nat.zero_le _⟩ ?_
    refine lv_if_eq (tgt := 32) hx hb dX2_learnt_18 (by decide) (fun c_2 => ?_) (fun c_2 => ?_)
    · have c_2 : (pf_in loud 0 1000) = 0 := c_2
      refine lv_bipush (v := (-2)) hx hb dX2_learnt_32 (by decide) ?_
      have e1 : ym_learnt g im z loud limit = im := if_pos (Or.inr (Or.inl c_2))
      exact hret _ _ _ _ _ (by rw [e1]; exact hP) ((if_pos (Or.inr (Or.inl c_2))).symm) hS dX2_learnt_34
    · have c_2 : ¬ (pf_in loud 0 1000) = 0 := c_2
      refine lv_iload_n hx hb dX2_learnt_21 rfl (lv_at hl 3 rfl) ?_
      refine lv_iconst (v := 0) hx hb dX2_learnt_22 (by decide) ?_
      refine lv_sipush (v := 999) hx hb dX2_learnt_23 (by decide) ?_
      refine sm_i [.int limit, .int 0, .int 999] [] ⟨hx, hb, hml, hown, hts⟩ (c_X2_in l limit 0 999) (va_cwS 3 hts gX2_learnt_X2_in rfl rfl rfl (by decide +kernel) ⟨Nat.le_of_ble_eq_true rfl, Nat.le_of_ble_eq_true rfl⟩) rfl hl.1 rfl (Nat.le_of_ble_eq_true rfl) dX2_learnt_26 ⟨Nat.zero_le _, Nat.zero_le _⟩ ?_
      refine lv_if_ne (tgt := 35) hx hb dX2_learnt_29 (by decide) (fun c_3 => ?_) (fun c_3 => ?_)
      · have c_3 : ¬ (pf_in limit 0 999) = 0 := c_3
        have e1 : ym_learnt g im z loud limit = mf_sv im g 2 555 := if_neg (fun q => q.elim c_1 (fun q => q.elim c_2 c_3))
        have e2 : yf_learnt g z loud limit = yl_r loud limit 200 0 z g 0 := if_neg (fun q => q.elim c_1 (fun q => q.elim c_2 c_3))
        rw [e1, e2] at hret
        refine lv_aload_n hx hb dX2_learnt_35 rfl (lv_at hl 0 rfl) ?_
        refine lv_iconst (v := 2) hx hb dX2_learnt_36 (by decide) ?_
        refine bm_v [] (MW cA cZ h as g im kp) [] [.int 2] [] ⟨hx, hb, hml, hown, hts⟩ (c_X2_save l D cA cZ cR h as g im kp 2 (by omega)) (cwV 1 hts gX2_learnt_X2_save rfl rfl rfl (by decide +kernel) ⟨Nat.le_of_ble_eq_true rfl, Nat.le_of_ble_eq_true rfl⟩) hE hP hD hS hA MW_adr 0 2 rfl rfl rfl hl.1 rfl (Nat.le_of_ble_eq_true rfl) dX2_learnt_37 ⟨Nat.zero_le _, Nat.zero_le _⟩ (fun H locs hP hD hS => ?_)
        have hP : va_P D vwCl (MW cA cZ h as g (mf_sv im g 2 555) kp) H := hP
        have hD : va_D A (MW cA cZ h as g (mf_sv im g 2 555) kp) := hD
        obtain ⟨i2, ei2⟩ : ∃ z : Fn, z = mf_sv im g 2 555 := ⟨_, rfl⟩
        rw [← ei2] at hP hD hret
        have hld : ∀ (g1 : Fn) (j : Nat), j < 555 → mf_ld g1 i2 2 555 j = g j := fun g1 j hj => by rw [mf_ld, if_pos hj, ei2, mf_sv, if_pos (by omega), show 555 * 2 + j - 555 * 2 = j by omega]
        refine lv_iload_n hx hb dX2_learnt_40 rfl (lv_at hl 1 rfl) ?_
        refine lv_istore (lv' := [(4, .int z), (0, .ref h), (1, .int z), (2, .int loud), (3, .int limit)]) hx hb dX2_learnt_41 hl (by decide) rfl (fun ls hl => ?_)
        refine lv_iconst (v := 0) hx hb dX2_learnt_43 (by decide) ?_
        refine lv_istore (lv' := [(5, .int 0), (4, .int z), (0, .ref h), (1, .int z), (2, .int loud), (3, .int limit)]) hx hb dX2_learnt_44 hl (by decide) rfl (fun ls hl => ?_)
        refine lv_iconst (v := 0) hx hb dX2_learnt_46 (by decide) ?_
        refine lv_istore (lv' := [(6, .int 0), (5, .int 0), (4, .int z), (0, .ref h), (1, .int z), (2, .int loud), (3, .int limit)]) hx hb dX2_learnt_47 hl (by decide) rfl (fun ls hl => ?_)
        have loop : ∀ (n : Nat) (k : Nat) (y : Int32) (g1 : Fn) (a : Int32) (hk : k + n = 200) (hd : DL g1) (hg : LG g1) (ha : yl_r loud limit n k y g1 a = yl_r loud limit 200 0 z g 0), ∀ (H : Heap) (locs : List Loc), va_P D vwCl (MW cA cZ h as g1 i2 kp) H → va_D A (MW cA cZ h as g1 i2 kp) → va_S A s.heap H locs → ∀ ls : Array Slot, lv_has ls 7 [(6, .int a), (5, .int (nI k)), (4, .int y), (3, .int limit), (2, .int loud), (1, .int z), (0, .ref h)] → W p l e rm_X2_learnt s m args below meth c H locs 0 0 Q (F0 m 49 ls []) := by
          intro n
          induction n with
          | zero =>
            intro k y g1 a hk hd hg ha H locs hP hD hS ls hl
            obtain rfl : k = 200 := by omega
            rw [yl_r] at ha
            refine lv_iload hx hb dX2_learnt_49 (lv_at hl 1 rfl) ?_
            refine lv_sipush (v := 200) hx hb dX2_learnt_51 (by decide) ?_
            refine lv_icmp_ge (tgt := 117) hx hb dX2_learnt_54 (by decide) (fun c_4 => ?_) (fun c_4 => absurd (by decide) c_4)
            refine lv_aload_n hx hb dX2_learnt_117 rfl (lv_at hl 6 rfl) ?_
            refine lv_iconst (v := 2) hx hb dX2_learnt_118 (by decide) ?_
            refine bm_v [] (MW cA cZ h as g1 i2 kp) [] [.int 2] [] ⟨hx, hb, hml, hown, hts⟩ (c_X2_load l D cA cZ cR h as g1 i2 kp 2 (by omega)) (cwV 1 hts gX2_learnt_X2_load rfl rfl rfl (by decide +kernel) ⟨Nat.le_of_ble_eq_true rfl, Nat.le_of_ble_eq_true rfl⟩) hE hP hD hS hA MW_adr 0 2 rfl rfl rfl hl.1 rfl (Nat.le_of_ble_eq_true rfl) dX2_learnt_119 ⟨Nat.zero_le _, Nat.zero_le _⟩ (fun H locs hP hD hS => ?_)
            have hP : va_P D vwCl (MW cA cZ h as (mf_ld g1 i2 2 555) i2 kp) H := hP
            have hD : va_D A (MW cA cZ h as (mf_ld g1 i2 2 555) i2 kp) := hD
            have hP : va_P D vwCl (MW cA cZ h as g i2 kp) H := MW_cg (hld g1) hP
            refine lv_iload hx hb dX2_learnt_122 (lv_at hl 0 rfl) ?_
            refine lv_bipush (v := 8) hx hb dX2_learnt_124 (by decide) ?_
            refine lv_icmp_ne (tgt := 134) hx hb dX2_learnt_126 (by decide) (fun c_5 => ?_) (fun c_5 => ?_)
            · have c_5 : ¬ a = 8 := c_5
              refine lv_bipush (v := (-6)) hx hb dX2_learnt_134 (by decide) ?_
              exact hret _ _ _ _ _ hP (by rw [← ha, yl_e, if_pos c_5]) hS dX2_learnt_136
            · have c_5 : a = 8 := c_5
              refine lv_iload hx hb dX2_learnt_129 (lv_at hl 1 rfl) ?_
              refine lv_goto (tgt := 136) hx hb dX2_learnt_131 (by decide) ?_
              exact hret _ _ _ _ _ hP (by rw [← ha, yl_e, if_neg (not_not_intro c_5)]) hS dX2_learnt_136
          | succ n ih =>
            intro k y g1 a hk hd hg ha H locs hP hD hS ls hl
            refine lv_iload hx hb dX2_learnt_49 (lv_at hl 1 rfl) ?_
            refine lv_sipush (v := 200) hx hb dX2_learnt_51 (by decide) ?_
            refine lv_icmp_ge (tgt := 117) hx hb dX2_learnt_54 (by decide) (fun c_6 => absurd c_6 (nI_ge (a := k) (b := 200) (by omega) (by decide))) (fun c_6 => ?_)
            refine lv_iload hx hb dX2_learnt_57 (lv_at hl 0 rfl) ?_
            refine lv_bipush (v := 8) hx hb dX2_learnt_59 (by decide) ?_
            refine lv_icmp_ge (tgt := 117) hx hb dX2_learnt_61 (by decide) (fun c_7 => ?_) (fun c_7 => ?_)
            · have c_7 : 8 ≤ a := c_7
              rw [yl_r, if_pos c_7] at ha
              refine lv_aload_n hx hb dX2_learnt_117 rfl (lv_at hl 6 rfl) ?_
              refine lv_iconst (v := 2) hx hb dX2_learnt_118 (by decide) ?_
              refine bm_v [] (MW cA cZ h as g1 i2 kp) [] [.int 2] [] ⟨hx, hb, hml, hown, hts⟩ (c_X2_load l D cA cZ cR h as g1 i2 kp 2 (by omega)) (cwV 1 hts gX2_learnt_X2_load rfl rfl rfl (by decide +kernel) ⟨Nat.le_of_ble_eq_true rfl, Nat.le_of_ble_eq_true rfl⟩) hE hP hD hS hA MW_adr 0 2 rfl rfl rfl hl.1 rfl (Nat.le_of_ble_eq_true rfl) dX2_learnt_119 ⟨Nat.zero_le _, Nat.zero_le _⟩ (fun H locs hP hD hS => ?_)
              have hP : va_P D vwCl (MW cA cZ h as (mf_ld g1 i2 2 555) i2 kp) H := hP
              have hD : va_D A (MW cA cZ h as (mf_ld g1 i2 2 555) i2 kp) := hD
              have hP : va_P D vwCl (MW cA cZ h as g i2 kp) H := MW_cg (hld g1) hP
              refine lv_iload hx hb dX2_learnt_122 (lv_at hl 0 rfl) ?_
              refine lv_bipush (v := 8) hx hb dX2_learnt_124 (by decide) ?_
              refine lv_icmp_ne (tgt := 134) hx hb dX2_learnt_126 (by decide) (fun c_8 => ?_) (fun c_8 => ?_)
              · have c_8 : ¬ a = 8 := c_8
                refine lv_bipush (v := (-6)) hx hb dX2_learnt_134 (by decide) ?_
                exact hret _ _ _ _ _ hP (by rw [← ha, yl_e, if_pos c_8]) hS dX2_learnt_136
              · have c_8 : a = 8 := c_8
                refine lv_iload hx hb dX2_learnt_129 (lv_at hl 1 rfl) ?_
                refine lv_goto (tgt := 136) hx hb dX2_learnt_131 (by decide) ?_
                exact hret _ _ _ _ _ hP (by rw [← ha, yl_e, if_neg (not_not_intro c_8)]) hS dX2_learnt_136
            · have c_7 : ¬ 8 ≤ a := c_7
              rw [yl_r, if_neg c_7] at ha
              refine lv_iload hx hb dX2_learnt_64 (lv_at hl 2 rfl) ?_
              refine sm_i [.int y] [] ⟨hx, hb, hml, hown, hts⟩ (c_X2_next l y) (va_cwS 1 hts gX2_learnt_X2_next rfl rfl rfl (by decide +kernel) ⟨Nat.le_of_ble_eq_true rfl, Nat.le_of_ble_eq_true rfl⟩) rfl hl.1 rfl (Nat.le_of_ble_eq_true rfl) dX2_learnt_66 ⟨Nat.zero_le _, Nat.zero_le _⟩ ?_
              refine lv_topi (fun y2 ey2 => ?_)
              refine lv_istore (lv' := [(4, .int y2), (6, .int a), (5, .int (nI k)), (3, .int limit), (2, .int loud), (1, .int z), (0, .ref h)]) hx hb dX2_learnt_69 hl (by decide) rfl (fun ls hl => ?_)
              refine lv_aload_n hx hb dX2_learnt_71 rfl (lv_at hl 6 rfl) ?_
              refine lv_iload hx hb dX2_learnt_72 (lv_at hl 0 rfl) ?_
              refine lv_iconst (v := 2) hx hb dX2_learnt_74 (by decide) ?_
              refine lv_iload_n hx hb dX2_learnt_75 rfl (lv_at hl 4 rfl) ?_
              refine lv_imul hx hb dX2_learnt_76 ?_
              refine lv_iconst (v := 1) hx hb dX2_learnt_77 (by decide) ?_
              refine lv_iadd hx hb dX2_learnt_78 ?_
              refine lv_irem hx hb dX2_learnt_79 (pf_odd _) ?_
              refine lv_iload_n hx hb dX2_learnt_80 rfl (lv_at hl 4 rfl) ?_
              refine lv_isub hx hb dX2_learnt_81 ?_
              refine lv_topi (fun fr efr => ?_)
              refine lv_iconst (v := 0) hx hb dX2_learnt_82 (by decide) ?_
              refine bm_i [] (MW cA cZ h as g1 i2 kp) [] [.int fr, .int 0] [] ⟨hx, hb, hml, hown, hts⟩ (c_X2_speakOf l D cA cZ cR h as g1 i2 kp fr 0 hd hg) (cwV 2 hts gX2_learnt_X2_speakOf rfl rfl rfl (by decide +kernel) ⟨Nat.le_of_ble_eq_true rfl, Nat.le_of_ble_eq_true rfl⟩) hE hP hD hS hA MW_adr 0 2 rfl rfl rfl hl.1 rfl (Nat.le_of_ble_eq_true rfl) dX2_learnt_83 ⟨Nat.zero_le _, Nat.zero_le _⟩ (fun H locs hP hD hS => ?_)
              have hP : va_P D vwCl (MW cA cZ h as (mf_spk g1 fr 0) i2 kp) H := hP
              have hD : va_D A (MW cA cZ h as (mf_spk g1 fr 0) i2 kp) := hD
              have hP : va_P D vwCl (MW cA cZ h as (mf_spk g1 fr 0) i2 kp) H := hP
              have hD : va_D A (MW cA cZ h as (mf_spk g1 fr 0) i2 kp) := hD
              obtain ⟨g2, eg2⟩ : ∃ z : Fn, z = mf_spk g1 fr 0 := ⟨_, rfl⟩
              rw [← eg2] at hP hD
              have efr : pf_ce y2 loud = fr := efr.symm
              rw [← ey2, efr, ← eg2] at ha
              have hd : DL g2 := DL.of (by rw [eg2]; exact mf_spk_out g1 fr 0 (by decide)) hd
              have hg : LG g2 := LG.of (by rw [eg2]; exact mf_spk_out g1 fr 0 (by decide)) hg
              refine lv_pop hx hb dX2_learnt_86 rfl ?_
              refine lv_aload_n hx hb dX2_learnt_87 rfl (lv_at hl 6 rfl) ?_
              refine va_get (D := D) (ci := 2) (v := .ref (as 0)) (C := RX2) (T := TX2) (N := 3) hx hb hts iw_X2_learnt_X2 hown hE.1 hP 0 rfl rfl 0 (by decide) (hts (.fieldLink RX2 7 "EchoTapsModel" "state" "[I") (by decide +kernel)) (fun _ h9 => h9) rfl dX2_learnt_88 ?_
              refine lv_bipush (v := 26) hx hb dX2_learnt_91 (by decide) ?_
              refine va_iald hx hb hE.1 hP 1 0 rfl rfl (vp_in_nI (n := 26) (N := 555) (by decide) (by decide)) dX2_learnt_93 ?_
              refine sm_i [.int (g2 26)] [] ⟨hx, hb, hml, hown, hts⟩ (c_X2_size l (g2 26)) (va_cwS 1 hts gX2_learnt_X2_size rfl rfl rfl (by decide +kernel) ⟨Nat.le_of_ble_eq_true rfl, Nat.le_of_ble_eq_true rfl⟩) rfl hl.1 rfl (Nat.le_of_ble_eq_true rfl) dX2_learnt_94 ⟨Nat.zero_le _, Nat.zero_le _⟩ ?_
              refine lv_iload_n hx hb dX2_learnt_97 rfl (lv_at hl 3 rfl) ?_
              have j109 : ∀ (a2 : Int32) (ea2 : a2 = yl_c limit g2 a), W p l e rm_X2_learnt s m args below meth c H locs 0 0 Q (F0 m 109 ls [.int a2]) := by
                intro a2 ea2
                refine lv_istore (lv' := [(6, .int a2), (4, .int y2), (5, .int (nI k)), (3, .int limit), (2, .int loud), (1, .int z), (0, .ref h)]) hx hb dX2_learnt_109 hl (by decide) rfl (fun ls hl => ?_)
                refine lv_iinc (v := nI (k + 1)) (lv' := [(5, .int (nI (k + 1))), (6, .int a2), (4, .int y2), (3, .int limit), (2, .int loud), (1, .int z), (0, .ref h)]) hx hb dX2_learnt_111 hl (k := 2) rfl (nI_1 k) (by decide) rfl (fun ls hl => ?_)
                refine lv_goto (tgt := 49) hx hb dX2_learnt_114 (by decide) ?_
                rw [← ea2] at ha
                exact ih (k + 1) y2 g2 a2 (by omega) hd hg ha H locs hP hD hS ls (lv_sub hl [1, 0, 2, 3, 4, 5, 6] rfl)
              refine lv_icmp_gt (tgt := 108) hx hb dX2_learnt_98 (by decide) (fun c_9 => ?_) (fun c_9 => ?_)
              · have c_9 : limit < (pf_sz (g2 26)) := c_9
                refine lv_iconst (v := 0) hx hb dX2_learnt_108 (by decide) ?_
                exact j109 _ (if_pos c_9).symm
              · have c_9 : ¬ limit < (pf_sz (g2 26)) := c_9
                refine lv_iload hx hb dX2_learnt_101 (lv_at hl 1 rfl) ?_
                refine lv_iconst (v := 1) hx hb dX2_learnt_103 (by decide) ?_
                refine lv_iadd hx hb dX2_learnt_104 ?_
                refine lv_goto (tgt := 109) hx hb dX2_learnt_105 (by decide) ?_
                exact j109 _ (if_neg c_9).symm
        exact loop 200 0 z g 0 rfl hd hg rfl H locs hP hD hS ls (lv_sub hl [0, 1, 2, 6, 5, 4, 3] rfl)
      · have c_3 : (pf_in limit 0 999) = 0 := c_3
        refine lv_bipush (v := (-2)) hx hb dX2_learnt_32 (by decide) ?_
        have e1 : ym_learnt g im z loud limit = im := if_pos (Or.inr (Or.inr c_3))
        exact hret _ _ _ _ _ (by rw [e1]; exact hP) ((if_pos (Or.inr (Or.inr c_3))).symm) hS dX2_learnt_34

abbrev rm_X2_image : Room := { frames := 1, cells := 0, slots := 0, locals := 22 }
theorem iw_X2_image_X2 : ∀ w ∈ wsX20, w ∈ wsX2_image := by decide +kernel
set_option maxRecDepth 100000 in
set_option maxHeartbeats 4000000 in
theorem c_X2_image (l : Launch) (D : va_G) (cA cZ cR : ClassId) (h : Nat) (as : Nat → Nat) (g im kp : Fn) (k : Int32) : BMi l D cA cZ cR yX2_image wsX2_image rm_X2_image [.ref h, .int k] (MW cA cZ h as g im kp) (MW cA cZ h as g (ym_image g im k) (yk_image kp k)) (xf_image k) := by
  refine bm_open (maxL := 2) (by decide) rfl rfl rfl (Nat.le_of_ble_eq_true rfl) ?_
  intro p e s m args below meth c A Q hx hb hml hts hown hE hP hD hA hS hret ls hl
  have hown : s.vm.findClass RX2 = some m.cls := hown
  have hl : lv_has ls 2 [(0, .ref h), (1, .int k)] := hl
  obtain ⟨H, locs, eH, eL⟩ : ∃ (H : Heap) (locs : List Loc), H = s.heap ∧ locs = [] := ⟨_, _, rfl, rfl⟩
  rw [← eH, ← eL]
  rw [← eH] at hP
  have hS : va_S A s.heap H locs := by rw [eH, eL]; exact hS
  clear eH eL
  refine lv_iload_n hx hb dX2_image_0 rfl (lv_at hl 1 rfl) ?_
  refine lv_iconst (v := 0) hx hb dX2_image_1 (by decide) ?_
  refine lv_iconst (v := 1) hx hb dX2_image_2 (by decide) ?_
  refine sm_i [.int k, .int 0, .int 1] [] ⟨hx, hb, hml, hown, hts⟩ (c_X2_in l k 0 1) (va_cwS 3 hts gX2_image_X2_in rfl rfl rfl (by decide +kernel) ⟨Nat.le_of_ble_eq_true rfl, Nat.le_of_ble_eq_true rfl⟩) rfl hl.1 rfl (Nat.le_of_ble_eq_true rfl) dX2_image_3 ⟨Nat.zero_le _, Nat.zero_le _⟩ ?_
  refine lv_if_ne (tgt := 12) hx hb dX2_image_6 (by decide) (fun c_1 => ?_) (fun c_1 => ?_)
  · have c_1 : ¬ (pf_in k 0 1) = 0 := c_1
    obtain ⟨j, hj, rfl⟩ := in_nI (b := 1) (by decide) c_1
    have e1 : ym_image g im (nI j) = mf_sv im g j 555 := by rw [ym_image, if_neg c_1, nI_clamp (by omega)]
    have e2 : yk_image kp (nI j) = upd kp j 1 := by rw [yk_image, if_neg c_1, nI_clamp (by omega)]
    refine lv_aload_n hx hb dX2_image_12 rfl (lv_at hl 0 rfl) ?_
    refine lv_iload_n hx hb dX2_image_13 rfl (lv_at hl 1 rfl) ?_
    refine bm_v [] (MW cA cZ h as g im kp) [] [.int (nI j)] [] ⟨hx, hb, hml, hown, hts⟩ (c_X2_save l D cA cZ cR h as g im kp j (by omega)) (cwV 1 hts gX2_image_X2_save rfl rfl rfl (by decide +kernel) ⟨Nat.le_of_ble_eq_true rfl, Nat.le_of_ble_eq_true rfl⟩) hE hP hD hS hA MW_adr 0 2 rfl rfl rfl hl.1 rfl (Nat.le_of_ble_eq_true rfl) dX2_image_14 ⟨Nat.zero_le _, Nat.zero_le _⟩ (fun H locs hP hD hS => ?_)
    have hP : va_P D vwCl (MW cA cZ h as g (mf_sv im g j 555) kp) H := hP
    have hD : va_D A (MW cA cZ h as g (mf_sv im g j 555) kp) := hD
    refine lv_aload_n hx hb dX2_image_17 rfl (lv_at hl 0 rfl) ?_
    refine va_get (D := D) (ci := 2) (v := .ref (as 2)) (C := RX2) (T := TX2) (N := 3) hx hb hts iw_X2_image_X2 hown hE.1 hP 0 rfl rfl 2 (by decide) (hts (.fieldLink RX2 16 "EchoTapsModel" "isKept" "[Z") (by decide +kernel)) (fun _ h9 => h9) rfl dX2_image_18 ?_
    refine lv_iload_n hx hb dX2_image_21 rfl (lv_at hl 1 rfl) ?_
    refine lv_iconst (v := 1) hx hb dX2_image_22 (by decide) ?_
    refine va_zast hx hb hE.1 hP hD hS 3 1 rfl rfl (vp_in_nI (by omega) (by decide)) dX2_image_23 (fun H locs hP hD hS => ?_)
    rw [show (nI j).toNatClampNeg = j from nI_clamp (by omega)] at hP hD
    have hP : va_P D vwCl (MW cA cZ h as g (mf_sv im g j 555) (upd kp j 1)) H := hP
    have hD : va_D A (MW cA cZ h as g (mf_sv im g j 555) (upd kp j 1)) := hD
    refine lv_iconst (v := 1) hx hb dX2_image_24 (by decide) ?_
    exact hret _ _ _ _ _ (by rw [e1, e2]; exact hP) (by rw [xf_image, if_neg c_1]) hS dX2_image_25
  · have c_1 : (pf_in k 0 1) = 0 := c_1
    have e1 : ym_image g im k = im := if_pos c_1
    have e2 : yk_image kp k = kp := if_pos c_1
    refine lv_bipush (v := (-2)) hx hb dX2_image_9 (by decide) ?_
    exact hret _ _ _ _ _ (by rw [e1, e2]; exact hP) ((if_pos c_1).symm) hS dX2_image_11

abbrev rm_X2_restore : Room := { frames := 1, cells := 0, slots := 0, locals := 22 }
theorem iw_X2_restore_X2 : ∀ w ∈ wsX20, w ∈ wsX2_restore := by decide +kernel
set_option maxRecDepth 100000 in
set_option maxHeartbeats 4000000 in
theorem c_X2_restore (l : Launch) (D : va_G) (cA cZ cR : ClassId) (h : Nat) (as : Nat → Nat) (g im kp : Fn) (k : Int32) : BMi l D cA cZ cR yX2_restore wsX2_restore rm_X2_restore [.ref h, .int k] (MW cA cZ h as g im kp) (MW cA cZ h as (yg_rest g im kp k) im kp) (yf_rest kp k) := by
  refine bm_open (maxL := 2) (by decide) rfl rfl rfl (Nat.le_of_ble_eq_true rfl) ?_
  intro p e s m args below meth c A Q hx hb hml hts hown hE hP hD hA hS hret ls hl
  have hown : s.vm.findClass RX2 = some m.cls := hown
  have hl : lv_has ls 2 [(0, .ref h), (1, .int k)] := hl
  obtain ⟨H, locs, eH, eL⟩ : ∃ (H : Heap) (locs : List Loc), H = s.heap ∧ locs = [] := ⟨_, _, rfl, rfl⟩
  rw [← eH, ← eL]
  rw [← eH] at hP
  have hS : va_S A s.heap H locs := by rw [eH, eL]; exact hS
  clear eH eL
  refine lv_iload_n hx hb dX2_restore_0 rfl (lv_at hl 1 rfl) ?_
  refine lv_iconst (v := 0) hx hb dX2_restore_1 (by decide) ?_
  refine lv_iconst (v := 1) hx hb dX2_restore_2 (by decide) ?_
  refine sm_i [.int k, .int 0, .int 1] [] ⟨hx, hb, hml, hown, hts⟩ (c_X2_in l k 0 1) (va_cwS 3 hts gX2_restore_X2_in rfl rfl rfl (by decide +kernel) ⟨Nat.le_of_ble_eq_true rfl, Nat.le_of_ble_eq_true rfl⟩) rfl hl.1 rfl (Nat.le_of_ble_eq_true rfl) dX2_restore_3 ⟨Nat.zero_le _, Nat.zero_le _⟩ ?_
  refine lv_if_ne (tgt := 12) hx hb dX2_restore_6 (by decide) (fun c_1 => ?_) (fun c_1 => ?_)
  · have c_1 : ¬ (pf_in k 0 1) = 0 := c_1
    obtain ⟨j, hj, rfl⟩ := in_nI (b := 1) (by decide) c_1
    refine lv_aload_n hx hb dX2_restore_12 rfl (lv_at hl 0 rfl) ?_
    refine va_get (D := D) (ci := 2) (v := .ref (as 2)) (C := RX2) (T := TX2) (N := 3) hx hb hts iw_X2_restore_X2 hown hE.1 hP 0 rfl rfl 2 (by decide) (hts (.fieldLink RX2 16 "EchoTapsModel" "isKept" "[Z") (by decide +kernel)) (fun _ h9 => h9) rfl dX2_restore_13 ?_
    refine lv_iload_n hx hb dX2_restore_16 rfl (lv_at hl 1 rfl) ?_
    refine va_zald hx hb hE.1 hP 3 1 rfl rfl (vp_in_nI (by omega) (by decide)) dX2_restore_17 ?_
    refine lv_ri (congrArg kp (nI_clamp (n := j) (by omega))) ?_
    refine lv_if_ne (tgt := 24) hx hb dX2_restore_18 (by decide) (fun c_2 => ?_) (fun c_2 => ?_)
    · have c_2 : ¬ (kp j) = 0 := c_2
      have e1 : yg_rest g im kp (nI j) = mf_ld g im j 555 := by rw [yg_rest, if_neg c_1, nI_clamp (by omega), if_neg c_2]
      refine lv_aload_n hx hb dX2_restore_24 rfl (lv_at hl 0 rfl) ?_
      refine lv_iload_n hx hb dX2_restore_25 rfl (lv_at hl 1 rfl) ?_
      refine bm_v [] (MW cA cZ h as g im kp) [] [.int (nI j)] [] ⟨hx, hb, hml, hown, hts⟩ (c_X2_load l D cA cZ cR h as g im kp j (by omega)) (cwV 1 hts gX2_restore_X2_load rfl rfl rfl (by decide +kernel) ⟨Nat.le_of_ble_eq_true rfl, Nat.le_of_ble_eq_true rfl⟩) hE hP hD hS hA MW_adr 0 2 rfl rfl rfl hl.1 rfl (Nat.le_of_ble_eq_true rfl) dX2_restore_26 ⟨Nat.zero_le _, Nat.zero_le _⟩ (fun H locs hP hD hS => ?_)
      have hP : va_P D vwCl (MW cA cZ h as (mf_ld g im j 555) im kp) H := hP
      have hD : va_D A (MW cA cZ h as (mf_ld g im j 555) im kp) := hD
      refine lv_iconst (v := 1) hx hb dX2_restore_29 (by decide) ?_
      exact hret _ _ _ _ _ (by rw [e1]; exact hP) (by rw [yf_rest, if_neg c_1, nI_clamp (by omega), if_neg c_2]) hS dX2_restore_30
    · have c_2 : (kp j) = 0 := c_2
      have e1 : yg_rest g im kp (nI j) = g := by rw [yg_rest, if_neg c_1, nI_clamp (by omega), if_pos c_2]
      refine lv_bipush (v := (-3)) hx hb dX2_restore_21 (by decide) ?_
      exact hret _ _ _ _ _ (by rw [e1]; exact hP) (by rw [yf_rest, if_neg c_1, nI_clamp (by omega), if_pos c_2]) hS dX2_restore_23
  · have c_1 : (pf_in k 0 1) = 0 := c_1
    have e1 : yg_rest g im kp k = g := if_pos c_1
    refine lv_bipush (v := (-2)) hx hb dX2_restore_9 (by decide) ?_
    exact hret _ _ _ _ _ (by rw [e1]; exact hP) ((if_pos c_1).symm) hS dX2_restore_11

abbrev rm_X2_count : Room := { frames := 2, cells := 0, slots := 0, locals := 42 }
theorem iw_X2_count_X2 : ∀ w ∈ wsX20, w ∈ wsX2_count := by decide +kernel
set_option maxRecDepth 100000 in
set_option maxHeartbeats 4000000 in
theorem c_X2_count (l : Launch) (D : va_G) (cA cZ cR : ClassId) (h : Nat) (as : Nat → Nat) (g im kp : Fn) (k : Int32) : BMi l D cA cZ cR yX2_count wsX2_count rm_X2_count [.ref h, .int k] (MW cA cZ h as g im kp) (MW cA cZ h as g im kp) (yf_count g kp k) := by
  refine bm_open (maxL := 2) (by decide) rfl rfl rfl (Nat.le_of_ble_eq_true rfl) ?_
  intro p e s m args below meth c A Q hx hb hml hts hown hE hP hD hA hS hret ls hl
  have hown : s.vm.findClass RX2 = some m.cls := hown
  have hl : lv_has ls 2 [(0, .ref h), (1, .int k)] := hl
  obtain ⟨H, locs, eH, eL⟩ : ∃ (H : Heap) (locs : List Loc), H = s.heap ∧ locs = [] := ⟨_, _, rfl, rfl⟩
  rw [← eH, ← eL]
  rw [← eH] at hP
  have hS : va_S A s.heap H locs := by rw [eH, eL]; exact hS
  clear eH eL
  refine lv_iload_n hx hb dX2_count_0 rfl (lv_at hl 1 rfl) ?_
  refine lv_bipush (v := 10) hx hb dX2_count_1 (by decide) ?_
  refine lv_bipush (v := 14) hx hb dX2_count_3 (by decide) ?_
  refine sm_i [.int k, .int 10, .int 14] [] ⟨hx, hb, hml, hown, hts⟩ (c_X2_in l k 10 14) (va_cwS 3 hts gX2_count_X2_in rfl rfl rfl (by decide +kernel) ⟨Nat.le_of_ble_eq_true rfl, Nat.le_of_ble_eq_true rfl⟩) rfl hl.1 rfl (Nat.le_of_ble_eq_true rfl) dX2_count_5 ⟨Nat.zero_le _, Nat.zero_le _⟩ ?_
  refine lv_if_eq (tgt := 23) hx hb dX2_count_8 (by decide) (fun c_1 => ?_) (fun c_1 => ?_)
  · have c_1 : (pf_in k 10 14) = 0 := c_1
    refine lv_iload_n hx hb dX2_count_23 rfl (lv_at hl 1 rfl) ?_
    by_cases h0 : k = 0
    · refine lv_tableIn (tgt := 64) hx hb dX2_count_24 (by rw [h0]; decide) (by rw [h0]; decide) (by rw [h0]; rfl) (by decide) ?_
      refine lv_aload_n hx hb dX2_count_64 rfl (lv_at hl 0 rfl) ?_
      refine va_get (D := D) (ci := 2) (v := .ref (as 0)) (C := RX2) (T := TX2) (N := 3) hx hb hts iw_X2_count_X2 hown hE.1 hP 0 rfl rfl 0 (by decide) (hts (.fieldLink RX2 7 "EchoTapsModel" "state" "[I") (by decide +kernel)) (fun _ h9 => h9) rfl dX2_count_65 ?_
      refine lv_bipush (v := 24) hx hb dX2_count_68 (by decide) ?_
      refine va_iald hx hb hE.1 hP 1 0 rfl rfl (vp_in_nI (n := 24) (N := 555) (by decide) (by decide)) dX2_count_70 ?_
      exact hret _ _ _ _ _ hP (by rw [yf_count, if_neg (not_not_intro c_1), if_pos h0] <;> rfl) hS dX2_count_71
    by_cases h1 : k = 1
    · refine lv_tableIn (tgt := 72) hx hb dX2_count_24 (by rw [h1]; decide) (by rw [h1]; decide) (by rw [h1]; rfl) (by decide) ?_
      refine lv_aload_n hx hb dX2_count_72 rfl (lv_at hl 0 rfl) ?_
      refine va_get (D := D) (ci := 2) (v := .ref (as 0)) (C := RX2) (T := TX2) (N := 3) hx hb hts iw_X2_count_X2 hown hE.1 hP 0 rfl rfl 0 (by decide) (hts (.fieldLink RX2 7 "EchoTapsModel" "state" "[I") (by decide +kernel)) (fun _ h9 => h9) rfl dX2_count_73 ?_
      refine lv_bipush (v := 22) hx hb dX2_count_76 (by decide) ?_
      refine va_iald hx hb hE.1 hP 1 0 rfl rfl (vp_in_nI (n := 22) (N := 555) (by decide) (by decide)) dX2_count_78 ?_
      exact hret _ _ _ _ _ hP (by rw [yf_count, if_neg (not_not_intro c_1), if_neg h0, if_pos h1] <;> rfl) hS dX2_count_79
    by_cases h2 : k = 2
    · refine lv_tableIn (tgt := 80) hx hb dX2_count_24 (by rw [h2]; decide) (by rw [h2]; decide) (by rw [h2]; rfl) (by decide) ?_
      refine lv_aload_n hx hb dX2_count_80 rfl (lv_at hl 0 rfl) ?_
      refine va_get (D := D) (ci := 2) (v := .ref (as 0)) (C := RX2) (T := TX2) (N := 3) hx hb hts iw_X2_count_X2 hown hE.1 hP 0 rfl rfl 0 (by decide) (hts (.fieldLink RX2 7 "EchoTapsModel" "state" "[I") (by decide +kernel)) (fun _ h9 => h9) rfl dX2_count_81 ?_
      refine lv_bipush (v := 23) hx hb dX2_count_84 (by decide) ?_
      refine va_iald hx hb hE.1 hP 1 0 rfl rfl (vp_in_nI (n := 23) (N := 555) (by decide) (by decide)) dX2_count_86 ?_
      exact hret _ _ _ _ _ hP (by rw [yf_count, if_neg (not_not_intro c_1), if_neg h0, if_neg h1, if_pos h2] <;> rfl) hS dX2_count_87
    by_cases h3 : k = 3
    · refine lv_tableIn (tgt := 88) hx hb dX2_count_24 (by rw [h3]; decide) (by rw [h3]; decide) (by rw [h3]; rfl) (by decide) ?_
      refine lv_aload_n hx hb dX2_count_88 rfl (lv_at hl 0 rfl) ?_
      refine bm_i [] (MW cA cZ h as g im kp) [] [] [] ⟨hx, hb, hml, hown, hts⟩ (c_X2_tapSizes l D cA cZ cR h as g im kp) (cwV 0 hts gX2_count_X2_tapSizes rfl rfl rfl (by decide +kernel) ⟨Nat.le_of_ble_eq_true rfl, Nat.le_of_ble_eq_true rfl⟩) hE hP hD hS hA MW_adr 0 2 rfl rfl rfl hl.1 rfl (Nat.le_of_ble_eq_true rfl) dX2_count_89 ⟨Nat.zero_le _, Nat.zero_le _⟩ (fun H locs hP hD hS => ?_)
      have hP : va_P D vwCl (MW cA cZ h as g im kp) H := hP
      have hD : va_D A (MW cA cZ h as g im kp) := hD
      exact hret _ _ _ _ _ hP (by rw [yf_count, if_neg (not_not_intro c_1), if_neg h0, if_neg h1, if_neg h2, if_pos h3] <;> rfl) hS dX2_count_92
    by_cases h4 : k = 4
    · refine lv_tableIn (tgt := 93) hx hb dX2_count_24 (by rw [h4]; decide) (by rw [h4]; decide) (by rw [h4]; rfl) (by decide) ?_
      refine lv_aload_n hx hb dX2_count_93 rfl (lv_at hl 0 rfl) ?_
      refine va_get (D := D) (ci := 2) (v := .ref (as 0)) (C := RX2) (T := TX2) (N := 3) hx hb hts iw_X2_count_X2 hown hE.1 hP 0 rfl rfl 0 (by decide) (hts (.fieldLink RX2 7 "EchoTapsModel" "state" "[I") (by decide +kernel)) (fun _ h9 => h9) rfl dX2_count_94 ?_
      refine lv_bipush (v := 21) hx hb dX2_count_97 (by decide) ?_
      refine va_iald hx hb hE.1 hP 1 0 rfl rfl (vp_in_nI (n := 21) (N := 555) (by decide) (by decide)) dX2_count_99 ?_
      exact hret _ _ _ _ _ hP (by rw [yf_count, if_neg (not_not_intro c_1), if_neg h0, if_neg h1, if_neg h2, if_neg h3, if_pos h4] <;> rfl) hS dX2_count_100
    by_cases h5 : k = 5
    · refine lv_tableIn (tgt := 101) hx hb dX2_count_24 (by rw [h5]; decide) (by rw [h5]; decide) (by rw [h5]; rfl) (by decide) ?_
      refine lv_aload_n hx hb dX2_count_101 rfl (lv_at hl 0 rfl) ?_
      refine va_get (D := D) (ci := 2) (v := .ref (as 2)) (C := RX2) (T := TX2) (N := 3) hx hb hts iw_X2_count_X2 hown hE.1 hP 0 rfl rfl 2 (by decide) (hts (.fieldLink RX2 16 "EchoTapsModel" "isKept" "[Z") (by decide +kernel)) (fun _ h9 => h9) rfl dX2_count_102 ?_
      refine lv_iconst (v := 0) hx hb dX2_count_105 (by decide) ?_
      refine va_zald hx hb hE.1 hP 3 1 rfl rfl (vp_in_nI (n := 0) (N := 2) (by decide) (by decide)) dX2_count_106 ?_
      have j115 : ∀ (u : Int32) (eu : u = yk2 (kp 0) 1), W p l e rm_X2_count s m args below meth c H locs 0 0 Q (F0 m 115 ls [.int u]) := by
        intro u eu
        refine lv_aload_n hx hb dX2_count_115 rfl (lv_at hl 0 rfl) ?_
        refine va_get (D := D) (ci := 2) (v := .ref (as 2)) (C := RX2) (T := TX2) (N := 3) hx hb hts iw_X2_count_X2 hown hE.1 hP 0 rfl rfl 2 (by decide) (hts (.fieldLink RX2 16 "EchoTapsModel" "isKept" "[Z") (by decide +kernel)) (fun _ h9 => h9) rfl dX2_count_116 ?_
        refine lv_iconst (v := 1) hx hb dX2_count_119 (by decide) ?_
        refine va_zald hx hb hE.1 hP 3 1 rfl rfl (vp_in_nI (n := 1) (N := 2) (by decide) (by decide)) dX2_count_120 ?_
        have j129 : ∀ (v : Int32) (ev : v = yk2 (kp 1) 2), W p l e rm_X2_count s m args below meth c H locs 0 0 Q (F0 m 129 ls [.int v, .int u]) := by
          intro v ev
          refine lv_iadd hx hb dX2_count_129 ?_
          exact hret _ _ _ _ _ hP (by rw [yf_count, if_neg (not_not_intro c_1), if_neg h0, if_neg h1, if_neg h2, if_neg h3, if_neg h4, if_pos h5, eu, ev]) hS dX2_count_130
        refine lv_if_eq (tgt := 128) hx hb dX2_count_121 (by decide) (fun c_2 => ?_) (fun c_2 => ?_)
        · have c_2 : (kp 1) = 0 := c_2
          refine lv_iconst (v := 0) hx hb dX2_count_128 (by decide) ?_
          exact j129 _ (if_pos c_2).symm
        · have c_2 : ¬ (kp 1) = 0 := c_2
          refine lv_iconst (v := 2) hx hb dX2_count_124 (by decide) ?_
          refine lv_goto (tgt := 129) hx hb dX2_count_125 (by decide) ?_
          exact j129 _ (if_neg c_2).symm
      refine lv_if_eq (tgt := 114) hx hb dX2_count_107 (by decide) (fun c_3 => ?_) (fun c_3 => ?_)
      · have c_3 : (kp 0) = 0 := c_3
        refine lv_iconst (v := 0) hx hb dX2_count_114 (by decide) ?_
        exact j115 _ (if_pos c_3).symm
      · have c_3 : ¬ (kp 0) = 0 := c_3
        refine lv_iconst (v := 1) hx hb dX2_count_110 (by decide) ?_
        refine lv_goto (tgt := 115) hx hb dX2_count_111 (by decide) ?_
        exact j115 _ (if_neg c_3).symm
    refine lv_tableOut (tgt := 131) hx hb dX2_count_24 (sw5 h0 h1 h2 h3 h4 h5) (by decide) ?_
    refine lv_bipush (v := (-2)) hx hb dX2_count_131 (by decide) ?_
    exact hret _ _ _ _ _ hP (by rw [yf_count, if_neg (not_not_intro c_1), if_neg h0, if_neg h1, if_neg h2, if_neg h3, if_neg h4, if_neg h5]) hS dX2_count_133
  · have c_1 : ¬ (pf_in k 10 14) = 0 := c_1
    have e0 : (0 : Int32) + k - 10 = k - 10 := by rw [Int32.zero_add]
    refine lv_aload_n hx hb dX2_count_11 rfl (lv_at hl 0 rfl) ?_
    refine va_get (D := D) (ci := 2) (v := .ref (as 0)) (C := RX2) (T := TX2) (N := 3) hx hb hts iw_X2_count_X2 hown hE.1 hP 0 rfl rfl 0 (by decide) (hts (.fieldLink RX2 7 "EchoTapsModel" "state" "[I") (by decide +kernel)) (fun _ h9 => h9) rfl dX2_count_12 ?_
    refine lv_iconst (v := 0) hx hb dX2_count_15 (by decide) ?_
    refine lv_iload_n hx hb dX2_count_16 rfl (lv_at hl 1 rfl) ?_
    refine lv_iadd hx hb dX2_count_17 ?_
    refine lv_bipush (v := 10) hx hb dX2_count_18 (by decide) ?_
    refine lv_isub hx hb dX2_count_20 ?_
    refine lv_ri e0 ?_
    refine va_iald hx hb hE.1 hP 1 0 rfl rfl (fun q => in_cnt c_1 (q.imp id (fun h => Nat.le_trans (by decide) h))) dX2_count_21 ?_
    exact hret _ _ _ _ _ hP ((if_pos c_1).symm) hS dX2_count_22
end
