section
-- ===== PART A: goes FIRST, ahead of the names: the tables' words, and 'selects' of the private methods out of them =====
/-- a private method of a class that the tables say can be made, by its rows of tables_1 -/
def lw_okq (q : MethodName × Nat) : Prop := (q.1.cls ≠ "java/lang/invoke/MethodHandle" ∧ q.1.cls ≠ "java/lang/invoke/VarHandle") ∧ Cond.instantiable q.1.cls q.2 ∈ tables_1 ∧ Cond.privateMethod q.1 ∈ tables_1 ∧ Cond.instanceMethod q.1 ∈ tables_1
theorem lw_p0 : lw_okq (⟨"TurnBids$Table", "passTurn", "()V"⟩, 13) := ⟨⟨by decide +kernel, by decide +kernel⟩, List.mem_of_getElem? (i := 18) (by decide +kernel), List.mem_of_getElem? (i := 216) (by decide +kernel), List.mem_of_getElem? (i := 217) (by decide +kernel)⟩
theorem lw_p1 : lw_okq (⟨"TurnBids$Table", "pay", "(III)V"⟩, 13) := ⟨⟨by decide +kernel, by decide +kernel⟩, List.mem_of_getElem? (i := 18) (by decide +kernel), List.mem_of_getElem? (i := 238) (by decide +kernel), List.mem_of_getElem? (i := 239) (by decide +kernel)⟩
theorem lw_p2 : lw_okq (⟨"TurnBids$Table", "endAuction", "()V"⟩, 13) := ⟨⟨by decide +kernel, by decide +kernel⟩, List.mem_of_getElem? (i := 18) (by decide +kernel), List.mem_of_getElem? (i := 242) (by decide +kernel), List.mem_of_getElem? (i := 243) (by decide +kernel)⟩
theorem lw_p3 : lw_okq (⟨"TurnBids$Table", "prizeFor", "(I)I"⟩, 13) := ⟨⟨by decide +kernel, by decide +kernel⟩, List.mem_of_getElem? (i := 18) (by decide +kernel), List.mem_of_getElem? (i := 246) (by decide +kernel), List.mem_of_getElem? (i := 247) (by decide +kernel)⟩
theorem lw_p4 : lw_okq (⟨"TurnBids", "doMove", "(CI)I"⟩, 5) := ⟨⟨by decide +kernel, by decide +kernel⟩, List.mem_of_getElem? (i := 10) (by decide +kernel), List.mem_of_getElem? (i := 296) (by decide +kernel), List.mem_of_getElem? (i := 297) (by decide +kernel)⟩
theorem lw_p5 : lw_okq (⟨"TurnBids", "tryRounds", "(I)V"⟩, 5) := ⟨⟨by decide +kernel, by decide +kernel⟩, List.mem_of_getElem? (i := 10) (by decide +kernel), List.mem_of_getElem? (i := 326) (by decide +kernel), List.mem_of_getElem? (i := 327) (by decide +kernel)⟩
theorem lw_p6 : lw_okq (⟨"TurnBidsModel", "clearAuction", "()V"⟩, 11) := ⟨⟨by decide +kernel, by decide +kernel⟩, List.mem_of_getElem? (i := 386) (by decide +kernel), List.mem_of_getElem? (i := 392) (by decide +kernel), List.mem_of_getElem? (i := 393) (by decide +kernel)⟩
theorem lw_p7 : lw_okq (⟨"TurnBidsModel", "sum", "(I)I"⟩, 11) := ⟨⟨by decide +kernel, by decide +kernel⟩, List.mem_of_getElem? (i := 386) (by decide +kernel), List.mem_of_getElem? (i := 448) (by decide +kernel), List.mem_of_getElem? (i := 449) (by decide +kernel)⟩
theorem lw_p8 : lw_okq (⟨"TurnBidsModel", "record", "()V"⟩, 11) := ⟨⟨by decide +kernel, by decide +kernel⟩, List.mem_of_getElem? (i := 386) (by decide +kernel), List.mem_of_getElem? (i := 456) (by decide +kernel), List.mem_of_getElem? (i := 457) (by decide +kernel)⟩
theorem lw_p9 : lw_okq (⟨"TurnBidsModel", "change", "(II)I"⟩, 11) := ⟨⟨by decide +kernel, by decide +kernel⟩, List.mem_of_getElem? (i := 386) (by decide +kernel), List.mem_of_getElem? (i := 467) (by decide +kernel), List.mem_of_getElem? (i := 468) (by decide +kernel)⟩
theorem lw_p10 : lw_okq (⟨"TurnBidsModel", "beginNow", "()V"⟩, 11) := ⟨⟨by decide +kernel, by decide +kernel⟩, List.mem_of_getElem? (i := 386) (by decide +kernel), List.mem_of_getElem? (i := 491) (by decide +kernel), List.mem_of_getElem? (i := 492) (by decide +kernel)⟩
theorem lw_p11 : lw_okq (⟨"TurnBidsModel", "playerAt", "(I)I"⟩, 11) := ⟨⟨by decide +kernel, by decide +kernel⟩, List.mem_of_getElem? (i := 386) (by decide +kernel), List.mem_of_getElem? (i := 495) (by decide +kernel), List.mem_of_getElem? (i := 496) (by decide +kernel)⟩
theorem lw_p12 : lw_okq (⟨"TurnBidsModel", "mayBid", "(I)Z"⟩, 11) := ⟨⟨by decide +kernel, by decide +kernel⟩, List.mem_of_getElem? (i := 386) (by decide +kernel), List.mem_of_getElem? (i := 503) (by decide +kernel), List.mem_of_getElem? (i := 504) (by decide +kernel)⟩
theorem lw_p13 : lw_okq (⟨"TurnBidsModel", "canBid", "(I)Z"⟩, 11) := ⟨⟨by decide +kernel, by decide +kernel⟩, List.mem_of_getElem? (i := 386) (by decide +kernel), List.mem_of_getElem? (i := 507) (by decide +kernel), List.mem_of_getElem? (i := 508) (by decide +kernel)⟩
theorem lw_p14 : lw_okq (⟨"TurnBidsModel", "least", "()I"⟩, 11) := ⟨⟨by decide +kernel, by decide +kernel⟩, List.mem_of_getElem? (i := 386) (by decide +kernel), List.mem_of_getElem? (i := 511) (by decide +kernel), List.mem_of_getElem? (i := 512) (by decide +kernel)⟩
theorem lw_p15 : lw_okq (⟨"TurnBidsModel", "bidNow", "(I)V"⟩, 11) := ⟨⟨by decide +kernel, by decide +kernel⟩, List.mem_of_getElem? (i := 386) (by decide +kernel), List.mem_of_getElem? (i := 515) (by decide +kernel), List.mem_of_getElem? (i := 516) (by decide +kernel)⟩
def lw_privs_1 : List (MethodName × Nat) := [(⟨"TurnBids$Table", "passTurn", "()V"⟩, 13), (⟨"TurnBids$Table", "pay", "(III)V"⟩, 13), (⟨"TurnBids$Table", "endAuction", "()V"⟩, 13), (⟨"TurnBids$Table", "prizeFor", "(I)I"⟩, 13), (⟨"TurnBids", "doMove", "(CI)I"⟩, 5), (⟨"TurnBids", "tryRounds", "(I)V"⟩, 5), (⟨"TurnBidsModel", "clearAuction", "()V"⟩, 11), (⟨"TurnBidsModel", "sum", "(I)I"⟩, 11), (⟨"TurnBidsModel", "record", "()V"⟩, 11), (⟨"TurnBidsModel", "change", "(II)I"⟩, 11), (⟨"TurnBidsModel", "beginNow", "()V"⟩, 11), (⟨"TurnBidsModel", "playerAt", "(I)I"⟩, 11), (⟨"TurnBidsModel", "mayBid", "(I)Z"⟩, 11), (⟨"TurnBidsModel", "canBid", "(I)Z"⟩, 11), (⟨"TurnBidsModel", "least", "()I"⟩, 11), (⟨"TurnBidsModel", "bidNow", "(I)V"⟩, 11)]
theorem lw_r1 : ∀ q ∈ lw_privs_1, lw_okq q := List.forall_mem_cons.mpr ⟨lw_p0, List.forall_mem_cons.mpr ⟨lw_p1, List.forall_mem_cons.mpr ⟨lw_p2, List.forall_mem_cons.mpr ⟨lw_p3, List.forall_mem_cons.mpr ⟨lw_p4, List.forall_mem_cons.mpr ⟨lw_p5, List.forall_mem_cons.mpr ⟨lw_p6, List.forall_mem_cons.mpr ⟨lw_p7, List.forall_mem_cons.mpr ⟨lw_p8, List.forall_mem_cons.mpr ⟨lw_p9, List.forall_mem_cons.mpr ⟨lw_p10, List.forall_mem_cons.mpr ⟨lw_p11, List.forall_mem_cons.mpr ⟨lw_p12, List.forall_mem_cons.mpr ⟨lw_p13, List.forall_mem_cons.mpr ⟨lw_p14, List.forall_mem_cons.mpr ⟨lw_p15, fun _ h => absurd h List.not_mem_nil⟩⟩⟩⟩⟩⟩⟩⟩⟩⟩⟩⟩⟩⟩⟩⟩
theorem lw_p16 : lw_okq (⟨"TurnBidsModel", "pass", "()V"⟩, 11) := ⟨⟨by decide +kernel, by decide +kernel⟩, List.mem_of_getElem? (i := 386) (by decide +kernel), List.mem_of_getElem? (i := 519) (by decide +kernel), List.mem_of_getElem? (i := 520) (by decide +kernel)⟩
theorem lw_p17 : lw_okq (⟨"TurnBidsModel", "dropNow", "()V"⟩, 11) := ⟨⟨by decide +kernel, by decide +kernel⟩, List.mem_of_getElem? (i := 386) (by decide +kernel), List.mem_of_getElem? (i := 527) (by decide +kernel), List.mem_of_getElem? (i := 528) (by decide +kernel)⟩
theorem lw_p18 : lw_okq (⟨"TurnBidsModel", "left", "()I"⟩, 11) := ⟨⟨by decide +kernel, by decide +kernel⟩, List.mem_of_getElem? (i := 386) (by decide +kernel), List.mem_of_getElem? (i := 531) (by decide +kernel), List.mem_of_getElem? (i := 532) (by decide +kernel)⟩
theorem lw_p19 : lw_okq (⟨"TurnBidsModel", "pay", "(II)V"⟩, 11) := ⟨⟨by decide +kernel, by decide +kernel⟩, List.mem_of_getElem? (i := 386) (by decide +kernel), List.mem_of_getElem? (i := 535) (by decide +kernel), List.mem_of_getElem? (i := 536) (by decide +kernel)⟩
theorem lw_p20 : lw_okq (⟨"TurnBidsModel", "endNow", "(I)V"⟩, 11) := ⟨⟨by decide +kernel, by decide +kernel⟩, List.mem_of_getElem? (i := 386) (by decide +kernel), List.mem_of_getElem? (i := 539) (by decide +kernel), List.mem_of_getElem? (i := 540) (by decide +kernel)⟩
theorem lw_p21 : lw_okq (⟨"TurnBidsModel", "prizeAt", "(I)I"⟩, 11) := ⟨⟨by decide +kernel, by decide +kernel⟩, List.mem_of_getElem? (i := 386) (by decide +kernel), List.mem_of_getElem? (i := 543) (by decide +kernel), List.mem_of_getElem? (i := 544) (by decide +kernel)⟩
theorem lw_p22 : lw_okq (⟨"TurnBidsModel", "actNow", "()V"⟩, 11) := ⟨⟨by decide +kernel, by decide +kernel⟩, List.mem_of_getElem? (i := 386) (by decide +kernel), List.mem_of_getElem? (i := 551) (by decide +kernel), List.mem_of_getElem? (i := 552) (by decide +kernel)⟩
theorem lw_p23 : lw_okq (⟨"TurnBidsModel", "finishNow", "()I"⟩, 11) := ⟨⟨by decide +kernel, by decide +kernel⟩, List.mem_of_getElem? (i := 386) (by decide +kernel), List.mem_of_getElem? (i := 559) (by decide +kernel), List.mem_of_getElem? (i := 560) (by decide +kernel)⟩
theorem lw_p24 : lw_okq (⟨"TurnBidsModel", "readPad", "()Z"⟩, 11) := ⟨⟨by decide +kernel, by decide +kernel⟩, List.mem_of_getElem? (i := 386) (by decide +kernel), List.mem_of_getElem? (i := 577) (by decide +kernel), List.mem_of_getElem? (i := 578) (by decide +kernel)⟩
theorem lw_p25 : lw_okq (⟨"TurnBidsModel", "readMove", "()Z"⟩, 11) := ⟨⟨by decide +kernel, by decide +kernel⟩, List.mem_of_getElem? (i := 386) (by decide +kernel), List.mem_of_getElem? (i := 581) (by decide +kernel), List.mem_of_getElem? (i := 582) (by decide +kernel)⟩
theorem lw_p26 : lw_okq (⟨"TurnBidsModel", "sees", "(II)Z"⟩, 11) := ⟨⟨by decide +kernel, by decide +kernel⟩, List.mem_of_getElem? (i := 386) (by decide +kernel), List.mem_of_getElem? (i := 585) (by decide +kernel), List.mem_of_getElem? (i := 586) (by decide +kernel)⟩
theorem lw_p27 : lw_okq (⟨"TurnBidsModel", "takes", "(I)Z"⟩, 11) := ⟨⟨by decide +kernel, by decide +kernel⟩, List.mem_of_getElem? (i := 386) (by decide +kernel), List.mem_of_getElem? (i := 589) (by decide +kernel), List.mem_of_getElem? (i := 590) (by decide +kernel)⟩
theorem lw_p28 : lw_okq (⟨"TurnBidsModel", "can", "(I)Z"⟩, 11) := ⟨⟨by decide +kernel, by decide +kernel⟩, List.mem_of_getElem? (i := 386) (by decide +kernel), List.mem_of_getElem? (i := 598) (by decide +kernel), List.mem_of_getElem? (i := 599) (by decide +kernel)⟩
theorem lw_p29 : lw_okq (⟨"TurnBidsModel", "doMove", "(I)V"⟩, 11) := ⟨⟨by decide +kernel, by decide +kernel⟩, List.mem_of_getElem? (i := 386) (by decide +kernel), List.mem_of_getElem? (i := 602) (by decide +kernel), List.mem_of_getElem? (i := 603) (by decide +kernel)⟩
theorem lw_p30 : lw_okq (⟨"TurnBidsModel", "leftSet", "()I"⟩, 11) := ⟨⟨by decide +kernel, by decide +kernel⟩, List.mem_of_getElem? (i := 386) (by decide +kernel), List.mem_of_getElem? (i := 618) (by decide +kernel), List.mem_of_getElem? (i := 619) (by decide +kernel)⟩
theorem lw_p31 : lw_okq (⟨"TurnBidsModel", "play", "(I)V"⟩, 11) := ⟨⟨by decide +kernel, by decide +kernel⟩, List.mem_of_getElem? (i := 386) (by decide +kernel), List.mem_of_getElem? (i := 638) (by decide +kernel), List.mem_of_getElem? (i := 639) (by decide +kernel)⟩
def lw_privs_2 : List (MethodName × Nat) := [(⟨"TurnBidsModel", "pass", "()V"⟩, 11), (⟨"TurnBidsModel", "dropNow", "()V"⟩, 11), (⟨"TurnBidsModel", "left", "()I"⟩, 11), (⟨"TurnBidsModel", "pay", "(II)V"⟩, 11), (⟨"TurnBidsModel", "endNow", "(I)V"⟩, 11), (⟨"TurnBidsModel", "prizeAt", "(I)I"⟩, 11), (⟨"TurnBidsModel", "actNow", "()V"⟩, 11), (⟨"TurnBidsModel", "finishNow", "()I"⟩, 11), (⟨"TurnBidsModel", "readPad", "()Z"⟩, 11), (⟨"TurnBidsModel", "readMove", "()Z"⟩, 11), (⟨"TurnBidsModel", "sees", "(II)Z"⟩, 11), (⟨"TurnBidsModel", "takes", "(I)Z"⟩, 11), (⟨"TurnBidsModel", "can", "(I)Z"⟩, 11), (⟨"TurnBidsModel", "doMove", "(I)V"⟩, 11), (⟨"TurnBidsModel", "leftSet", "()I"⟩, 11), (⟨"TurnBidsModel", "play", "(I)V"⟩, 11)]
theorem lw_r2 : ∀ q ∈ lw_privs_2, lw_okq q := List.forall_mem_cons.mpr ⟨lw_p16, List.forall_mem_cons.mpr ⟨lw_p17, List.forall_mem_cons.mpr ⟨lw_p18, List.forall_mem_cons.mpr ⟨lw_p19, List.forall_mem_cons.mpr ⟨lw_p20, List.forall_mem_cons.mpr ⟨lw_p21, List.forall_mem_cons.mpr ⟨lw_p22, List.forall_mem_cons.mpr ⟨lw_p23, List.forall_mem_cons.mpr ⟨lw_p24, List.forall_mem_cons.mpr ⟨lw_p25, List.forall_mem_cons.mpr ⟨lw_p26, List.forall_mem_cons.mpr ⟨lw_p27, List.forall_mem_cons.mpr ⟨lw_p28, List.forall_mem_cons.mpr ⟨lw_p29, List.forall_mem_cons.mpr ⟨lw_p30, List.forall_mem_cons.mpr ⟨lw_p31, fun _ h => absurd h List.not_mem_nil⟩⟩⟩⟩⟩⟩⟩⟩⟩⟩⟩⟩⟩⟩⟩⟩
def lw_privs : List (MethodName × Nat) := lw_privs_1 ++ (lw_privs_2)
def lw_tbl : List Cond := k2_sels lw_privs ++ tables_1
theorem lw_privs_ok : ∀ q ∈ lw_privs, lw_okq q := by
  show ∀ q ∈ lw_privs_1 ++ (lw_privs_2), lw_okq q
  exact List.forall_mem_append.mpr ⟨lw_r1, lw_r2⟩
-- ===== end of PART A; then your names; then what follows =====
/-! ===== BEGIN words of one list among another's, by their places ===== -/
theorem goodIn_r {big : List Cond} (ws : List Cond) (ps : List Nat) (hp : ws = ps.filterMap (fun i => big[i]?)) (h : ws.all goodWord = true) : GoodIn big ws := by
  intro w hw
  have h1 := List.all_eq_true.mp h w hw
  rw [hp] at hw
  obtain ⟨i, -, hi⟩ := List.mem_filterMap.mp hw
  have hm : w ∈ big := by first | exact List.mem_of_getElem? hi | exact List.getElem?_mem hi
  exact ⟨hm, good_of_word h1⟩
theorem goodIn_app {big a b : List Cond} (ha : GoodIn big a) (hb : GoodIn big b) : GoodIn big (a ++ b) := fun w h => (List.mem_append.mp h).elim (ha w) (hb w)
theorem goodIn_ca {big a b : List Cond} {c : Cond} (ha : GoodIn big (c :: a)) (hb : GoodIn big b) : GoodIn big (c :: (a ++ b)) := fun w h => (List.mem_cons.mp h).elim (fun e => ha w (List.mem_cons.mpr (Or.inl e))) (fun h => (List.mem_append.mp h).elim (fun h => ha w (List.mem_cons.mpr (Or.inr h))) (hb w))
theorem goodIn_sub {big ws : List Cond} (hm : ∀ w ∈ ws, w ∈ big) (h : ws.all goodWord = true) : GoodIn big ws := fun w hw => ⟨hm w hw, good_of_word (List.all_eq_true.mp h w hw)⟩
/-! ===== END ===== -/

/-! ===== BEGIN printed: names, fields, word lists, decode rows ===== -/
def RX0 : String := "TurnBids$History"
def TX0 : u_T := fun k => match k with
  | 0 => ("TurnBids$History", "states", "[LTurnBids$Table;", true)
  | 1 => ("TurnBids$History", "next", "I", false)
  | _ => ("TurnBids$History", "length", "I", false)
def tyX0 : Nat → FieldType := fun k => match k with
  | 0 => .array (.object "TurnBids$Table")
  | 1 => .int
  | _ => .int
abbrev wsX00 : List Cond := u_ws RX0 TX0 3
theorem nmX0 : ∀ a, a < 3 → ∀ b, b < 3 → a ≠ b → (TX0 a).2.1 ≠ (TX0 b).2.1 := by decide +kernel
theorem tyX0_ok : ∀ k, k < 3 → parseFieldDescriptor (TX0 k).2.2.1 = some (tyX0 k) := by decide +kernel
abbrev cX0_init : ByteArray := prog_2_method_1_code
def yX0_init : MethodName := ⟨RX0, "<init>", "()V"⟩
abbrev cX0_keep : ByteArray := prog_2_method_2_code
def yX0_keep : MethodName := ⟨RX0, "keep", "(LTurnBids$Table;)V"⟩
abbrev cX0_takeBack : ByteArray := prog_2_method_3_code
def yX0_takeBack : MethodName := ⟨RX0, "takeBack", "(LTurnBids$Table;)V"⟩
def RX1 : String := "TurnBids$Pad"
def TX1 : u_T := fun k => match k with
  | 0 => ("TurnBids$Pad", "signs", "[C", true)
  | _ => ("TurnBids$Pad", "length", "I", false)
def tyX1 : Nat → FieldType := fun k => match k with
  | 0 => .array .char
  | _ => .int
abbrev wsX10 : List Cond := u_ws RX1 TX1 2
theorem nmX1 : ∀ a, a < 2 → ∀ b, b < 2 → a ≠ b → (TX1 a).2.1 ≠ (TX1 b).2.1 := by decide +kernel
theorem tyX1_ok : ∀ k, k < 2 → parseFieldDescriptor (TX1 k).2.2.1 = some (tyX1 k) := by decide +kernel
abbrev cX1_init : ByteArray := prog_3_method_1_code
def yX1_init : MethodName := ⟨RX1, "<init>", "()V"⟩
abbrev cX1_isDigit : ByteArray := prog_3_method_2_code
def yX1_isDigit : MethodName := ⟨RX1, "isDigit", "(C)Z"⟩
abbrev cX1_signsIn : ByteArray := prog_3_method_3_code
def yX1_signsIn : MethodName := ⟨RX1, "signsIn", "(J)I"⟩
abbrev cX1_append : ByteArray := prog_3_method_4_code
def yX1_append : MethodName := ⟨RX1, "append", "(JI)V"⟩
abbrev cX1_signAt : ByteArray := prog_3_method_5_code
def yX1_signAt : MethodName := ⟨RX1, "signAt", "(I)C"⟩
abbrev cX1_faultIndex : ByteArray := prog_3_method_6_code
def yX1_faultIndex : MethodName := ⟨RX1, "faultIndex", "()I"⟩
abbrev cX1_dueBehind : ByteArray := prog_3_method_7_code
def yX1_dueBehind : MethodName := ⟨RX1, "dueBehind", "(IC)I"⟩
def RX2 : String := "TurnBids$Table"
def TX2 : u_T := fun k => match k with
  | 0 => ("TurnBids$Table", "settings", "[I", true)
  | 1 => ("TurnBids$Table", "prizes", "[I", true)
  | 2 => ("TurnBids$Table", "coins", "[I", true)
  | 3 => ("TurnBids$Table", "limits", "[I", true)
  | 4 => ("TurnBids$Table", "places", "[I", true)
  | 5 => ("TurnBids$Table", "bids", "[I", true)
  | 6 => ("TurnBids$Table", "placesGot", "[I", true)
  | 7 => ("TurnBids$Table", "paid", "[I", true)
  | 8 => ("TurnBids$Table", "taken", "[I", true)
  | 9 => ("TurnBids$Table", "won", "[I", true)
  | 10 => ("TurnBids$Table", "underWay", "Z", false)
  | 11 => ("TurnBids$Table", "turn", "I", false)
  | _ => ("TurnBids$Table", "rounds", "I", false)
def tyX2 : Nat → FieldType := fun k => match k with
  | 0 => .array .int
  | 1 => .array .int
  | 2 => .array .int
  | 3 => .array .int
  | 4 => .array .int
  | 5 => .array .int
  | 6 => .array .int
  | 7 => .array .int
  | 8 => .array .int
  | 9 => .array .int
  | 10 => .boolean
  | 11 => .int
  | _ => .int
abbrev wsX20 : List Cond := u_ws RX2 TX2 13
theorem nmX2 : ∀ a, a < 13 → ∀ b, b < 13 → a ≠ b → (TX2 a).2.1 ≠ (TX2 b).2.1 := by decide +kernel
theorem tyX2_ok : ∀ k, k < 13 → parseFieldDescriptor (TX2 k).2.2.1 = some (tyX2 k) := by decide +kernel
abbrev cX2_init : ByteArray := prog_4_method_1_code
def yX2_init : MethodName := ⟨RX2, "<init>", "()V"⟩
abbrev cX2_copyFrom : ByteArray := prog_4_method_2_code
def yX2_copyFrom : MethodName := ⟨RX2, "copyFrom", "(LTurnBids$Table;)V"⟩
abbrev cX2_playerAt : ByteArray := prog_4_method_3_code
def yX2_playerAt : MethodName := ⟨RX2, "playerAt", "(I)I"⟩
abbrev cX2_playersLeft : ByteArray := prog_4_method_4_code
def yX2_playersLeft : MethodName := ⟨RX2, "playersLeft", "()I"⟩
abbrev cX2_highestBid : ByteArray := prog_4_method_5_code
def yX2_highestBid : MethodName := ⟨RX2, "highestBid", "()I"⟩
abbrev cX2_leastBid : ByteArray := prog_4_method_6_code
def yX2_leastBid : MethodName := ⟨RX2, "leastBid", "()I"⟩
abbrev cX2_hasToCover : ByteArray := prog_4_method_7_code
def yX2_hasToCover : MethodName := ⟨RX2, "hasToCover", "(I)I"⟩
abbrev cX2_mayBid : ByteArray := prog_4_method_8_code
def yX2_mayBid : MethodName := ⟨RX2, "mayBid", "(I)Z"⟩
abbrev cX2_start : ByteArray := prog_4_method_9_code
def yX2_start : MethodName := ⟨RX2, "start", "()I"⟩
abbrev cX2_takeBid : ByteArray := prog_4_method_10_code
def yX2_takeBid : MethodName := ⟨RX2, "takeBid", "(I)I"⟩
abbrev cX2_dropOut : ByteArray := prog_4_method_11_code
def yX2_dropOut : MethodName := ⟨RX2, "dropOut", "()I"⟩
abbrev cX2_actByLimit : ByteArray := prog_4_method_12_code
def yX2_actByLimit : MethodName := ⟨RX2, "actByLimit", "()I"⟩
abbrev cX2_playRound : ByteArray := prog_4_method_13_code
def yX2_playRound : MethodName := ⟨RX2, "playRound", "()I"⟩
abbrev cX2_passTurn : ByteArray := prog_4_method_14_code
def yX2_passTurn : MethodName := ⟨RX2, "passTurn", "()V"⟩
abbrev cX2_pay : ByteArray := prog_4_method_15_code
def yX2_pay : MethodName := ⟨RX2, "pay", "(III)V"⟩
abbrev cX2_endAuction : ByteArray := prog_4_method_16_code
def yX2_endAuction : MethodName := ⟨RX2, "endAuction", "()V"⟩
abbrev cX2_prizeFor : ByteArray := prog_4_method_17_code
def yX2_prizeFor : MethodName := ⟨RX2, "prizeFor", "(I)I"⟩
def RX3 : String := "TurnBids"
def TX3 : u_T := fun k => match k with
  | 0 => ("TurnBids", "table", "LTurnBids$Table;", true)
  | 1 => ("TurnBids", "trial", "LTurnBids$Table;", true)
  | 2 => ("TurnBids", "history", "LTurnBids$History;", true)
  | 3 => ("TurnBids", "slots", "[LTurnBids$Table;", true)
  | _ => ("TurnBids", "pad", "LTurnBids$Pad;", true)
def tyX3 : Nat → FieldType := fun k => match k with
  | 0 => .object "TurnBids$Table"
  | 1 => .object "TurnBids$Table"
  | 2 => .object "TurnBids$History"
  | 3 => .array (.object "TurnBids$Table")
  | _ => .object "TurnBids$Pad"
abbrev wsX30 : List Cond := u_ws RX3 TX3 5
theorem nmX3 : ∀ a, a < 5 → ∀ b, b < 5 → a ≠ b → (TX3 a).2.1 ≠ (TX3 b).2.1 := by decide +kernel
theorem tyX3_ok : ∀ k, k < 5 → parseFieldDescriptor (TX3 k).2.2.1 = some (tyX3 k) := by decide +kernel
abbrev cX3_init : ByteArray := prog_1_method_1_code
def yX3_init : MethodName := ⟨RX3, "<init>", "()V"⟩
abbrev cX3_set : ByteArray := prog_1_method_2_code
def yX3_set : MethodName := ⟨RX3, "set", "(II)I"⟩
abbrev cX3_coins : ByteArray := prog_1_method_3_code
def yX3_coins : MethodName := ⟨RX3, "coins", "(II)I"⟩
abbrev cX3_limit : ByteArray := prog_1_method_4_code
def yX3_limit : MethodName := ⟨RX3, "limit", "(II)I"⟩
abbrev cX3_prize : ByteArray := prog_1_method_5_code
def yX3_prize : MethodName := ⟨RX3, "prize", "(II)I"⟩
abbrev cX3_begin : ByteArray := prog_1_method_6_code
def yX3_begin : MethodName := ⟨RX3, "begin", "()I"⟩
abbrev cX3_bid : ByteArray := prog_1_method_7_code
def yX3_bid : MethodName := ⟨RX3, "bid", "(I)I"⟩
abbrev cX3_drop : ByteArray := prog_1_method_8_code
def yX3_drop : MethodName := ⟨RX3, "drop", "()I"⟩
abbrev cX3_act : ByteArray := prog_1_method_9_code
def yX3_act : MethodName := ⟨RX3, "act", "()I"⟩
abbrev cX3_finish : ByteArray := prog_1_method_10_code
def yX3_finish : MethodName := ⟨RX3, "finish", "()I"⟩
abbrev cX3_run : ByteArray := prog_1_method_11_code
def yX3_run : MethodName := ⟨RX3, "run", "()I"⟩
abbrev cX3_player : ByteArray := prog_1_method_12_code
def yX3_player : MethodName := ⟨RX3, "player", "(II)I"⟩
abbrev cX3_at : ByteArray := prog_1_method_13_code
def yX3_at : MethodName := ⟨RX3, "at", "(I)I"⟩
abbrev cX3_count : ByteArray := prog_1_method_14_code
def yX3_count : MethodName := ⟨RX3, "count", "(I)I"⟩
abbrev cX3_prizeOf : ByteArray := prog_1_method_15_code
def yX3_prizeOf : MethodName := ⟨RX3, "prizeOf", "(I)I"⟩
abbrev cX3_ifFinished : ByteArray := prog_1_method_16_code
def yX3_ifFinished : MethodName := ⟨RX3, "ifFinished", "(II)I"⟩
abbrev cX3_bestLimit : ByteArray := prog_1_method_17_code
def yX3_bestLimit : MethodName := ⟨RX3, "bestLimit", "(II)I"⟩
abbrev cX3_coinsBehind : ByteArray := prog_1_method_18_code
def yX3_coinsBehind : MethodName := ⟨RX3, "coinsBehind", "(II)I"⟩
abbrev cX3_richest : ByteArray := prog_1_method_19_code
def yX3_richest : MethodName := ⟨RX3, "richest", "(I)I"⟩
abbrev cX3_movesLeft : ByteArray := prog_1_method_20_code
def yX3_movesLeft : MethodName := ⟨RX3, "movesLeft", "()I"⟩
abbrev cX3_put : ByteArray := prog_1_method_21_code
def yX3_put : MethodName := ⟨RX3, "put", "(J)I"⟩
abbrev cX3_wipe : ByteArray := prog_1_method_22_code
def yX3_wipe : MethodName := ⟨RX3, "wipe", "()I"⟩
abbrev cX3_fault : ByteArray := prog_1_method_23_code
def yX3_fault : MethodName := ⟨RX3, "fault", "()I"⟩
abbrev cX3_undo : ByteArray := prog_1_method_24_code
def yX3_undo : MethodName := ⟨RX3, "undo", "()I"⟩
abbrev cX3_save : ByteArray := prog_1_method_25_code
def yX3_save : MethodName := ⟨RX3, "save", "(I)I"⟩
abbrev cX3_restore : ByteArray := prog_1_method_26_code
def yX3_restore : MethodName := ⟨RX3, "restore", "(I)I"⟩
abbrev cX3_isPlayer : ByteArray := prog_1_method_27_code
def yX3_isPlayer : MethodName := ⟨RX3, "isPlayer", "(I)Z"⟩
abbrev cX3_isPrize : ByteArray := prog_1_method_28_code
def yX3_isPrize : MethodName := ⟨RX3, "isPrize", "(I)Z"⟩
abbrev cX3_sum : ByteArray := prog_1_method_29_code
def yX3_sum : MethodName := ⟨RX3, "sum", "([I)I"⟩
abbrev cX3_tryRounds : ByteArray := prog_1_method_30_code
def yX3_tryRounds : MethodName := ⟨RX3, "tryRounds", "(I)V"⟩
abbrev cX3_doMove : ByteArray := prog_1_method_31_code
def yX3_doMove : MethodName := ⟨RX3, "doMove", "(CI)I"⟩
def RX4 : String := "TurnBidsModel"
def TX4 : u_T := fun k => match k with
  | 0 => ("TurnBidsModel", "z", "[I", true)
  | 1 => ("TurnBidsModel", "spare", "[I", true)
  | 2 => ("TurnBidsModel", "past", "[I", true)
  | 3 => ("TurnBidsModel", "states", "I", false)
  | 4 => ("TurnBidsModel", "slots", "[I", true)
  | 5 => ("TurnBidsModel", "isSaved", "[Z", true)
  | 6 => ("TurnBidsModel", "pad", "[I", true)
  | 7 => ("TurnBidsModel", "typed", "I", false)
  | 8 => ("TurnBidsModel", "spot", "I", false)
  | 9 => ("TurnBidsModel", "told", "[I", true)
  | _ => ("TurnBidsModel", "toldMany", "I", false)
def tyX4 : Nat → FieldType := fun k => match k with
  | 0 => .array .int
  | 1 => .array .int
  | 2 => .array .int
  | 3 => .int
  | 4 => .array .int
  | 5 => .array .boolean
  | 6 => .array .int
  | 7 => .int
  | 8 => .int
  | 9 => .array .int
  | _ => .int
abbrev wsX40 : List Cond := u_ws RX4 TX4 11
theorem nmX4 : ∀ a, a < 11 → ∀ b, b < 11 → a ≠ b → (TX4 a).2.1 ≠ (TX4 b).2.1 := by decide +kernel
theorem tyX4_ok : ∀ k, k < 11 → parseFieldDescriptor (TX4 k).2.2.1 = some (tyX4 k) := by decide +kernel
abbrev cX4_init : ByteArray := prog_6_method_1_code
def yX4_init : MethodName := ⟨RX4, "<init>", "()V"⟩
abbrev cX4_in : ByteArray := prog_6_method_2_code
def yX4_in : MethodName := ⟨RX4, "in", "(III)Z"⟩
abbrev cX4_isPlayer : ByteArray := prog_6_method_3_code
def yX4_isPlayer : MethodName := ⟨RX4, "isPlayer", "(I)Z"⟩
abbrev cX4_sum : ByteArray := prog_6_method_4_code
def yX4_sum : MethodName := ⟨RX4, "sum", "(I)I"⟩
abbrev cX4_playerAt : ByteArray := prog_6_method_5_code
def yX4_playerAt : MethodName := ⟨RX4, "playerAt", "(I)I"⟩
abbrev cX4_clearAuction : ByteArray := prog_6_method_6_code
def yX4_clearAuction : MethodName := ⟨RX4, "clearAuction", "()V"⟩
abbrev cX4_copyState : ByteArray := prog_6_method_7_code
def yX4_copyState : MethodName := ⟨RX4, "copyState", "([II[II)V"⟩
abbrev cX4_record : ByteArray := prog_6_method_8_code
def yX4_record : MethodName := ⟨RX4, "record", "()V"⟩
abbrev cX4_undo : ByteArray := prog_6_method_9_code
def yX4_undo : MethodName := ⟨RX4, "undo", "()I"⟩
abbrev cX4_save : ByteArray := prog_6_method_10_code
def yX4_save : MethodName := ⟨RX4, "save", "(I)I"⟩
abbrev cX4_restore : ByteArray := prog_6_method_11_code
def yX4_restore : MethodName := ⟨RX4, "restore", "(I)I"⟩
abbrev cX4_isValue : ByteArray := prog_6_method_12_code
def yX4_isValue : MethodName := ⟨RX4, "isValue", "(II)Z"⟩
abbrev cX4_change : ByteArray := prog_6_method_13_code
def yX4_change : MethodName := ⟨RX4, "change", "(II)I"⟩
abbrev cX4_set : ByteArray := prog_6_method_14_code
def yX4_set : MethodName := ⟨RX4, "set", "(II)I"⟩
abbrev cX4_coins : ByteArray := prog_6_method_15_code
def yX4_coins : MethodName := ⟨RX4, "coins", "(II)I"⟩
abbrev cX4_limit : ByteArray := prog_6_method_16_code
def yX4_limit : MethodName := ⟨RX4, "limit", "(II)I"⟩
abbrev cX4_prize : ByteArray := prog_6_method_17_code
def yX4_prize : MethodName := ⟨RX4, "prize", "(II)I"⟩
abbrev cX4_least : ByteArray := prog_6_method_18_code
def yX4_least : MethodName := ⟨RX4, "least", "()I"⟩
abbrev cX4_beginNow : ByteArray := prog_6_method_19_code
def yX4_beginNow : MethodName := ⟨RX4, "beginNow", "()V"⟩
abbrev cX4_pass : ByteArray := prog_6_method_20_code
def yX4_pass : MethodName := ⟨RX4, "pass", "()V"⟩
abbrev cX4_pay : ByteArray := prog_6_method_21_code
def yX4_pay : MethodName := ⟨RX4, "pay", "(II)V"⟩
abbrev cX4_canBid : ByteArray := prog_6_method_22_code
def yX4_canBid : MethodName := ⟨RX4, "canBid", "(I)Z"⟩
abbrev cX4_bidNow : ByteArray := prog_6_method_23_code
def yX4_bidNow : MethodName := ⟨RX4, "bidNow", "(I)V"⟩
abbrev cX4_left : ByteArray := prog_6_method_24_code
def yX4_left : MethodName := ⟨RX4, "left", "()I"⟩
abbrev cX4_prizeAt : ByteArray := prog_6_method_25_code
def yX4_prizeAt : MethodName := ⟨RX4, "prizeAt", "(I)I"⟩
abbrev cX4_dropNow : ByteArray := prog_6_method_26_code
def yX4_dropNow : MethodName := ⟨RX4, "dropNow", "()V"⟩
abbrev cX4_endNow : ByteArray := prog_6_method_27_code
def yX4_endNow : MethodName := ⟨RX4, "endNow", "(I)V"⟩
abbrev cX4_actNow : ByteArray := prog_6_method_28_code
def yX4_actNow : MethodName := ⟨RX4, "actNow", "()V"⟩
abbrev cX4_finishNow : ByteArray := prog_6_method_29_code
def yX4_finishNow : MethodName := ⟨RX4, "finishNow", "()I"⟩
abbrev cX4_begin : ByteArray := prog_6_method_30_code
def yX4_begin : MethodName := ⟨RX4, "begin", "()I"⟩
abbrev cX4_mayBid : ByteArray := prog_6_method_31_code
def yX4_mayBid : MethodName := ⟨RX4, "mayBid", "(I)Z"⟩
abbrev cX4_bid : ByteArray := prog_6_method_32_code
def yX4_bid : MethodName := ⟨RX4, "bid", "(I)I"⟩
abbrev cX4_drop : ByteArray := prog_6_method_33_code
def yX4_drop : MethodName := ⟨RX4, "drop", "()I"⟩
abbrev cX4_act : ByteArray := prog_6_method_34_code
def yX4_act : MethodName := ⟨RX4, "act", "()I"⟩
abbrev cX4_finish : ByteArray := prog_6_method_35_code
def yX4_finish : MethodName := ⟨RX4, "finish", "()I"⟩
abbrev cX4_put : ByteArray := prog_6_method_36_code
def yX4_put : MethodName := ⟨RX4, "put", "(J)I"⟩
abbrev cX4_wipe : ByteArray := prog_6_method_37_code
def yX4_wipe : MethodName := ⟨RX4, "wipe", "()I"⟩
abbrev cX4_sees : ByteArray := prog_6_method_38_code
def yX4_sees : MethodName := ⟨RX4, "sees", "(II)Z"⟩
abbrev cX4_takes : ByteArray := prog_6_method_39_code
def yX4_takes : MethodName := ⟨RX4, "takes", "(I)Z"⟩
abbrev cX4_readMove : ByteArray := prog_6_method_40_code
def yX4_readMove : MethodName := ⟨RX4, "readMove", "()Z"⟩
abbrev cX4_readPad : ByteArray := prog_6_method_41_code
def yX4_readPad : MethodName := ⟨RX4, "readPad", "()Z"⟩
abbrev cX4_fault : ByteArray := prog_6_method_42_code
def yX4_fault : MethodName := ⟨RX4, "fault", "()I"⟩
abbrev cX4_can : ByteArray := prog_6_method_43_code
def yX4_can : MethodName := ⟨RX4, "can", "(I)Z"⟩
abbrev cX4_doMove : ByteArray := prog_6_method_44_code
def yX4_doMove : MethodName := ⟨RX4, "doMove", "(I)V"⟩
abbrev cX4_run : ByteArray := prog_6_method_45_code
def yX4_run : MethodName := ⟨RX4, "run", "()I"⟩
abbrev cX4_player : ByteArray := prog_6_method_46_code
def yX4_player : MethodName := ⟨RX4, "player", "(II)I"⟩
abbrev cX4_at : ByteArray := prog_6_method_47_code
def yX4_at : MethodName := ⟨RX4, "at", "(I)I"⟩
abbrev cX4_leftSet : ByteArray := prog_6_method_48_code
def yX4_leftSet : MethodName := ⟨RX4, "leftSet", "()I"⟩
abbrev cX4_count : ByteArray := prog_6_method_49_code
def yX4_count : MethodName := ⟨RX4, "count", "(I)I"⟩
abbrev cX4_prizeOf : ByteArray := prog_6_method_50_code
def yX4_prizeOf : MethodName := ⟨RX4, "prizeOf", "(I)I"⟩
abbrev cX4_ifFinished : ByteArray := prog_6_method_51_code
def yX4_ifFinished : MethodName := ⟨RX4, "ifFinished", "(II)I"⟩
abbrev cX4_bestLimit : ByteArray := prog_6_method_52_code
def yX4_bestLimit : MethodName := ⟨RX4, "bestLimit", "(II)I"⟩
abbrev cX4_play : ByteArray := prog_6_method_53_code
def yX4_play : MethodName := ⟨RX4, "play", "(I)V"⟩
abbrev cX4_coinsBehind : ByteArray := prog_6_method_54_code
def yX4_coinsBehind : MethodName := ⟨RX4, "coinsBehind", "(II)I"⟩
abbrev cX4_richest : ByteArray := prog_6_method_55_code
def yX4_richest : MethodName := ⟨RX4, "richest", "(I)I"⟩
abbrev cX4_movesLeft : ByteArray := prog_6_method_56_code
def yX4_movesLeft : MethodName := ⟨RX4, "movesLeft", "()I"⟩
def RJ6 : String := "java/lang/Integer"
def TJ6 : u_T := fun k => match k with
  | _ => ("", "", "", false)
def tyJ6 : Nat → FieldType := fun k => match k with
  | _ => .int
abbrev wsJ60 : List Cond := u_ws RJ6 TJ6 0
theorem nmJ6 : ∀ a, a < 0 → ∀ b, b < 0 → a ≠ b → (TJ6 a).2.1 ≠ (TJ6 b).2.1 := by decide +kernel
theorem tyJ6_ok : ∀ k, k < 0 → parseFieldDescriptor (TJ6 k).2.2.1 = some (tyJ6 k) := by decide +kernel
abbrev cJ6_bitCount_0f7a4 : ByteArray := prog_7_method_49_code
def yJ6_bitCount_0f7a4 : MethodName := ⟨RJ6, "bitCount", "(I)I"⟩
def RJ9 : String := "java/lang/Math"
def TJ9 : u_T := fun k => match k with
  | _ => ("", "", "", false)
def tyJ9 : Nat → FieldType := fun k => match k with
  | _ => .int
abbrev wsJ90 : List Cond := u_ws RJ9 TJ9 0
theorem nmJ9 : ∀ a, a < 0 → ∀ b, b < 0 → a ≠ b → (TJ9 a).2.1 ≠ (TJ9 b).2.1 := by decide +kernel
theorem tyJ9_ok : ∀ k, k < 0 → parseFieldDescriptor (TJ9 k).2.2.1 = some (tyJ9 k) := by decide +kernel
abbrev cJ9_floorMod_7cf53 : ByteArray := prog_8_method_50_code
def yJ9_floorMod_7cf53 : MethodName := ⟨RJ9, "floorMod", "(II)I"⟩
abbrev cJ9_max_7cf53 : ByteArray := prog_8_method_65_code
def yJ9_max_7cf53 : MethodName := ⟨RJ9, "max", "(II)I"⟩
abbrev cJ9_min_7cf53 : ByteArray := prog_8_method_69_code
def yJ9_min_7cf53 : MethodName := ⟨RJ9, "min", "(II)I"⟩
def RJ10 : String := "java/lang/System"
def TJ10 : u_T := fun k => match k with
  | _ => ("", "", "", false)
def tyJ10 : Nat → FieldType := fun k => match k with
  | _ => .int
abbrev wsJ100 : List Cond := u_ws RJ10 TJ10 0
theorem nmJ10 : ∀ a, a < 0 → ∀ b, b < 0 → a ≠ b → (TJ10 a).2.1 ≠ (TJ10 b).2.1 := by decide +kernel
theorem tyJ10_ok : ∀ k, k < 0 → parseFieldDescriptor (TJ10 k).2.2.1 = some (tyJ10 k) := by decide +kernel
def RL : String := "TurnBidsLaw"
abbrev cL_law : ByteArray := code
def yL_law : MethodName := ⟨RL, "law", "([I)Z"⟩
def wsX0_init : List Cond := .code yX0_init cX0_init 1 none :: ([.methodLink RX0 3 objectInit, .instanceMethod objectInit, .code objectInit ⟨#[0xb1]⟩ 1 none, .classLink RX0 9 RX2, .fieldLink RX0 11 "TurnBids$History" "states" "[LTurnBids$Table;", .fieldLink RX0 17 "TurnBids$History" "next" "I", .fieldLink RX0 21 "TurnBids$History" "length" "I"] ++ wsX00)
def wsJ9_floorMod_7cf53 : List Cond := .code yJ9_floorMod_7cf53 cJ9_floorMod_7cf53 3 (some .int) :: ([])
def wsX2_init : List Cond := .code yX2_init cX2_init 1 none :: ([.methodLink RX2 3 objectInit, .instanceMethod objectInit, .code objectInit ⟨#[0xb1]⟩ 1 none, .arrayClass .int, .fieldLink RX2 9 "TurnBids$Table" "settings" "[I", .fieldLink RX2 15 "TurnBids$Table" "prizes" "[I", .fieldLink RX2 18 "TurnBids$Table" "coins" "[I", .fieldLink RX2 21 "TurnBids$Table" "limits" "[I", .fieldLink RX2 24 "TurnBids$Table" "places" "[I", .constant RX2 27 (-100006), .fieldLink RX2 28 "TurnBids$Table" "bids" "[I", .fieldLink RX2 31 "TurnBids$Table" "placesGot" "[I", .fieldLink RX2 34 "TurnBids$Table" "paid" "[I", .fieldLink RX2 37 "TurnBids$Table" "taken" "[I", .fieldLink RX2 40 "TurnBids$Table" "won" "[I", .fieldLink RX2 43 "TurnBids$Table" "underWay" "Z", .fieldLink RX2 47 "TurnBids$Table" "turn" "I", .fieldLink RX2 51 "TurnBids$Table" "rounds" "I"] ++ wsX20)
def wsX2_copyFrom : List Cond := .code yX2_copyFrom cX2_copyFrom 2 none :: ([.fieldLink RX2 9 "TurnBids$Table" "settings" "[I", .methodLink RX2 54 arraycopyName, .native arraycopyName, .static arraycopyName, .initialized "java/lang/System", .fieldLink RX2 15 "TurnBids$Table" "prizes" "[I", .fieldLink RX2 18 "TurnBids$Table" "coins" "[I", .fieldLink RX2 21 "TurnBids$Table" "limits" "[I", .fieldLink RX2 24 "TurnBids$Table" "places" "[I", .fieldLink RX2 28 "TurnBids$Table" "bids" "[I", .fieldLink RX2 31 "TurnBids$Table" "placesGot" "[I", .fieldLink RX2 34 "TurnBids$Table" "paid" "[I", .fieldLink RX2 37 "TurnBids$Table" "taken" "[I", .fieldLink RX2 40 "TurnBids$Table" "won" "[I", .fieldLink RX2 43 "TurnBids$Table" "underWay" "Z", .fieldLink RX2 47 "TurnBids$Table" "turn" "I", .fieldLink RX2 51 "TurnBids$Table" "rounds" "I"] ++ wsX20)
def wsX0_keep_r1 : List Cond := [Cond.fieldLink RX0 17 "TurnBids$History" "next" "I", Cond.fieldLink RX0 11 "TurnBids$History" "states" "[LTurnBids$Table;", Cond.classLink RX0 9 RX2, Cond.instantiable RX2 13, Cond.initialized RX2, Cond.fieldLink RX0 21 "TurnBids$History" "length" "I", Cond.methodLink RX0 35 Lib.Math.min.name, Cond.static Lib.Math.min.name, Cond.initialized "java/lang/Math", Cond.code Lib.Math.min.name Lib.Math.min.code 2 (some .int), Cond.methodLink RX0 24 yJ9_floorMod_7cf53, Cond.static yJ9_floorMod_7cf53, Cond.initialized RJ9, Cond.code yJ9_floorMod_7cf53 cJ9_floorMod_7cf53 3 (some .int), Cond.instanceMethod yX2_init, Cond.code yX2_init cX2_init 1 none, Cond.methodLink RX2 3 objectInit, Cond.instanceMethod objectInit, Cond.code objectInit ⟨#[0xb1]⟩ 1 none, Cond.arrayClass .int, Cond.fieldLink RX2 9 "TurnBids$Table" "settings" "[I", Cond.fieldLink RX2 15 "TurnBids$Table" "prizes" "[I", Cond.fieldLink RX2 18 "TurnBids$Table" "coins" "[I", Cond.fieldLink RX2 21 "TurnBids$Table" "limits" "[I"]
def wsX0_keep_r2 : List Cond := [Cond.fieldLink RX2 24 "TurnBids$Table" "places" "[I", Cond.constant RX2 27 (-100006), Cond.fieldLink RX2 28 "TurnBids$Table" "bids" "[I", Cond.fieldLink RX2 31 "TurnBids$Table" "placesGot" "[I", Cond.fieldLink RX2 34 "TurnBids$Table" "paid" "[I", Cond.fieldLink RX2 37 "TurnBids$Table" "taken" "[I", Cond.fieldLink RX2 40 "TurnBids$Table" "won" "[I", Cond.fieldLink RX2 43 "TurnBids$Table" "underWay" "Z", Cond.fieldLink RX2 47 "TurnBids$Table" "turn" "I", Cond.fieldLink RX2 51 "TurnBids$Table" "rounds" "I", Cond.methodLink RX0 31 yX2_copyFrom, Cond.instanceMethod yX2_copyFrom, Cond.selects RX2 yX2_copyFrom yX2_copyFrom, Cond.code yX2_copyFrom cX2_copyFrom 2 none, Cond.methodLink RX2 54 arraycopyName, Cond.native arraycopyName, Cond.static arraycopyName, Cond.initialized "java/lang/System"]
def wsX0_keep : List Cond := .code yX0_keep cX0_keep 4 none :: ((wsX0_keep_r1 ++ wsX0_keep_r2) ++ wsX00 ++ wsX20)
def wsX0_takeBack_r1 : List Cond := [Cond.fieldLink RX0 11 "TurnBids$History" "states" "[LTurnBids$Table;", Cond.fieldLink RX0 17 "TurnBids$History" "next" "I", Cond.fieldLink RX0 21 "TurnBids$History" "length" "I", Cond.methodLink RX0 24 yJ9_floorMod_7cf53, Cond.static yJ9_floorMod_7cf53, Cond.initialized RJ9, Cond.code yJ9_floorMod_7cf53 cJ9_floorMod_7cf53 3 (some .int), Cond.methodLink RX0 31 yX2_copyFrom, Cond.instanceMethod yX2_copyFrom, Cond.selects RX2 yX2_copyFrom yX2_copyFrom, Cond.initialized RX2, Cond.code yX2_copyFrom cX2_copyFrom 2 none, Cond.fieldLink RX2 9 "TurnBids$Table" "settings" "[I", Cond.methodLink RX2 54 arraycopyName, Cond.native arraycopyName, Cond.static arraycopyName, Cond.initialized "java/lang/System", Cond.fieldLink RX2 15 "TurnBids$Table" "prizes" "[I", Cond.fieldLink RX2 18 "TurnBids$Table" "coins" "[I", Cond.fieldLink RX2 21 "TurnBids$Table" "limits" "[I", Cond.fieldLink RX2 24 "TurnBids$Table" "places" "[I", Cond.fieldLink RX2 28 "TurnBids$Table" "bids" "[I", Cond.fieldLink RX2 31 "TurnBids$Table" "placesGot" "[I", Cond.fieldLink RX2 34 "TurnBids$Table" "paid" "[I"]
def wsX0_takeBack_r2 : List Cond := [Cond.fieldLink RX2 37 "TurnBids$Table" "taken" "[I", Cond.fieldLink RX2 40 "TurnBids$Table" "won" "[I", Cond.fieldLink RX2 43 "TurnBids$Table" "underWay" "Z", Cond.fieldLink RX2 47 "TurnBids$Table" "turn" "I", Cond.fieldLink RX2 51 "TurnBids$Table" "rounds" "I"]
def wsX0_takeBack : List Cond := .code yX0_takeBack cX0_takeBack 3 none :: ((wsX0_takeBack_r1 ++ wsX0_takeBack_r2) ++ wsX00 ++ wsX20)
def wsX1_init : List Cond := .code yX1_init cX1_init 1 none :: ([.methodLink RX1 3 objectInit, .instanceMethod objectInit, .code objectInit ⟨#[0xb1]⟩ 1 none, .arrayClass .char, .fieldLink RX1 9 "TurnBids$Pad" "signs" "[C", .fieldLink RX1 15 "TurnBids$Pad" "length" "I"] ++ wsX10)
def wsX1_isDigit : List Cond := .code yX1_isDigit cX1_isDigit 1 (some .boolean) :: ([])
def wsX1_signsIn : List Cond := .code yX1_signsIn cX1_signsIn 7 (some .int) :: ([.constantLong RX1 19 (255), .constantLong RX1 21 (33), .constantLong RX1 23 (126)])
def wsX1_append : List Cond := .code yX1_append cX1_append 7 none :: ([.fieldLink RX1 15 "TurnBids$Pad" "length" "I", .fieldLink RX1 9 "TurnBids$Pad" "signs" "[C", .constantLong RX1 19 (255)] ++ wsX10)
def wsX1_signAt : List Cond := .code yX1_signAt cX1_signAt 2 (some .char) :: ([.fieldLink RX1 9 "TurnBids$Pad" "signs" "[C"] ++ wsX10)
def wsX1_dueBehind : List Cond := .code yX1_dueBehind cX1_dueBehind 2 (some .int) :: ([.methodLink RX1 34 yX1_isDigit, .static yX1_isDigit, .initialized RX1, .code yX1_isDigit cX1_isDigit 1 (some .boolean)])
def wsX1_faultIndex : List Cond := .code yX1_faultIndex cX1_faultIndex 3 (some .int) :: ([.fieldLink RX1 15 "TurnBids$Pad" "length" "I", .constant RX1 33 (-100006), .methodLink RX1 25 yX1_signAt, .instanceMethod yX1_signAt, .selects RX1 yX1_signAt yX1_signAt, .initialized RX1, .code yX1_signAt cX1_signAt 2 (some .char), .fieldLink RX1 9 "TurnBids$Pad" "signs" "[C", .methodLink RX1 29 yX1_dueBehind, .static yX1_dueBehind, .code yX1_dueBehind cX1_dueBehind 2 (some .int), .methodLink RX1 34 yX1_isDigit, .static yX1_isDigit, .code yX1_isDigit cX1_isDigit 1 (some .boolean)] ++ wsX10)
def wsX2_playerAt : List Cond := .code yX2_playerAt cX2_playerAt 3 (some .int) :: ([.fieldLink RX2 24 "TurnBids$Table" "places" "[I", .constant RX2 27 (-100006)] ++ wsX20)
def wsX2_playersLeft : List Cond := .code yX2_playersLeft cX2_playersLeft 3 (some .int) :: ([.fieldLink RX2 43 "TurnBids$Table" "underWay" "Z", .fieldLink RX2 31 "TurnBids$Table" "placesGot" "[I", .constant RX2 27 (-100006)] ++ wsX20)
def wsX2_highestBid : List Cond := .code yX2_highestBid cX2_highestBid 6 (some .int) :: ([.constant RX2 27 (-100006), .fieldLink RX2 28 "TurnBids$Table" "bids" "[I"] ++ wsX20)
def wsX2_leastBid : List Cond := .code yX2_leastBid cX2_leastBid 2 (some .int) :: ([.fieldLink RX2 43 "TurnBids$Table" "underWay" "Z", .constant RX2 27 (-100006), .fieldLink RX2 9 "TurnBids$Table" "settings" "[I", .methodLink RX2 60 yX2_highestBid, .instanceMethod yX2_highestBid, .selects RX2 yX2_highestBid yX2_highestBid, .initialized RX2, .code yX2_highestBid cX2_highestBid 6 (some .int), .fieldLink RX2 28 "TurnBids$Table" "bids" "[I"] ++ wsX20)
def wsX3_isPlayer : List Cond := .code yX3_isPlayer cX3_isPlayer 1 (some .boolean) :: ([])
def wsX2_hasToCover : List Cond := .code yX2_hasToCover cX2_hasToCover 2 (some .int) :: ([.fieldLink RX2 31 "TurnBids$Table" "placesGot" "[I", .constant RX2 27 (-100006), .fieldLink RX2 28 "TurnBids$Table" "bids" "[I", .methodLink RX2 68 Lib.Math.max.name, .static Lib.Math.max.name, .initialized "java/lang/Math", .code Lib.Math.max.name Lib.Math.max.code 2 (some .int), .static yX3_isPlayer, .initialized RX3, .code yX3_isPlayer cX3_isPlayer 1 (some .boolean)] ++ wsX20)
def wsX2_mayBid : List Cond := .code yX2_mayBid cX2_mayBid 2 (some .boolean) :: ([.fieldLink RX2 43 "TurnBids$Table" "underWay" "Z", .fieldLink RX2 47 "TurnBids$Table" "turn" "I", .fieldLink RX2 18 "TurnBids$Table" "coins" "[I", .static yX3_isPlayer, .initialized RX3, .code yX3_isPlayer cX3_isPlayer 1 (some .boolean), .methodLink RX2 74 yX2_leastBid, .instanceMethod yX2_leastBid, .selects RX2 yX2_leastBid yX2_leastBid, .initialized RX2, .code yX2_leastBid cX2_leastBid 2 (some .int), .constant RX2 27 (-100006), .fieldLink RX2 9 "TurnBids$Table" "settings" "[I", .methodLink RX2 60 yX2_highestBid, .instanceMethod yX2_highestBid, .selects RX2 yX2_highestBid yX2_highestBid, .code yX2_highestBid cX2_highestBid 6 (some .int), .fieldLink RX2 28 "TurnBids$Table" "bids" "[I"] ++ wsX20)
def wsX2_start : List Cond := .code yX2_start cX2_start 1 (some .int) :: ([.fieldLink RX2 43 "TurnBids$Table" "underWay" "Z", .fieldLink RX2 47 "TurnBids$Table" "turn" "I", .methodLink RX2 77 yX2_playerAt, .instanceMethod yX2_playerAt, .selects RX2 yX2_playerAt yX2_playerAt, .initialized RX2, .code yX2_playerAt cX2_playerAt 3 (some .int), .fieldLink RX2 24 "TurnBids$Table" "places" "[I", .constant RX2 27 (-100006)] ++ wsX20)
def wsX2_passTurn : List Cond := .code yX2_passTurn cX2_passTurn 4 none :: ([.fieldLink RX2 47 "TurnBids$Table" "turn" "I", .fieldLink RX2 24 "TurnBids$Table" "places" "[I", .fieldLink RX2 31 "TurnBids$Table" "placesGot" "[I", .constant RX2 27 (-100006), .static yX3_isPlayer, .initialized RX3, .code yX3_isPlayer cX3_isPlayer 1 (some .boolean), .methodLink RX2 77 yX2_playerAt, .instanceMethod yX2_playerAt, .selects RX2 yX2_playerAt yX2_playerAt, .initialized RX2, .code yX2_playerAt cX2_playerAt 3 (some .int)] ++ wsX20)
def wsX2_takeBid : List Cond := .code yX2_takeBid cX2_takeBid 2 (some .int) :: ([.fieldLink RX2 47 "TurnBids$Table" "turn" "I", .fieldLink RX2 28 "TurnBids$Table" "bids" "[I", .static yX3_isPlayer, .initialized RX3, .code yX3_isPlayer cX3_isPlayer 1 (some .boolean), .methodLink RX2 81 yX2_passTurn, .instanceMethod yX2_passTurn, .selects RX2 yX2_passTurn yX2_passTurn, .initialized RX2, .code yX2_passTurn cX2_passTurn 4 none, .fieldLink RX2 24 "TurnBids$Table" "places" "[I", .fieldLink RX2 31 "TurnBids$Table" "placesGot" "[I", .constant RX2 27 (-100006), .methodLink RX2 77 yX2_playerAt, .instanceMethod yX2_playerAt, .selects RX2 yX2_playerAt yX2_playerAt, .code yX2_playerAt cX2_playerAt 3 (some .int)] ++ wsX20)
def wsJ6_bitCount_0f7a4 : List Cond := .code yJ6_bitCount_0f7a4 cJ6_bitCount_0f7a4 1 (some .int) :: ([.constant RJ6 265 (1431655765), .constant RJ6 266 (858993459), .constant RJ6 267 (252645135)])
def wsX2_pay : List Cond := .code yX2_pay cX2_pay 5 none :: ([.fieldLink RX2 28 "TurnBids$Table" "bids" "[I", .constant RX2 27 (-100006), .fieldLink RX2 18 "TurnBids$Table" "coins" "[I", .fieldLink RX2 34 "TurnBids$Table" "paid" "[I", .static yX3_isPlayer, .initialized RX3, .code yX3_isPlayer cX3_isPlayer 1 (some .boolean)] ++ wsX20)
def wsX2_prizeFor : List Cond := .code yX2_prizeFor cX2_prizeFor 5 (some .int) :: ([.fieldLink RX2 15 "TurnBids$Table" "prizes" "[I"] ++ wsX20)
def wsX2_endAuction_r1 : List Cond := [Cond.fieldLink RX2 31 "TurnBids$Table" "placesGot" "[I", Cond.constant RX2 27 (-100006), Cond.fieldLink RX2 40 "TurnBids$Table" "won" "[I", Cond.fieldLink RX2 9 "TurnBids$Table" "settings" "[I", Cond.fieldLink RX2 24 "TurnBids$Table" "places" "[I", Cond.fieldLink RX2 18 "TurnBids$Table" "coins" "[I", Cond.methodLink RX2 117 Lib.Math.min.name, Cond.static Lib.Math.min.name, Cond.initialized "java/lang/Math", Cond.code Lib.Math.min.name Lib.Math.min.code 2 (some .int), Cond.fieldLink RX2 37 "TurnBids$Table" "taken" "[I", Cond.fieldLink RX2 28 "TurnBids$Table" "bids" "[I", Cond.fieldLink RX2 43 "TurnBids$Table" "underWay" "Z", Cond.fieldLink RX2 47 "TurnBids$Table" "turn" "I", Cond.fieldLink RX2 51 "TurnBids$Table" "rounds" "I", Cond.methodLink RX2 92 yX2_pay, Cond.instanceMethod yX2_pay, Cond.selects RX2 yX2_pay yX2_pay, Cond.initialized RX2, Cond.code yX2_pay cX2_pay 5 none, Cond.fieldLink RX2 34 "TurnBids$Table" "paid" "[I", Cond.static yX3_isPlayer, Cond.initialized RX3, Cond.code yX3_isPlayer cX3_isPlayer 1 (some .boolean)]
def wsX2_endAuction_r2 : List Cond := [Cond.methodLink RX2 114 yX2_prizeFor, Cond.instanceMethod yX2_prizeFor, Cond.selects RX2 yX2_prizeFor yX2_prizeFor, Cond.code yX2_prizeFor cX2_prizeFor 5 (some .int), Cond.fieldLink RX2 15 "TurnBids$Table" "prizes" "[I"]
def wsX2_endAuction : List Cond := .code yX2_endAuction cX2_endAuction 3 none :: ((wsX2_endAuction_r1 ++ wsX2_endAuction_r2) ++ wsX20)
def wsX2_dropOut_r1 : List Cond := [Cond.fieldLink RX2 47 "TurnBids$Table" "turn" "I", Cond.constant RX2 27 (-100006), Cond.fieldLink RX2 31 "TurnBids$Table" "placesGot" "[I", Cond.fieldLink RX2 9 "TurnBids$Table" "settings" "[I", Cond.static yX3_isPlayer, Cond.initialized RX3, Cond.code yX3_isPlayer cX3_isPlayer 1 (some .boolean), Cond.methodLink RX2 84 yX2_playersLeft, Cond.instanceMethod yX2_playersLeft, Cond.selects RX2 yX2_playersLeft yX2_playersLeft, Cond.initialized RX2, Cond.code yX2_playersLeft cX2_playersLeft 3 (some .int), Cond.fieldLink RX2 43 "TurnBids$Table" "underWay" "Z", Cond.methodLink RX2 87 yJ6_bitCount_0f7a4, Cond.static yJ6_bitCount_0f7a4, Cond.initialized RJ6, Cond.code yJ6_bitCount_0f7a4 cJ6_bitCount_0f7a4 1 (some .int), Cond.constant RJ6 265 (1431655765), Cond.constant RJ6 266 (858993459), Cond.constant RJ6 267 (252645135), Cond.methodLink RX2 92 yX2_pay, Cond.instanceMethod yX2_pay, Cond.selects RX2 yX2_pay yX2_pay, Cond.code yX2_pay cX2_pay 5 none]
def wsX2_dropOut_r2 : List Cond := [Cond.fieldLink RX2 28 "TurnBids$Table" "bids" "[I", Cond.fieldLink RX2 18 "TurnBids$Table" "coins" "[I", Cond.fieldLink RX2 34 "TurnBids$Table" "paid" "[I", Cond.methodLink RX2 96 yX2_endAuction, Cond.instanceMethod yX2_endAuction, Cond.selects RX2 yX2_endAuction yX2_endAuction, Cond.code yX2_endAuction cX2_endAuction 3 none, Cond.fieldLink RX2 40 "TurnBids$Table" "won" "[I", Cond.fieldLink RX2 24 "TurnBids$Table" "places" "[I", Cond.methodLink RX2 117 Lib.Math.min.name, Cond.static Lib.Math.min.name, Cond.initialized "java/lang/Math", Cond.code Lib.Math.min.name Lib.Math.min.code 2 (some .int), Cond.fieldLink RX2 37 "TurnBids$Table" "taken" "[I", Cond.fieldLink RX2 51 "TurnBids$Table" "rounds" "I", Cond.methodLink RX2 114 yX2_prizeFor, Cond.instanceMethod yX2_prizeFor, Cond.selects RX2 yX2_prizeFor yX2_prizeFor, Cond.code yX2_prizeFor cX2_prizeFor 5 (some .int), Cond.fieldLink RX2 15 "TurnBids$Table" "prizes" "[I", Cond.methodLink RX2 81 yX2_passTurn, Cond.instanceMethod yX2_passTurn, Cond.selects RX2 yX2_passTurn yX2_passTurn, Cond.code yX2_passTurn cX2_passTurn 4 none]
def wsX2_dropOut_r3 : List Cond := [Cond.methodLink RX2 77 yX2_playerAt, Cond.instanceMethod yX2_playerAt, Cond.selects RX2 yX2_playerAt yX2_playerAt, Cond.code yX2_playerAt cX2_playerAt 3 (some .int)]
def wsX2_dropOut : List Cond := .code yX2_dropOut cX2_dropOut 2 (some .int) :: ((wsX2_dropOut_r1 ++ (wsX2_dropOut_r2 ++ wsX2_dropOut_r3)) ++ wsX20)
def wsX2_actByLimit_r1 : List Cond := [Cond.fieldLink RX2 47 "TurnBids$Table" "turn" "I", Cond.fieldLink RX2 21 "TurnBids$Table" "limits" "[I", Cond.methodLink RX2 74 yX2_leastBid, Cond.instanceMethod yX2_leastBid, Cond.selects RX2 yX2_leastBid yX2_leastBid, Cond.initialized RX2, Cond.code yX2_leastBid cX2_leastBid 2 (some .int), Cond.fieldLink RX2 43 "TurnBids$Table" "underWay" "Z", Cond.constant RX2 27 (-100006), Cond.fieldLink RX2 9 "TurnBids$Table" "settings" "[I", Cond.methodLink RX2 60 yX2_highestBid, Cond.instanceMethod yX2_highestBid, Cond.selects RX2 yX2_highestBid yX2_highestBid, Cond.code yX2_highestBid cX2_highestBid 6 (some .int), Cond.fieldLink RX2 28 "TurnBids$Table" "bids" "[I", Cond.static yX3_isPlayer, Cond.initialized RX3, Cond.code yX3_isPlayer cX3_isPlayer 1 (some .boolean), Cond.methodLink RX2 99 yX2_mayBid, Cond.instanceMethod yX2_mayBid, Cond.selects RX2 yX2_mayBid yX2_mayBid, Cond.code yX2_mayBid cX2_mayBid 2 (some .boolean), Cond.fieldLink RX2 18 "TurnBids$Table" "coins" "[I", Cond.methodLink RX2 102 yX2_takeBid]
def wsX2_actByLimit_r2 : List Cond := [Cond.instanceMethod yX2_takeBid, Cond.selects RX2 yX2_takeBid yX2_takeBid, Cond.code yX2_takeBid cX2_takeBid 2 (some .int), Cond.methodLink RX2 81 yX2_passTurn, Cond.instanceMethod yX2_passTurn, Cond.selects RX2 yX2_passTurn yX2_passTurn, Cond.code yX2_passTurn cX2_passTurn 4 none, Cond.fieldLink RX2 24 "TurnBids$Table" "places" "[I", Cond.fieldLink RX2 31 "TurnBids$Table" "placesGot" "[I", Cond.methodLink RX2 77 yX2_playerAt, Cond.instanceMethod yX2_playerAt, Cond.selects RX2 yX2_playerAt yX2_playerAt, Cond.code yX2_playerAt cX2_playerAt 3 (some .int), Cond.methodLink RX2 105 yX2_dropOut, Cond.instanceMethod yX2_dropOut, Cond.selects RX2 yX2_dropOut yX2_dropOut, Cond.code yX2_dropOut cX2_dropOut 2 (some .int), Cond.methodLink RX2 84 yX2_playersLeft, Cond.instanceMethod yX2_playersLeft, Cond.selects RX2 yX2_playersLeft yX2_playersLeft, Cond.code yX2_playersLeft cX2_playersLeft 3 (some .int), Cond.methodLink RX2 87 yJ6_bitCount_0f7a4, Cond.static yJ6_bitCount_0f7a4, Cond.initialized RJ6]
def wsX2_actByLimit_r3 : List Cond := [Cond.code yJ6_bitCount_0f7a4 cJ6_bitCount_0f7a4 1 (some .int), Cond.constant RJ6 265 (1431655765), Cond.constant RJ6 266 (858993459), Cond.constant RJ6 267 (252645135), Cond.methodLink RX2 92 yX2_pay, Cond.instanceMethod yX2_pay, Cond.selects RX2 yX2_pay yX2_pay, Cond.code yX2_pay cX2_pay 5 none, Cond.fieldLink RX2 34 "TurnBids$Table" "paid" "[I", Cond.methodLink RX2 96 yX2_endAuction, Cond.instanceMethod yX2_endAuction, Cond.selects RX2 yX2_endAuction yX2_endAuction, Cond.code yX2_endAuction cX2_endAuction 3 none, Cond.fieldLink RX2 40 "TurnBids$Table" "won" "[I", Cond.methodLink RX2 117 Lib.Math.min.name, Cond.static Lib.Math.min.name, Cond.initialized "java/lang/Math", Cond.code Lib.Math.min.name Lib.Math.min.code 2 (some .int), Cond.fieldLink RX2 37 "TurnBids$Table" "taken" "[I", Cond.fieldLink RX2 51 "TurnBids$Table" "rounds" "I", Cond.methodLink RX2 114 yX2_prizeFor, Cond.instanceMethod yX2_prizeFor, Cond.selects RX2 yX2_prizeFor yX2_prizeFor, Cond.code yX2_prizeFor cX2_prizeFor 5 (some .int)]
def wsX2_actByLimit_r4 : List Cond := [Cond.fieldLink RX2 15 "TurnBids$Table" "prizes" "[I"]
def wsX2_actByLimit : List Cond := .code yX2_actByLimit cX2_actByLimit 2 (some .int) :: ((wsX2_actByLimit_r1 ++ (wsX2_actByLimit_r2 ++ (wsX2_actByLimit_r3 ++ wsX2_actByLimit_r4))) ++ wsX20)
def wsX2_playRound_r1 : List Cond := [Cond.fieldLink RX2 43 "TurnBids$Table" "underWay" "Z", Cond.methodLink RX2 108 yX2_start, Cond.instanceMethod yX2_start, Cond.selects RX2 yX2_start yX2_start, Cond.initialized RX2, Cond.code yX2_start cX2_start 1 (some .int), Cond.fieldLink RX2 47 "TurnBids$Table" "turn" "I", Cond.methodLink RX2 77 yX2_playerAt, Cond.instanceMethod yX2_playerAt, Cond.selects RX2 yX2_playerAt yX2_playerAt, Cond.code yX2_playerAt cX2_playerAt 3 (some .int), Cond.fieldLink RX2 24 "TurnBids$Table" "places" "[I", Cond.constant RX2 27 (-100006), Cond.methodLink RX2 111 yX2_actByLimit, Cond.instanceMethod yX2_actByLimit, Cond.selects RX2 yX2_actByLimit yX2_actByLimit, Cond.code yX2_actByLimit cX2_actByLimit 2 (some .int), Cond.fieldLink RX2 21 "TurnBids$Table" "limits" "[I", Cond.methodLink RX2 74 yX2_leastBid, Cond.instanceMethod yX2_leastBid, Cond.selects RX2 yX2_leastBid yX2_leastBid, Cond.code yX2_leastBid cX2_leastBid 2 (some .int), Cond.fieldLink RX2 9 "TurnBids$Table" "settings" "[I", Cond.methodLink RX2 60 yX2_highestBid]
def wsX2_playRound_r2 : List Cond := [Cond.instanceMethod yX2_highestBid, Cond.selects RX2 yX2_highestBid yX2_highestBid, Cond.code yX2_highestBid cX2_highestBid 6 (some .int), Cond.fieldLink RX2 28 "TurnBids$Table" "bids" "[I", Cond.static yX3_isPlayer, Cond.initialized RX3, Cond.code yX3_isPlayer cX3_isPlayer 1 (some .boolean), Cond.methodLink RX2 99 yX2_mayBid, Cond.instanceMethod yX2_mayBid, Cond.selects RX2 yX2_mayBid yX2_mayBid, Cond.code yX2_mayBid cX2_mayBid 2 (some .boolean), Cond.fieldLink RX2 18 "TurnBids$Table" "coins" "[I", Cond.methodLink RX2 102 yX2_takeBid, Cond.instanceMethod yX2_takeBid, Cond.selects RX2 yX2_takeBid yX2_takeBid, Cond.code yX2_takeBid cX2_takeBid 2 (some .int), Cond.methodLink RX2 81 yX2_passTurn, Cond.instanceMethod yX2_passTurn, Cond.selects RX2 yX2_passTurn yX2_passTurn, Cond.code yX2_passTurn cX2_passTurn 4 none, Cond.fieldLink RX2 31 "TurnBids$Table" "placesGot" "[I", Cond.methodLink RX2 105 yX2_dropOut, Cond.instanceMethod yX2_dropOut, Cond.selects RX2 yX2_dropOut yX2_dropOut]
def wsX2_playRound_r3 : List Cond := [Cond.code yX2_dropOut cX2_dropOut 2 (some .int), Cond.methodLink RX2 84 yX2_playersLeft, Cond.instanceMethod yX2_playersLeft, Cond.selects RX2 yX2_playersLeft yX2_playersLeft, Cond.code yX2_playersLeft cX2_playersLeft 3 (some .int), Cond.methodLink RX2 87 yJ6_bitCount_0f7a4, Cond.static yJ6_bitCount_0f7a4, Cond.initialized RJ6, Cond.code yJ6_bitCount_0f7a4 cJ6_bitCount_0f7a4 1 (some .int), Cond.constant RJ6 265 (1431655765), Cond.constant RJ6 266 (858993459), Cond.constant RJ6 267 (252645135), Cond.methodLink RX2 92 yX2_pay, Cond.instanceMethod yX2_pay, Cond.selects RX2 yX2_pay yX2_pay, Cond.code yX2_pay cX2_pay 5 none, Cond.fieldLink RX2 34 "TurnBids$Table" "paid" "[I", Cond.methodLink RX2 96 yX2_endAuction, Cond.instanceMethod yX2_endAuction, Cond.selects RX2 yX2_endAuction yX2_endAuction, Cond.code yX2_endAuction cX2_endAuction 3 none, Cond.fieldLink RX2 40 "TurnBids$Table" "won" "[I", Cond.methodLink RX2 117 Lib.Math.min.name, Cond.static Lib.Math.min.name]
def wsX2_playRound_r4 : List Cond := [Cond.initialized "java/lang/Math", Cond.code Lib.Math.min.name Lib.Math.min.code 2 (some .int), Cond.fieldLink RX2 37 "TurnBids$Table" "taken" "[I", Cond.fieldLink RX2 51 "TurnBids$Table" "rounds" "I", Cond.methodLink RX2 114 yX2_prizeFor, Cond.instanceMethod yX2_prizeFor, Cond.selects RX2 yX2_prizeFor yX2_prizeFor, Cond.code yX2_prizeFor cX2_prizeFor 5 (some .int), Cond.fieldLink RX2 15 "TurnBids$Table" "prizes" "[I"]
def wsX2_playRound : List Cond := .code yX2_playRound cX2_playRound 2 (some .int) :: ((wsX2_playRound_r1 ++ (wsX2_playRound_r2 ++ (wsX2_playRound_r3 ++ wsX2_playRound_r4))) ++ wsX20)
def wsX3_init_r1 : List Cond := [Cond.methodLink RX3 1 objectInit, Cond.instanceMethod objectInit, Cond.code objectInit ⟨#[0xb1]⟩ 1 none, Cond.classLink RX3 7 RX2, Cond.instantiable RX2 13, Cond.initialized RX2, Cond.fieldLink RX3 10 "TurnBids" "table" "LTurnBids$Table;", Cond.fieldLink RX3 16 "TurnBids" "trial" "LTurnBids$Table;", Cond.classLink RX3 19 RX0, Cond.instantiable RX0 3, Cond.initialized RX0, Cond.fieldLink RX3 22 "TurnBids" "history" "LTurnBids$History;", Cond.fieldLink RX3 26 "TurnBids" "slots" "[LTurnBids$Table;", Cond.classLink RX3 30 RX1, Cond.instantiable RX1 2, Cond.initialized RX1, Cond.fieldLink RX3 33 "TurnBids" "pad" "LTurnBids$Pad;", Cond.instanceMethod yX2_init, Cond.code yX2_init cX2_init 1 none, Cond.methodLink RX2 3 objectInit, Cond.arrayClass .int, Cond.fieldLink RX2 9 "TurnBids$Table" "settings" "[I", Cond.fieldLink RX2 15 "TurnBids$Table" "prizes" "[I", Cond.fieldLink RX2 18 "TurnBids$Table" "coins" "[I"]
def wsX3_init_r2 : List Cond := [Cond.fieldLink RX2 21 "TurnBids$Table" "limits" "[I", Cond.fieldLink RX2 24 "TurnBids$Table" "places" "[I", Cond.constant RX2 27 (-100006), Cond.fieldLink RX2 28 "TurnBids$Table" "bids" "[I", Cond.fieldLink RX2 31 "TurnBids$Table" "placesGot" "[I", Cond.fieldLink RX2 34 "TurnBids$Table" "paid" "[I", Cond.fieldLink RX2 37 "TurnBids$Table" "taken" "[I", Cond.fieldLink RX2 40 "TurnBids$Table" "won" "[I", Cond.fieldLink RX2 43 "TurnBids$Table" "underWay" "Z", Cond.fieldLink RX2 47 "TurnBids$Table" "turn" "I", Cond.fieldLink RX2 51 "TurnBids$Table" "rounds" "I", Cond.instanceMethod yX0_init, Cond.code yX0_init cX0_init 1 none, Cond.methodLink RX0 3 objectInit, Cond.classLink RX0 9 RX2, Cond.fieldLink RX0 11 "TurnBids$History" "states" "[LTurnBids$Table;", Cond.fieldLink RX0 17 "TurnBids$History" "next" "I", Cond.fieldLink RX0 21 "TurnBids$History" "length" "I", Cond.instanceMethod yX1_init, Cond.code yX1_init cX1_init 1 none, Cond.methodLink RX1 3 objectInit, Cond.arrayClass .char, Cond.fieldLink RX1 9 "TurnBids$Pad" "signs" "[C", Cond.fieldLink RX1 15 "TurnBids$Pad" "length" "I"]
def wsX3_init : List Cond := .code yX3_init cX3_init 1 none :: ((wsX3_init_r1 ++ wsX3_init_r2) ++ wsX20 ++ wsX30 ++ wsX00 ++ wsX10)
def wsX3_set_r1 : List Cond := [Cond.constant RX3 37 (-100002), Cond.fieldLink RX3 38 "TurnBids" "LEAST_VALUES" "[I", Cond.fieldLink RX3 42 "TurnBids" "MOST_VALUES" "[I", Cond.fieldLink RX3 22 "TurnBids" "history" "LTurnBids$History;", Cond.fieldLink RX3 10 "TurnBids" "table" "LTurnBids$Table;", Cond.fieldLink RX3 49 "TurnBids$Table" "settings" "[I", Cond.methodLink RX3 45 yX0_keep, Cond.instanceMethod yX0_keep, Cond.selects RX0 yX0_keep yX0_keep, Cond.initialized RX0, Cond.code yX0_keep cX0_keep 4 none, Cond.fieldLink RX0 17 "TurnBids$History" "next" "I", Cond.fieldLink RX0 11 "TurnBids$History" "states" "[LTurnBids$Table;", Cond.classLink RX0 9 RX2, Cond.instantiable RX2 13, Cond.initialized RX2, Cond.fieldLink RX0 21 "TurnBids$History" "length" "I", Cond.methodLink RX0 35 Lib.Math.min.name, Cond.static Lib.Math.min.name, Cond.initialized "java/lang/Math", Cond.code Lib.Math.min.name Lib.Math.min.code 2 (some .int), Cond.methodLink RX0 24 yJ9_floorMod_7cf53, Cond.static yJ9_floorMod_7cf53, Cond.initialized RJ9]
def wsX3_set_r2 : List Cond := [Cond.code yJ9_floorMod_7cf53 cJ9_floorMod_7cf53 3 (some .int), Cond.instanceMethod yX2_init, Cond.code yX2_init cX2_init 1 none, Cond.methodLink RX2 3 objectInit, Cond.instanceMethod objectInit, Cond.code objectInit ⟨#[0xb1]⟩ 1 none, Cond.arrayClass .int, Cond.fieldLink RX2 9 "TurnBids$Table" "settings" "[I", Cond.fieldLink RX2 15 "TurnBids$Table" "prizes" "[I", Cond.fieldLink RX2 18 "TurnBids$Table" "coins" "[I", Cond.fieldLink RX2 21 "TurnBids$Table" "limits" "[I", Cond.fieldLink RX2 24 "TurnBids$Table" "places" "[I", Cond.constant RX2 27 (-100006), Cond.fieldLink RX2 28 "TurnBids$Table" "bids" "[I", Cond.fieldLink RX2 31 "TurnBids$Table" "placesGot" "[I", Cond.fieldLink RX2 34 "TurnBids$Table" "paid" "[I", Cond.fieldLink RX2 37 "TurnBids$Table" "taken" "[I", Cond.fieldLink RX2 40 "TurnBids$Table" "won" "[I", Cond.fieldLink RX2 43 "TurnBids$Table" "underWay" "Z", Cond.fieldLink RX2 47 "TurnBids$Table" "turn" "I", Cond.fieldLink RX2 51 "TurnBids$Table" "rounds" "I", Cond.methodLink RX0 31 yX2_copyFrom, Cond.instanceMethod yX2_copyFrom, Cond.selects RX2 yX2_copyFrom yX2_copyFrom]
def wsX3_set_r3 : List Cond := [Cond.code yX2_copyFrom cX2_copyFrom 2 none, Cond.methodLink RX2 54 arraycopyName, Cond.native arraycopyName, Cond.static arraycopyName, Cond.initialized "java/lang/System"]
def wsX3_set : List Cond := .code yX3_set cX3_set 4 (some .int) :: ((wsX3_set_r1 ++ (wsX3_set_r2 ++ wsX3_set_r3)) ++ wsX30 ++ wsX20 ++ wsX00)
def wsX3_coins_r1 : List Cond := [Cond.constant RX3 56 (-100001), Cond.constant RX3 37 (-100002), Cond.fieldLink RX3 10 "TurnBids" "table" "LTurnBids$Table;", Cond.constant RX3 61 (-100005), Cond.fieldLink RX3 22 "TurnBids" "history" "LTurnBids$History;", Cond.fieldLink RX3 62 "TurnBids$Table" "coins" "[I", Cond.methodLink RX3 52 yX3_isPlayer, Cond.static yX3_isPlayer, Cond.initialized RX3, Cond.code yX3_isPlayer cX3_isPlayer 1 (some .boolean), Cond.methodLink RX3 57 yX2_hasToCover, Cond.instanceMethod yX2_hasToCover, Cond.selects RX2 yX2_hasToCover yX2_hasToCover, Cond.initialized RX2, Cond.code yX2_hasToCover cX2_hasToCover 2 (some .int), Cond.fieldLink RX2 31 "TurnBids$Table" "placesGot" "[I", Cond.constant RX2 27 (-100006), Cond.fieldLink RX2 28 "TurnBids$Table" "bids" "[I", Cond.methodLink RX2 68 Lib.Math.max.name, Cond.static Lib.Math.max.name, Cond.initialized "java/lang/Math", Cond.code Lib.Math.max.name Lib.Math.max.code 2 (some .int), Cond.methodLink RX3 45 yX0_keep, Cond.instanceMethod yX0_keep]
def wsX3_coins_r2 : List Cond := [Cond.selects RX0 yX0_keep yX0_keep, Cond.initialized RX0, Cond.code yX0_keep cX0_keep 4 none, Cond.fieldLink RX0 17 "TurnBids$History" "next" "I", Cond.fieldLink RX0 11 "TurnBids$History" "states" "[LTurnBids$Table;", Cond.classLink RX0 9 RX2, Cond.instantiable RX2 13, Cond.fieldLink RX0 21 "TurnBids$History" "length" "I", Cond.methodLink RX0 35 Lib.Math.min.name, Cond.static Lib.Math.min.name, Cond.code Lib.Math.min.name Lib.Math.min.code 2 (some .int), Cond.methodLink RX0 24 yJ9_floorMod_7cf53, Cond.static yJ9_floorMod_7cf53, Cond.initialized RJ9, Cond.code yJ9_floorMod_7cf53 cJ9_floorMod_7cf53 3 (some .int), Cond.instanceMethod yX2_init, Cond.code yX2_init cX2_init 1 none, Cond.methodLink RX2 3 objectInit, Cond.instanceMethod objectInit, Cond.code objectInit ⟨#[0xb1]⟩ 1 none, Cond.arrayClass .int, Cond.fieldLink RX2 9 "TurnBids$Table" "settings" "[I", Cond.fieldLink RX2 15 "TurnBids$Table" "prizes" "[I", Cond.fieldLink RX2 18 "TurnBids$Table" "coins" "[I"]
def wsX3_coins_r3 : List Cond := [Cond.fieldLink RX2 21 "TurnBids$Table" "limits" "[I", Cond.fieldLink RX2 24 "TurnBids$Table" "places" "[I", Cond.fieldLink RX2 34 "TurnBids$Table" "paid" "[I", Cond.fieldLink RX2 37 "TurnBids$Table" "taken" "[I", Cond.fieldLink RX2 40 "TurnBids$Table" "won" "[I", Cond.fieldLink RX2 43 "TurnBids$Table" "underWay" "Z", Cond.fieldLink RX2 47 "TurnBids$Table" "turn" "I", Cond.fieldLink RX2 51 "TurnBids$Table" "rounds" "I", Cond.methodLink RX0 31 yX2_copyFrom, Cond.instanceMethod yX2_copyFrom, Cond.selects RX2 yX2_copyFrom yX2_copyFrom, Cond.code yX2_copyFrom cX2_copyFrom 2 none, Cond.methodLink RX2 54 arraycopyName, Cond.native arraycopyName, Cond.static arraycopyName, Cond.initialized "java/lang/System"]
def wsX3_coins : List Cond := .code yX3_coins cX3_coins 4 (some .int) :: ((wsX3_coins_r1 ++ (wsX3_coins_r2 ++ wsX3_coins_r3)) ++ wsX30 ++ wsX20 ++ wsX00)
def wsX3_limit_r1 : List Cond := [Cond.constant RX3 56 (-100001), Cond.constant RX3 37 (-100002), Cond.fieldLink RX3 22 "TurnBids" "history" "LTurnBids$History;", Cond.fieldLink RX3 10 "TurnBids" "table" "LTurnBids$Table;", Cond.fieldLink RX3 65 "TurnBids$Table" "limits" "[I", Cond.methodLink RX3 52 yX3_isPlayer, Cond.static yX3_isPlayer, Cond.initialized RX3, Cond.code yX3_isPlayer cX3_isPlayer 1 (some .boolean), Cond.methodLink RX3 45 yX0_keep, Cond.instanceMethod yX0_keep, Cond.selects RX0 yX0_keep yX0_keep, Cond.initialized RX0, Cond.code yX0_keep cX0_keep 4 none, Cond.fieldLink RX0 17 "TurnBids$History" "next" "I", Cond.fieldLink RX0 11 "TurnBids$History" "states" "[LTurnBids$Table;", Cond.classLink RX0 9 RX2, Cond.instantiable RX2 13, Cond.initialized RX2, Cond.fieldLink RX0 21 "TurnBids$History" "length" "I", Cond.methodLink RX0 35 Lib.Math.min.name, Cond.static Lib.Math.min.name, Cond.initialized "java/lang/Math", Cond.code Lib.Math.min.name Lib.Math.min.code 2 (some .int)]
def wsX3_limit_r2 : List Cond := [Cond.methodLink RX0 24 yJ9_floorMod_7cf53, Cond.static yJ9_floorMod_7cf53, Cond.initialized RJ9, Cond.code yJ9_floorMod_7cf53 cJ9_floorMod_7cf53 3 (some .int), Cond.instanceMethod yX2_init, Cond.code yX2_init cX2_init 1 none, Cond.methodLink RX2 3 objectInit, Cond.instanceMethod objectInit, Cond.code objectInit ⟨#[0xb1]⟩ 1 none, Cond.arrayClass .int, Cond.fieldLink RX2 9 "TurnBids$Table" "settings" "[I", Cond.fieldLink RX2 15 "TurnBids$Table" "prizes" "[I", Cond.fieldLink RX2 18 "TurnBids$Table" "coins" "[I", Cond.fieldLink RX2 21 "TurnBids$Table" "limits" "[I", Cond.fieldLink RX2 24 "TurnBids$Table" "places" "[I", Cond.constant RX2 27 (-100006), Cond.fieldLink RX2 28 "TurnBids$Table" "bids" "[I", Cond.fieldLink RX2 31 "TurnBids$Table" "placesGot" "[I", Cond.fieldLink RX2 34 "TurnBids$Table" "paid" "[I", Cond.fieldLink RX2 37 "TurnBids$Table" "taken" "[I", Cond.fieldLink RX2 40 "TurnBids$Table" "won" "[I", Cond.fieldLink RX2 43 "TurnBids$Table" "underWay" "Z", Cond.fieldLink RX2 47 "TurnBids$Table" "turn" "I", Cond.fieldLink RX2 51 "TurnBids$Table" "rounds" "I"]
def wsX3_limit_r3 : List Cond := [Cond.methodLink RX0 31 yX2_copyFrom, Cond.instanceMethod yX2_copyFrom, Cond.selects RX2 yX2_copyFrom yX2_copyFrom, Cond.code yX2_copyFrom cX2_copyFrom 2 none, Cond.methodLink RX2 54 arraycopyName, Cond.native arraycopyName, Cond.static arraycopyName, Cond.initialized "java/lang/System"]
def wsX3_limit : List Cond := .code yX3_limit cX3_limit 4 (some .int) :: ((wsX3_limit_r1 ++ (wsX3_limit_r2 ++ wsX3_limit_r3)) ++ wsX30 ++ wsX20 ++ wsX00)
def wsX3_isPrize : List Cond := .code yX3_isPrize cX3_isPrize 1 (some .boolean) :: ([])
def wsX3_prize_r1 : List Cond := [Cond.constant RX3 56 (-100001), Cond.constant RX3 37 (-100002), Cond.fieldLink RX3 22 "TurnBids" "history" "LTurnBids$History;", Cond.fieldLink RX3 10 "TurnBids" "table" "LTurnBids$Table;", Cond.fieldLink RX3 71 "TurnBids$Table" "prizes" "[I", Cond.methodLink RX3 68 yX3_isPrize, Cond.static yX3_isPrize, Cond.initialized RX3, Cond.code yX3_isPrize cX3_isPrize 1 (some .boolean), Cond.methodLink RX3 45 yX0_keep, Cond.instanceMethod yX0_keep, Cond.selects RX0 yX0_keep yX0_keep, Cond.initialized RX0, Cond.code yX0_keep cX0_keep 4 none, Cond.fieldLink RX0 17 "TurnBids$History" "next" "I", Cond.fieldLink RX0 11 "TurnBids$History" "states" "[LTurnBids$Table;", Cond.classLink RX0 9 RX2, Cond.instantiable RX2 13, Cond.initialized RX2, Cond.fieldLink RX0 21 "TurnBids$History" "length" "I", Cond.methodLink RX0 35 Lib.Math.min.name, Cond.static Lib.Math.min.name, Cond.initialized "java/lang/Math", Cond.code Lib.Math.min.name Lib.Math.min.code 2 (some .int)]
def wsX3_prize_r2 : List Cond := [Cond.methodLink RX0 24 yJ9_floorMod_7cf53, Cond.static yJ9_floorMod_7cf53, Cond.initialized RJ9, Cond.code yJ9_floorMod_7cf53 cJ9_floorMod_7cf53 3 (some .int), Cond.instanceMethod yX2_init, Cond.code yX2_init cX2_init 1 none, Cond.methodLink RX2 3 objectInit, Cond.instanceMethod objectInit, Cond.code objectInit ⟨#[0xb1]⟩ 1 none, Cond.arrayClass .int, Cond.fieldLink RX2 9 "TurnBids$Table" "settings" "[I", Cond.fieldLink RX2 15 "TurnBids$Table" "prizes" "[I", Cond.fieldLink RX2 18 "TurnBids$Table" "coins" "[I", Cond.fieldLink RX2 21 "TurnBids$Table" "limits" "[I", Cond.fieldLink RX2 24 "TurnBids$Table" "places" "[I", Cond.constant RX2 27 (-100006), Cond.fieldLink RX2 28 "TurnBids$Table" "bids" "[I", Cond.fieldLink RX2 31 "TurnBids$Table" "placesGot" "[I", Cond.fieldLink RX2 34 "TurnBids$Table" "paid" "[I", Cond.fieldLink RX2 37 "TurnBids$Table" "taken" "[I", Cond.fieldLink RX2 40 "TurnBids$Table" "won" "[I", Cond.fieldLink RX2 43 "TurnBids$Table" "underWay" "Z", Cond.fieldLink RX2 47 "TurnBids$Table" "turn" "I", Cond.fieldLink RX2 51 "TurnBids$Table" "rounds" "I"]
def wsX3_prize_r3 : List Cond := [Cond.methodLink RX0 31 yX2_copyFrom, Cond.instanceMethod yX2_copyFrom, Cond.selects RX2 yX2_copyFrom yX2_copyFrom, Cond.code yX2_copyFrom cX2_copyFrom 2 none, Cond.methodLink RX2 54 arraycopyName, Cond.native arraycopyName, Cond.static arraycopyName, Cond.initialized "java/lang/System"]
def wsX3_prize : List Cond := .code yX3_prize cX3_prize 4 (some .int) :: ((wsX3_prize_r1 ++ (wsX3_prize_r2 ++ wsX3_prize_r3)) ++ wsX30 ++ wsX20 ++ wsX00)
def wsX3_begin_r1 : List Cond := [Cond.fieldLink RX3 10 "TurnBids" "table" "LTurnBids$Table;", Cond.fieldLink RX3 74 "TurnBids$Table" "underWay" "Z", Cond.constant RX3 61 (-100005), Cond.fieldLink RX3 22 "TurnBids" "history" "LTurnBids$History;", Cond.methodLink RX3 45 yX0_keep, Cond.instanceMethod yX0_keep, Cond.selects RX0 yX0_keep yX0_keep, Cond.initialized RX0, Cond.code yX0_keep cX0_keep 4 none, Cond.fieldLink RX0 17 "TurnBids$History" "next" "I", Cond.fieldLink RX0 11 "TurnBids$History" "states" "[LTurnBids$Table;", Cond.classLink RX0 9 RX2, Cond.instantiable RX2 13, Cond.initialized RX2, Cond.fieldLink RX0 21 "TurnBids$History" "length" "I", Cond.methodLink RX0 35 Lib.Math.min.name, Cond.static Lib.Math.min.name, Cond.initialized "java/lang/Math", Cond.code Lib.Math.min.name Lib.Math.min.code 2 (some .int), Cond.methodLink RX0 24 yJ9_floorMod_7cf53, Cond.static yJ9_floorMod_7cf53, Cond.initialized RJ9, Cond.code yJ9_floorMod_7cf53 cJ9_floorMod_7cf53 3 (some .int), Cond.instanceMethod yX2_init]
def wsX3_begin_r2 : List Cond := [Cond.code yX2_init cX2_init 1 none, Cond.methodLink RX2 3 objectInit, Cond.instanceMethod objectInit, Cond.code objectInit ⟨#[0xb1]⟩ 1 none, Cond.arrayClass .int, Cond.fieldLink RX2 9 "TurnBids$Table" "settings" "[I", Cond.fieldLink RX2 15 "TurnBids$Table" "prizes" "[I", Cond.fieldLink RX2 18 "TurnBids$Table" "coins" "[I", Cond.fieldLink RX2 21 "TurnBids$Table" "limits" "[I", Cond.fieldLink RX2 24 "TurnBids$Table" "places" "[I", Cond.constant RX2 27 (-100006), Cond.fieldLink RX2 28 "TurnBids$Table" "bids" "[I", Cond.fieldLink RX2 31 "TurnBids$Table" "placesGot" "[I", Cond.fieldLink RX2 34 "TurnBids$Table" "paid" "[I", Cond.fieldLink RX2 37 "TurnBids$Table" "taken" "[I", Cond.fieldLink RX2 40 "TurnBids$Table" "won" "[I", Cond.fieldLink RX2 43 "TurnBids$Table" "underWay" "Z", Cond.fieldLink RX2 47 "TurnBids$Table" "turn" "I", Cond.fieldLink RX2 51 "TurnBids$Table" "rounds" "I", Cond.methodLink RX0 31 yX2_copyFrom, Cond.instanceMethod yX2_copyFrom, Cond.selects RX2 yX2_copyFrom yX2_copyFrom, Cond.code yX2_copyFrom cX2_copyFrom 2 none, Cond.methodLink RX2 54 arraycopyName]
def wsX3_begin_r3 : List Cond := [Cond.native arraycopyName, Cond.static arraycopyName, Cond.initialized "java/lang/System", Cond.methodLink RX3 78 yX2_start, Cond.instanceMethod yX2_start, Cond.selects RX2 yX2_start yX2_start, Cond.code yX2_start cX2_start 1 (some .int), Cond.methodLink RX2 77 yX2_playerAt, Cond.instanceMethod yX2_playerAt, Cond.selects RX2 yX2_playerAt yX2_playerAt, Cond.code yX2_playerAt cX2_playerAt 3 (some .int)]
def wsX3_begin : List Cond := .code yX3_begin cX3_begin 1 (some .int) :: ((wsX3_begin_r1 ++ (wsX3_begin_r2 ++ wsX3_begin_r3)) ++ wsX30 ++ wsX20 ++ wsX00)
def wsX3_bid_r1 : List Cond := [Cond.constant RX3 37 (-100002), Cond.fieldLink RX3 10 "TurnBids" "table" "LTurnBids$Table;", Cond.constant RX3 61 (-100005), Cond.fieldLink RX3 22 "TurnBids" "history" "LTurnBids$History;", Cond.methodLink RX3 82 yX2_mayBid, Cond.instanceMethod yX2_mayBid, Cond.selects RX2 yX2_mayBid yX2_mayBid, Cond.initialized RX2, Cond.code yX2_mayBid cX2_mayBid 2 (some .boolean), Cond.fieldLink RX2 43 "TurnBids$Table" "underWay" "Z", Cond.fieldLink RX2 47 "TurnBids$Table" "turn" "I", Cond.fieldLink RX2 18 "TurnBids$Table" "coins" "[I", Cond.static yX3_isPlayer, Cond.initialized RX3, Cond.code yX3_isPlayer cX3_isPlayer 1 (some .boolean), Cond.methodLink RX2 74 yX2_leastBid, Cond.instanceMethod yX2_leastBid, Cond.selects RX2 yX2_leastBid yX2_leastBid, Cond.code yX2_leastBid cX2_leastBid 2 (some .int), Cond.constant RX2 27 (-100006), Cond.fieldLink RX2 9 "TurnBids$Table" "settings" "[I", Cond.methodLink RX2 60 yX2_highestBid, Cond.instanceMethod yX2_highestBid, Cond.selects RX2 yX2_highestBid yX2_highestBid]
def wsX3_bid_r2 : List Cond := [Cond.code yX2_highestBid cX2_highestBid 6 (some .int), Cond.fieldLink RX2 28 "TurnBids$Table" "bids" "[I", Cond.methodLink RX3 45 yX0_keep, Cond.instanceMethod yX0_keep, Cond.selects RX0 yX0_keep yX0_keep, Cond.initialized RX0, Cond.code yX0_keep cX0_keep 4 none, Cond.fieldLink RX0 17 "TurnBids$History" "next" "I", Cond.fieldLink RX0 11 "TurnBids$History" "states" "[LTurnBids$Table;", Cond.classLink RX0 9 RX2, Cond.instantiable RX2 13, Cond.fieldLink RX0 21 "TurnBids$History" "length" "I", Cond.methodLink RX0 35 Lib.Math.min.name, Cond.static Lib.Math.min.name, Cond.initialized "java/lang/Math", Cond.code Lib.Math.min.name Lib.Math.min.code 2 (some .int), Cond.methodLink RX0 24 yJ9_floorMod_7cf53, Cond.static yJ9_floorMod_7cf53, Cond.initialized RJ9, Cond.code yJ9_floorMod_7cf53 cJ9_floorMod_7cf53 3 (some .int), Cond.instanceMethod yX2_init, Cond.code yX2_init cX2_init 1 none, Cond.methodLink RX2 3 objectInit, Cond.instanceMethod objectInit]
def wsX3_bid_r3 : List Cond := [Cond.code objectInit ⟨#[0xb1]⟩ 1 none, Cond.arrayClass .int, Cond.fieldLink RX2 15 "TurnBids$Table" "prizes" "[I", Cond.fieldLink RX2 21 "TurnBids$Table" "limits" "[I", Cond.fieldLink RX2 24 "TurnBids$Table" "places" "[I", Cond.fieldLink RX2 31 "TurnBids$Table" "placesGot" "[I", Cond.fieldLink RX2 34 "TurnBids$Table" "paid" "[I", Cond.fieldLink RX2 37 "TurnBids$Table" "taken" "[I", Cond.fieldLink RX2 40 "TurnBids$Table" "won" "[I", Cond.fieldLink RX2 51 "TurnBids$Table" "rounds" "I", Cond.methodLink RX0 31 yX2_copyFrom, Cond.instanceMethod yX2_copyFrom, Cond.selects RX2 yX2_copyFrom yX2_copyFrom, Cond.code yX2_copyFrom cX2_copyFrom 2 none, Cond.methodLink RX2 54 arraycopyName, Cond.native arraycopyName, Cond.static arraycopyName, Cond.initialized "java/lang/System", Cond.methodLink RX3 85 yX2_takeBid, Cond.instanceMethod yX2_takeBid, Cond.selects RX2 yX2_takeBid yX2_takeBid, Cond.code yX2_takeBid cX2_takeBid 2 (some .int), Cond.methodLink RX2 81 yX2_passTurn, Cond.instanceMethod yX2_passTurn]
def wsX3_bid_r4 : List Cond := [Cond.selects RX2 yX2_passTurn yX2_passTurn, Cond.code yX2_passTurn cX2_passTurn 4 none, Cond.methodLink RX2 77 yX2_playerAt, Cond.instanceMethod yX2_playerAt, Cond.selects RX2 yX2_playerAt yX2_playerAt, Cond.code yX2_playerAt cX2_playerAt 3 (some .int)]
def wsX3_bid : List Cond := .code yX3_bid cX3_bid 2 (some .int) :: ((wsX3_bid_r1 ++ (wsX3_bid_r2 ++ (wsX3_bid_r3 ++ wsX3_bid_r4))) ++ wsX30 ++ wsX20 ++ wsX00)
def wsX3_drop_r1 : List Cond := [Cond.fieldLink RX3 10 "TurnBids" "table" "LTurnBids$Table;", Cond.fieldLink RX3 74 "TurnBids$Table" "underWay" "Z", Cond.constant RX3 61 (-100005), Cond.fieldLink RX3 22 "TurnBids" "history" "LTurnBids$History;", Cond.methodLink RX3 45 yX0_keep, Cond.instanceMethod yX0_keep, Cond.selects RX0 yX0_keep yX0_keep, Cond.initialized RX0, Cond.code yX0_keep cX0_keep 4 none, Cond.fieldLink RX0 17 "TurnBids$History" "next" "I", Cond.fieldLink RX0 11 "TurnBids$History" "states" "[LTurnBids$Table;", Cond.classLink RX0 9 RX2, Cond.instantiable RX2 13, Cond.initialized RX2, Cond.fieldLink RX0 21 "TurnBids$History" "length" "I", Cond.methodLink RX0 35 Lib.Math.min.name, Cond.static Lib.Math.min.name, Cond.initialized "java/lang/Math", Cond.code Lib.Math.min.name Lib.Math.min.code 2 (some .int), Cond.methodLink RX0 24 yJ9_floorMod_7cf53, Cond.static yJ9_floorMod_7cf53, Cond.initialized RJ9, Cond.code yJ9_floorMod_7cf53 cJ9_floorMod_7cf53 3 (some .int), Cond.instanceMethod yX2_init]
def wsX3_drop_r2 : List Cond := [Cond.code yX2_init cX2_init 1 none, Cond.methodLink RX2 3 objectInit, Cond.instanceMethod objectInit, Cond.code objectInit ⟨#[0xb1]⟩ 1 none, Cond.arrayClass .int, Cond.fieldLink RX2 9 "TurnBids$Table" "settings" "[I", Cond.fieldLink RX2 15 "TurnBids$Table" "prizes" "[I", Cond.fieldLink RX2 18 "TurnBids$Table" "coins" "[I", Cond.fieldLink RX2 21 "TurnBids$Table" "limits" "[I", Cond.fieldLink RX2 24 "TurnBids$Table" "places" "[I", Cond.constant RX2 27 (-100006), Cond.fieldLink RX2 28 "TurnBids$Table" "bids" "[I", Cond.fieldLink RX2 31 "TurnBids$Table" "placesGot" "[I", Cond.fieldLink RX2 34 "TurnBids$Table" "paid" "[I", Cond.fieldLink RX2 37 "TurnBids$Table" "taken" "[I", Cond.fieldLink RX2 40 "TurnBids$Table" "won" "[I", Cond.fieldLink RX2 43 "TurnBids$Table" "underWay" "Z", Cond.fieldLink RX2 47 "TurnBids$Table" "turn" "I", Cond.fieldLink RX2 51 "TurnBids$Table" "rounds" "I", Cond.methodLink RX0 31 yX2_copyFrom, Cond.instanceMethod yX2_copyFrom, Cond.selects RX2 yX2_copyFrom yX2_copyFrom, Cond.code yX2_copyFrom cX2_copyFrom 2 none, Cond.methodLink RX2 54 arraycopyName]
def wsX3_drop_r3 : List Cond := [Cond.native arraycopyName, Cond.static arraycopyName, Cond.initialized "java/lang/System", Cond.methodLink RX3 88 yX2_dropOut, Cond.instanceMethod yX2_dropOut, Cond.selects RX2 yX2_dropOut yX2_dropOut, Cond.code yX2_dropOut cX2_dropOut 2 (some .int), Cond.static yX3_isPlayer, Cond.initialized RX3, Cond.code yX3_isPlayer cX3_isPlayer 1 (some .boolean), Cond.methodLink RX2 84 yX2_playersLeft, Cond.instanceMethod yX2_playersLeft, Cond.selects RX2 yX2_playersLeft yX2_playersLeft, Cond.code yX2_playersLeft cX2_playersLeft 3 (some .int), Cond.methodLink RX2 87 yJ6_bitCount_0f7a4, Cond.static yJ6_bitCount_0f7a4, Cond.initialized RJ6, Cond.code yJ6_bitCount_0f7a4 cJ6_bitCount_0f7a4 1 (some .int), Cond.constant RJ6 265 (1431655765), Cond.constant RJ6 266 (858993459), Cond.constant RJ6 267 (252645135), Cond.methodLink RX2 92 yX2_pay, Cond.instanceMethod yX2_pay, Cond.selects RX2 yX2_pay yX2_pay]
def wsX3_drop_r4 : List Cond := [Cond.code yX2_pay cX2_pay 5 none, Cond.methodLink RX2 96 yX2_endAuction, Cond.instanceMethod yX2_endAuction, Cond.selects RX2 yX2_endAuction yX2_endAuction, Cond.code yX2_endAuction cX2_endAuction 3 none, Cond.methodLink RX2 117 Lib.Math.min.name, Cond.methodLink RX2 114 yX2_prizeFor, Cond.instanceMethod yX2_prizeFor, Cond.selects RX2 yX2_prizeFor yX2_prizeFor, Cond.code yX2_prizeFor cX2_prizeFor 5 (some .int), Cond.methodLink RX2 81 yX2_passTurn, Cond.instanceMethod yX2_passTurn, Cond.selects RX2 yX2_passTurn yX2_passTurn, Cond.code yX2_passTurn cX2_passTurn 4 none, Cond.methodLink RX2 77 yX2_playerAt, Cond.instanceMethod yX2_playerAt, Cond.selects RX2 yX2_playerAt yX2_playerAt, Cond.code yX2_playerAt cX2_playerAt 3 (some .int)]
def wsX3_drop : List Cond := .code yX3_drop cX3_drop 1 (some .int) :: ((wsX3_drop_r1 ++ (wsX3_drop_r2 ++ (wsX3_drop_r3 ++ wsX3_drop_r4))) ++ wsX30 ++ wsX20 ++ wsX00)
def wsX3_act_r1 : List Cond := [Cond.fieldLink RX3 10 "TurnBids" "table" "LTurnBids$Table;", Cond.fieldLink RX3 74 "TurnBids$Table" "underWay" "Z", Cond.constant RX3 61 (-100005), Cond.fieldLink RX3 22 "TurnBids" "history" "LTurnBids$History;", Cond.methodLink RX3 45 yX0_keep, Cond.instanceMethod yX0_keep, Cond.selects RX0 yX0_keep yX0_keep, Cond.initialized RX0, Cond.code yX0_keep cX0_keep 4 none, Cond.fieldLink RX0 17 "TurnBids$History" "next" "I", Cond.fieldLink RX0 11 "TurnBids$History" "states" "[LTurnBids$Table;", Cond.classLink RX0 9 RX2, Cond.instantiable RX2 13, Cond.initialized RX2, Cond.fieldLink RX0 21 "TurnBids$History" "length" "I", Cond.methodLink RX0 35 Lib.Math.min.name, Cond.static Lib.Math.min.name, Cond.initialized "java/lang/Math", Cond.code Lib.Math.min.name Lib.Math.min.code 2 (some .int), Cond.methodLink RX0 24 yJ9_floorMod_7cf53, Cond.static yJ9_floorMod_7cf53, Cond.initialized RJ9, Cond.code yJ9_floorMod_7cf53 cJ9_floorMod_7cf53 3 (some .int), Cond.instanceMethod yX2_init]
def wsX3_act_r2 : List Cond := [Cond.code yX2_init cX2_init 1 none, Cond.methodLink RX2 3 objectInit, Cond.instanceMethod objectInit, Cond.code objectInit ⟨#[0xb1]⟩ 1 none, Cond.arrayClass .int, Cond.fieldLink RX2 9 "TurnBids$Table" "settings" "[I", Cond.fieldLink RX2 15 "TurnBids$Table" "prizes" "[I", Cond.fieldLink RX2 18 "TurnBids$Table" "coins" "[I", Cond.fieldLink RX2 21 "TurnBids$Table" "limits" "[I", Cond.fieldLink RX2 24 "TurnBids$Table" "places" "[I", Cond.constant RX2 27 (-100006), Cond.fieldLink RX2 28 "TurnBids$Table" "bids" "[I", Cond.fieldLink RX2 31 "TurnBids$Table" "placesGot" "[I", Cond.fieldLink RX2 34 "TurnBids$Table" "paid" "[I", Cond.fieldLink RX2 37 "TurnBids$Table" "taken" "[I", Cond.fieldLink RX2 40 "TurnBids$Table" "won" "[I", Cond.fieldLink RX2 43 "TurnBids$Table" "underWay" "Z", Cond.fieldLink RX2 47 "TurnBids$Table" "turn" "I", Cond.fieldLink RX2 51 "TurnBids$Table" "rounds" "I", Cond.methodLink RX0 31 yX2_copyFrom, Cond.instanceMethod yX2_copyFrom, Cond.selects RX2 yX2_copyFrom yX2_copyFrom, Cond.code yX2_copyFrom cX2_copyFrom 2 none, Cond.methodLink RX2 54 arraycopyName]
def wsX3_act_r3 : List Cond := [Cond.native arraycopyName, Cond.static arraycopyName, Cond.initialized "java/lang/System", Cond.methodLink RX3 91 yX2_actByLimit, Cond.instanceMethod yX2_actByLimit, Cond.selects RX2 yX2_actByLimit yX2_actByLimit, Cond.code yX2_actByLimit cX2_actByLimit 2 (some .int), Cond.methodLink RX2 74 yX2_leastBid, Cond.instanceMethod yX2_leastBid, Cond.selects RX2 yX2_leastBid yX2_leastBid, Cond.code yX2_leastBid cX2_leastBid 2 (some .int), Cond.methodLink RX2 60 yX2_highestBid, Cond.instanceMethod yX2_highestBid, Cond.selects RX2 yX2_highestBid yX2_highestBid, Cond.code yX2_highestBid cX2_highestBid 6 (some .int), Cond.static yX3_isPlayer, Cond.initialized RX3, Cond.code yX3_isPlayer cX3_isPlayer 1 (some .boolean), Cond.methodLink RX2 99 yX2_mayBid, Cond.instanceMethod yX2_mayBid, Cond.selects RX2 yX2_mayBid yX2_mayBid, Cond.code yX2_mayBid cX2_mayBid 2 (some .boolean), Cond.methodLink RX2 102 yX2_takeBid, Cond.instanceMethod yX2_takeBid]
def wsX3_act_r4 : List Cond := [Cond.selects RX2 yX2_takeBid yX2_takeBid, Cond.code yX2_takeBid cX2_takeBid 2 (some .int), Cond.methodLink RX2 81 yX2_passTurn, Cond.instanceMethod yX2_passTurn, Cond.selects RX2 yX2_passTurn yX2_passTurn, Cond.code yX2_passTurn cX2_passTurn 4 none, Cond.methodLink RX2 77 yX2_playerAt, Cond.instanceMethod yX2_playerAt, Cond.selects RX2 yX2_playerAt yX2_playerAt, Cond.code yX2_playerAt cX2_playerAt 3 (some .int), Cond.methodLink RX2 105 yX2_dropOut, Cond.instanceMethod yX2_dropOut, Cond.selects RX2 yX2_dropOut yX2_dropOut, Cond.code yX2_dropOut cX2_dropOut 2 (some .int), Cond.methodLink RX2 84 yX2_playersLeft, Cond.instanceMethod yX2_playersLeft, Cond.selects RX2 yX2_playersLeft yX2_playersLeft, Cond.code yX2_playersLeft cX2_playersLeft 3 (some .int), Cond.methodLink RX2 87 yJ6_bitCount_0f7a4, Cond.static yJ6_bitCount_0f7a4, Cond.initialized RJ6, Cond.code yJ6_bitCount_0f7a4 cJ6_bitCount_0f7a4 1 (some .int), Cond.constant RJ6 265 (1431655765), Cond.constant RJ6 266 (858993459)]
def wsX3_act_r5 : List Cond := [Cond.constant RJ6 267 (252645135), Cond.methodLink RX2 92 yX2_pay, Cond.instanceMethod yX2_pay, Cond.selects RX2 yX2_pay yX2_pay, Cond.code yX2_pay cX2_pay 5 none, Cond.methodLink RX2 96 yX2_endAuction, Cond.instanceMethod yX2_endAuction, Cond.selects RX2 yX2_endAuction yX2_endAuction, Cond.code yX2_endAuction cX2_endAuction 3 none, Cond.methodLink RX2 117 Lib.Math.min.name, Cond.methodLink RX2 114 yX2_prizeFor, Cond.instanceMethod yX2_prizeFor, Cond.selects RX2 yX2_prizeFor yX2_prizeFor, Cond.code yX2_prizeFor cX2_prizeFor 5 (some .int)]
def wsX3_act : List Cond := .code yX3_act cX3_act 1 (some .int) :: ((wsX3_act_r1 ++ (wsX3_act_r2 ++ (wsX3_act_r3 ++ (wsX3_act_r4 ++ wsX3_act_r5)))) ++ wsX30 ++ wsX20 ++ wsX00)
def wsX3_finish_r1 : List Cond := [Cond.fieldLink RX3 22 "TurnBids" "history" "LTurnBids$History;", Cond.fieldLink RX3 10 "TurnBids" "table" "LTurnBids$Table;", Cond.methodLink RX3 45 yX0_keep, Cond.instanceMethod yX0_keep, Cond.selects RX0 yX0_keep yX0_keep, Cond.initialized RX0, Cond.code yX0_keep cX0_keep 4 none, Cond.fieldLink RX0 17 "TurnBids$History" "next" "I", Cond.fieldLink RX0 11 "TurnBids$History" "states" "[LTurnBids$Table;", Cond.classLink RX0 9 RX2, Cond.instantiable RX2 13, Cond.initialized RX2, Cond.fieldLink RX0 21 "TurnBids$History" "length" "I", Cond.methodLink RX0 35 Lib.Math.min.name, Cond.static Lib.Math.min.name, Cond.initialized "java/lang/Math", Cond.code Lib.Math.min.name Lib.Math.min.code 2 (some .int), Cond.methodLink RX0 24 yJ9_floorMod_7cf53, Cond.static yJ9_floorMod_7cf53, Cond.initialized RJ9, Cond.code yJ9_floorMod_7cf53 cJ9_floorMod_7cf53 3 (some .int), Cond.instanceMethod yX2_init, Cond.code yX2_init cX2_init 1 none, Cond.methodLink RX2 3 objectInit]
def wsX3_finish_r2 : List Cond := [Cond.instanceMethod objectInit, Cond.code objectInit ⟨#[0xb1]⟩ 1 none, Cond.arrayClass .int, Cond.fieldLink RX2 9 "TurnBids$Table" "settings" "[I", Cond.fieldLink RX2 15 "TurnBids$Table" "prizes" "[I", Cond.fieldLink RX2 18 "TurnBids$Table" "coins" "[I", Cond.fieldLink RX2 21 "TurnBids$Table" "limits" "[I", Cond.fieldLink RX2 24 "TurnBids$Table" "places" "[I", Cond.constant RX2 27 (-100006), Cond.fieldLink RX2 28 "TurnBids$Table" "bids" "[I", Cond.fieldLink RX2 31 "TurnBids$Table" "placesGot" "[I", Cond.fieldLink RX2 34 "TurnBids$Table" "paid" "[I", Cond.fieldLink RX2 37 "TurnBids$Table" "taken" "[I", Cond.fieldLink RX2 40 "TurnBids$Table" "won" "[I", Cond.fieldLink RX2 43 "TurnBids$Table" "underWay" "Z", Cond.fieldLink RX2 47 "TurnBids$Table" "turn" "I", Cond.fieldLink RX2 51 "TurnBids$Table" "rounds" "I", Cond.methodLink RX0 31 yX2_copyFrom, Cond.instanceMethod yX2_copyFrom, Cond.selects RX2 yX2_copyFrom yX2_copyFrom, Cond.code yX2_copyFrom cX2_copyFrom 2 none, Cond.methodLink RX2 54 arraycopyName, Cond.native arraycopyName, Cond.static arraycopyName]
def wsX3_finish_r3 : List Cond := [Cond.initialized "java/lang/System", Cond.methodLink RX3 94 yX2_playRound, Cond.instanceMethod yX2_playRound, Cond.selects RX2 yX2_playRound yX2_playRound, Cond.code yX2_playRound cX2_playRound 2 (some .int), Cond.methodLink RX2 108 yX2_start, Cond.instanceMethod yX2_start, Cond.selects RX2 yX2_start yX2_start, Cond.code yX2_start cX2_start 1 (some .int), Cond.methodLink RX2 77 yX2_playerAt, Cond.instanceMethod yX2_playerAt, Cond.selects RX2 yX2_playerAt yX2_playerAt, Cond.code yX2_playerAt cX2_playerAt 3 (some .int), Cond.methodLink RX2 111 yX2_actByLimit, Cond.instanceMethod yX2_actByLimit, Cond.selects RX2 yX2_actByLimit yX2_actByLimit, Cond.code yX2_actByLimit cX2_actByLimit 2 (some .int), Cond.methodLink RX2 74 yX2_leastBid, Cond.instanceMethod yX2_leastBid, Cond.selects RX2 yX2_leastBid yX2_leastBid, Cond.code yX2_leastBid cX2_leastBid 2 (some .int), Cond.methodLink RX2 60 yX2_highestBid, Cond.instanceMethod yX2_highestBid, Cond.selects RX2 yX2_highestBid yX2_highestBid]
def wsX3_finish_r4 : List Cond := [Cond.code yX2_highestBid cX2_highestBid 6 (some .int), Cond.static yX3_isPlayer, Cond.initialized RX3, Cond.code yX3_isPlayer cX3_isPlayer 1 (some .boolean), Cond.methodLink RX2 99 yX2_mayBid, Cond.instanceMethod yX2_mayBid, Cond.selects RX2 yX2_mayBid yX2_mayBid, Cond.code yX2_mayBid cX2_mayBid 2 (some .boolean), Cond.methodLink RX2 102 yX2_takeBid, Cond.instanceMethod yX2_takeBid, Cond.selects RX2 yX2_takeBid yX2_takeBid, Cond.code yX2_takeBid cX2_takeBid 2 (some .int), Cond.methodLink RX2 81 yX2_passTurn, Cond.instanceMethod yX2_passTurn, Cond.selects RX2 yX2_passTurn yX2_passTurn, Cond.code yX2_passTurn cX2_passTurn 4 none, Cond.methodLink RX2 105 yX2_dropOut, Cond.instanceMethod yX2_dropOut, Cond.selects RX2 yX2_dropOut yX2_dropOut, Cond.code yX2_dropOut cX2_dropOut 2 (some .int), Cond.methodLink RX2 84 yX2_playersLeft, Cond.instanceMethod yX2_playersLeft, Cond.selects RX2 yX2_playersLeft yX2_playersLeft, Cond.code yX2_playersLeft cX2_playersLeft 3 (some .int)]
def wsX3_finish_r5 : List Cond := [Cond.methodLink RX2 87 yJ6_bitCount_0f7a4, Cond.static yJ6_bitCount_0f7a4, Cond.initialized RJ6, Cond.code yJ6_bitCount_0f7a4 cJ6_bitCount_0f7a4 1 (some .int), Cond.constant RJ6 265 (1431655765), Cond.constant RJ6 266 (858993459), Cond.constant RJ6 267 (252645135), Cond.methodLink RX2 92 yX2_pay, Cond.instanceMethod yX2_pay, Cond.selects RX2 yX2_pay yX2_pay, Cond.code yX2_pay cX2_pay 5 none, Cond.methodLink RX2 96 yX2_endAuction, Cond.instanceMethod yX2_endAuction, Cond.selects RX2 yX2_endAuction yX2_endAuction, Cond.code yX2_endAuction cX2_endAuction 3 none, Cond.methodLink RX2 117 Lib.Math.min.name, Cond.methodLink RX2 114 yX2_prizeFor, Cond.instanceMethod yX2_prizeFor, Cond.selects RX2 yX2_prizeFor yX2_prizeFor, Cond.code yX2_prizeFor cX2_prizeFor 5 (some .int), Cond.methodLink RX3 97 yX2_playerAt]
def wsX3_finish : List Cond := .code yX3_finish cX3_finish 1 (some .int) :: ((wsX3_finish_r1 ++ (wsX3_finish_r2 ++ (wsX3_finish_r3 ++ (wsX3_finish_r4 ++ wsX3_finish_r5)))) ++ wsX30 ++ wsX00 ++ wsX20)
def wsX3_doMove_r1 : List Cond := [Cond.fieldLink RX3 10 "TurnBids" "table" "LTurnBids$Table;", Cond.fieldLink RX3 74 "TurnBids$Table" "underWay" "Z", Cond.constant RX3 61 (-100005), Cond.methodLink RX3 78 yX2_start, Cond.instanceMethod yX2_start, Cond.selects RX2 yX2_start yX2_start, Cond.initialized RX2, Cond.code yX2_start cX2_start 1 (some .int), Cond.fieldLink RX2 43 "TurnBids$Table" "underWay" "Z", Cond.fieldLink RX2 47 "TurnBids$Table" "turn" "I", Cond.methodLink RX2 77 yX2_playerAt, Cond.instanceMethod yX2_playerAt, Cond.selects RX2 yX2_playerAt yX2_playerAt, Cond.code yX2_playerAt cX2_playerAt 3 (some .int), Cond.fieldLink RX2 24 "TurnBids$Table" "places" "[I", Cond.constant RX2 27 (-100006), Cond.methodLink RX3 94 yX2_playRound, Cond.instanceMethod yX2_playRound, Cond.selects RX2 yX2_playRound yX2_playRound, Cond.code yX2_playRound cX2_playRound 2 (some .int), Cond.methodLink RX2 108 yX2_start, Cond.methodLink RX2 111 yX2_actByLimit, Cond.instanceMethod yX2_actByLimit, Cond.selects RX2 yX2_actByLimit yX2_actByLimit]
def wsX3_doMove_r2 : List Cond := [Cond.code yX2_actByLimit cX2_actByLimit 2 (some .int), Cond.fieldLink RX2 21 "TurnBids$Table" "limits" "[I", Cond.methodLink RX2 74 yX2_leastBid, Cond.instanceMethod yX2_leastBid, Cond.selects RX2 yX2_leastBid yX2_leastBid, Cond.code yX2_leastBid cX2_leastBid 2 (some .int), Cond.fieldLink RX2 9 "TurnBids$Table" "settings" "[I", Cond.methodLink RX2 60 yX2_highestBid, Cond.instanceMethod yX2_highestBid, Cond.selects RX2 yX2_highestBid yX2_highestBid, Cond.code yX2_highestBid cX2_highestBid 6 (some .int), Cond.fieldLink RX2 28 "TurnBids$Table" "bids" "[I", Cond.static yX3_isPlayer, Cond.initialized RX3, Cond.code yX3_isPlayer cX3_isPlayer 1 (some .boolean), Cond.methodLink RX2 99 yX2_mayBid, Cond.instanceMethod yX2_mayBid, Cond.selects RX2 yX2_mayBid yX2_mayBid, Cond.code yX2_mayBid cX2_mayBid 2 (some .boolean), Cond.fieldLink RX2 18 "TurnBids$Table" "coins" "[I", Cond.methodLink RX2 102 yX2_takeBid, Cond.instanceMethod yX2_takeBid, Cond.selects RX2 yX2_takeBid yX2_takeBid, Cond.code yX2_takeBid cX2_takeBid 2 (some .int)]
def wsX3_doMove_r3 : List Cond := [Cond.methodLink RX2 81 yX2_passTurn, Cond.instanceMethod yX2_passTurn, Cond.selects RX2 yX2_passTurn yX2_passTurn, Cond.code yX2_passTurn cX2_passTurn 4 none, Cond.fieldLink RX2 31 "TurnBids$Table" "placesGot" "[I", Cond.methodLink RX2 105 yX2_dropOut, Cond.instanceMethod yX2_dropOut, Cond.selects RX2 yX2_dropOut yX2_dropOut, Cond.code yX2_dropOut cX2_dropOut 2 (some .int), Cond.methodLink RX2 84 yX2_playersLeft, Cond.instanceMethod yX2_playersLeft, Cond.selects RX2 yX2_playersLeft yX2_playersLeft, Cond.code yX2_playersLeft cX2_playersLeft 3 (some .int), Cond.methodLink RX2 87 yJ6_bitCount_0f7a4, Cond.static yJ6_bitCount_0f7a4, Cond.initialized RJ6, Cond.code yJ6_bitCount_0f7a4 cJ6_bitCount_0f7a4 1 (some .int), Cond.constant RJ6 265 (1431655765), Cond.constant RJ6 266 (858993459), Cond.constant RJ6 267 (252645135), Cond.methodLink RX2 92 yX2_pay, Cond.instanceMethod yX2_pay, Cond.selects RX2 yX2_pay yX2_pay, Cond.code yX2_pay cX2_pay 5 none]
def wsX3_doMove_r4 : List Cond := [Cond.fieldLink RX2 34 "TurnBids$Table" "paid" "[I", Cond.methodLink RX2 96 yX2_endAuction, Cond.instanceMethod yX2_endAuction, Cond.selects RX2 yX2_endAuction yX2_endAuction, Cond.code yX2_endAuction cX2_endAuction 3 none, Cond.fieldLink RX2 40 "TurnBids$Table" "won" "[I", Cond.methodLink RX2 117 Lib.Math.min.name, Cond.static Lib.Math.min.name, Cond.initialized "java/lang/Math", Cond.code Lib.Math.min.name Lib.Math.min.code 2 (some .int), Cond.fieldLink RX2 37 "TurnBids$Table" "taken" "[I", Cond.fieldLink RX2 51 "TurnBids$Table" "rounds" "I", Cond.methodLink RX2 114 yX2_prizeFor, Cond.instanceMethod yX2_prizeFor, Cond.selects RX2 yX2_prizeFor yX2_prizeFor, Cond.code yX2_prizeFor cX2_prizeFor 5 (some .int), Cond.fieldLink RX2 15 "TurnBids$Table" "prizes" "[I", Cond.methodLink RX3 88 yX2_dropOut, Cond.methodLink RX3 91 yX2_actByLimit, Cond.methodLink RX3 82 yX2_mayBid, Cond.methodLink RX3 85 yX2_takeBid]
def wsX3_doMove : List Cond := .code yX3_doMove cX3_doMove 3 (some .int) :: ((wsX3_doMove_r1 ++ (wsX3_doMove_r2 ++ (wsX3_doMove_r3 ++ wsX3_doMove_r4))) ++ wsX30 ++ wsX20)
def wsX3_run_r1 : List Cond := [Cond.fieldLink RX3 33 "TurnBids" "pad" "LTurnBids$Pad;", Cond.constant RX3 103 (-100006), Cond.constant RX3 104 (-100003), Cond.fieldLink RX3 22 "TurnBids" "history" "LTurnBids$History;", Cond.fieldLink RX3 10 "TurnBids" "table" "LTurnBids$Table;", Cond.fieldLink RX3 105 "TurnBids$Pad" "length" "I", Cond.constant RX3 61 (-100005), Cond.methodLink RX3 100 yX1_faultIndex, Cond.instanceMethod yX1_faultIndex, Cond.selects RX1 yX1_faultIndex yX1_faultIndex, Cond.initialized RX1, Cond.code yX1_faultIndex cX1_faultIndex 3 (some .int), Cond.fieldLink RX1 15 "TurnBids$Pad" "length" "I", Cond.constant RX1 33 (-100006), Cond.methodLink RX1 25 yX1_signAt, Cond.instanceMethod yX1_signAt, Cond.selects RX1 yX1_signAt yX1_signAt, Cond.code yX1_signAt cX1_signAt 2 (some .char), Cond.fieldLink RX1 9 "TurnBids$Pad" "signs" "[C", Cond.methodLink RX1 29 yX1_dueBehind, Cond.static yX1_dueBehind, Cond.code yX1_dueBehind cX1_dueBehind 2 (some .int), Cond.methodLink RX1 34 yX1_isDigit, Cond.static yX1_isDigit]
def wsX3_run_r2 : List Cond := [Cond.code yX1_isDigit cX1_isDigit 1 (some .boolean), Cond.methodLink RX3 45 yX0_keep, Cond.instanceMethod yX0_keep, Cond.selects RX0 yX0_keep yX0_keep, Cond.initialized RX0, Cond.code yX0_keep cX0_keep 4 none, Cond.fieldLink RX0 17 "TurnBids$History" "next" "I", Cond.fieldLink RX0 11 "TurnBids$History" "states" "[LTurnBids$Table;", Cond.classLink RX0 9 RX2, Cond.instantiable RX2 13, Cond.initialized RX2, Cond.fieldLink RX0 21 "TurnBids$History" "length" "I", Cond.methodLink RX0 35 Lib.Math.min.name, Cond.static Lib.Math.min.name, Cond.initialized "java/lang/Math", Cond.code Lib.Math.min.name Lib.Math.min.code 2 (some .int), Cond.methodLink RX0 24 yJ9_floorMod_7cf53, Cond.static yJ9_floorMod_7cf53, Cond.initialized RJ9, Cond.code yJ9_floorMod_7cf53 cJ9_floorMod_7cf53 3 (some .int), Cond.instanceMethod yX2_init, Cond.code yX2_init cX2_init 1 none, Cond.methodLink RX2 3 objectInit, Cond.instanceMethod objectInit]
def wsX3_run_r3 : List Cond := [Cond.code objectInit ⟨#[0xb1]⟩ 1 none, Cond.arrayClass .int, Cond.fieldLink RX2 9 "TurnBids$Table" "settings" "[I", Cond.fieldLink RX2 15 "TurnBids$Table" "prizes" "[I", Cond.fieldLink RX2 18 "TurnBids$Table" "coins" "[I", Cond.fieldLink RX2 21 "TurnBids$Table" "limits" "[I", Cond.fieldLink RX2 24 "TurnBids$Table" "places" "[I", Cond.constant RX2 27 (-100006), Cond.fieldLink RX2 28 "TurnBids$Table" "bids" "[I", Cond.fieldLink RX2 31 "TurnBids$Table" "placesGot" "[I", Cond.fieldLink RX2 34 "TurnBids$Table" "paid" "[I", Cond.fieldLink RX2 37 "TurnBids$Table" "taken" "[I", Cond.fieldLink RX2 40 "TurnBids$Table" "won" "[I", Cond.fieldLink RX2 43 "TurnBids$Table" "underWay" "Z", Cond.fieldLink RX2 47 "TurnBids$Table" "turn" "I", Cond.fieldLink RX2 51 "TurnBids$Table" "rounds" "I", Cond.methodLink RX0 31 yX2_copyFrom, Cond.instanceMethod yX2_copyFrom, Cond.selects RX2 yX2_copyFrom yX2_copyFrom, Cond.code yX2_copyFrom cX2_copyFrom 2 none, Cond.methodLink RX2 54 arraycopyName, Cond.native arraycopyName, Cond.static arraycopyName, Cond.initialized "java/lang/System"]
def wsX3_run_r4 : List Cond := [Cond.methodLink RX3 109 yX1_signAt, Cond.methodLink RX3 113 yX1_isDigit, Cond.methodLink RX3 117 yX3_doMove, Cond.instanceMethod yX3_doMove, Cond.selects RX3 yX3_doMove yX3_doMove, Cond.initialized RX3, Cond.code yX3_doMove cX3_doMove 3 (some .int), Cond.fieldLink RX3 74 "TurnBids$Table" "underWay" "Z", Cond.methodLink RX3 78 yX2_start, Cond.instanceMethod yX2_start, Cond.selects RX2 yX2_start yX2_start, Cond.code yX2_start cX2_start 1 (some .int), Cond.methodLink RX2 77 yX2_playerAt, Cond.instanceMethod yX2_playerAt, Cond.selects RX2 yX2_playerAt yX2_playerAt, Cond.code yX2_playerAt cX2_playerAt 3 (some .int), Cond.methodLink RX3 94 yX2_playRound, Cond.instanceMethod yX2_playRound, Cond.selects RX2 yX2_playRound yX2_playRound, Cond.code yX2_playRound cX2_playRound 2 (some .int), Cond.methodLink RX2 108 yX2_start, Cond.methodLink RX2 111 yX2_actByLimit, Cond.instanceMethod yX2_actByLimit, Cond.selects RX2 yX2_actByLimit yX2_actByLimit]
def wsX3_run_r5 : List Cond := [Cond.code yX2_actByLimit cX2_actByLimit 2 (some .int), Cond.methodLink RX2 74 yX2_leastBid, Cond.instanceMethod yX2_leastBid, Cond.selects RX2 yX2_leastBid yX2_leastBid, Cond.code yX2_leastBid cX2_leastBid 2 (some .int), Cond.methodLink RX2 60 yX2_highestBid, Cond.instanceMethod yX2_highestBid, Cond.selects RX2 yX2_highestBid yX2_highestBid, Cond.code yX2_highestBid cX2_highestBid 6 (some .int), Cond.static yX3_isPlayer, Cond.code yX3_isPlayer cX3_isPlayer 1 (some .boolean), Cond.methodLink RX2 99 yX2_mayBid, Cond.instanceMethod yX2_mayBid, Cond.selects RX2 yX2_mayBid yX2_mayBid, Cond.code yX2_mayBid cX2_mayBid 2 (some .boolean), Cond.methodLink RX2 102 yX2_takeBid, Cond.instanceMethod yX2_takeBid, Cond.selects RX2 yX2_takeBid yX2_takeBid, Cond.code yX2_takeBid cX2_takeBid 2 (some .int), Cond.methodLink RX2 81 yX2_passTurn, Cond.instanceMethod yX2_passTurn, Cond.selects RX2 yX2_passTurn yX2_passTurn, Cond.code yX2_passTurn cX2_passTurn 4 none, Cond.methodLink RX2 105 yX2_dropOut]
def wsX3_run_r6 : List Cond := [Cond.instanceMethod yX2_dropOut, Cond.selects RX2 yX2_dropOut yX2_dropOut, Cond.code yX2_dropOut cX2_dropOut 2 (some .int), Cond.methodLink RX2 84 yX2_playersLeft, Cond.instanceMethod yX2_playersLeft, Cond.selects RX2 yX2_playersLeft yX2_playersLeft, Cond.code yX2_playersLeft cX2_playersLeft 3 (some .int), Cond.methodLink RX2 87 yJ6_bitCount_0f7a4, Cond.static yJ6_bitCount_0f7a4, Cond.initialized RJ6, Cond.code yJ6_bitCount_0f7a4 cJ6_bitCount_0f7a4 1 (some .int), Cond.constant RJ6 265 (1431655765), Cond.constant RJ6 266 (858993459), Cond.constant RJ6 267 (252645135), Cond.methodLink RX2 92 yX2_pay, Cond.instanceMethod yX2_pay, Cond.selects RX2 yX2_pay yX2_pay, Cond.code yX2_pay cX2_pay 5 none, Cond.methodLink RX2 96 yX2_endAuction, Cond.instanceMethod yX2_endAuction, Cond.selects RX2 yX2_endAuction yX2_endAuction, Cond.code yX2_endAuction cX2_endAuction 3 none, Cond.methodLink RX2 117 Lib.Math.min.name, Cond.methodLink RX2 114 yX2_prizeFor]
def wsX3_run_r7 : List Cond := [Cond.instanceMethod yX2_prizeFor, Cond.selects RX2 yX2_prizeFor yX2_prizeFor, Cond.code yX2_prizeFor cX2_prizeFor 5 (some .int), Cond.methodLink RX3 88 yX2_dropOut, Cond.methodLink RX3 91 yX2_actByLimit, Cond.methodLink RX3 82 yX2_mayBid, Cond.methodLink RX3 85 yX2_takeBid]
def wsX3_run : List Cond := .code yX3_run cX3_run 6 (some .int) :: ((wsX3_run_r1 ++ (wsX3_run_r2 ++ (wsX3_run_r3 ++ (wsX3_run_r4 ++ (wsX3_run_r5 ++ (wsX3_run_r6 ++ wsX3_run_r7)))))) ++ wsX30 ++ wsX10 ++ wsX00 ++ wsX20)
def wsX3_player : List Cond := .code yX3_player cX3_player 3 (some .int) :: ([.constant RX3 56 (-100001), .fieldLink RX3 10 "TurnBids" "table" "LTurnBids$Table;", .fieldLink RX3 62 "TurnBids$Table" "coins" "[I", .fieldLink RX3 65 "TurnBids$Table" "limits" "[I", .fieldLink RX3 121 "TurnBids$Table" "places" "[I", .fieldLink RX3 124 "TurnBids$Table" "bids" "[I", .fieldLink RX3 127 "TurnBids$Table" "placesGot" "[I", .fieldLink RX3 130 "TurnBids$Table" "paid" "[I", .fieldLink RX3 133 "TurnBids$Table" "taken" "[I", .fieldLink RX3 136 "TurnBids$Table" "won" "[I", .constant RX3 37 (-100002), .methodLink RX3 52 yX3_isPlayer, .static yX3_isPlayer, .initialized RX3, .code yX3_isPlayer cX3_isPlayer 1 (some .boolean)] ++ wsX30 ++ wsX20)
def wsX3_at : List Cond := .code yX3_at cX3_at 2 (some .int) :: ([.constant RX3 56 (-100001), .fieldLink RX3 10 "TurnBids" "table" "LTurnBids$Table;", .methodLink RX3 97 yX2_playerAt, .instanceMethod yX2_playerAt, .selects RX2 yX2_playerAt yX2_playerAt, .initialized RX2, .code yX2_playerAt cX2_playerAt 3 (some .int), .fieldLink RX2 24 "TurnBids$Table" "places" "[I", .constant RX2 27 (-100006)] ++ wsX30 ++ wsX20)
def wsX3_sum : List Cond := .code yX3_sum cX3_sum 6 (some .int) :: ([])
def wsX3_count_r1 : List Cond := [Cond.fieldLink RX3 10 "TurnBids" "table" "LTurnBids$Table;", Cond.fieldLink RX3 49 "TurnBids$Table" "settings" "[I", Cond.fieldLink RX3 74 "TurnBids$Table" "underWay" "Z", Cond.fieldLink RX3 139 "TurnBids$Table" "turn" "I", Cond.fieldLink RX3 151 "TurnBids$Table" "rounds" "I", Cond.fieldLink RX3 62 "TurnBids$Table" "coins" "[I", Cond.fieldLink RX3 130 "TurnBids$Table" "paid" "[I", Cond.fieldLink RX3 133 "TurnBids$Table" "taken" "[I", Cond.fieldLink RX3 71 "TurnBids$Table" "prizes" "[I", Cond.fieldLink RX3 33 "TurnBids" "pad" "LTurnBids$Pad;", Cond.fieldLink RX3 105 "TurnBids$Pad" "length" "I", Cond.fieldLink RX3 22 "TurnBids" "history" "LTurnBids$History;", Cond.fieldLink RX3 158 "TurnBids$History" "length" "I", Cond.constant RX3 37 (-100002), Cond.methodLink RX3 142 yX2_highestBid, Cond.instanceMethod yX2_highestBid, Cond.selects RX2 yX2_highestBid yX2_highestBid, Cond.initialized RX2, Cond.code yX2_highestBid cX2_highestBid 6 (some .int), Cond.constant RX2 27 (-100006), Cond.fieldLink RX2 28 "TurnBids$Table" "bids" "[I", Cond.methodLink RX3 145 yX2_leastBid, Cond.instanceMethod yX2_leastBid, Cond.selects RX2 yX2_leastBid yX2_leastBid]
def wsX3_count_r2 : List Cond := [Cond.code yX2_leastBid cX2_leastBid 2 (some .int), Cond.fieldLink RX2 43 "TurnBids$Table" "underWay" "Z", Cond.fieldLink RX2 9 "TurnBids$Table" "settings" "[I", Cond.methodLink RX2 60 yX2_highestBid, Cond.methodLink RX3 148 yX2_playersLeft, Cond.instanceMethod yX2_playersLeft, Cond.selects RX2 yX2_playersLeft yX2_playersLeft, Cond.code yX2_playersLeft cX2_playersLeft 3 (some .int), Cond.fieldLink RX2 31 "TurnBids$Table" "placesGot" "[I", Cond.methodLink RX3 154 yX3_sum, Cond.static yX3_sum, Cond.initialized RX3, Cond.code yX3_sum cX3_sum 6 (some .int)]
def wsX3_count : List Cond := .code yX3_count cX3_count 2 (some .int) :: ((wsX3_count_r1 ++ wsX3_count_r2) ++ wsX30 ++ wsX20 ++ wsX10 ++ wsX00)
def wsX3_prizeOf : List Cond := .code yX3_prizeOf cX3_prizeOf 2 (some .int) :: ([.constant RX3 56 (-100001), .fieldLink RX3 10 "TurnBids" "table" "LTurnBids$Table;", .fieldLink RX3 71 "TurnBids$Table" "prizes" "[I", .methodLink RX3 68 yX3_isPrize, .static yX3_isPrize, .initialized RX3, .code yX3_isPrize cX3_isPrize 1 (some .boolean)] ++ wsX30 ++ wsX20)
def wsX3_tryRounds_r1 : List Cond := [Cond.fieldLink RX3 16 "TurnBids" "trial" "LTurnBids$Table;", Cond.fieldLink RX3 10 "TurnBids" "table" "LTurnBids$Table;", Cond.methodLink RX3 163 yX2_copyFrom, Cond.instanceMethod yX2_copyFrom, Cond.selects RX2 yX2_copyFrom yX2_copyFrom, Cond.initialized RX2, Cond.code yX2_copyFrom cX2_copyFrom 2 none, Cond.fieldLink RX2 9 "TurnBids$Table" "settings" "[I", Cond.methodLink RX2 54 arraycopyName, Cond.native arraycopyName, Cond.static arraycopyName, Cond.initialized "java/lang/System", Cond.fieldLink RX2 15 "TurnBids$Table" "prizes" "[I", Cond.fieldLink RX2 18 "TurnBids$Table" "coins" "[I", Cond.fieldLink RX2 21 "TurnBids$Table" "limits" "[I", Cond.fieldLink RX2 24 "TurnBids$Table" "places" "[I", Cond.fieldLink RX2 28 "TurnBids$Table" "bids" "[I", Cond.fieldLink RX2 31 "TurnBids$Table" "placesGot" "[I", Cond.fieldLink RX2 34 "TurnBids$Table" "paid" "[I", Cond.fieldLink RX2 37 "TurnBids$Table" "taken" "[I", Cond.fieldLink RX2 40 "TurnBids$Table" "won" "[I", Cond.fieldLink RX2 43 "TurnBids$Table" "underWay" "Z", Cond.fieldLink RX2 47 "TurnBids$Table" "turn" "I", Cond.fieldLink RX2 51 "TurnBids$Table" "rounds" "I"]
def wsX3_tryRounds_r2 : List Cond := [Cond.methodLink RX3 94 yX2_playRound, Cond.instanceMethod yX2_playRound, Cond.selects RX2 yX2_playRound yX2_playRound, Cond.code yX2_playRound cX2_playRound 2 (some .int), Cond.methodLink RX2 108 yX2_start, Cond.instanceMethod yX2_start, Cond.selects RX2 yX2_start yX2_start, Cond.code yX2_start cX2_start 1 (some .int), Cond.methodLink RX2 77 yX2_playerAt, Cond.instanceMethod yX2_playerAt, Cond.selects RX2 yX2_playerAt yX2_playerAt, Cond.code yX2_playerAt cX2_playerAt 3 (some .int), Cond.constant RX2 27 (-100006), Cond.methodLink RX2 111 yX2_actByLimit, Cond.instanceMethod yX2_actByLimit, Cond.selects RX2 yX2_actByLimit yX2_actByLimit, Cond.code yX2_actByLimit cX2_actByLimit 2 (some .int), Cond.methodLink RX2 74 yX2_leastBid, Cond.instanceMethod yX2_leastBid, Cond.selects RX2 yX2_leastBid yX2_leastBid, Cond.code yX2_leastBid cX2_leastBid 2 (some .int), Cond.methodLink RX2 60 yX2_highestBid, Cond.instanceMethod yX2_highestBid, Cond.selects RX2 yX2_highestBid yX2_highestBid]
def wsX3_tryRounds_r3 : List Cond := [Cond.code yX2_highestBid cX2_highestBid 6 (some .int), Cond.static yX3_isPlayer, Cond.initialized RX3, Cond.code yX3_isPlayer cX3_isPlayer 1 (some .boolean), Cond.methodLink RX2 99 yX2_mayBid, Cond.instanceMethod yX2_mayBid, Cond.selects RX2 yX2_mayBid yX2_mayBid, Cond.code yX2_mayBid cX2_mayBid 2 (some .boolean), Cond.methodLink RX2 102 yX2_takeBid, Cond.instanceMethod yX2_takeBid, Cond.selects RX2 yX2_takeBid yX2_takeBid, Cond.code yX2_takeBid cX2_takeBid 2 (some .int), Cond.methodLink RX2 81 yX2_passTurn, Cond.instanceMethod yX2_passTurn, Cond.selects RX2 yX2_passTurn yX2_passTurn, Cond.code yX2_passTurn cX2_passTurn 4 none, Cond.methodLink RX2 105 yX2_dropOut, Cond.instanceMethod yX2_dropOut, Cond.selects RX2 yX2_dropOut yX2_dropOut, Cond.code yX2_dropOut cX2_dropOut 2 (some .int), Cond.methodLink RX2 84 yX2_playersLeft, Cond.instanceMethod yX2_playersLeft, Cond.selects RX2 yX2_playersLeft yX2_playersLeft, Cond.code yX2_playersLeft cX2_playersLeft 3 (some .int)]
def wsX3_tryRounds_r4 : List Cond := [Cond.methodLink RX2 87 yJ6_bitCount_0f7a4, Cond.static yJ6_bitCount_0f7a4, Cond.initialized RJ6, Cond.code yJ6_bitCount_0f7a4 cJ6_bitCount_0f7a4 1 (some .int), Cond.constant RJ6 265 (1431655765), Cond.constant RJ6 266 (858993459), Cond.constant RJ6 267 (252645135), Cond.methodLink RX2 92 yX2_pay, Cond.instanceMethod yX2_pay, Cond.selects RX2 yX2_pay yX2_pay, Cond.code yX2_pay cX2_pay 5 none, Cond.methodLink RX2 96 yX2_endAuction, Cond.instanceMethod yX2_endAuction, Cond.selects RX2 yX2_endAuction yX2_endAuction, Cond.code yX2_endAuction cX2_endAuction 3 none, Cond.methodLink RX2 117 Lib.Math.min.name, Cond.static Lib.Math.min.name, Cond.initialized "java/lang/Math", Cond.code Lib.Math.min.name Lib.Math.min.code 2 (some .int), Cond.methodLink RX2 114 yX2_prizeFor, Cond.instanceMethod yX2_prizeFor, Cond.selects RX2 yX2_prizeFor yX2_prizeFor, Cond.code yX2_prizeFor cX2_prizeFor 5 (some .int)]
def wsX3_tryRounds : List Cond := .code yX3_tryRounds cX3_tryRounds 3 none :: ((wsX3_tryRounds_r1 ++ (wsX3_tryRounds_r2 ++ (wsX3_tryRounds_r3 ++ wsX3_tryRounds_r4))) ++ wsX30 ++ wsX20)
def wsX3_ifFinished_r1 : List Cond := [Cond.constant RX3 56 (-100001), Cond.constant RX3 37 (-100002), Cond.fieldLink RX3 16 "TurnBids" "trial" "LTurnBids$Table;", Cond.fieldLink RX3 121 "TurnBids$Table" "places" "[I", Cond.fieldLink RX3 130 "TurnBids$Table" "paid" "[I", Cond.fieldLink RX3 10 "TurnBids" "table" "LTurnBids$Table;", Cond.fieldLink RX3 133 "TurnBids$Table" "taken" "[I", Cond.fieldLink RX3 62 "TurnBids$Table" "coins" "[I", Cond.methodLink RX3 52 yX3_isPlayer, Cond.static yX3_isPlayer, Cond.initialized RX3, Cond.code yX3_isPlayer cX3_isPlayer 1 (some .boolean), Cond.methodLink RX3 159 yX3_tryRounds, Cond.instanceMethod yX3_tryRounds, Cond.selects RX3 yX3_tryRounds yX3_tryRounds, Cond.code yX3_tryRounds cX3_tryRounds 3 none, Cond.methodLink RX3 163 yX2_copyFrom, Cond.instanceMethod yX2_copyFrom, Cond.selects RX2 yX2_copyFrom yX2_copyFrom, Cond.initialized RX2, Cond.code yX2_copyFrom cX2_copyFrom 2 none, Cond.fieldLink RX2 9 "TurnBids$Table" "settings" "[I", Cond.methodLink RX2 54 arraycopyName, Cond.native arraycopyName]
def wsX3_ifFinished_r2 : List Cond := [Cond.static arraycopyName, Cond.initialized "java/lang/System", Cond.fieldLink RX2 15 "TurnBids$Table" "prizes" "[I", Cond.fieldLink RX2 18 "TurnBids$Table" "coins" "[I", Cond.fieldLink RX2 21 "TurnBids$Table" "limits" "[I", Cond.fieldLink RX2 24 "TurnBids$Table" "places" "[I", Cond.fieldLink RX2 28 "TurnBids$Table" "bids" "[I", Cond.fieldLink RX2 31 "TurnBids$Table" "placesGot" "[I", Cond.fieldLink RX2 34 "TurnBids$Table" "paid" "[I", Cond.fieldLink RX2 37 "TurnBids$Table" "taken" "[I", Cond.fieldLink RX2 40 "TurnBids$Table" "won" "[I", Cond.fieldLink RX2 43 "TurnBids$Table" "underWay" "Z", Cond.fieldLink RX2 47 "TurnBids$Table" "turn" "I", Cond.fieldLink RX2 51 "TurnBids$Table" "rounds" "I", Cond.methodLink RX3 94 yX2_playRound, Cond.instanceMethod yX2_playRound, Cond.selects RX2 yX2_playRound yX2_playRound, Cond.code yX2_playRound cX2_playRound 2 (some .int), Cond.methodLink RX2 108 yX2_start, Cond.instanceMethod yX2_start, Cond.selects RX2 yX2_start yX2_start, Cond.code yX2_start cX2_start 1 (some .int), Cond.methodLink RX2 77 yX2_playerAt, Cond.instanceMethod yX2_playerAt]
def wsX3_ifFinished_r3 : List Cond := [Cond.selects RX2 yX2_playerAt yX2_playerAt, Cond.code yX2_playerAt cX2_playerAt 3 (some .int), Cond.constant RX2 27 (-100006), Cond.methodLink RX2 111 yX2_actByLimit, Cond.instanceMethod yX2_actByLimit, Cond.selects RX2 yX2_actByLimit yX2_actByLimit, Cond.code yX2_actByLimit cX2_actByLimit 2 (some .int), Cond.methodLink RX2 74 yX2_leastBid, Cond.instanceMethod yX2_leastBid, Cond.selects RX2 yX2_leastBid yX2_leastBid, Cond.code yX2_leastBid cX2_leastBid 2 (some .int), Cond.methodLink RX2 60 yX2_highestBid, Cond.instanceMethod yX2_highestBid, Cond.selects RX2 yX2_highestBid yX2_highestBid, Cond.code yX2_highestBid cX2_highestBid 6 (some .int), Cond.methodLink RX2 99 yX2_mayBid, Cond.instanceMethod yX2_mayBid, Cond.selects RX2 yX2_mayBid yX2_mayBid, Cond.code yX2_mayBid cX2_mayBid 2 (some .boolean), Cond.methodLink RX2 102 yX2_takeBid, Cond.instanceMethod yX2_takeBid, Cond.selects RX2 yX2_takeBid yX2_takeBid, Cond.code yX2_takeBid cX2_takeBid 2 (some .int), Cond.methodLink RX2 81 yX2_passTurn]
def wsX3_ifFinished_r4 : List Cond := [Cond.instanceMethod yX2_passTurn, Cond.selects RX2 yX2_passTurn yX2_passTurn, Cond.code yX2_passTurn cX2_passTurn 4 none, Cond.methodLink RX2 105 yX2_dropOut, Cond.instanceMethod yX2_dropOut, Cond.selects RX2 yX2_dropOut yX2_dropOut, Cond.code yX2_dropOut cX2_dropOut 2 (some .int), Cond.methodLink RX2 84 yX2_playersLeft, Cond.instanceMethod yX2_playersLeft, Cond.selects RX2 yX2_playersLeft yX2_playersLeft, Cond.code yX2_playersLeft cX2_playersLeft 3 (some .int), Cond.methodLink RX2 87 yJ6_bitCount_0f7a4, Cond.static yJ6_bitCount_0f7a4, Cond.initialized RJ6, Cond.code yJ6_bitCount_0f7a4 cJ6_bitCount_0f7a4 1 (some .int), Cond.constant RJ6 265 (1431655765), Cond.constant RJ6 266 (858993459), Cond.constant RJ6 267 (252645135), Cond.methodLink RX2 92 yX2_pay, Cond.instanceMethod yX2_pay, Cond.selects RX2 yX2_pay yX2_pay, Cond.code yX2_pay cX2_pay 5 none, Cond.methodLink RX2 96 yX2_endAuction, Cond.instanceMethod yX2_endAuction]
def wsX3_ifFinished_r5 : List Cond := [Cond.selects RX2 yX2_endAuction yX2_endAuction, Cond.code yX2_endAuction cX2_endAuction 3 none, Cond.methodLink RX2 117 Lib.Math.min.name, Cond.static Lib.Math.min.name, Cond.initialized "java/lang/Math", Cond.code Lib.Math.min.name Lib.Math.min.code 2 (some .int), Cond.methodLink RX2 114 yX2_prizeFor, Cond.instanceMethod yX2_prizeFor, Cond.selects RX2 yX2_prizeFor yX2_prizeFor, Cond.code yX2_prizeFor cX2_prizeFor 5 (some .int)]
def wsX3_ifFinished : List Cond := .code yX3_ifFinished cX3_ifFinished 3 (some .int) :: ((wsX3_ifFinished_r1 ++ (wsX3_ifFinished_r2 ++ (wsX3_ifFinished_r3 ++ (wsX3_ifFinished_r4 ++ wsX3_ifFinished_r5)))) ++ wsX30 ++ wsX20)
def wsX3_bestLimit_r1 : List Cond := [Cond.constant RX3 56 (-100001), Cond.constant RX3 37 (-100002), Cond.constant RX3 103 (-100006), Cond.fieldLink RX3 16 "TurnBids" "trial" "LTurnBids$Table;", Cond.fieldLink RX3 10 "TurnBids" "table" "LTurnBids$Table;", Cond.fieldLink RX3 65 "TurnBids$Table" "limits" "[I", Cond.fieldLink RX3 62 "TurnBids$Table" "coins" "[I", Cond.methodLink RX3 52 yX3_isPlayer, Cond.static yX3_isPlayer, Cond.initialized RX3, Cond.code yX3_isPlayer cX3_isPlayer 1 (some .boolean), Cond.methodLink RX3 163 yX2_copyFrom, Cond.instanceMethod yX2_copyFrom, Cond.selects RX2 yX2_copyFrom yX2_copyFrom, Cond.initialized RX2, Cond.code yX2_copyFrom cX2_copyFrom 2 none, Cond.fieldLink RX2 9 "TurnBids$Table" "settings" "[I", Cond.methodLink RX2 54 arraycopyName, Cond.native arraycopyName, Cond.static arraycopyName, Cond.initialized "java/lang/System", Cond.fieldLink RX2 15 "TurnBids$Table" "prizes" "[I", Cond.fieldLink RX2 18 "TurnBids$Table" "coins" "[I", Cond.fieldLink RX2 21 "TurnBids$Table" "limits" "[I"]
def wsX3_bestLimit_r2 : List Cond := [Cond.fieldLink RX2 24 "TurnBids$Table" "places" "[I", Cond.fieldLink RX2 28 "TurnBids$Table" "bids" "[I", Cond.fieldLink RX2 31 "TurnBids$Table" "placesGot" "[I", Cond.fieldLink RX2 34 "TurnBids$Table" "paid" "[I", Cond.fieldLink RX2 37 "TurnBids$Table" "taken" "[I", Cond.fieldLink RX2 40 "TurnBids$Table" "won" "[I", Cond.fieldLink RX2 43 "TurnBids$Table" "underWay" "Z", Cond.fieldLink RX2 47 "TurnBids$Table" "turn" "I", Cond.fieldLink RX2 51 "TurnBids$Table" "rounds" "I", Cond.methodLink RX3 94 yX2_playRound, Cond.instanceMethod yX2_playRound, Cond.selects RX2 yX2_playRound yX2_playRound, Cond.code yX2_playRound cX2_playRound 2 (some .int), Cond.methodLink RX2 108 yX2_start, Cond.instanceMethod yX2_start, Cond.selects RX2 yX2_start yX2_start, Cond.code yX2_start cX2_start 1 (some .int), Cond.methodLink RX2 77 yX2_playerAt, Cond.instanceMethod yX2_playerAt, Cond.selects RX2 yX2_playerAt yX2_playerAt, Cond.code yX2_playerAt cX2_playerAt 3 (some .int), Cond.constant RX2 27 (-100006), Cond.methodLink RX2 111 yX2_actByLimit, Cond.instanceMethod yX2_actByLimit]
def wsX3_bestLimit_r3 : List Cond := [Cond.selects RX2 yX2_actByLimit yX2_actByLimit, Cond.code yX2_actByLimit cX2_actByLimit 2 (some .int), Cond.methodLink RX2 74 yX2_leastBid, Cond.instanceMethod yX2_leastBid, Cond.selects RX2 yX2_leastBid yX2_leastBid, Cond.code yX2_leastBid cX2_leastBid 2 (some .int), Cond.methodLink RX2 60 yX2_highestBid, Cond.instanceMethod yX2_highestBid, Cond.selects RX2 yX2_highestBid yX2_highestBid, Cond.code yX2_highestBid cX2_highestBid 6 (some .int), Cond.methodLink RX2 99 yX2_mayBid, Cond.instanceMethod yX2_mayBid, Cond.selects RX2 yX2_mayBid yX2_mayBid, Cond.code yX2_mayBid cX2_mayBid 2 (some .boolean), Cond.methodLink RX2 102 yX2_takeBid, Cond.instanceMethod yX2_takeBid, Cond.selects RX2 yX2_takeBid yX2_takeBid, Cond.code yX2_takeBid cX2_takeBid 2 (some .int), Cond.methodLink RX2 81 yX2_passTurn, Cond.instanceMethod yX2_passTurn, Cond.selects RX2 yX2_passTurn yX2_passTurn, Cond.code yX2_passTurn cX2_passTurn 4 none, Cond.methodLink RX2 105 yX2_dropOut, Cond.instanceMethod yX2_dropOut]
def wsX3_bestLimit_r4 : List Cond := [Cond.selects RX2 yX2_dropOut yX2_dropOut, Cond.code yX2_dropOut cX2_dropOut 2 (some .int), Cond.methodLink RX2 84 yX2_playersLeft, Cond.instanceMethod yX2_playersLeft, Cond.selects RX2 yX2_playersLeft yX2_playersLeft, Cond.code yX2_playersLeft cX2_playersLeft 3 (some .int), Cond.methodLink RX2 87 yJ6_bitCount_0f7a4, Cond.static yJ6_bitCount_0f7a4, Cond.initialized RJ6, Cond.code yJ6_bitCount_0f7a4 cJ6_bitCount_0f7a4 1 (some .int), Cond.constant RJ6 265 (1431655765), Cond.constant RJ6 266 (858993459), Cond.constant RJ6 267 (252645135), Cond.methodLink RX2 92 yX2_pay, Cond.instanceMethod yX2_pay, Cond.selects RX2 yX2_pay yX2_pay, Cond.code yX2_pay cX2_pay 5 none, Cond.methodLink RX2 96 yX2_endAuction, Cond.instanceMethod yX2_endAuction, Cond.selects RX2 yX2_endAuction yX2_endAuction, Cond.code yX2_endAuction cX2_endAuction 3 none, Cond.methodLink RX2 117 Lib.Math.min.name, Cond.static Lib.Math.min.name, Cond.initialized "java/lang/Math"]
def wsX3_bestLimit_r5 : List Cond := [Cond.code Lib.Math.min.name Lib.Math.min.code 2 (some .int), Cond.methodLink RX2 114 yX2_prizeFor, Cond.instanceMethod yX2_prizeFor, Cond.selects RX2 yX2_prizeFor yX2_prizeFor, Cond.code yX2_prizeFor cX2_prizeFor 5 (some .int)]
def wsX3_bestLimit : List Cond := .code yX3_bestLimit cX3_bestLimit 6 (some .int) :: ((wsX3_bestLimit_r1 ++ (wsX3_bestLimit_r2 ++ (wsX3_bestLimit_r3 ++ (wsX3_bestLimit_r4 ++ wsX3_bestLimit_r5)))) ++ wsX30 ++ wsX20)
def wsX3_coinsBehind_r1 : List Cond := [Cond.constant RX3 56 (-100001), Cond.constant RX3 37 (-100002), Cond.fieldLink RX3 16 "TurnBids" "trial" "LTurnBids$Table;", Cond.fieldLink RX3 62 "TurnBids$Table" "coins" "[I", Cond.methodLink RX3 52 yX3_isPlayer, Cond.static yX3_isPlayer, Cond.initialized RX3, Cond.code yX3_isPlayer cX3_isPlayer 1 (some .boolean), Cond.methodLink RX3 159 yX3_tryRounds, Cond.instanceMethod yX3_tryRounds, Cond.selects RX3 yX3_tryRounds yX3_tryRounds, Cond.code yX3_tryRounds cX3_tryRounds 3 none, Cond.fieldLink RX3 10 "TurnBids" "table" "LTurnBids$Table;", Cond.methodLink RX3 163 yX2_copyFrom, Cond.instanceMethod yX2_copyFrom, Cond.selects RX2 yX2_copyFrom yX2_copyFrom, Cond.initialized RX2, Cond.code yX2_copyFrom cX2_copyFrom 2 none, Cond.fieldLink RX2 9 "TurnBids$Table" "settings" "[I", Cond.methodLink RX2 54 arraycopyName, Cond.native arraycopyName, Cond.static arraycopyName, Cond.initialized "java/lang/System", Cond.fieldLink RX2 15 "TurnBids$Table" "prizes" "[I"]
def wsX3_coinsBehind_r2 : List Cond := [Cond.fieldLink RX2 18 "TurnBids$Table" "coins" "[I", Cond.fieldLink RX2 21 "TurnBids$Table" "limits" "[I", Cond.fieldLink RX2 24 "TurnBids$Table" "places" "[I", Cond.fieldLink RX2 28 "TurnBids$Table" "bids" "[I", Cond.fieldLink RX2 31 "TurnBids$Table" "placesGot" "[I", Cond.fieldLink RX2 34 "TurnBids$Table" "paid" "[I", Cond.fieldLink RX2 37 "TurnBids$Table" "taken" "[I", Cond.fieldLink RX2 40 "TurnBids$Table" "won" "[I", Cond.fieldLink RX2 43 "TurnBids$Table" "underWay" "Z", Cond.fieldLink RX2 47 "TurnBids$Table" "turn" "I", Cond.fieldLink RX2 51 "TurnBids$Table" "rounds" "I", Cond.methodLink RX3 94 yX2_playRound, Cond.instanceMethod yX2_playRound, Cond.selects RX2 yX2_playRound yX2_playRound, Cond.code yX2_playRound cX2_playRound 2 (some .int), Cond.methodLink RX2 108 yX2_start, Cond.instanceMethod yX2_start, Cond.selects RX2 yX2_start yX2_start, Cond.code yX2_start cX2_start 1 (some .int), Cond.methodLink RX2 77 yX2_playerAt, Cond.instanceMethod yX2_playerAt, Cond.selects RX2 yX2_playerAt yX2_playerAt, Cond.code yX2_playerAt cX2_playerAt 3 (some .int), Cond.constant RX2 27 (-100006)]
def wsX3_coinsBehind_r3 : List Cond := [Cond.methodLink RX2 111 yX2_actByLimit, Cond.instanceMethod yX2_actByLimit, Cond.selects RX2 yX2_actByLimit yX2_actByLimit, Cond.code yX2_actByLimit cX2_actByLimit 2 (some .int), Cond.methodLink RX2 74 yX2_leastBid, Cond.instanceMethod yX2_leastBid, Cond.selects RX2 yX2_leastBid yX2_leastBid, Cond.code yX2_leastBid cX2_leastBid 2 (some .int), Cond.methodLink RX2 60 yX2_highestBid, Cond.instanceMethod yX2_highestBid, Cond.selects RX2 yX2_highestBid yX2_highestBid, Cond.code yX2_highestBid cX2_highestBid 6 (some .int), Cond.methodLink RX2 99 yX2_mayBid, Cond.instanceMethod yX2_mayBid, Cond.selects RX2 yX2_mayBid yX2_mayBid, Cond.code yX2_mayBid cX2_mayBid 2 (some .boolean), Cond.methodLink RX2 102 yX2_takeBid, Cond.instanceMethod yX2_takeBid, Cond.selects RX2 yX2_takeBid yX2_takeBid, Cond.code yX2_takeBid cX2_takeBid 2 (some .int), Cond.methodLink RX2 81 yX2_passTurn, Cond.instanceMethod yX2_passTurn, Cond.selects RX2 yX2_passTurn yX2_passTurn, Cond.code yX2_passTurn cX2_passTurn 4 none]
def wsX3_coinsBehind_r4 : List Cond := [Cond.methodLink RX2 105 yX2_dropOut, Cond.instanceMethod yX2_dropOut, Cond.selects RX2 yX2_dropOut yX2_dropOut, Cond.code yX2_dropOut cX2_dropOut 2 (some .int), Cond.methodLink RX2 84 yX2_playersLeft, Cond.instanceMethod yX2_playersLeft, Cond.selects RX2 yX2_playersLeft yX2_playersLeft, Cond.code yX2_playersLeft cX2_playersLeft 3 (some .int), Cond.methodLink RX2 87 yJ6_bitCount_0f7a4, Cond.static yJ6_bitCount_0f7a4, Cond.initialized RJ6, Cond.code yJ6_bitCount_0f7a4 cJ6_bitCount_0f7a4 1 (some .int), Cond.constant RJ6 265 (1431655765), Cond.constant RJ6 266 (858993459), Cond.constant RJ6 267 (252645135), Cond.methodLink RX2 92 yX2_pay, Cond.instanceMethod yX2_pay, Cond.selects RX2 yX2_pay yX2_pay, Cond.code yX2_pay cX2_pay 5 none, Cond.methodLink RX2 96 yX2_endAuction, Cond.instanceMethod yX2_endAuction, Cond.selects RX2 yX2_endAuction yX2_endAuction, Cond.code yX2_endAuction cX2_endAuction 3 none, Cond.methodLink RX2 117 Lib.Math.min.name]
def wsX3_coinsBehind_r5 : List Cond := [Cond.static Lib.Math.min.name, Cond.initialized "java/lang/Math", Cond.code Lib.Math.min.name Lib.Math.min.code 2 (some .int), Cond.methodLink RX2 114 yX2_prizeFor, Cond.instanceMethod yX2_prizeFor, Cond.selects RX2 yX2_prizeFor yX2_prizeFor, Cond.code yX2_prizeFor cX2_prizeFor 5 (some .int)]
def wsX3_coinsBehind : List Cond := .code yX3_coinsBehind cX3_coinsBehind 3 (some .int) :: ((wsX3_coinsBehind_r1 ++ (wsX3_coinsBehind_r2 ++ (wsX3_coinsBehind_r3 ++ (wsX3_coinsBehind_r4 ++ wsX3_coinsBehind_r5)))) ++ wsX30 ++ wsX20)
def wsX3_richest_r1 : List Cond := [Cond.constant RX3 37 (-100002), Cond.fieldLink RX3 16 "TurnBids" "trial" "LTurnBids$Table;", Cond.fieldLink RX3 62 "TurnBids$Table" "coins" "[I", Cond.fieldLink RX3 121 "TurnBids$Table" "places" "[I", Cond.methodLink RX3 159 yX3_tryRounds, Cond.instanceMethod yX3_tryRounds, Cond.selects RX3 yX3_tryRounds yX3_tryRounds, Cond.initialized RX3, Cond.code yX3_tryRounds cX3_tryRounds 3 none, Cond.fieldLink RX3 10 "TurnBids" "table" "LTurnBids$Table;", Cond.methodLink RX3 163 yX2_copyFrom, Cond.instanceMethod yX2_copyFrom, Cond.selects RX2 yX2_copyFrom yX2_copyFrom, Cond.initialized RX2, Cond.code yX2_copyFrom cX2_copyFrom 2 none, Cond.fieldLink RX2 9 "TurnBids$Table" "settings" "[I", Cond.methodLink RX2 54 arraycopyName, Cond.native arraycopyName, Cond.static arraycopyName, Cond.initialized "java/lang/System", Cond.fieldLink RX2 15 "TurnBids$Table" "prizes" "[I", Cond.fieldLink RX2 18 "TurnBids$Table" "coins" "[I", Cond.fieldLink RX2 21 "TurnBids$Table" "limits" "[I", Cond.fieldLink RX2 24 "TurnBids$Table" "places" "[I"]
def wsX3_richest_r2 : List Cond := [Cond.fieldLink RX2 28 "TurnBids$Table" "bids" "[I", Cond.fieldLink RX2 31 "TurnBids$Table" "placesGot" "[I", Cond.fieldLink RX2 34 "TurnBids$Table" "paid" "[I", Cond.fieldLink RX2 37 "TurnBids$Table" "taken" "[I", Cond.fieldLink RX2 40 "TurnBids$Table" "won" "[I", Cond.fieldLink RX2 43 "TurnBids$Table" "underWay" "Z", Cond.fieldLink RX2 47 "TurnBids$Table" "turn" "I", Cond.fieldLink RX2 51 "TurnBids$Table" "rounds" "I", Cond.methodLink RX3 94 yX2_playRound, Cond.instanceMethod yX2_playRound, Cond.selects RX2 yX2_playRound yX2_playRound, Cond.code yX2_playRound cX2_playRound 2 (some .int), Cond.methodLink RX2 108 yX2_start, Cond.instanceMethod yX2_start, Cond.selects RX2 yX2_start yX2_start, Cond.code yX2_start cX2_start 1 (some .int), Cond.methodLink RX2 77 yX2_playerAt, Cond.instanceMethod yX2_playerAt, Cond.selects RX2 yX2_playerAt yX2_playerAt, Cond.code yX2_playerAt cX2_playerAt 3 (some .int), Cond.constant RX2 27 (-100006), Cond.methodLink RX2 111 yX2_actByLimit, Cond.instanceMethod yX2_actByLimit, Cond.selects RX2 yX2_actByLimit yX2_actByLimit]
def wsX3_richest_r3 : List Cond := [Cond.code yX2_actByLimit cX2_actByLimit 2 (some .int), Cond.methodLink RX2 74 yX2_leastBid, Cond.instanceMethod yX2_leastBid, Cond.selects RX2 yX2_leastBid yX2_leastBid, Cond.code yX2_leastBid cX2_leastBid 2 (some .int), Cond.methodLink RX2 60 yX2_highestBid, Cond.instanceMethod yX2_highestBid, Cond.selects RX2 yX2_highestBid yX2_highestBid, Cond.code yX2_highestBid cX2_highestBid 6 (some .int), Cond.static yX3_isPlayer, Cond.code yX3_isPlayer cX3_isPlayer 1 (some .boolean), Cond.methodLink RX2 99 yX2_mayBid, Cond.instanceMethod yX2_mayBid, Cond.selects RX2 yX2_mayBid yX2_mayBid, Cond.code yX2_mayBid cX2_mayBid 2 (some .boolean), Cond.methodLink RX2 102 yX2_takeBid, Cond.instanceMethod yX2_takeBid, Cond.selects RX2 yX2_takeBid yX2_takeBid, Cond.code yX2_takeBid cX2_takeBid 2 (some .int), Cond.methodLink RX2 81 yX2_passTurn, Cond.instanceMethod yX2_passTurn, Cond.selects RX2 yX2_passTurn yX2_passTurn, Cond.code yX2_passTurn cX2_passTurn 4 none, Cond.methodLink RX2 105 yX2_dropOut]
def wsX3_richest_r4 : List Cond := [Cond.instanceMethod yX2_dropOut, Cond.selects RX2 yX2_dropOut yX2_dropOut, Cond.code yX2_dropOut cX2_dropOut 2 (some .int), Cond.methodLink RX2 84 yX2_playersLeft, Cond.instanceMethod yX2_playersLeft, Cond.selects RX2 yX2_playersLeft yX2_playersLeft, Cond.code yX2_playersLeft cX2_playersLeft 3 (some .int), Cond.methodLink RX2 87 yJ6_bitCount_0f7a4, Cond.static yJ6_bitCount_0f7a4, Cond.initialized RJ6, Cond.code yJ6_bitCount_0f7a4 cJ6_bitCount_0f7a4 1 (some .int), Cond.constant RJ6 265 (1431655765), Cond.constant RJ6 266 (858993459), Cond.constant RJ6 267 (252645135), Cond.methodLink RX2 92 yX2_pay, Cond.instanceMethod yX2_pay, Cond.selects RX2 yX2_pay yX2_pay, Cond.code yX2_pay cX2_pay 5 none, Cond.methodLink RX2 96 yX2_endAuction, Cond.instanceMethod yX2_endAuction, Cond.selects RX2 yX2_endAuction yX2_endAuction, Cond.code yX2_endAuction cX2_endAuction 3 none, Cond.methodLink RX2 117 Lib.Math.min.name, Cond.static Lib.Math.min.name]
def wsX3_richest_r5 : List Cond := [Cond.initialized "java/lang/Math", Cond.code Lib.Math.min.name Lib.Math.min.code 2 (some .int), Cond.methodLink RX2 114 yX2_prizeFor, Cond.instanceMethod yX2_prizeFor, Cond.selects RX2 yX2_prizeFor yX2_prizeFor, Cond.code yX2_prizeFor cX2_prizeFor 5 (some .int)]
def wsX3_richest : List Cond := .code yX3_richest cX3_richest 5 (some .int) :: ((wsX3_richest_r1 ++ (wsX3_richest_r2 ++ (wsX3_richest_r3 ++ (wsX3_richest_r4 ++ wsX3_richest_r5)))) ++ wsX30 ++ wsX20)
def wsX3_movesLeft_r1 : List Cond := [Cond.fieldLink RX3 10 "TurnBids" "table" "LTurnBids$Table;", Cond.fieldLink RX3 74 "TurnBids$Table" "underWay" "Z", Cond.constant RX3 61 (-100005), Cond.fieldLink RX3 16 "TurnBids" "trial" "LTurnBids$Table;", Cond.methodLink RX3 163 yX2_copyFrom, Cond.instanceMethod yX2_copyFrom, Cond.selects RX2 yX2_copyFrom yX2_copyFrom, Cond.initialized RX2, Cond.code yX2_copyFrom cX2_copyFrom 2 none, Cond.fieldLink RX2 9 "TurnBids$Table" "settings" "[I", Cond.methodLink RX2 54 arraycopyName, Cond.native arraycopyName, Cond.static arraycopyName, Cond.initialized "java/lang/System", Cond.fieldLink RX2 15 "TurnBids$Table" "prizes" "[I", Cond.fieldLink RX2 18 "TurnBids$Table" "coins" "[I", Cond.fieldLink RX2 21 "TurnBids$Table" "limits" "[I", Cond.fieldLink RX2 24 "TurnBids$Table" "places" "[I", Cond.fieldLink RX2 28 "TurnBids$Table" "bids" "[I", Cond.fieldLink RX2 31 "TurnBids$Table" "placesGot" "[I", Cond.fieldLink RX2 34 "TurnBids$Table" "paid" "[I", Cond.fieldLink RX2 37 "TurnBids$Table" "taken" "[I", Cond.fieldLink RX2 40 "TurnBids$Table" "won" "[I", Cond.fieldLink RX2 43 "TurnBids$Table" "underWay" "Z"]
def wsX3_movesLeft_r2 : List Cond := [Cond.fieldLink RX2 47 "TurnBids$Table" "turn" "I", Cond.fieldLink RX2 51 "TurnBids$Table" "rounds" "I", Cond.methodLink RX3 94 yX2_playRound, Cond.instanceMethod yX2_playRound, Cond.selects RX2 yX2_playRound yX2_playRound, Cond.code yX2_playRound cX2_playRound 2 (some .int), Cond.methodLink RX2 108 yX2_start, Cond.instanceMethod yX2_start, Cond.selects RX2 yX2_start yX2_start, Cond.code yX2_start cX2_start 1 (some .int), Cond.methodLink RX2 77 yX2_playerAt, Cond.instanceMethod yX2_playerAt, Cond.selects RX2 yX2_playerAt yX2_playerAt, Cond.code yX2_playerAt cX2_playerAt 3 (some .int), Cond.constant RX2 27 (-100006), Cond.methodLink RX2 111 yX2_actByLimit, Cond.instanceMethod yX2_actByLimit, Cond.selects RX2 yX2_actByLimit yX2_actByLimit, Cond.code yX2_actByLimit cX2_actByLimit 2 (some .int), Cond.methodLink RX2 74 yX2_leastBid, Cond.instanceMethod yX2_leastBid, Cond.selects RX2 yX2_leastBid yX2_leastBid, Cond.code yX2_leastBid cX2_leastBid 2 (some .int), Cond.methodLink RX2 60 yX2_highestBid]
def wsX3_movesLeft_r3 : List Cond := [Cond.instanceMethod yX2_highestBid, Cond.selects RX2 yX2_highestBid yX2_highestBid, Cond.code yX2_highestBid cX2_highestBid 6 (some .int), Cond.static yX3_isPlayer, Cond.initialized RX3, Cond.code yX3_isPlayer cX3_isPlayer 1 (some .boolean), Cond.methodLink RX2 99 yX2_mayBid, Cond.instanceMethod yX2_mayBid, Cond.selects RX2 yX2_mayBid yX2_mayBid, Cond.code yX2_mayBid cX2_mayBid 2 (some .boolean), Cond.methodLink RX2 102 yX2_takeBid, Cond.instanceMethod yX2_takeBid, Cond.selects RX2 yX2_takeBid yX2_takeBid, Cond.code yX2_takeBid cX2_takeBid 2 (some .int), Cond.methodLink RX2 81 yX2_passTurn, Cond.instanceMethod yX2_passTurn, Cond.selects RX2 yX2_passTurn yX2_passTurn, Cond.code yX2_passTurn cX2_passTurn 4 none, Cond.methodLink RX2 105 yX2_dropOut, Cond.instanceMethod yX2_dropOut, Cond.selects RX2 yX2_dropOut yX2_dropOut, Cond.code yX2_dropOut cX2_dropOut 2 (some .int), Cond.methodLink RX2 84 yX2_playersLeft, Cond.instanceMethod yX2_playersLeft]
def wsX3_movesLeft_r4 : List Cond := [Cond.selects RX2 yX2_playersLeft yX2_playersLeft, Cond.code yX2_playersLeft cX2_playersLeft 3 (some .int), Cond.methodLink RX2 87 yJ6_bitCount_0f7a4, Cond.static yJ6_bitCount_0f7a4, Cond.initialized RJ6, Cond.code yJ6_bitCount_0f7a4 cJ6_bitCount_0f7a4 1 (some .int), Cond.constant RJ6 265 (1431655765), Cond.constant RJ6 266 (858993459), Cond.constant RJ6 267 (252645135), Cond.methodLink RX2 92 yX2_pay, Cond.instanceMethod yX2_pay, Cond.selects RX2 yX2_pay yX2_pay, Cond.code yX2_pay cX2_pay 5 none, Cond.methodLink RX2 96 yX2_endAuction, Cond.instanceMethod yX2_endAuction, Cond.selects RX2 yX2_endAuction yX2_endAuction, Cond.code yX2_endAuction cX2_endAuction 3 none, Cond.methodLink RX2 117 Lib.Math.min.name, Cond.static Lib.Math.min.name, Cond.initialized "java/lang/Math", Cond.code Lib.Math.min.name Lib.Math.min.code 2 (some .int), Cond.methodLink RX2 114 yX2_prizeFor, Cond.instanceMethod yX2_prizeFor, Cond.selects RX2 yX2_prizeFor yX2_prizeFor]
def wsX3_movesLeft_r5 : List Cond := [Cond.code yX2_prizeFor cX2_prizeFor 5 (some .int)]
def wsX3_movesLeft : List Cond := .code yX3_movesLeft cX3_movesLeft 1 (some .int) :: ((wsX3_movesLeft_r1 ++ (wsX3_movesLeft_r2 ++ (wsX3_movesLeft_r3 ++ (wsX3_movesLeft_r4 ++ wsX3_movesLeft_r5)))) ++ wsX30 ++ wsX20)
def wsX3_put : List Cond := .code yX3_put cX3_put 4 (some .int) :: ([.constant RX3 37 (-100002), .fieldLink RX3 33 "TurnBids" "pad" "LTurnBids$Pad;", .fieldLink RX3 105 "TurnBids$Pad" "length" "I", .constant RX3 170 (-100004), .methodLink RX3 166 yX1_signsIn, .static yX1_signsIn, .initialized RX1, .code yX1_signsIn cX1_signsIn 7 (some .int), .constantLong RX1 19 (255), .constantLong RX1 21 (33), .constantLong RX1 23 (126), .methodLink RX3 171 yX1_append, .instanceMethod yX1_append, .selects RX1 yX1_append yX1_append, .code yX1_append cX1_append 7 none, .fieldLink RX1 15 "TurnBids$Pad" "length" "I", .fieldLink RX1 9 "TurnBids$Pad" "signs" "[C"] ++ wsX30 ++ wsX10)
def wsX3_wipe : List Cond := .code yX3_wipe cX3_wipe 2 (some .int) :: ([.fieldLink RX3 33 "TurnBids" "pad" "LTurnBids$Pad;", .fieldLink RX3 105 "TurnBids$Pad" "length" "I"] ++ wsX30 ++ wsX10)
def wsX3_fault : List Cond := .code yX3_fault cX3_fault 1 (some .int) :: ([.fieldLink RX3 33 "TurnBids" "pad" "LTurnBids$Pad;", .methodLink RX3 100 yX1_faultIndex, .instanceMethod yX1_faultIndex, .selects RX1 yX1_faultIndex yX1_faultIndex, .initialized RX1, .code yX1_faultIndex cX1_faultIndex 3 (some .int), .fieldLink RX1 15 "TurnBids$Pad" "length" "I", .constant RX1 33 (-100006), .methodLink RX1 25 yX1_signAt, .instanceMethod yX1_signAt, .selects RX1 yX1_signAt yX1_signAt, .code yX1_signAt cX1_signAt 2 (some .char), .fieldLink RX1 9 "TurnBids$Pad" "signs" "[C", .methodLink RX1 29 yX1_dueBehind, .static yX1_dueBehind, .code yX1_dueBehind cX1_dueBehind 2 (some .int), .methodLink RX1 34 yX1_isDigit, .static yX1_isDigit, .code yX1_isDigit cX1_isDigit 1 (some .boolean)] ++ wsX30 ++ wsX10)
def wsX3_undo_r1 : List Cond := [Cond.fieldLink RX3 22 "TurnBids" "history" "LTurnBids$History;", Cond.fieldLink RX3 158 "TurnBids$History" "length" "I", Cond.constant RX3 61 (-100005), Cond.fieldLink RX3 10 "TurnBids" "table" "LTurnBids$Table;", Cond.methodLink RX3 175 yX0_takeBack, Cond.instanceMethod yX0_takeBack, Cond.selects RX0 yX0_takeBack yX0_takeBack, Cond.initialized RX0, Cond.code yX0_takeBack cX0_takeBack 3 none, Cond.fieldLink RX0 11 "TurnBids$History" "states" "[LTurnBids$Table;", Cond.fieldLink RX0 17 "TurnBids$History" "next" "I", Cond.fieldLink RX0 21 "TurnBids$History" "length" "I", Cond.methodLink RX0 24 yJ9_floorMod_7cf53, Cond.static yJ9_floorMod_7cf53, Cond.initialized RJ9, Cond.code yJ9_floorMod_7cf53 cJ9_floorMod_7cf53 3 (some .int), Cond.methodLink RX0 31 yX2_copyFrom, Cond.instanceMethod yX2_copyFrom, Cond.selects RX2 yX2_copyFrom yX2_copyFrom, Cond.initialized RX2, Cond.code yX2_copyFrom cX2_copyFrom 2 none, Cond.fieldLink RX2 9 "TurnBids$Table" "settings" "[I", Cond.methodLink RX2 54 arraycopyName, Cond.native arraycopyName]
def wsX3_undo_r2 : List Cond := [Cond.static arraycopyName, Cond.initialized "java/lang/System", Cond.fieldLink RX2 15 "TurnBids$Table" "prizes" "[I", Cond.fieldLink RX2 18 "TurnBids$Table" "coins" "[I", Cond.fieldLink RX2 21 "TurnBids$Table" "limits" "[I", Cond.fieldLink RX2 24 "TurnBids$Table" "places" "[I", Cond.fieldLink RX2 28 "TurnBids$Table" "bids" "[I", Cond.fieldLink RX2 31 "TurnBids$Table" "placesGot" "[I", Cond.fieldLink RX2 34 "TurnBids$Table" "paid" "[I", Cond.fieldLink RX2 37 "TurnBids$Table" "taken" "[I", Cond.fieldLink RX2 40 "TurnBids$Table" "won" "[I", Cond.fieldLink RX2 43 "TurnBids$Table" "underWay" "Z", Cond.fieldLink RX2 47 "TurnBids$Table" "turn" "I", Cond.fieldLink RX2 51 "TurnBids$Table" "rounds" "I"]
def wsX3_undo : List Cond := .code yX3_undo cX3_undo 1 (some .int) :: ((wsX3_undo_r1 ++ wsX3_undo_r2) ++ wsX30 ++ wsX00 ++ wsX20)
def wsX3_save_r1 : List Cond := [Cond.constant RX3 37 (-100002), Cond.fieldLink RX3 26 "TurnBids" "slots" "[LTurnBids$Table;", Cond.classLink RX3 7 RX2, Cond.instantiable RX2 13, Cond.initialized RX2, Cond.fieldLink RX3 10 "TurnBids" "table" "LTurnBids$Table;", Cond.fieldLink RX3 62 "TurnBids$Table" "coins" "[I", Cond.instanceMethod yX2_init, Cond.code yX2_init cX2_init 1 none, Cond.methodLink RX2 3 objectInit, Cond.instanceMethod objectInit, Cond.code objectInit ⟨#[0xb1]⟩ 1 none, Cond.arrayClass .int, Cond.fieldLink RX2 9 "TurnBids$Table" "settings" "[I", Cond.fieldLink RX2 15 "TurnBids$Table" "prizes" "[I", Cond.fieldLink RX2 18 "TurnBids$Table" "coins" "[I", Cond.fieldLink RX2 21 "TurnBids$Table" "limits" "[I", Cond.fieldLink RX2 24 "TurnBids$Table" "places" "[I", Cond.constant RX2 27 (-100006), Cond.fieldLink RX2 28 "TurnBids$Table" "bids" "[I", Cond.fieldLink RX2 31 "TurnBids$Table" "placesGot" "[I", Cond.fieldLink RX2 34 "TurnBids$Table" "paid" "[I", Cond.fieldLink RX2 37 "TurnBids$Table" "taken" "[I", Cond.fieldLink RX2 40 "TurnBids$Table" "won" "[I"]
def wsX3_save_r2 : List Cond := [Cond.fieldLink RX2 43 "TurnBids$Table" "underWay" "Z", Cond.fieldLink RX2 47 "TurnBids$Table" "turn" "I", Cond.fieldLink RX2 51 "TurnBids$Table" "rounds" "I", Cond.methodLink RX3 163 yX2_copyFrom, Cond.instanceMethod yX2_copyFrom, Cond.selects RX2 yX2_copyFrom yX2_copyFrom, Cond.code yX2_copyFrom cX2_copyFrom 2 none, Cond.methodLink RX2 54 arraycopyName, Cond.native arraycopyName, Cond.static arraycopyName, Cond.initialized "java/lang/System", Cond.methodLink RX3 154 yX3_sum, Cond.static yX3_sum, Cond.initialized RX3, Cond.code yX3_sum cX3_sum 6 (some .int)]
def wsX3_save : List Cond := .code yX3_save cX3_save 3 (some .int) :: ((wsX3_save_r1 ++ wsX3_save_r2) ++ wsX30 ++ wsX20)
def wsX3_restore_r1 : List Cond := [Cond.constant RX3 37 (-100002), Cond.fieldLink RX3 26 "TurnBids" "slots" "[LTurnBids$Table;", Cond.constant RX3 61 (-100005), Cond.fieldLink RX3 22 "TurnBids" "history" "LTurnBids$History;", Cond.fieldLink RX3 10 "TurnBids" "table" "LTurnBids$Table;", Cond.fieldLink RX3 62 "TurnBids$Table" "coins" "[I", Cond.methodLink RX3 45 yX0_keep, Cond.instanceMethod yX0_keep, Cond.selects RX0 yX0_keep yX0_keep, Cond.initialized RX0, Cond.code yX0_keep cX0_keep 4 none, Cond.fieldLink RX0 17 "TurnBids$History" "next" "I", Cond.fieldLink RX0 11 "TurnBids$History" "states" "[LTurnBids$Table;", Cond.classLink RX0 9 RX2, Cond.instantiable RX2 13, Cond.initialized RX2, Cond.fieldLink RX0 21 "TurnBids$History" "length" "I", Cond.methodLink RX0 35 Lib.Math.min.name, Cond.static Lib.Math.min.name, Cond.initialized "java/lang/Math", Cond.code Lib.Math.min.name Lib.Math.min.code 2 (some .int), Cond.methodLink RX0 24 yJ9_floorMod_7cf53, Cond.static yJ9_floorMod_7cf53, Cond.initialized RJ9]
def wsX3_restore_r2 : List Cond := [Cond.code yJ9_floorMod_7cf53 cJ9_floorMod_7cf53 3 (some .int), Cond.instanceMethod yX2_init, Cond.code yX2_init cX2_init 1 none, Cond.methodLink RX2 3 objectInit, Cond.instanceMethod objectInit, Cond.code objectInit ⟨#[0xb1]⟩ 1 none, Cond.arrayClass .int, Cond.fieldLink RX2 9 "TurnBids$Table" "settings" "[I", Cond.fieldLink RX2 15 "TurnBids$Table" "prizes" "[I", Cond.fieldLink RX2 18 "TurnBids$Table" "coins" "[I", Cond.fieldLink RX2 21 "TurnBids$Table" "limits" "[I", Cond.fieldLink RX2 24 "TurnBids$Table" "places" "[I", Cond.constant RX2 27 (-100006), Cond.fieldLink RX2 28 "TurnBids$Table" "bids" "[I", Cond.fieldLink RX2 31 "TurnBids$Table" "placesGot" "[I", Cond.fieldLink RX2 34 "TurnBids$Table" "paid" "[I", Cond.fieldLink RX2 37 "TurnBids$Table" "taken" "[I", Cond.fieldLink RX2 40 "TurnBids$Table" "won" "[I", Cond.fieldLink RX2 43 "TurnBids$Table" "underWay" "Z", Cond.fieldLink RX2 47 "TurnBids$Table" "turn" "I", Cond.fieldLink RX2 51 "TurnBids$Table" "rounds" "I", Cond.methodLink RX0 31 yX2_copyFrom, Cond.instanceMethod yX2_copyFrom, Cond.selects RX2 yX2_copyFrom yX2_copyFrom]
def wsX3_restore_r3 : List Cond := [Cond.code yX2_copyFrom cX2_copyFrom 2 none, Cond.methodLink RX2 54 arraycopyName, Cond.native arraycopyName, Cond.static arraycopyName, Cond.initialized "java/lang/System", Cond.methodLink RX3 163 yX2_copyFrom, Cond.methodLink RX3 154 yX3_sum, Cond.static yX3_sum, Cond.initialized RX3, Cond.code yX3_sum cX3_sum 6 (some .int)]
def wsX3_restore : List Cond := .code yX3_restore cX3_restore 3 (some .int) :: ((wsX3_restore_r1 ++ (wsX3_restore_r2 ++ wsX3_restore_r3)) ++ wsX30 ++ wsX20 ++ wsX00)
def wsX4_clearAuction : List Cond := .code yX4_clearAuction cX4_clearAuction 2 none :: ([.fieldLink RX4 7 "TurnBidsModel" "z" "[I", .constant RX4 39 (-100006)] ++ wsX40)
def wsX4_init : List Cond := .code yX4_init cX4_init 2 none :: ([.methodLink RX4 1 objectInit, .instanceMethod objectInit, .code objectInit ⟨#[0xb1]⟩ 1 none, .arrayClass .int, .fieldLink RX4 7 "TurnBidsModel" "z" "[I", .fieldLink RX4 13 "TurnBidsModel" "spare" "[I", .fieldLink RX4 16 "TurnBidsModel" "past" "[I", .fieldLink RX4 19 "TurnBidsModel" "slots" "[I", .arrayClass .boolean, .fieldLink RX4 22 "TurnBidsModel" "isSaved" "[Z", .fieldLink RX4 26 "TurnBidsModel" "pad" "[I", .fieldLink RX4 29 "TurnBidsModel" "told" "[I", .methodLink RX4 32 yX4_clearAuction, .instanceMethod yX4_clearAuction, .selects RX4 yX4_clearAuction yX4_clearAuction, .initialized RX4, .code yX4_clearAuction cX4_clearAuction 2 none, .constant RX4 39 (-100006)] ++ wsX40)
def wsX4_in : List Cond := .code yX4_in cX4_in 3 (some .boolean) :: ([])
def wsX4_isPlayer : List Cond := .code yX4_isPlayer cX4_isPlayer 1 (some .boolean) :: ([.methodLink RX4 35 yX4_in, .static yX4_in, .initialized RX4, .code yX4_in cX4_in 3 (some .boolean)])
def wsX4_sum : List Cond := .code yX4_sum cX4_sum 4 (some .int) :: ([.fieldLink RX4 7 "TurnBidsModel" "z" "[I"] ++ wsX40)
def wsX4_playerAt : List Cond := .code yX4_playerAt cX4_playerAt 4 (some .int) :: ([.constant RX4 39 (-100006), .fieldLink RX4 7 "TurnBidsModel" "z" "[I"] ++ wsX40)
def wsX4_copyState : List Cond := .code yX4_copyState cX4_copyState 5 none :: ([])
def wsX4_record : List Cond := .code yX4_record cX4_record 2 none :: ([.fieldLink RX4 40 "TurnBidsModel" "states" "I", .fieldLink RX4 16 "TurnBidsModel" "past" "[I", .fieldLink RX4 7 "TurnBidsModel" "z" "[I", .methodLink RX4 44 yX4_copyState, .static yX4_copyState, .initialized RX4, .code yX4_copyState cX4_copyState 5 none] ++ wsX40)
def wsX4_undo : List Cond := .code yX4_undo cX4_undo 1 (some .int) :: ([.fieldLink RX4 40 "TurnBidsModel" "states" "I", .constant RX4 48 (-100005), .fieldLink RX4 16 "TurnBidsModel" "past" "[I", .fieldLink RX4 7 "TurnBidsModel" "z" "[I", .methodLink RX4 44 yX4_copyState, .static yX4_copyState, .initialized RX4, .code yX4_copyState cX4_copyState 5 none] ++ wsX40)
def wsX4_save : List Cond := .code yX4_save cX4_save 2 (some .int) :: ([.constant RX4 49 (-100002), .fieldLink RX4 7 "TurnBidsModel" "z" "[I", .fieldLink RX4 19 "TurnBidsModel" "slots" "[I", .fieldLink RX4 22 "TurnBidsModel" "isSaved" "[Z", .methodLink RX4 35 yX4_in, .static yX4_in, .initialized RX4, .code yX4_in cX4_in 3 (some .boolean), .methodLink RX4 44 yX4_copyState, .static yX4_copyState, .code yX4_copyState cX4_copyState 5 none, .methodLink RX4 50 yX4_sum, .instanceMethod yX4_sum, .selects RX4 yX4_sum yX4_sum, .code yX4_sum cX4_sum 4 (some .int)] ++ wsX40)
def wsX4_restore : List Cond := .code yX4_restore cX4_restore 2 (some .int) :: ([.constant RX4 49 (-100002), .fieldLink RX4 22 "TurnBidsModel" "isSaved" "[Z", .constant RX4 48 (-100005), .fieldLink RX4 19 "TurnBidsModel" "slots" "[I", .fieldLink RX4 7 "TurnBidsModel" "z" "[I", .methodLink RX4 35 yX4_in, .static yX4_in, .initialized RX4, .code yX4_in cX4_in 3 (some .boolean), .methodLink RX4 54 yX4_record, .instanceMethod yX4_record, .selects RX4 yX4_record yX4_record, .code yX4_record cX4_record 2 none, .fieldLink RX4 40 "TurnBidsModel" "states" "I", .fieldLink RX4 16 "TurnBidsModel" "past" "[I", .methodLink RX4 44 yX4_copyState, .static yX4_copyState, .code yX4_copyState cX4_copyState 5 none, .methodLink RX4 50 yX4_sum, .instanceMethod yX4_sum, .selects RX4 yX4_sum yX4_sum, .code yX4_sum cX4_sum 4 (some .int)] ++ wsX40)
def wsX4_isValue : List Cond := .code yX4_isValue cX4_isValue 2 (some .boolean) :: ([.methodLink RX4 35 yX4_in, .static yX4_in, .initialized RX4, .code yX4_in cX4_in 3 (some .boolean)])
def wsX4_change : List Cond := .code yX4_change cX4_change 4 (some .int) :: ([.fieldLink RX4 7 "TurnBidsModel" "z" "[I", .methodLink RX4 54 yX4_record, .instanceMethod yX4_record, .selects RX4 yX4_record yX4_record, .initialized RX4, .code yX4_record cX4_record 2 none, .fieldLink RX4 40 "TurnBidsModel" "states" "I", .fieldLink RX4 16 "TurnBidsModel" "past" "[I", .methodLink RX4 44 yX4_copyState, .static yX4_copyState, .code yX4_copyState cX4_copyState 5 none] ++ wsX40)
def wsX4_set : List Cond := .code yX4_set cX4_set 3 (some .int) :: ([.constant RX4 49 (-100002), .methodLink RX4 57 yX4_isValue, .static yX4_isValue, .initialized RX4, .code yX4_isValue cX4_isValue 2 (some .boolean), .methodLink RX4 35 yX4_in, .static yX4_in, .code yX4_in cX4_in 3 (some .boolean), .methodLink RX4 61 yX4_change, .instanceMethod yX4_change, .selects RX4 yX4_change yX4_change, .code yX4_change cX4_change 4 (some .int), .fieldLink RX4 7 "TurnBidsModel" "z" "[I", .methodLink RX4 54 yX4_record, .instanceMethod yX4_record, .selects RX4 yX4_record yX4_record, .code yX4_record cX4_record 2 none, .fieldLink RX4 40 "TurnBidsModel" "states" "I", .fieldLink RX4 16 "TurnBidsModel" "past" "[I", .methodLink RX4 44 yX4_copyState, .static yX4_copyState, .code yX4_copyState cX4_copyState 5 none] ++ wsX40)
def wsX4_coins_r1 : List Cond := [Cond.constant RX4 69 (-100001), Cond.constant RX4 49 (-100002), Cond.fieldLink RX4 7 "TurnBidsModel" "z" "[I", Cond.constant RX4 39 (-100006), Cond.constant RX4 48 (-100005), Cond.methodLink RX4 65 yX4_isPlayer, Cond.static yX4_isPlayer, Cond.initialized RX4, Cond.code yX4_isPlayer cX4_isPlayer 1 (some .boolean), Cond.methodLink RX4 35 yX4_in, Cond.static yX4_in, Cond.code yX4_in cX4_in 3 (some .boolean), Cond.methodLink RX4 61 yX4_change, Cond.instanceMethod yX4_change, Cond.selects RX4 yX4_change yX4_change, Cond.code yX4_change cX4_change 4 (some .int), Cond.methodLink RX4 54 yX4_record, Cond.instanceMethod yX4_record, Cond.selects RX4 yX4_record yX4_record, Cond.code yX4_record cX4_record 2 none, Cond.fieldLink RX4 40 "TurnBidsModel" "states" "I", Cond.fieldLink RX4 16 "TurnBidsModel" "past" "[I", Cond.methodLink RX4 44 yX4_copyState, Cond.static yX4_copyState]
def wsX4_coins_r2 : List Cond := [Cond.code yX4_copyState cX4_copyState 5 none]
def wsX4_coins : List Cond := .code yX4_coins cX4_coins 4 (some .int) :: ((wsX4_coins_r1 ++ wsX4_coins_r2) ++ wsX40)
def wsX4_limit : List Cond := .code yX4_limit cX4_limit 3 (some .int) :: ([.constant RX4 69 (-100001), .constant RX4 49 (-100002), .methodLink RX4 65 yX4_isPlayer, .static yX4_isPlayer, .initialized RX4, .code yX4_isPlayer cX4_isPlayer 1 (some .boolean), .methodLink RX4 35 yX4_in, .static yX4_in, .code yX4_in cX4_in 3 (some .boolean), .methodLink RX4 61 yX4_change, .instanceMethod yX4_change, .selects RX4 yX4_change yX4_change, .code yX4_change cX4_change 4 (some .int), .fieldLink RX4 7 "TurnBidsModel" "z" "[I", .methodLink RX4 54 yX4_record, .instanceMethod yX4_record, .selects RX4 yX4_record yX4_record, .code yX4_record cX4_record 2 none, .fieldLink RX4 40 "TurnBidsModel" "states" "I", .fieldLink RX4 16 "TurnBidsModel" "past" "[I", .methodLink RX4 44 yX4_copyState, .static yX4_copyState, .code yX4_copyState cX4_copyState 5 none] ++ wsX40)
def wsX4_prize : List Cond := .code yX4_prize cX4_prize 3 (some .int) :: ([.constant RX4 69 (-100001), .constant RX4 49 (-100002), .methodLink RX4 65 yX4_isPlayer, .static yX4_isPlayer, .initialized RX4, .code yX4_isPlayer cX4_isPlayer 1 (some .boolean), .methodLink RX4 35 yX4_in, .static yX4_in, .code yX4_in cX4_in 3 (some .boolean), .methodLink RX4 61 yX4_change, .instanceMethod yX4_change, .selects RX4 yX4_change yX4_change, .code yX4_change cX4_change 4 (some .int), .fieldLink RX4 7 "TurnBidsModel" "z" "[I", .methodLink RX4 54 yX4_record, .instanceMethod yX4_record, .selects RX4 yX4_record yX4_record, .code yX4_record cX4_record 2 none, .fieldLink RX4 40 "TurnBidsModel" "states" "I", .fieldLink RX4 16 "TurnBidsModel" "past" "[I", .methodLink RX4 44 yX4_copyState, .static yX4_copyState, .code yX4_copyState cX4_copyState 5 none] ++ wsX40)
def wsX4_least : List Cond := .code yX4_least cX4_least 1 (some .int) :: ([.fieldLink RX4 7 "TurnBidsModel" "z" "[I", .constant RX4 39 (-100006)] ++ wsX40)
def wsX4_beginNow : List Cond := .code yX4_beginNow cX4_beginNow 1 none :: ([.fieldLink RX4 7 "TurnBidsModel" "z" "[I", .methodLink RX4 32 yX4_clearAuction, .instanceMethod yX4_clearAuction, .selects RX4 yX4_clearAuction yX4_clearAuction, .initialized RX4, .code yX4_clearAuction cX4_clearAuction 2 none, .constant RX4 39 (-100006), .methodLink RX4 70 yX4_playerAt, .instanceMethod yX4_playerAt, .selects RX4 yX4_playerAt yX4_playerAt, .code yX4_playerAt cX4_playerAt 4 (some .int)] ++ wsX40)
def wsX4_pass : List Cond := .code yX4_pass cX4_pass 2 none :: ([.fieldLink RX4 7 "TurnBidsModel" "z" "[I", .constant RX4 39 (-100006), .methodLink RX4 70 yX4_playerAt, .instanceMethod yX4_playerAt, .selects RX4 yX4_playerAt yX4_playerAt, .initialized RX4, .code yX4_playerAt cX4_playerAt 4 (some .int)] ++ wsX40)
def wsX4_pay : List Cond := .code yX4_pay cX4_pay 3 none :: ([.fieldLink RX4 7 "TurnBidsModel" "z" "[I"] ++ wsX40)
def wsX4_canBid : List Cond := .code yX4_canBid cX4_canBid 2 (some .boolean) :: ([.fieldLink RX4 7 "TurnBidsModel" "z" "[I", .methodLink RX4 73 yX4_least, .instanceMethod yX4_least, .selects RX4 yX4_least yX4_least, .initialized RX4, .code yX4_least cX4_least 1 (some .int), .constant RX4 39 (-100006)] ++ wsX40)
def wsX4_bidNow : List Cond := .code yX4_bidNow cX4_bidNow 2 none :: ([.fieldLink RX4 7 "TurnBidsModel" "z" "[I", .methodLink RX4 77 yX4_pass, .instanceMethod yX4_pass, .selects RX4 yX4_pass yX4_pass, .initialized RX4, .code yX4_pass cX4_pass 2 none, .constant RX4 39 (-100006), .methodLink RX4 70 yX4_playerAt, .instanceMethod yX4_playerAt, .selects RX4 yX4_playerAt yX4_playerAt, .code yX4_playerAt cX4_playerAt 4 (some .int)] ++ wsX40)
def wsX4_left : List Cond := .code yX4_left cX4_left 3 (some .int) :: ([.fieldLink RX4 7 "TurnBidsModel" "z" "[I", .constant RX4 39 (-100006)] ++ wsX40)
def wsX4_prizeAt : List Cond := .code yX4_prizeAt cX4_prizeAt 6 (some .int) :: ([.fieldLink RX4 7 "TurnBidsModel" "z" "[I"] ++ wsX40)
def wsX4_endNow : List Cond := .code yX4_endNow cX4_endNow 5 none :: ([.fieldLink RX4 7 "TurnBidsModel" "z" "[I", .constant RX4 39 (-100006), .methodLink RX4 83 yX4_pay, .instanceMethod yX4_pay, .selects RX4 yX4_pay yX4_pay, .initialized RX4, .code yX4_pay cX4_pay 3 none, .methodLink RX4 91 yX4_prizeAt, .instanceMethod yX4_prizeAt, .selects RX4 yX4_prizeAt yX4_prizeAt, .code yX4_prizeAt cX4_prizeAt 6 (some .int), .methodLink RX4 32 yX4_clearAuction, .instanceMethod yX4_clearAuction, .selects RX4 yX4_clearAuction yX4_clearAuction, .code yX4_clearAuction cX4_clearAuction 2 none] ++ wsX40)
def wsX4_dropNow_r1 : List Cond := [Cond.fieldLink RX4 7 "TurnBidsModel" "z" "[I", Cond.constant RX4 39 (-100006), Cond.methodLink RX4 80 yX4_left, Cond.instanceMethod yX4_left, Cond.selects RX4 yX4_left yX4_left, Cond.initialized RX4, Cond.code yX4_left cX4_left 3 (some .int), Cond.methodLink RX4 83 yX4_pay, Cond.instanceMethod yX4_pay, Cond.selects RX4 yX4_pay yX4_pay, Cond.code yX4_pay cX4_pay 3 none, Cond.methodLink RX4 77 yX4_pass, Cond.instanceMethod yX4_pass, Cond.selects RX4 yX4_pass yX4_pass, Cond.code yX4_pass cX4_pass 2 none, Cond.methodLink RX4 70 yX4_playerAt, Cond.instanceMethod yX4_playerAt, Cond.selects RX4 yX4_playerAt yX4_playerAt, Cond.code yX4_playerAt cX4_playerAt 4 (some .int), Cond.methodLink RX4 87 yX4_endNow, Cond.instanceMethod yX4_endNow, Cond.selects RX4 yX4_endNow yX4_endNow, Cond.code yX4_endNow cX4_endNow 5 none, Cond.methodLink RX4 91 yX4_prizeAt]
def wsX4_dropNow_r2 : List Cond := [Cond.instanceMethod yX4_prizeAt, Cond.selects RX4 yX4_prizeAt yX4_prizeAt, Cond.code yX4_prizeAt cX4_prizeAt 6 (some .int), Cond.methodLink RX4 32 yX4_clearAuction, Cond.instanceMethod yX4_clearAuction, Cond.selects RX4 yX4_clearAuction yX4_clearAuction, Cond.code yX4_clearAuction cX4_clearAuction 2 none]
def wsX4_dropNow : List Cond := .code yX4_dropNow cX4_dropNow 3 none :: ((wsX4_dropNow_r1 ++ wsX4_dropNow_r2) ++ wsX40)
def wsX4_actNow_r1 : List Cond := [Cond.fieldLink RX4 7 "TurnBidsModel" "z" "[I", Cond.methodLink RX4 73 yX4_least, Cond.instanceMethod yX4_least, Cond.selects RX4 yX4_least yX4_least, Cond.initialized RX4, Cond.code yX4_least cX4_least 1 (some .int), Cond.constant RX4 39 (-100006), Cond.methodLink RX4 94 yX4_canBid, Cond.instanceMethod yX4_canBid, Cond.selects RX4 yX4_canBid yX4_canBid, Cond.code yX4_canBid cX4_canBid 2 (some .boolean), Cond.methodLink RX4 97 yX4_bidNow, Cond.instanceMethod yX4_bidNow, Cond.selects RX4 yX4_bidNow yX4_bidNow, Cond.code yX4_bidNow cX4_bidNow 2 none, Cond.methodLink RX4 77 yX4_pass, Cond.instanceMethod yX4_pass, Cond.selects RX4 yX4_pass yX4_pass, Cond.code yX4_pass cX4_pass 2 none, Cond.methodLink RX4 70 yX4_playerAt, Cond.instanceMethod yX4_playerAt, Cond.selects RX4 yX4_playerAt yX4_playerAt, Cond.code yX4_playerAt cX4_playerAt 4 (some .int), Cond.methodLink RX4 100 yX4_dropNow]
def wsX4_actNow_r2 : List Cond := [Cond.instanceMethod yX4_dropNow, Cond.selects RX4 yX4_dropNow yX4_dropNow, Cond.code yX4_dropNow cX4_dropNow 3 none, Cond.methodLink RX4 80 yX4_left, Cond.instanceMethod yX4_left, Cond.selects RX4 yX4_left yX4_left, Cond.code yX4_left cX4_left 3 (some .int), Cond.methodLink RX4 83 yX4_pay, Cond.instanceMethod yX4_pay, Cond.selects RX4 yX4_pay yX4_pay, Cond.code yX4_pay cX4_pay 3 none, Cond.methodLink RX4 87 yX4_endNow, Cond.instanceMethod yX4_endNow, Cond.selects RX4 yX4_endNow yX4_endNow, Cond.code yX4_endNow cX4_endNow 5 none, Cond.methodLink RX4 91 yX4_prizeAt, Cond.instanceMethod yX4_prizeAt, Cond.selects RX4 yX4_prizeAt yX4_prizeAt, Cond.code yX4_prizeAt cX4_prizeAt 6 (some .int), Cond.methodLink RX4 32 yX4_clearAuction, Cond.instanceMethod yX4_clearAuction, Cond.selects RX4 yX4_clearAuction yX4_clearAuction, Cond.code yX4_clearAuction cX4_clearAuction 2 none]
def wsX4_actNow : List Cond := .code yX4_actNow cX4_actNow 2 none :: ((wsX4_actNow_r1 ++ wsX4_actNow_r2) ++ wsX40)
def wsX4_finishNow_r1 : List Cond := [Cond.fieldLink RX4 7 "TurnBidsModel" "z" "[I", Cond.methodLink RX4 103 yX4_beginNow, Cond.instanceMethod yX4_beginNow, Cond.selects RX4 yX4_beginNow yX4_beginNow, Cond.initialized RX4, Cond.code yX4_beginNow cX4_beginNow 1 none, Cond.methodLink RX4 32 yX4_clearAuction, Cond.instanceMethod yX4_clearAuction, Cond.selects RX4 yX4_clearAuction yX4_clearAuction, Cond.code yX4_clearAuction cX4_clearAuction 2 none, Cond.constant RX4 39 (-100006), Cond.methodLink RX4 70 yX4_playerAt, Cond.instanceMethod yX4_playerAt, Cond.selects RX4 yX4_playerAt yX4_playerAt, Cond.code yX4_playerAt cX4_playerAt 4 (some .int), Cond.methodLink RX4 106 yX4_actNow, Cond.instanceMethod yX4_actNow, Cond.selects RX4 yX4_actNow yX4_actNow, Cond.code yX4_actNow cX4_actNow 2 none, Cond.methodLink RX4 73 yX4_least, Cond.instanceMethod yX4_least, Cond.selects RX4 yX4_least yX4_least, Cond.code yX4_least cX4_least 1 (some .int), Cond.methodLink RX4 94 yX4_canBid]
def wsX4_finishNow_r2 : List Cond := [Cond.instanceMethod yX4_canBid, Cond.selects RX4 yX4_canBid yX4_canBid, Cond.code yX4_canBid cX4_canBid 2 (some .boolean), Cond.methodLink RX4 97 yX4_bidNow, Cond.instanceMethod yX4_bidNow, Cond.selects RX4 yX4_bidNow yX4_bidNow, Cond.code yX4_bidNow cX4_bidNow 2 none, Cond.methodLink RX4 77 yX4_pass, Cond.instanceMethod yX4_pass, Cond.selects RX4 yX4_pass yX4_pass, Cond.code yX4_pass cX4_pass 2 none, Cond.methodLink RX4 100 yX4_dropNow, Cond.instanceMethod yX4_dropNow, Cond.selects RX4 yX4_dropNow yX4_dropNow, Cond.code yX4_dropNow cX4_dropNow 3 none, Cond.methodLink RX4 80 yX4_left, Cond.instanceMethod yX4_left, Cond.selects RX4 yX4_left yX4_left, Cond.code yX4_left cX4_left 3 (some .int), Cond.methodLink RX4 83 yX4_pay, Cond.instanceMethod yX4_pay, Cond.selects RX4 yX4_pay yX4_pay, Cond.code yX4_pay cX4_pay 3 none, Cond.methodLink RX4 87 yX4_endNow]
def wsX4_finishNow_r3 : List Cond := [Cond.instanceMethod yX4_endNow, Cond.selects RX4 yX4_endNow yX4_endNow, Cond.code yX4_endNow cX4_endNow 5 none, Cond.methodLink RX4 91 yX4_prizeAt, Cond.instanceMethod yX4_prizeAt, Cond.selects RX4 yX4_prizeAt yX4_prizeAt, Cond.code yX4_prizeAt cX4_prizeAt 6 (some .int)]
def wsX4_finishNow : List Cond := .code yX4_finishNow cX4_finishNow 2 (some .int) :: ((wsX4_finishNow_r1 ++ (wsX4_finishNow_r2 ++ wsX4_finishNow_r3)) ++ wsX40)
def wsX4_begin_r1 : List Cond := [Cond.fieldLink RX4 7 "TurnBidsModel" "z" "[I", Cond.constant RX4 48 (-100005), Cond.methodLink RX4 54 yX4_record, Cond.instanceMethod yX4_record, Cond.selects RX4 yX4_record yX4_record, Cond.initialized RX4, Cond.code yX4_record cX4_record 2 none, Cond.fieldLink RX4 40 "TurnBidsModel" "states" "I", Cond.fieldLink RX4 16 "TurnBidsModel" "past" "[I", Cond.methodLink RX4 44 yX4_copyState, Cond.static yX4_copyState, Cond.code yX4_copyState cX4_copyState 5 none, Cond.methodLink RX4 103 yX4_beginNow, Cond.instanceMethod yX4_beginNow, Cond.selects RX4 yX4_beginNow yX4_beginNow, Cond.code yX4_beginNow cX4_beginNow 1 none, Cond.methodLink RX4 32 yX4_clearAuction, Cond.instanceMethod yX4_clearAuction, Cond.selects RX4 yX4_clearAuction yX4_clearAuction, Cond.code yX4_clearAuction cX4_clearAuction 2 none, Cond.constant RX4 39 (-100006), Cond.methodLink RX4 70 yX4_playerAt, Cond.instanceMethod yX4_playerAt, Cond.selects RX4 yX4_playerAt yX4_playerAt]
def wsX4_begin_r2 : List Cond := [Cond.code yX4_playerAt cX4_playerAt 4 (some .int)]
def wsX4_begin : List Cond := .code yX4_begin cX4_begin 1 (some .int) :: ((wsX4_begin_r1 ++ wsX4_begin_r2) ++ wsX40)
def wsX4_mayBid : List Cond := .code yX4_mayBid cX4_mayBid 2 (some .boolean) :: ([.fieldLink RX4 7 "TurnBidsModel" "z" "[I", .methodLink RX4 94 yX4_canBid, .instanceMethod yX4_canBid, .selects RX4 yX4_canBid yX4_canBid, .initialized RX4, .code yX4_canBid cX4_canBid 2 (some .boolean), .methodLink RX4 73 yX4_least, .instanceMethod yX4_least, .selects RX4 yX4_least yX4_least, .code yX4_least cX4_least 1 (some .int), .constant RX4 39 (-100006)] ++ wsX40)
def wsX4_bid_r1 : List Cond := [Cond.constant RX4 49 (-100002), Cond.constant RX4 48 (-100005), Cond.fieldLink RX4 7 "TurnBidsModel" "z" "[I", Cond.methodLink RX4 35 yX4_in, Cond.static yX4_in, Cond.initialized RX4, Cond.code yX4_in cX4_in 3 (some .boolean), Cond.methodLink RX4 109 yX4_mayBid, Cond.instanceMethod yX4_mayBid, Cond.selects RX4 yX4_mayBid yX4_mayBid, Cond.code yX4_mayBid cX4_mayBid 2 (some .boolean), Cond.methodLink RX4 94 yX4_canBid, Cond.instanceMethod yX4_canBid, Cond.selects RX4 yX4_canBid yX4_canBid, Cond.code yX4_canBid cX4_canBid 2 (some .boolean), Cond.methodLink RX4 73 yX4_least, Cond.instanceMethod yX4_least, Cond.selects RX4 yX4_least yX4_least, Cond.code yX4_least cX4_least 1 (some .int), Cond.constant RX4 39 (-100006), Cond.methodLink RX4 54 yX4_record, Cond.instanceMethod yX4_record, Cond.selects RX4 yX4_record yX4_record, Cond.code yX4_record cX4_record 2 none]
def wsX4_bid_r2 : List Cond := [Cond.fieldLink RX4 40 "TurnBidsModel" "states" "I", Cond.fieldLink RX4 16 "TurnBidsModel" "past" "[I", Cond.methodLink RX4 44 yX4_copyState, Cond.static yX4_copyState, Cond.code yX4_copyState cX4_copyState 5 none, Cond.methodLink RX4 97 yX4_bidNow, Cond.instanceMethod yX4_bidNow, Cond.selects RX4 yX4_bidNow yX4_bidNow, Cond.code yX4_bidNow cX4_bidNow 2 none, Cond.methodLink RX4 77 yX4_pass, Cond.instanceMethod yX4_pass, Cond.selects RX4 yX4_pass yX4_pass, Cond.code yX4_pass cX4_pass 2 none, Cond.methodLink RX4 70 yX4_playerAt, Cond.instanceMethod yX4_playerAt, Cond.selects RX4 yX4_playerAt yX4_playerAt, Cond.code yX4_playerAt cX4_playerAt 4 (some .int)]
def wsX4_bid : List Cond := .code yX4_bid cX4_bid 2 (some .int) :: ((wsX4_bid_r1 ++ wsX4_bid_r2) ++ wsX40)
def wsX4_drop_r1 : List Cond := [Cond.fieldLink RX4 7 "TurnBidsModel" "z" "[I", Cond.constant RX4 48 (-100005), Cond.methodLink RX4 54 yX4_record, Cond.instanceMethod yX4_record, Cond.selects RX4 yX4_record yX4_record, Cond.initialized RX4, Cond.code yX4_record cX4_record 2 none, Cond.fieldLink RX4 40 "TurnBidsModel" "states" "I", Cond.fieldLink RX4 16 "TurnBidsModel" "past" "[I", Cond.methodLink RX4 44 yX4_copyState, Cond.static yX4_copyState, Cond.code yX4_copyState cX4_copyState 5 none, Cond.methodLink RX4 100 yX4_dropNow, Cond.instanceMethod yX4_dropNow, Cond.selects RX4 yX4_dropNow yX4_dropNow, Cond.code yX4_dropNow cX4_dropNow 3 none, Cond.constant RX4 39 (-100006), Cond.methodLink RX4 80 yX4_left, Cond.instanceMethod yX4_left, Cond.selects RX4 yX4_left yX4_left, Cond.code yX4_left cX4_left 3 (some .int), Cond.methodLink RX4 83 yX4_pay, Cond.instanceMethod yX4_pay, Cond.selects RX4 yX4_pay yX4_pay]
def wsX4_drop_r2 : List Cond := [Cond.code yX4_pay cX4_pay 3 none, Cond.methodLink RX4 77 yX4_pass, Cond.instanceMethod yX4_pass, Cond.selects RX4 yX4_pass yX4_pass, Cond.code yX4_pass cX4_pass 2 none, Cond.methodLink RX4 70 yX4_playerAt, Cond.instanceMethod yX4_playerAt, Cond.selects RX4 yX4_playerAt yX4_playerAt, Cond.code yX4_playerAt cX4_playerAt 4 (some .int), Cond.methodLink RX4 87 yX4_endNow, Cond.instanceMethod yX4_endNow, Cond.selects RX4 yX4_endNow yX4_endNow, Cond.code yX4_endNow cX4_endNow 5 none, Cond.methodLink RX4 91 yX4_prizeAt, Cond.instanceMethod yX4_prizeAt, Cond.selects RX4 yX4_prizeAt yX4_prizeAt, Cond.code yX4_prizeAt cX4_prizeAt 6 (some .int), Cond.methodLink RX4 32 yX4_clearAuction, Cond.instanceMethod yX4_clearAuction, Cond.selects RX4 yX4_clearAuction yX4_clearAuction, Cond.code yX4_clearAuction cX4_clearAuction 2 none]
def wsX4_drop : List Cond := .code yX4_drop cX4_drop 1 (some .int) :: ((wsX4_drop_r1 ++ wsX4_drop_r2) ++ wsX40)
def wsX4_act_r1 : List Cond := [Cond.fieldLink RX4 7 "TurnBidsModel" "z" "[I", Cond.constant RX4 48 (-100005), Cond.methodLink RX4 54 yX4_record, Cond.instanceMethod yX4_record, Cond.selects RX4 yX4_record yX4_record, Cond.initialized RX4, Cond.code yX4_record cX4_record 2 none, Cond.fieldLink RX4 40 "TurnBidsModel" "states" "I", Cond.fieldLink RX4 16 "TurnBidsModel" "past" "[I", Cond.methodLink RX4 44 yX4_copyState, Cond.static yX4_copyState, Cond.code yX4_copyState cX4_copyState 5 none, Cond.methodLink RX4 106 yX4_actNow, Cond.instanceMethod yX4_actNow, Cond.selects RX4 yX4_actNow yX4_actNow, Cond.code yX4_actNow cX4_actNow 2 none, Cond.methodLink RX4 73 yX4_least, Cond.instanceMethod yX4_least, Cond.selects RX4 yX4_least yX4_least, Cond.code yX4_least cX4_least 1 (some .int), Cond.constant RX4 39 (-100006), Cond.methodLink RX4 94 yX4_canBid, Cond.instanceMethod yX4_canBid, Cond.selects RX4 yX4_canBid yX4_canBid]
def wsX4_act_r2 : List Cond := [Cond.code yX4_canBid cX4_canBid 2 (some .boolean), Cond.methodLink RX4 97 yX4_bidNow, Cond.instanceMethod yX4_bidNow, Cond.selects RX4 yX4_bidNow yX4_bidNow, Cond.code yX4_bidNow cX4_bidNow 2 none, Cond.methodLink RX4 77 yX4_pass, Cond.instanceMethod yX4_pass, Cond.selects RX4 yX4_pass yX4_pass, Cond.code yX4_pass cX4_pass 2 none, Cond.methodLink RX4 70 yX4_playerAt, Cond.instanceMethod yX4_playerAt, Cond.selects RX4 yX4_playerAt yX4_playerAt, Cond.code yX4_playerAt cX4_playerAt 4 (some .int), Cond.methodLink RX4 100 yX4_dropNow, Cond.instanceMethod yX4_dropNow, Cond.selects RX4 yX4_dropNow yX4_dropNow, Cond.code yX4_dropNow cX4_dropNow 3 none, Cond.methodLink RX4 80 yX4_left, Cond.instanceMethod yX4_left, Cond.selects RX4 yX4_left yX4_left, Cond.code yX4_left cX4_left 3 (some .int), Cond.methodLink RX4 83 yX4_pay, Cond.instanceMethod yX4_pay, Cond.selects RX4 yX4_pay yX4_pay]
def wsX4_act_r3 : List Cond := [Cond.code yX4_pay cX4_pay 3 none, Cond.methodLink RX4 87 yX4_endNow, Cond.instanceMethod yX4_endNow, Cond.selects RX4 yX4_endNow yX4_endNow, Cond.code yX4_endNow cX4_endNow 5 none, Cond.methodLink RX4 91 yX4_prizeAt, Cond.instanceMethod yX4_prizeAt, Cond.selects RX4 yX4_prizeAt yX4_prizeAt, Cond.code yX4_prizeAt cX4_prizeAt 6 (some .int), Cond.methodLink RX4 32 yX4_clearAuction, Cond.instanceMethod yX4_clearAuction, Cond.selects RX4 yX4_clearAuction yX4_clearAuction, Cond.code yX4_clearAuction cX4_clearAuction 2 none]
def wsX4_act : List Cond := .code yX4_act cX4_act 1 (some .int) :: ((wsX4_act_r1 ++ (wsX4_act_r2 ++ wsX4_act_r3)) ++ wsX40)
def wsX4_finish_r1 : List Cond := [Cond.methodLink RX4 54 yX4_record, Cond.instanceMethod yX4_record, Cond.selects RX4 yX4_record yX4_record, Cond.initialized RX4, Cond.code yX4_record cX4_record 2 none, Cond.fieldLink RX4 40 "TurnBidsModel" "states" "I", Cond.fieldLink RX4 16 "TurnBidsModel" "past" "[I", Cond.fieldLink RX4 7 "TurnBidsModel" "z" "[I", Cond.methodLink RX4 44 yX4_copyState, Cond.static yX4_copyState, Cond.code yX4_copyState cX4_copyState 5 none, Cond.methodLink RX4 112 yX4_finishNow, Cond.instanceMethod yX4_finishNow, Cond.selects RX4 yX4_finishNow yX4_finishNow, Cond.code yX4_finishNow cX4_finishNow 2 (some .int), Cond.methodLink RX4 103 yX4_beginNow, Cond.instanceMethod yX4_beginNow, Cond.selects RX4 yX4_beginNow yX4_beginNow, Cond.code yX4_beginNow cX4_beginNow 1 none, Cond.methodLink RX4 32 yX4_clearAuction, Cond.instanceMethod yX4_clearAuction, Cond.selects RX4 yX4_clearAuction yX4_clearAuction, Cond.code yX4_clearAuction cX4_clearAuction 2 none, Cond.constant RX4 39 (-100006)]
def wsX4_finish_r2 : List Cond := [Cond.methodLink RX4 70 yX4_playerAt, Cond.instanceMethod yX4_playerAt, Cond.selects RX4 yX4_playerAt yX4_playerAt, Cond.code yX4_playerAt cX4_playerAt 4 (some .int), Cond.methodLink RX4 106 yX4_actNow, Cond.instanceMethod yX4_actNow, Cond.selects RX4 yX4_actNow yX4_actNow, Cond.code yX4_actNow cX4_actNow 2 none, Cond.methodLink RX4 73 yX4_least, Cond.instanceMethod yX4_least, Cond.selects RX4 yX4_least yX4_least, Cond.code yX4_least cX4_least 1 (some .int), Cond.methodLink RX4 94 yX4_canBid, Cond.instanceMethod yX4_canBid, Cond.selects RX4 yX4_canBid yX4_canBid, Cond.code yX4_canBid cX4_canBid 2 (some .boolean), Cond.methodLink RX4 97 yX4_bidNow, Cond.instanceMethod yX4_bidNow, Cond.selects RX4 yX4_bidNow yX4_bidNow, Cond.code yX4_bidNow cX4_bidNow 2 none, Cond.methodLink RX4 77 yX4_pass, Cond.instanceMethod yX4_pass, Cond.selects RX4 yX4_pass yX4_pass, Cond.code yX4_pass cX4_pass 2 none]
def wsX4_finish_r3 : List Cond := [Cond.methodLink RX4 100 yX4_dropNow, Cond.instanceMethod yX4_dropNow, Cond.selects RX4 yX4_dropNow yX4_dropNow, Cond.code yX4_dropNow cX4_dropNow 3 none, Cond.methodLink RX4 80 yX4_left, Cond.instanceMethod yX4_left, Cond.selects RX4 yX4_left yX4_left, Cond.code yX4_left cX4_left 3 (some .int), Cond.methodLink RX4 83 yX4_pay, Cond.instanceMethod yX4_pay, Cond.selects RX4 yX4_pay yX4_pay, Cond.code yX4_pay cX4_pay 3 none, Cond.methodLink RX4 87 yX4_endNow, Cond.instanceMethod yX4_endNow, Cond.selects RX4 yX4_endNow yX4_endNow, Cond.code yX4_endNow cX4_endNow 5 none, Cond.methodLink RX4 91 yX4_prizeAt, Cond.instanceMethod yX4_prizeAt, Cond.selects RX4 yX4_prizeAt yX4_prizeAt, Cond.code yX4_prizeAt cX4_prizeAt 6 (some .int)]
def wsX4_finish : List Cond := .code yX4_finish cX4_finish 1 (some .int) :: ((wsX4_finish_r1 ++ (wsX4_finish_r2 ++ wsX4_finish_r3)) ++ wsX40)
def wsX4_put : List Cond := .code yX4_put cX4_put 7 (some .int) :: ([.constantLong RX4 115 (255), .constant RX4 49 (-100002), .fieldLink RX4 117 "TurnBidsModel" "typed" "I", .constant RX4 120 (-100004), .fieldLink RX4 26 "TurnBidsModel" "pad" "[I", .methodLink RX4 35 yX4_in, .static yX4_in, .initialized RX4, .code yX4_in cX4_in 3 (some .boolean)] ++ wsX40)
def wsX4_wipe : List Cond := .code yX4_wipe cX4_wipe 2 (some .int) :: ([.fieldLink RX4 117 "TurnBidsModel" "typed" "I"] ++ wsX40)
def wsX4_sees : List Cond := .code yX4_sees cX4_sees 3 (some .boolean) :: ([.fieldLink RX4 121 "TurnBidsModel" "spot" "I", .fieldLink RX4 117 "TurnBidsModel" "typed" "I", .fieldLink RX4 26 "TurnBidsModel" "pad" "[I", .methodLink RX4 35 yX4_in, .static yX4_in, .initialized RX4, .code yX4_in cX4_in 3 (some .boolean)] ++ wsX40)
def wsX4_takes : List Cond := .code yX4_takes cX4_takes 3 (some .boolean) :: ([.fieldLink RX4 121 "TurnBidsModel" "spot" "I", .methodLink RX4 124 yX4_sees, .instanceMethod yX4_sees, .selects RX4 yX4_sees yX4_sees, .initialized RX4, .code yX4_sees cX4_sees 3 (some .boolean), .fieldLink RX4 117 "TurnBidsModel" "typed" "I", .fieldLink RX4 26 "TurnBidsModel" "pad" "[I", .methodLink RX4 35 yX4_in, .static yX4_in, .code yX4_in cX4_in 3 (some .boolean)] ++ wsX40)
def wsX4_readMove : List Cond := .code yX4_readMove cX4_readMove 4 (some .boolean) :: ([.fieldLink RX4 121 "TurnBidsModel" "spot" "I", .fieldLink RX4 117 "TurnBidsModel" "typed" "I", .fieldLink RX4 26 "TurnBidsModel" "pad" "[I", .fieldLink RX4 29 "TurnBidsModel" "told" "[I", .fieldLink RX4 127 "TurnBidsModel" "toldMany" "I", .methodLink RX4 35 yX4_in, .static yX4_in, .initialized RX4, .code yX4_in cX4_in 3 (some .boolean), .methodLink RX4 124 yX4_sees, .instanceMethod yX4_sees, .selects RX4 yX4_sees yX4_sees, .code yX4_sees cX4_sees 3 (some .boolean)] ++ wsX40)
def wsX4_readPad : List Cond := .code yX4_readPad cX4_readPad 2 (some .boolean) :: ([.fieldLink RX4 121 "TurnBidsModel" "spot" "I", .fieldLink RX4 127 "TurnBidsModel" "toldMany" "I", .fieldLink RX4 117 "TurnBidsModel" "typed" "I", .methodLink RX4 130 yX4_readMove, .instanceMethod yX4_readMove, .selects RX4 yX4_readMove yX4_readMove, .initialized RX4, .code yX4_readMove cX4_readMove 4 (some .boolean), .fieldLink RX4 26 "TurnBidsModel" "pad" "[I", .fieldLink RX4 29 "TurnBidsModel" "told" "[I", .methodLink RX4 35 yX4_in, .static yX4_in, .code yX4_in cX4_in 3 (some .boolean), .methodLink RX4 124 yX4_sees, .instanceMethod yX4_sees, .selects RX4 yX4_sees yX4_sees, .code yX4_sees cX4_sees 3 (some .boolean), .methodLink RX4 134 yX4_takes, .instanceMethod yX4_takes, .selects RX4 yX4_takes yX4_takes, .code yX4_takes cX4_takes 3 (some .boolean)] ++ wsX40)
def wsX4_fault_r1 : List Cond := [Cond.constant RX4 39 (-100006), Cond.fieldLink RX4 121 "TurnBidsModel" "spot" "I", Cond.methodLink RX4 137 yX4_readPad, Cond.instanceMethod yX4_readPad, Cond.selects RX4 yX4_readPad yX4_readPad, Cond.initialized RX4, Cond.code yX4_readPad cX4_readPad 2 (some .boolean), Cond.fieldLink RX4 127 "TurnBidsModel" "toldMany" "I", Cond.fieldLink RX4 117 "TurnBidsModel" "typed" "I", Cond.methodLink RX4 130 yX4_readMove, Cond.instanceMethod yX4_readMove, Cond.selects RX4 yX4_readMove yX4_readMove, Cond.code yX4_readMove cX4_readMove 4 (some .boolean), Cond.fieldLink RX4 26 "TurnBidsModel" "pad" "[I", Cond.fieldLink RX4 29 "TurnBidsModel" "told" "[I", Cond.methodLink RX4 35 yX4_in, Cond.static yX4_in, Cond.code yX4_in cX4_in 3 (some .boolean), Cond.methodLink RX4 124 yX4_sees, Cond.instanceMethod yX4_sees, Cond.selects RX4 yX4_sees yX4_sees, Cond.code yX4_sees cX4_sees 3 (some .boolean), Cond.methodLink RX4 134 yX4_takes, Cond.instanceMethod yX4_takes]
def wsX4_fault_r2 : List Cond := [Cond.selects RX4 yX4_takes yX4_takes, Cond.code yX4_takes cX4_takes 3 (some .boolean)]
def wsX4_fault : List Cond := .code yX4_fault cX4_fault 1 (some .int) :: ((wsX4_fault_r1 ++ wsX4_fault_r2) ++ wsX40)
def wsX4_can : List Cond := .code yX4_can cX4_can 3 (some .boolean) :: ([.fieldLink RX4 7 "TurnBidsModel" "z" "[I", .methodLink RX4 109 yX4_mayBid, .instanceMethod yX4_mayBid, .selects RX4 yX4_mayBid yX4_mayBid, .initialized RX4, .code yX4_mayBid cX4_mayBid 2 (some .boolean), .methodLink RX4 94 yX4_canBid, .instanceMethod yX4_canBid, .selects RX4 yX4_canBid yX4_canBid, .code yX4_canBid cX4_canBid 2 (some .boolean), .methodLink RX4 73 yX4_least, .instanceMethod yX4_least, .selects RX4 yX4_least yX4_least, .code yX4_least cX4_least 1 (some .int), .constant RX4 39 (-100006)] ++ wsX40)
def wsX4_doMove_r1 : List Cond := [Cond.methodLink RX4 103 yX4_beginNow, Cond.instanceMethod yX4_beginNow, Cond.selects RX4 yX4_beginNow yX4_beginNow, Cond.initialized RX4, Cond.code yX4_beginNow cX4_beginNow 1 none, Cond.fieldLink RX4 7 "TurnBidsModel" "z" "[I", Cond.methodLink RX4 32 yX4_clearAuction, Cond.instanceMethod yX4_clearAuction, Cond.selects RX4 yX4_clearAuction yX4_clearAuction, Cond.code yX4_clearAuction cX4_clearAuction 2 none, Cond.constant RX4 39 (-100006), Cond.methodLink RX4 70 yX4_playerAt, Cond.instanceMethod yX4_playerAt, Cond.selects RX4 yX4_playerAt yX4_playerAt, Cond.code yX4_playerAt cX4_playerAt 4 (some .int), Cond.methodLink RX4 100 yX4_dropNow, Cond.instanceMethod yX4_dropNow, Cond.selects RX4 yX4_dropNow yX4_dropNow, Cond.code yX4_dropNow cX4_dropNow 3 none, Cond.methodLink RX4 80 yX4_left, Cond.instanceMethod yX4_left, Cond.selects RX4 yX4_left yX4_left, Cond.code yX4_left cX4_left 3 (some .int), Cond.methodLink RX4 83 yX4_pay]
def wsX4_doMove_r2 : List Cond := [Cond.instanceMethod yX4_pay, Cond.selects RX4 yX4_pay yX4_pay, Cond.code yX4_pay cX4_pay 3 none, Cond.methodLink RX4 77 yX4_pass, Cond.instanceMethod yX4_pass, Cond.selects RX4 yX4_pass yX4_pass, Cond.code yX4_pass cX4_pass 2 none, Cond.methodLink RX4 87 yX4_endNow, Cond.instanceMethod yX4_endNow, Cond.selects RX4 yX4_endNow yX4_endNow, Cond.code yX4_endNow cX4_endNow 5 none, Cond.methodLink RX4 91 yX4_prizeAt, Cond.instanceMethod yX4_prizeAt, Cond.selects RX4 yX4_prizeAt yX4_prizeAt, Cond.code yX4_prizeAt cX4_prizeAt 6 (some .int), Cond.methodLink RX4 106 yX4_actNow, Cond.instanceMethod yX4_actNow, Cond.selects RX4 yX4_actNow yX4_actNow, Cond.code yX4_actNow cX4_actNow 2 none, Cond.methodLink RX4 73 yX4_least, Cond.instanceMethod yX4_least, Cond.selects RX4 yX4_least yX4_least, Cond.code yX4_least cX4_least 1 (some .int), Cond.methodLink RX4 94 yX4_canBid]
def wsX4_doMove_r3 : List Cond := [Cond.instanceMethod yX4_canBid, Cond.selects RX4 yX4_canBid yX4_canBid, Cond.code yX4_canBid cX4_canBid 2 (some .boolean), Cond.methodLink RX4 97 yX4_bidNow, Cond.instanceMethod yX4_bidNow, Cond.selects RX4 yX4_bidNow yX4_bidNow, Cond.code yX4_bidNow cX4_bidNow 2 none, Cond.methodLink RX4 112 yX4_finishNow, Cond.instanceMethod yX4_finishNow, Cond.selects RX4 yX4_finishNow yX4_finishNow, Cond.code yX4_finishNow cX4_finishNow 2 (some .int)]
def wsX4_doMove : List Cond := .code yX4_doMove cX4_doMove 2 none :: ((wsX4_doMove_r1 ++ (wsX4_doMove_r2 ++ wsX4_doMove_r3)) ++ wsX40)
def wsX4_run_r1 : List Cond := [Cond.constant RX4 140 (-100003), Cond.fieldLink RX4 127 "TurnBidsModel" "toldMany" "I", Cond.fieldLink RX4 29 "TurnBidsModel" "told" "[I", Cond.fieldLink RX4 117 "TurnBidsModel" "typed" "I", Cond.methodLink RX4 137 yX4_readPad, Cond.instanceMethod yX4_readPad, Cond.selects RX4 yX4_readPad yX4_readPad, Cond.initialized RX4, Cond.code yX4_readPad cX4_readPad 2 (some .boolean), Cond.fieldLink RX4 121 "TurnBidsModel" "spot" "I", Cond.methodLink RX4 130 yX4_readMove, Cond.instanceMethod yX4_readMove, Cond.selects RX4 yX4_readMove yX4_readMove, Cond.code yX4_readMove cX4_readMove 4 (some .boolean), Cond.fieldLink RX4 26 "TurnBidsModel" "pad" "[I", Cond.methodLink RX4 35 yX4_in, Cond.static yX4_in, Cond.code yX4_in cX4_in 3 (some .boolean), Cond.methodLink RX4 124 yX4_sees, Cond.instanceMethod yX4_sees, Cond.selects RX4 yX4_sees yX4_sees, Cond.code yX4_sees cX4_sees 3 (some .boolean), Cond.methodLink RX4 134 yX4_takes, Cond.instanceMethod yX4_takes]
def wsX4_run_r2 : List Cond := [Cond.selects RX4 yX4_takes yX4_takes, Cond.code yX4_takes cX4_takes 3 (some .boolean), Cond.methodLink RX4 54 yX4_record, Cond.instanceMethod yX4_record, Cond.selects RX4 yX4_record yX4_record, Cond.code yX4_record cX4_record 2 none, Cond.fieldLink RX4 40 "TurnBidsModel" "states" "I", Cond.fieldLink RX4 16 "TurnBidsModel" "past" "[I", Cond.fieldLink RX4 7 "TurnBidsModel" "z" "[I", Cond.methodLink RX4 44 yX4_copyState, Cond.static yX4_copyState, Cond.code yX4_copyState cX4_copyState 5 none, Cond.methodLink RX4 141 yX4_can, Cond.instanceMethod yX4_can, Cond.selects RX4 yX4_can yX4_can, Cond.code yX4_can cX4_can 3 (some .boolean), Cond.methodLink RX4 109 yX4_mayBid, Cond.instanceMethod yX4_mayBid, Cond.selects RX4 yX4_mayBid yX4_mayBid, Cond.code yX4_mayBid cX4_mayBid 2 (some .boolean), Cond.methodLink RX4 94 yX4_canBid, Cond.instanceMethod yX4_canBid, Cond.selects RX4 yX4_canBid yX4_canBid, Cond.code yX4_canBid cX4_canBid 2 (some .boolean)]
def wsX4_run_r3 : List Cond := [Cond.methodLink RX4 73 yX4_least, Cond.instanceMethod yX4_least, Cond.selects RX4 yX4_least yX4_least, Cond.code yX4_least cX4_least 1 (some .int), Cond.constant RX4 39 (-100006), Cond.methodLink RX4 144 yX4_doMove, Cond.instanceMethod yX4_doMove, Cond.selects RX4 yX4_doMove yX4_doMove, Cond.code yX4_doMove cX4_doMove 2 none, Cond.methodLink RX4 103 yX4_beginNow, Cond.instanceMethod yX4_beginNow, Cond.selects RX4 yX4_beginNow yX4_beginNow, Cond.code yX4_beginNow cX4_beginNow 1 none, Cond.methodLink RX4 32 yX4_clearAuction, Cond.instanceMethod yX4_clearAuction, Cond.selects RX4 yX4_clearAuction yX4_clearAuction, Cond.code yX4_clearAuction cX4_clearAuction 2 none, Cond.methodLink RX4 70 yX4_playerAt, Cond.instanceMethod yX4_playerAt, Cond.selects RX4 yX4_playerAt yX4_playerAt, Cond.code yX4_playerAt cX4_playerAt 4 (some .int), Cond.methodLink RX4 100 yX4_dropNow, Cond.instanceMethod yX4_dropNow, Cond.selects RX4 yX4_dropNow yX4_dropNow]
def wsX4_run_r4 : List Cond := [Cond.code yX4_dropNow cX4_dropNow 3 none, Cond.methodLink RX4 80 yX4_left, Cond.instanceMethod yX4_left, Cond.selects RX4 yX4_left yX4_left, Cond.code yX4_left cX4_left 3 (some .int), Cond.methodLink RX4 83 yX4_pay, Cond.instanceMethod yX4_pay, Cond.selects RX4 yX4_pay yX4_pay, Cond.code yX4_pay cX4_pay 3 none, Cond.methodLink RX4 77 yX4_pass, Cond.instanceMethod yX4_pass, Cond.selects RX4 yX4_pass yX4_pass, Cond.code yX4_pass cX4_pass 2 none, Cond.methodLink RX4 87 yX4_endNow, Cond.instanceMethod yX4_endNow, Cond.selects RX4 yX4_endNow yX4_endNow, Cond.code yX4_endNow cX4_endNow 5 none, Cond.methodLink RX4 91 yX4_prizeAt, Cond.instanceMethod yX4_prizeAt, Cond.selects RX4 yX4_prizeAt yX4_prizeAt, Cond.code yX4_prizeAt cX4_prizeAt 6 (some .int), Cond.methodLink RX4 106 yX4_actNow, Cond.instanceMethod yX4_actNow, Cond.selects RX4 yX4_actNow yX4_actNow]
def wsX4_run_r5 : List Cond := [Cond.code yX4_actNow cX4_actNow 2 none, Cond.methodLink RX4 97 yX4_bidNow, Cond.instanceMethod yX4_bidNow, Cond.selects RX4 yX4_bidNow yX4_bidNow, Cond.code yX4_bidNow cX4_bidNow 2 none, Cond.methodLink RX4 112 yX4_finishNow, Cond.instanceMethod yX4_finishNow, Cond.selects RX4 yX4_finishNow yX4_finishNow, Cond.code yX4_finishNow cX4_finishNow 2 (some .int)]
def wsX4_run : List Cond := .code yX4_run cX4_run 2 (some .int) :: ((wsX4_run_r1 ++ (wsX4_run_r2 ++ (wsX4_run_r3 ++ (wsX4_run_r4 ++ wsX4_run_r5)))) ++ wsX40)
def wsX4_player : List Cond := .code yX4_player cX4_player 3 (some .int) :: ([.constant RX4 69 (-100001), .fieldLink RX4 7 "TurnBidsModel" "z" "[I", .constant RX4 49 (-100002), .methodLink RX4 65 yX4_isPlayer, .static yX4_isPlayer, .initialized RX4, .code yX4_isPlayer cX4_isPlayer 1 (some .boolean), .methodLink RX4 35 yX4_in, .static yX4_in, .code yX4_in cX4_in 3 (some .boolean)] ++ wsX40)
def wsX4_at : List Cond := .code yX4_at cX4_at 2 (some .int) :: ([.constant RX4 69 (-100001), .methodLink RX4 65 yX4_isPlayer, .static yX4_isPlayer, .initialized RX4, .code yX4_isPlayer cX4_isPlayer 1 (some .boolean), .methodLink RX4 35 yX4_in, .static yX4_in, .code yX4_in cX4_in 3 (some .boolean), .methodLink RX4 70 yX4_playerAt, .instanceMethod yX4_playerAt, .selects RX4 yX4_playerAt yX4_playerAt, .code yX4_playerAt cX4_playerAt 4 (some .int), .constant RX4 39 (-100006), .fieldLink RX4 7 "TurnBidsModel" "z" "[I"] ++ wsX40)
def wsX4_leftSet : List Cond := .code yX4_leftSet cX4_leftSet 3 (some .int) :: ([.fieldLink RX4 7 "TurnBidsModel" "z" "[I", .constant RX4 39 (-100006)] ++ wsX40)
def wsX4_count : List Cond := .code yX4_count cX4_count 2 (some .int) :: ([.fieldLink RX4 7 "TurnBidsModel" "z" "[I", .constant RX4 39 (-100006), .fieldLink RX4 117 "TurnBidsModel" "typed" "I", .fieldLink RX4 40 "TurnBidsModel" "states" "I", .constant RX4 49 (-100002), .methodLink RX4 73 yX4_least, .instanceMethod yX4_least, .selects RX4 yX4_least yX4_least, .initialized RX4, .code yX4_least cX4_least 1 (some .int), .methodLink RX4 147 yX4_leftSet, .instanceMethod yX4_leftSet, .selects RX4 yX4_leftSet yX4_leftSet, .code yX4_leftSet cX4_leftSet 3 (some .int), .methodLink RX4 50 yX4_sum, .instanceMethod yX4_sum, .selects RX4 yX4_sum yX4_sum, .code yX4_sum cX4_sum 4 (some .int)] ++ wsX40)
def wsX4_prizeOf : List Cond := .code yX4_prizeOf cX4_prizeOf 2 (some .int) :: ([.fieldLink RX4 7 "TurnBidsModel" "z" "[I", .constant RX4 69 (-100001), .methodLink RX4 65 yX4_isPlayer, .static yX4_isPlayer, .initialized RX4, .code yX4_isPlayer cX4_isPlayer 1 (some .boolean), .methodLink RX4 35 yX4_in, .static yX4_in, .code yX4_in cX4_in 3 (some .boolean)] ++ wsX40)
def wsX4_ifFinished_r1 : List Cond := [Cond.constant RX4 69 (-100001), Cond.constant RX4 49 (-100002), Cond.fieldLink RX4 7 "TurnBidsModel" "z" "[I", Cond.fieldLink RX4 13 "TurnBidsModel" "spare" "[I", Cond.methodLink RX4 65 yX4_isPlayer, Cond.static yX4_isPlayer, Cond.initialized RX4, Cond.code yX4_isPlayer cX4_isPlayer 1 (some .boolean), Cond.methodLink RX4 35 yX4_in, Cond.static yX4_in, Cond.code yX4_in cX4_in 3 (some .boolean), Cond.methodLink RX4 44 yX4_copyState, Cond.static yX4_copyState, Cond.code yX4_copyState cX4_copyState 5 none, Cond.methodLink RX4 112 yX4_finishNow, Cond.instanceMethod yX4_finishNow, Cond.selects RX4 yX4_finishNow yX4_finishNow, Cond.code yX4_finishNow cX4_finishNow 2 (some .int), Cond.methodLink RX4 103 yX4_beginNow, Cond.instanceMethod yX4_beginNow, Cond.selects RX4 yX4_beginNow yX4_beginNow, Cond.code yX4_beginNow cX4_beginNow 1 none, Cond.methodLink RX4 32 yX4_clearAuction, Cond.instanceMethod yX4_clearAuction]
def wsX4_ifFinished_r2 : List Cond := [Cond.selects RX4 yX4_clearAuction yX4_clearAuction, Cond.code yX4_clearAuction cX4_clearAuction 2 none, Cond.constant RX4 39 (-100006), Cond.methodLink RX4 70 yX4_playerAt, Cond.instanceMethod yX4_playerAt, Cond.selects RX4 yX4_playerAt yX4_playerAt, Cond.code yX4_playerAt cX4_playerAt 4 (some .int), Cond.methodLink RX4 106 yX4_actNow, Cond.instanceMethod yX4_actNow, Cond.selects RX4 yX4_actNow yX4_actNow, Cond.code yX4_actNow cX4_actNow 2 none, Cond.methodLink RX4 73 yX4_least, Cond.instanceMethod yX4_least, Cond.selects RX4 yX4_least yX4_least, Cond.code yX4_least cX4_least 1 (some .int), Cond.methodLink RX4 94 yX4_canBid, Cond.instanceMethod yX4_canBid, Cond.selects RX4 yX4_canBid yX4_canBid, Cond.code yX4_canBid cX4_canBid 2 (some .boolean), Cond.methodLink RX4 97 yX4_bidNow, Cond.instanceMethod yX4_bidNow, Cond.selects RX4 yX4_bidNow yX4_bidNow, Cond.code yX4_bidNow cX4_bidNow 2 none, Cond.methodLink RX4 77 yX4_pass]
def wsX4_ifFinished_r3 : List Cond := [Cond.instanceMethod yX4_pass, Cond.selects RX4 yX4_pass yX4_pass, Cond.code yX4_pass cX4_pass 2 none, Cond.methodLink RX4 100 yX4_dropNow, Cond.instanceMethod yX4_dropNow, Cond.selects RX4 yX4_dropNow yX4_dropNow, Cond.code yX4_dropNow cX4_dropNow 3 none, Cond.methodLink RX4 80 yX4_left, Cond.instanceMethod yX4_left, Cond.selects RX4 yX4_left yX4_left, Cond.code yX4_left cX4_left 3 (some .int), Cond.methodLink RX4 83 yX4_pay, Cond.instanceMethod yX4_pay, Cond.selects RX4 yX4_pay yX4_pay, Cond.code yX4_pay cX4_pay 3 none, Cond.methodLink RX4 87 yX4_endNow, Cond.instanceMethod yX4_endNow, Cond.selects RX4 yX4_endNow yX4_endNow, Cond.code yX4_endNow cX4_endNow 5 none, Cond.methodLink RX4 91 yX4_prizeAt, Cond.instanceMethod yX4_prizeAt, Cond.selects RX4 yX4_prizeAt yX4_prizeAt, Cond.code yX4_prizeAt cX4_prizeAt 6 (some .int)]
def wsX4_ifFinished : List Cond := .code yX4_ifFinished cX4_ifFinished 6 (some .int) :: ((wsX4_ifFinished_r1 ++ (wsX4_ifFinished_r2 ++ wsX4_ifFinished_r3)) ++ wsX40)
def wsX4_bestLimit_r1 : List Cond := [Cond.constant RX4 69 (-100001), Cond.constant RX4 49 (-100002), Cond.constant RX4 39 (-100006), Cond.fieldLink RX4 7 "TurnBidsModel" "z" "[I", Cond.fieldLink RX4 13 "TurnBidsModel" "spare" "[I", Cond.methodLink RX4 65 yX4_isPlayer, Cond.static yX4_isPlayer, Cond.initialized RX4, Cond.code yX4_isPlayer cX4_isPlayer 1 (some .boolean), Cond.methodLink RX4 35 yX4_in, Cond.static yX4_in, Cond.code yX4_in cX4_in 3 (some .boolean), Cond.methodLink RX4 44 yX4_copyState, Cond.static yX4_copyState, Cond.code yX4_copyState cX4_copyState 5 none, Cond.methodLink RX4 112 yX4_finishNow, Cond.instanceMethod yX4_finishNow, Cond.selects RX4 yX4_finishNow yX4_finishNow, Cond.code yX4_finishNow cX4_finishNow 2 (some .int), Cond.methodLink RX4 103 yX4_beginNow, Cond.instanceMethod yX4_beginNow, Cond.selects RX4 yX4_beginNow yX4_beginNow, Cond.code yX4_beginNow cX4_beginNow 1 none, Cond.methodLink RX4 32 yX4_clearAuction]
def wsX4_bestLimit_r2 : List Cond := [Cond.instanceMethod yX4_clearAuction, Cond.selects RX4 yX4_clearAuction yX4_clearAuction, Cond.code yX4_clearAuction cX4_clearAuction 2 none, Cond.methodLink RX4 70 yX4_playerAt, Cond.instanceMethod yX4_playerAt, Cond.selects RX4 yX4_playerAt yX4_playerAt, Cond.code yX4_playerAt cX4_playerAt 4 (some .int), Cond.methodLink RX4 106 yX4_actNow, Cond.instanceMethod yX4_actNow, Cond.selects RX4 yX4_actNow yX4_actNow, Cond.code yX4_actNow cX4_actNow 2 none, Cond.methodLink RX4 73 yX4_least, Cond.instanceMethod yX4_least, Cond.selects RX4 yX4_least yX4_least, Cond.code yX4_least cX4_least 1 (some .int), Cond.methodLink RX4 94 yX4_canBid, Cond.instanceMethod yX4_canBid, Cond.selects RX4 yX4_canBid yX4_canBid, Cond.code yX4_canBid cX4_canBid 2 (some .boolean), Cond.methodLink RX4 97 yX4_bidNow, Cond.instanceMethod yX4_bidNow, Cond.selects RX4 yX4_bidNow yX4_bidNow, Cond.code yX4_bidNow cX4_bidNow 2 none, Cond.methodLink RX4 77 yX4_pass]
def wsX4_bestLimit_r3 : List Cond := [Cond.instanceMethod yX4_pass, Cond.selects RX4 yX4_pass yX4_pass, Cond.code yX4_pass cX4_pass 2 none, Cond.methodLink RX4 100 yX4_dropNow, Cond.instanceMethod yX4_dropNow, Cond.selects RX4 yX4_dropNow yX4_dropNow, Cond.code yX4_dropNow cX4_dropNow 3 none, Cond.methodLink RX4 80 yX4_left, Cond.instanceMethod yX4_left, Cond.selects RX4 yX4_left yX4_left, Cond.code yX4_left cX4_left 3 (some .int), Cond.methodLink RX4 83 yX4_pay, Cond.instanceMethod yX4_pay, Cond.selects RX4 yX4_pay yX4_pay, Cond.code yX4_pay cX4_pay 3 none, Cond.methodLink RX4 87 yX4_endNow, Cond.instanceMethod yX4_endNow, Cond.selects RX4 yX4_endNow yX4_endNow, Cond.code yX4_endNow cX4_endNow 5 none, Cond.methodLink RX4 91 yX4_prizeAt, Cond.instanceMethod yX4_prizeAt, Cond.selects RX4 yX4_prizeAt yX4_prizeAt, Cond.code yX4_prizeAt cX4_prizeAt 6 (some .int)]
def wsX4_bestLimit : List Cond := .code yX4_bestLimit cX4_bestLimit 8 (some .int) :: ((wsX4_bestLimit_r1 ++ (wsX4_bestLimit_r2 ++ wsX4_bestLimit_r3)) ++ wsX40)
def wsX4_play_r1 : List Cond := [Cond.fieldLink RX4 7 "TurnBidsModel" "z" "[I", Cond.fieldLink RX4 13 "TurnBidsModel" "spare" "[I", Cond.methodLink RX4 44 yX4_copyState, Cond.static yX4_copyState, Cond.initialized RX4, Cond.code yX4_copyState cX4_copyState 5 none, Cond.methodLink RX4 112 yX4_finishNow, Cond.instanceMethod yX4_finishNow, Cond.selects RX4 yX4_finishNow yX4_finishNow, Cond.code yX4_finishNow cX4_finishNow 2 (some .int), Cond.methodLink RX4 103 yX4_beginNow, Cond.instanceMethod yX4_beginNow, Cond.selects RX4 yX4_beginNow yX4_beginNow, Cond.code yX4_beginNow cX4_beginNow 1 none, Cond.methodLink RX4 32 yX4_clearAuction, Cond.instanceMethod yX4_clearAuction, Cond.selects RX4 yX4_clearAuction yX4_clearAuction, Cond.code yX4_clearAuction cX4_clearAuction 2 none, Cond.constant RX4 39 (-100006), Cond.methodLink RX4 70 yX4_playerAt, Cond.instanceMethod yX4_playerAt, Cond.selects RX4 yX4_playerAt yX4_playerAt, Cond.code yX4_playerAt cX4_playerAt 4 (some .int), Cond.methodLink RX4 106 yX4_actNow]
def wsX4_play_r2 : List Cond := [Cond.instanceMethod yX4_actNow, Cond.selects RX4 yX4_actNow yX4_actNow, Cond.code yX4_actNow cX4_actNow 2 none, Cond.methodLink RX4 73 yX4_least, Cond.instanceMethod yX4_least, Cond.selects RX4 yX4_least yX4_least, Cond.code yX4_least cX4_least 1 (some .int), Cond.methodLink RX4 94 yX4_canBid, Cond.instanceMethod yX4_canBid, Cond.selects RX4 yX4_canBid yX4_canBid, Cond.code yX4_canBid cX4_canBid 2 (some .boolean), Cond.methodLink RX4 97 yX4_bidNow, Cond.instanceMethod yX4_bidNow, Cond.selects RX4 yX4_bidNow yX4_bidNow, Cond.code yX4_bidNow cX4_bidNow 2 none, Cond.methodLink RX4 77 yX4_pass, Cond.instanceMethod yX4_pass, Cond.selects RX4 yX4_pass yX4_pass, Cond.code yX4_pass cX4_pass 2 none, Cond.methodLink RX4 100 yX4_dropNow, Cond.instanceMethod yX4_dropNow, Cond.selects RX4 yX4_dropNow yX4_dropNow, Cond.code yX4_dropNow cX4_dropNow 3 none, Cond.methodLink RX4 80 yX4_left]
def wsX4_play_r3 : List Cond := [Cond.instanceMethod yX4_left, Cond.selects RX4 yX4_left yX4_left, Cond.code yX4_left cX4_left 3 (some .int), Cond.methodLink RX4 83 yX4_pay, Cond.instanceMethod yX4_pay, Cond.selects RX4 yX4_pay yX4_pay, Cond.code yX4_pay cX4_pay 3 none, Cond.methodLink RX4 87 yX4_endNow, Cond.instanceMethod yX4_endNow, Cond.selects RX4 yX4_endNow yX4_endNow, Cond.code yX4_endNow cX4_endNow 5 none, Cond.methodLink RX4 91 yX4_prizeAt, Cond.instanceMethod yX4_prizeAt, Cond.selects RX4 yX4_prizeAt yX4_prizeAt, Cond.code yX4_prizeAt cX4_prizeAt 6 (some .int)]
def wsX4_play : List Cond := .code yX4_play cX4_play 3 none :: ((wsX4_play_r1 ++ (wsX4_play_r2 ++ wsX4_play_r3)) ++ wsX40)
def wsX4_coinsBehind_r1 : List Cond := [Cond.constant RX4 69 (-100001), Cond.constant RX4 49 (-100002), Cond.fieldLink RX4 7 "TurnBidsModel" "z" "[I", Cond.fieldLink RX4 13 "TurnBidsModel" "spare" "[I", Cond.methodLink RX4 65 yX4_isPlayer, Cond.static yX4_isPlayer, Cond.initialized RX4, Cond.code yX4_isPlayer cX4_isPlayer 1 (some .boolean), Cond.methodLink RX4 35 yX4_in, Cond.static yX4_in, Cond.code yX4_in cX4_in 3 (some .boolean), Cond.methodLink RX4 150 yX4_play, Cond.instanceMethod yX4_play, Cond.selects RX4 yX4_play yX4_play, Cond.code yX4_play cX4_play 3 none, Cond.methodLink RX4 44 yX4_copyState, Cond.static yX4_copyState, Cond.code yX4_copyState cX4_copyState 5 none, Cond.methodLink RX4 112 yX4_finishNow, Cond.instanceMethod yX4_finishNow, Cond.selects RX4 yX4_finishNow yX4_finishNow, Cond.code yX4_finishNow cX4_finishNow 2 (some .int), Cond.methodLink RX4 103 yX4_beginNow, Cond.instanceMethod yX4_beginNow]
def wsX4_coinsBehind_r2 : List Cond := [Cond.selects RX4 yX4_beginNow yX4_beginNow, Cond.code yX4_beginNow cX4_beginNow 1 none, Cond.methodLink RX4 32 yX4_clearAuction, Cond.instanceMethod yX4_clearAuction, Cond.selects RX4 yX4_clearAuction yX4_clearAuction, Cond.code yX4_clearAuction cX4_clearAuction 2 none, Cond.constant RX4 39 (-100006), Cond.methodLink RX4 70 yX4_playerAt, Cond.instanceMethod yX4_playerAt, Cond.selects RX4 yX4_playerAt yX4_playerAt, Cond.code yX4_playerAt cX4_playerAt 4 (some .int), Cond.methodLink RX4 106 yX4_actNow, Cond.instanceMethod yX4_actNow, Cond.selects RX4 yX4_actNow yX4_actNow, Cond.code yX4_actNow cX4_actNow 2 none, Cond.methodLink RX4 73 yX4_least, Cond.instanceMethod yX4_least, Cond.selects RX4 yX4_least yX4_least, Cond.code yX4_least cX4_least 1 (some .int), Cond.methodLink RX4 94 yX4_canBid, Cond.instanceMethod yX4_canBid, Cond.selects RX4 yX4_canBid yX4_canBid, Cond.code yX4_canBid cX4_canBid 2 (some .boolean), Cond.methodLink RX4 97 yX4_bidNow]
def wsX4_coinsBehind_r3 : List Cond := [Cond.instanceMethod yX4_bidNow, Cond.selects RX4 yX4_bidNow yX4_bidNow, Cond.code yX4_bidNow cX4_bidNow 2 none, Cond.methodLink RX4 77 yX4_pass, Cond.instanceMethod yX4_pass, Cond.selects RX4 yX4_pass yX4_pass, Cond.code yX4_pass cX4_pass 2 none, Cond.methodLink RX4 100 yX4_dropNow, Cond.instanceMethod yX4_dropNow, Cond.selects RX4 yX4_dropNow yX4_dropNow, Cond.code yX4_dropNow cX4_dropNow 3 none, Cond.methodLink RX4 80 yX4_left, Cond.instanceMethod yX4_left, Cond.selects RX4 yX4_left yX4_left, Cond.code yX4_left cX4_left 3 (some .int), Cond.methodLink RX4 83 yX4_pay, Cond.instanceMethod yX4_pay, Cond.selects RX4 yX4_pay yX4_pay, Cond.code yX4_pay cX4_pay 3 none, Cond.methodLink RX4 87 yX4_endNow, Cond.instanceMethod yX4_endNow, Cond.selects RX4 yX4_endNow yX4_endNow, Cond.code yX4_endNow cX4_endNow 5 none, Cond.methodLink RX4 91 yX4_prizeAt]
def wsX4_coinsBehind_r4 : List Cond := [Cond.instanceMethod yX4_prizeAt, Cond.selects RX4 yX4_prizeAt yX4_prizeAt, Cond.code yX4_prizeAt cX4_prizeAt 6 (some .int)]
def wsX4_coinsBehind : List Cond := .code yX4_coinsBehind cX4_coinsBehind 4 (some .int) :: ((wsX4_coinsBehind_r1 ++ (wsX4_coinsBehind_r2 ++ (wsX4_coinsBehind_r3 ++ wsX4_coinsBehind_r4))) ++ wsX40)
def wsX4_richest_r1 : List Cond := [Cond.constant RX4 49 (-100002), Cond.fieldLink RX4 7 "TurnBidsModel" "z" "[I", Cond.fieldLink RX4 13 "TurnBidsModel" "spare" "[I", Cond.methodLink RX4 35 yX4_in, Cond.static yX4_in, Cond.initialized RX4, Cond.code yX4_in cX4_in 3 (some .boolean), Cond.methodLink RX4 150 yX4_play, Cond.instanceMethod yX4_play, Cond.selects RX4 yX4_play yX4_play, Cond.code yX4_play cX4_play 3 none, Cond.methodLink RX4 44 yX4_copyState, Cond.static yX4_copyState, Cond.code yX4_copyState cX4_copyState 5 none, Cond.methodLink RX4 112 yX4_finishNow, Cond.instanceMethod yX4_finishNow, Cond.selects RX4 yX4_finishNow yX4_finishNow, Cond.code yX4_finishNow cX4_finishNow 2 (some .int), Cond.methodLink RX4 103 yX4_beginNow, Cond.instanceMethod yX4_beginNow, Cond.selects RX4 yX4_beginNow yX4_beginNow, Cond.code yX4_beginNow cX4_beginNow 1 none, Cond.methodLink RX4 32 yX4_clearAuction, Cond.instanceMethod yX4_clearAuction]
def wsX4_richest_r2 : List Cond := [Cond.selects RX4 yX4_clearAuction yX4_clearAuction, Cond.code yX4_clearAuction cX4_clearAuction 2 none, Cond.constant RX4 39 (-100006), Cond.methodLink RX4 70 yX4_playerAt, Cond.instanceMethod yX4_playerAt, Cond.selects RX4 yX4_playerAt yX4_playerAt, Cond.code yX4_playerAt cX4_playerAt 4 (some .int), Cond.methodLink RX4 106 yX4_actNow, Cond.instanceMethod yX4_actNow, Cond.selects RX4 yX4_actNow yX4_actNow, Cond.code yX4_actNow cX4_actNow 2 none, Cond.methodLink RX4 73 yX4_least, Cond.instanceMethod yX4_least, Cond.selects RX4 yX4_least yX4_least, Cond.code yX4_least cX4_least 1 (some .int), Cond.methodLink RX4 94 yX4_canBid, Cond.instanceMethod yX4_canBid, Cond.selects RX4 yX4_canBid yX4_canBid, Cond.code yX4_canBid cX4_canBid 2 (some .boolean), Cond.methodLink RX4 97 yX4_bidNow, Cond.instanceMethod yX4_bidNow, Cond.selects RX4 yX4_bidNow yX4_bidNow, Cond.code yX4_bidNow cX4_bidNow 2 none, Cond.methodLink RX4 77 yX4_pass]
def wsX4_richest_r3 : List Cond := [Cond.instanceMethod yX4_pass, Cond.selects RX4 yX4_pass yX4_pass, Cond.code yX4_pass cX4_pass 2 none, Cond.methodLink RX4 100 yX4_dropNow, Cond.instanceMethod yX4_dropNow, Cond.selects RX4 yX4_dropNow yX4_dropNow, Cond.code yX4_dropNow cX4_dropNow 3 none, Cond.methodLink RX4 80 yX4_left, Cond.instanceMethod yX4_left, Cond.selects RX4 yX4_left yX4_left, Cond.code yX4_left cX4_left 3 (some .int), Cond.methodLink RX4 83 yX4_pay, Cond.instanceMethod yX4_pay, Cond.selects RX4 yX4_pay yX4_pay, Cond.code yX4_pay cX4_pay 3 none, Cond.methodLink RX4 87 yX4_endNow, Cond.instanceMethod yX4_endNow, Cond.selects RX4 yX4_endNow yX4_endNow, Cond.code yX4_endNow cX4_endNow 5 none, Cond.methodLink RX4 91 yX4_prizeAt, Cond.instanceMethod yX4_prizeAt, Cond.selects RX4 yX4_prizeAt yX4_prizeAt, Cond.code yX4_prizeAt cX4_prizeAt 6 (some .int)]
def wsX4_richest : List Cond := .code yX4_richest cX4_richest 5 (some .int) :: ((wsX4_richest_r1 ++ (wsX4_richest_r2 ++ wsX4_richest_r3)) ++ wsX40)
def wsX4_movesLeft_r1 : List Cond := [Cond.fieldLink RX4 7 "TurnBidsModel" "z" "[I", Cond.constant RX4 48 (-100005), Cond.fieldLink RX4 13 "TurnBidsModel" "spare" "[I", Cond.methodLink RX4 44 yX4_copyState, Cond.static yX4_copyState, Cond.initialized RX4, Cond.code yX4_copyState cX4_copyState 5 none, Cond.methodLink RX4 112 yX4_finishNow, Cond.instanceMethod yX4_finishNow, Cond.selects RX4 yX4_finishNow yX4_finishNow, Cond.code yX4_finishNow cX4_finishNow 2 (some .int), Cond.methodLink RX4 103 yX4_beginNow, Cond.instanceMethod yX4_beginNow, Cond.selects RX4 yX4_beginNow yX4_beginNow, Cond.code yX4_beginNow cX4_beginNow 1 none, Cond.methodLink RX4 32 yX4_clearAuction, Cond.instanceMethod yX4_clearAuction, Cond.selects RX4 yX4_clearAuction yX4_clearAuction, Cond.code yX4_clearAuction cX4_clearAuction 2 none, Cond.constant RX4 39 (-100006), Cond.methodLink RX4 70 yX4_playerAt, Cond.instanceMethod yX4_playerAt, Cond.selects RX4 yX4_playerAt yX4_playerAt, Cond.code yX4_playerAt cX4_playerAt 4 (some .int)]
def wsX4_movesLeft_r2 : List Cond := [Cond.methodLink RX4 106 yX4_actNow, Cond.instanceMethod yX4_actNow, Cond.selects RX4 yX4_actNow yX4_actNow, Cond.code yX4_actNow cX4_actNow 2 none, Cond.methodLink RX4 73 yX4_least, Cond.instanceMethod yX4_least, Cond.selects RX4 yX4_least yX4_least, Cond.code yX4_least cX4_least 1 (some .int), Cond.methodLink RX4 94 yX4_canBid, Cond.instanceMethod yX4_canBid, Cond.selects RX4 yX4_canBid yX4_canBid, Cond.code yX4_canBid cX4_canBid 2 (some .boolean), Cond.methodLink RX4 97 yX4_bidNow, Cond.instanceMethod yX4_bidNow, Cond.selects RX4 yX4_bidNow yX4_bidNow, Cond.code yX4_bidNow cX4_bidNow 2 none, Cond.methodLink RX4 77 yX4_pass, Cond.instanceMethod yX4_pass, Cond.selects RX4 yX4_pass yX4_pass, Cond.code yX4_pass cX4_pass 2 none, Cond.methodLink RX4 100 yX4_dropNow, Cond.instanceMethod yX4_dropNow, Cond.selects RX4 yX4_dropNow yX4_dropNow, Cond.code yX4_dropNow cX4_dropNow 3 none]
def wsX4_movesLeft_r3 : List Cond := [Cond.methodLink RX4 80 yX4_left, Cond.instanceMethod yX4_left, Cond.selects RX4 yX4_left yX4_left, Cond.code yX4_left cX4_left 3 (some .int), Cond.methodLink RX4 83 yX4_pay, Cond.instanceMethod yX4_pay, Cond.selects RX4 yX4_pay yX4_pay, Cond.code yX4_pay cX4_pay 3 none, Cond.methodLink RX4 87 yX4_endNow, Cond.instanceMethod yX4_endNow, Cond.selects RX4 yX4_endNow yX4_endNow, Cond.code yX4_endNow cX4_endNow 5 none, Cond.methodLink RX4 91 yX4_prizeAt, Cond.instanceMethod yX4_prizeAt, Cond.selects RX4 yX4_prizeAt yX4_prizeAt, Cond.code yX4_prizeAt cX4_prizeAt 6 (some .int)]
def wsX4_movesLeft : List Cond := .code yX4_movesLeft cX4_movesLeft 2 (some .int) :: ((wsX4_movesLeft_r1 ++ (wsX4_movesLeft_r2 ++ wsX4_movesLeft_r3)) ++ wsX40)
def wsJ9_max_7cf53 : List Cond := .code yJ9_max_7cf53 cJ9_max_7cf53 2 (some .int) :: ([])
def wsJ9_min_7cf53 : List Cond := .code yJ9_min_7cf53 cJ9_min_7cf53 2 (some .int) :: ([])
def wsL_law_r1 : List Cond := [Cond.classLink RL 7 RX3, Cond.instantiable RX3 5, Cond.initialized RX3, Cond.classLink RL 10 RX4, Cond.instantiable RX4 11, Cond.initialized RX4, Cond.constantLong RL 92 (4294967295), Cond.methodLink RL 9 yX3_init, Cond.instanceMethod yX3_init, Cond.code yX3_init cX3_init 1 none, Cond.methodLink RX3 1 objectInit, Cond.instanceMethod objectInit, Cond.code objectInit ⟨#[0xb1]⟩ 1 none, Cond.classLink RX3 7 RX2, Cond.instantiable RX2 13, Cond.initialized RX2, Cond.fieldLink RX3 10 "TurnBids" "table" "LTurnBids$Table;", Cond.fieldLink RX3 16 "TurnBids" "trial" "LTurnBids$Table;", Cond.classLink RX3 19 RX0, Cond.instantiable RX0 3, Cond.initialized RX0, Cond.fieldLink RX3 22 "TurnBids" "history" "LTurnBids$History;", Cond.fieldLink RX3 26 "TurnBids" "slots" "[LTurnBids$Table;", Cond.classLink RX3 30 RX1]
def wsL_law_r2 : List Cond := [Cond.instantiable RX1 2, Cond.initialized RX1, Cond.fieldLink RX3 33 "TurnBids" "pad" "LTurnBids$Pad;", Cond.instanceMethod yX2_init, Cond.code yX2_init cX2_init 1 none, Cond.methodLink RX2 3 objectInit, Cond.arrayClass .int, Cond.fieldLink RX2 9 "TurnBids$Table" "settings" "[I", Cond.fieldLink RX2 15 "TurnBids$Table" "prizes" "[I", Cond.fieldLink RX2 18 "TurnBids$Table" "coins" "[I", Cond.fieldLink RX2 21 "TurnBids$Table" "limits" "[I", Cond.fieldLink RX2 24 "TurnBids$Table" "places" "[I", Cond.constant RX2 27 (-100006), Cond.fieldLink RX2 28 "TurnBids$Table" "bids" "[I", Cond.fieldLink RX2 31 "TurnBids$Table" "placesGot" "[I", Cond.fieldLink RX2 34 "TurnBids$Table" "paid" "[I", Cond.fieldLink RX2 37 "TurnBids$Table" "taken" "[I", Cond.fieldLink RX2 40 "TurnBids$Table" "won" "[I", Cond.fieldLink RX2 43 "TurnBids$Table" "underWay" "Z", Cond.fieldLink RX2 47 "TurnBids$Table" "turn" "I", Cond.fieldLink RX2 51 "TurnBids$Table" "rounds" "I", Cond.instanceMethod yX0_init, Cond.code yX0_init cX0_init 1 none, Cond.methodLink RX0 3 objectInit]
def wsL_law_r3 : List Cond := [Cond.classLink RX0 9 RX2, Cond.fieldLink RX0 11 "TurnBids$History" "states" "[LTurnBids$Table;", Cond.fieldLink RX0 17 "TurnBids$History" "next" "I", Cond.fieldLink RX0 21 "TurnBids$History" "length" "I", Cond.instanceMethod yX1_init, Cond.code yX1_init cX1_init 1 none, Cond.methodLink RX1 3 objectInit, Cond.arrayClass .char, Cond.fieldLink RX1 9 "TurnBids$Pad" "signs" "[C", Cond.fieldLink RX1 15 "TurnBids$Pad" "length" "I", Cond.methodLink RL 12 yX4_init, Cond.instanceMethod yX4_init, Cond.code yX4_init cX4_init 2 none, Cond.methodLink RX4 1 objectInit, Cond.fieldLink RX4 7 "TurnBidsModel" "z" "[I", Cond.fieldLink RX4 13 "TurnBidsModel" "spare" "[I", Cond.fieldLink RX4 16 "TurnBidsModel" "past" "[I", Cond.fieldLink RX4 19 "TurnBidsModel" "slots" "[I", Cond.arrayClass .boolean, Cond.fieldLink RX4 22 "TurnBidsModel" "isSaved" "[Z", Cond.fieldLink RX4 26 "TurnBidsModel" "pad" "[I", Cond.fieldLink RX4 29 "TurnBidsModel" "told" "[I", Cond.methodLink RX4 32 yX4_clearAuction, Cond.instanceMethod yX4_clearAuction]
def wsL_law_r4 : List Cond := [Cond.selects RX4 yX4_clearAuction yX4_clearAuction, Cond.code yX4_clearAuction cX4_clearAuction 2 none, Cond.constant RX4 39 (-100006), Cond.methodLink RL 13 yX3_set, Cond.instanceMethod yX3_set, Cond.selects RX3 yX3_set yX3_set, Cond.code yX3_set cX3_set 4 (some .int), Cond.constant RX3 37 (-100002), Cond.fieldLink RX3 38 "TurnBids" "LEAST_VALUES" "[I", Cond.fieldLink RX3 42 "TurnBids" "MOST_VALUES" "[I", Cond.fieldLink RX3 49 "TurnBids$Table" "settings" "[I", Cond.methodLink RX3 45 yX0_keep, Cond.instanceMethod yX0_keep, Cond.selects RX0 yX0_keep yX0_keep, Cond.code yX0_keep cX0_keep 4 none, Cond.methodLink RX0 35 Lib.Math.min.name, Cond.static Lib.Math.min.name, Cond.initialized "java/lang/Math", Cond.code Lib.Math.min.name Lib.Math.min.code 2 (some .int), Cond.methodLink RX0 24 yJ9_floorMod_7cf53, Cond.static yJ9_floorMod_7cf53, Cond.initialized RJ9, Cond.code yJ9_floorMod_7cf53 cJ9_floorMod_7cf53 3 (some .int), Cond.methodLink RX0 31 yX2_copyFrom]
def wsL_law_r5 : List Cond := [Cond.instanceMethod yX2_copyFrom, Cond.selects RX2 yX2_copyFrom yX2_copyFrom, Cond.code yX2_copyFrom cX2_copyFrom 2 none, Cond.methodLink RX2 54 arraycopyName, Cond.native arraycopyName, Cond.static arraycopyName, Cond.initialized "java/lang/System", Cond.methodLink RL 17 yX4_set, Cond.instanceMethod yX4_set, Cond.selects RX4 yX4_set yX4_set, Cond.code yX4_set cX4_set 3 (some .int), Cond.constant RX4 49 (-100002), Cond.methodLink RX4 57 yX4_isValue, Cond.static yX4_isValue, Cond.code yX4_isValue cX4_isValue 2 (some .boolean), Cond.methodLink RX4 35 yX4_in, Cond.static yX4_in, Cond.code yX4_in cX4_in 3 (some .boolean), Cond.methodLink RX4 61 yX4_change, Cond.instanceMethod yX4_change, Cond.selects RX4 yX4_change yX4_change, Cond.code yX4_change cX4_change 4 (some .int), Cond.methodLink RX4 54 yX4_record, Cond.instanceMethod yX4_record]
def wsL_law_r6 : List Cond := [Cond.selects RX4 yX4_record yX4_record, Cond.code yX4_record cX4_record 2 none, Cond.fieldLink RX4 40 "TurnBidsModel" "states" "I", Cond.methodLink RX4 44 yX4_copyState, Cond.static yX4_copyState, Cond.code yX4_copyState cX4_copyState 5 none, Cond.methodLink RL 18 yX3_coins, Cond.instanceMethod yX3_coins, Cond.selects RX3 yX3_coins yX3_coins, Cond.code yX3_coins cX3_coins 4 (some .int), Cond.constant RX3 56 (-100001), Cond.constant RX3 61 (-100005), Cond.fieldLink RX3 62 "TurnBids$Table" "coins" "[I", Cond.methodLink RX3 52 yX3_isPlayer, Cond.static yX3_isPlayer, Cond.code yX3_isPlayer cX3_isPlayer 1 (some .boolean), Cond.methodLink RX3 57 yX2_hasToCover, Cond.instanceMethod yX2_hasToCover, Cond.selects RX2 yX2_hasToCover yX2_hasToCover, Cond.code yX2_hasToCover cX2_hasToCover 2 (some .int), Cond.methodLink RX2 68 Lib.Math.max.name, Cond.static Lib.Math.max.name, Cond.code Lib.Math.max.name Lib.Math.max.code 2 (some .int), Cond.methodLink RL 21 yX4_coins]
def wsL_law_r7 : List Cond := [Cond.instanceMethod yX4_coins, Cond.selects RX4 yX4_coins yX4_coins, Cond.code yX4_coins cX4_coins 4 (some .int), Cond.constant RX4 69 (-100001), Cond.constant RX4 48 (-100005), Cond.methodLink RX4 65 yX4_isPlayer, Cond.static yX4_isPlayer, Cond.code yX4_isPlayer cX4_isPlayer 1 (some .boolean), Cond.methodLink RL 22 yX3_limit, Cond.instanceMethod yX3_limit, Cond.selects RX3 yX3_limit yX3_limit, Cond.code yX3_limit cX3_limit 4 (some .int), Cond.fieldLink RX3 65 "TurnBids$Table" "limits" "[I", Cond.methodLink RL 25 yX4_limit, Cond.instanceMethod yX4_limit, Cond.selects RX4 yX4_limit yX4_limit, Cond.code yX4_limit cX4_limit 3 (some .int), Cond.methodLink RL 26 yX3_prize, Cond.instanceMethod yX3_prize, Cond.selects RX3 yX3_prize yX3_prize, Cond.code yX3_prize cX3_prize 4 (some .int), Cond.fieldLink RX3 71 "TurnBids$Table" "prizes" "[I", Cond.methodLink RX3 68 yX3_isPrize, Cond.static yX3_isPrize]
def wsL_law_r8 : List Cond := [Cond.code yX3_isPrize cX3_isPrize 1 (some .boolean), Cond.methodLink RL 29 yX4_prize, Cond.instanceMethod yX4_prize, Cond.selects RX4 yX4_prize yX4_prize, Cond.code yX4_prize cX4_prize 3 (some .int), Cond.methodLink RL 30 yX3_begin, Cond.instanceMethod yX3_begin, Cond.selects RX3 yX3_begin yX3_begin, Cond.code yX3_begin cX3_begin 1 (some .int), Cond.fieldLink RX3 74 "TurnBids$Table" "underWay" "Z", Cond.methodLink RX3 78 yX2_start, Cond.instanceMethod yX2_start, Cond.selects RX2 yX2_start yX2_start, Cond.code yX2_start cX2_start 1 (some .int), Cond.methodLink RX2 77 yX2_playerAt, Cond.instanceMethod yX2_playerAt, Cond.selects RX2 yX2_playerAt yX2_playerAt, Cond.code yX2_playerAt cX2_playerAt 3 (some .int), Cond.methodLink RL 34 yX4_begin, Cond.instanceMethod yX4_begin, Cond.selects RX4 yX4_begin yX4_begin, Cond.code yX4_begin cX4_begin 1 (some .int), Cond.methodLink RX4 103 yX4_beginNow, Cond.instanceMethod yX4_beginNow]
def wsL_law_r9 : List Cond := [Cond.selects RX4 yX4_beginNow yX4_beginNow, Cond.code yX4_beginNow cX4_beginNow 1 none, Cond.methodLink RX4 70 yX4_playerAt, Cond.instanceMethod yX4_playerAt, Cond.selects RX4 yX4_playerAt yX4_playerAt, Cond.code yX4_playerAt cX4_playerAt 4 (some .int), Cond.methodLink RL 35 yX3_bid, Cond.instanceMethod yX3_bid, Cond.selects RX3 yX3_bid yX3_bid, Cond.code yX3_bid cX3_bid 2 (some .int), Cond.methodLink RX3 82 yX2_mayBid, Cond.instanceMethod yX2_mayBid, Cond.selects RX2 yX2_mayBid yX2_mayBid, Cond.code yX2_mayBid cX2_mayBid 2 (some .boolean), Cond.methodLink RX2 74 yX2_leastBid, Cond.instanceMethod yX2_leastBid, Cond.selects RX2 yX2_leastBid yX2_leastBid, Cond.code yX2_leastBid cX2_leastBid 2 (some .int), Cond.methodLink RX2 60 yX2_highestBid, Cond.instanceMethod yX2_highestBid, Cond.selects RX2 yX2_highestBid yX2_highestBid, Cond.code yX2_highestBid cX2_highestBid 6 (some .int), Cond.methodLink RX3 85 yX2_takeBid, Cond.instanceMethod yX2_takeBid]
def wsL_law_r10 : List Cond := [Cond.selects RX2 yX2_takeBid yX2_takeBid, Cond.code yX2_takeBid cX2_takeBid 2 (some .int), Cond.methodLink RX2 81 yX2_passTurn, Cond.instanceMethod yX2_passTurn, Cond.selects RX2 yX2_passTurn yX2_passTurn, Cond.code yX2_passTurn cX2_passTurn 4 none, Cond.methodLink RL 39 yX4_bid, Cond.instanceMethod yX4_bid, Cond.selects RX4 yX4_bid yX4_bid, Cond.code yX4_bid cX4_bid 2 (some .int), Cond.methodLink RX4 109 yX4_mayBid, Cond.instanceMethod yX4_mayBid, Cond.selects RX4 yX4_mayBid yX4_mayBid, Cond.code yX4_mayBid cX4_mayBid 2 (some .boolean), Cond.methodLink RX4 94 yX4_canBid, Cond.instanceMethod yX4_canBid, Cond.selects RX4 yX4_canBid yX4_canBid, Cond.code yX4_canBid cX4_canBid 2 (some .boolean), Cond.methodLink RX4 73 yX4_least, Cond.instanceMethod yX4_least, Cond.selects RX4 yX4_least yX4_least, Cond.code yX4_least cX4_least 1 (some .int), Cond.methodLink RX4 97 yX4_bidNow, Cond.instanceMethod yX4_bidNow]
def wsL_law_r11 : List Cond := [Cond.selects RX4 yX4_bidNow yX4_bidNow, Cond.code yX4_bidNow cX4_bidNow 2 none, Cond.methodLink RX4 77 yX4_pass, Cond.instanceMethod yX4_pass, Cond.selects RX4 yX4_pass yX4_pass, Cond.code yX4_pass cX4_pass 2 none, Cond.methodLink RL 40 yX3_drop, Cond.instanceMethod yX3_drop, Cond.selects RX3 yX3_drop yX3_drop, Cond.code yX3_drop cX3_drop 1 (some .int), Cond.methodLink RX3 88 yX2_dropOut, Cond.instanceMethod yX2_dropOut, Cond.selects RX2 yX2_dropOut yX2_dropOut, Cond.code yX2_dropOut cX2_dropOut 2 (some .int), Cond.methodLink RX2 84 yX2_playersLeft, Cond.instanceMethod yX2_playersLeft, Cond.selects RX2 yX2_playersLeft yX2_playersLeft, Cond.code yX2_playersLeft cX2_playersLeft 3 (some .int), Cond.methodLink RX2 87 yJ6_bitCount_0f7a4, Cond.static yJ6_bitCount_0f7a4, Cond.initialized RJ6, Cond.code yJ6_bitCount_0f7a4 cJ6_bitCount_0f7a4 1 (some .int), Cond.constant RJ6 265 (1431655765), Cond.constant RJ6 266 (858993459)]
def wsL_law_r12 : List Cond := [Cond.constant RJ6 267 (252645135), Cond.methodLink RX2 92 yX2_pay, Cond.instanceMethod yX2_pay, Cond.selects RX2 yX2_pay yX2_pay, Cond.code yX2_pay cX2_pay 5 none, Cond.methodLink RX2 96 yX2_endAuction, Cond.instanceMethod yX2_endAuction, Cond.selects RX2 yX2_endAuction yX2_endAuction, Cond.code yX2_endAuction cX2_endAuction 3 none, Cond.methodLink RX2 117 Lib.Math.min.name, Cond.methodLink RX2 114 yX2_prizeFor, Cond.instanceMethod yX2_prizeFor, Cond.selects RX2 yX2_prizeFor yX2_prizeFor, Cond.code yX2_prizeFor cX2_prizeFor 5 (some .int), Cond.methodLink RL 43 yX4_drop, Cond.instanceMethod yX4_drop, Cond.selects RX4 yX4_drop yX4_drop, Cond.code yX4_drop cX4_drop 1 (some .int), Cond.methodLink RX4 100 yX4_dropNow, Cond.instanceMethod yX4_dropNow, Cond.selects RX4 yX4_dropNow yX4_dropNow, Cond.code yX4_dropNow cX4_dropNow 3 none, Cond.methodLink RX4 80 yX4_left, Cond.instanceMethod yX4_left]
def wsL_law_r13 : List Cond := [Cond.selects RX4 yX4_left yX4_left, Cond.code yX4_left cX4_left 3 (some .int), Cond.methodLink RX4 83 yX4_pay, Cond.instanceMethod yX4_pay, Cond.selects RX4 yX4_pay yX4_pay, Cond.code yX4_pay cX4_pay 3 none, Cond.methodLink RX4 87 yX4_endNow, Cond.instanceMethod yX4_endNow, Cond.selects RX4 yX4_endNow yX4_endNow, Cond.code yX4_endNow cX4_endNow 5 none, Cond.methodLink RX4 91 yX4_prizeAt, Cond.instanceMethod yX4_prizeAt, Cond.selects RX4 yX4_prizeAt yX4_prizeAt, Cond.code yX4_prizeAt cX4_prizeAt 6 (some .int), Cond.methodLink RL 44 yX3_act, Cond.instanceMethod yX3_act, Cond.selects RX3 yX3_act yX3_act, Cond.code yX3_act cX3_act 1 (some .int), Cond.methodLink RX3 91 yX2_actByLimit, Cond.instanceMethod yX2_actByLimit, Cond.selects RX2 yX2_actByLimit yX2_actByLimit, Cond.code yX2_actByLimit cX2_actByLimit 2 (some .int), Cond.methodLink RX2 99 yX2_mayBid, Cond.methodLink RX2 102 yX2_takeBid]
def wsL_law_r14 : List Cond := [Cond.methodLink RX2 105 yX2_dropOut, Cond.methodLink RL 47 yX4_act, Cond.instanceMethod yX4_act, Cond.selects RX4 yX4_act yX4_act, Cond.code yX4_act cX4_act 1 (some .int), Cond.methodLink RX4 106 yX4_actNow, Cond.instanceMethod yX4_actNow, Cond.selects RX4 yX4_actNow yX4_actNow, Cond.code yX4_actNow cX4_actNow 2 none, Cond.methodLink RL 48 yX3_finish, Cond.instanceMethod yX3_finish, Cond.selects RX3 yX3_finish yX3_finish, Cond.code yX3_finish cX3_finish 1 (some .int), Cond.methodLink RX3 94 yX2_playRound, Cond.instanceMethod yX2_playRound, Cond.selects RX2 yX2_playRound yX2_playRound, Cond.code yX2_playRound cX2_playRound 2 (some .int), Cond.methodLink RX2 108 yX2_start, Cond.methodLink RX2 111 yX2_actByLimit, Cond.methodLink RX3 97 yX2_playerAt, Cond.methodLink RL 51 yX4_finish, Cond.instanceMethod yX4_finish, Cond.selects RX4 yX4_finish yX4_finish, Cond.code yX4_finish cX4_finish 1 (some .int)]
def wsL_law_r15 : List Cond := [Cond.methodLink RX4 112 yX4_finishNow, Cond.instanceMethod yX4_finishNow, Cond.selects RX4 yX4_finishNow yX4_finishNow, Cond.code yX4_finishNow cX4_finishNow 2 (some .int), Cond.methodLink RL 52 yX3_run, Cond.instanceMethod yX3_run, Cond.selects RX3 yX3_run yX3_run, Cond.code yX3_run cX3_run 6 (some .int), Cond.constant RX3 103 (-100006), Cond.constant RX3 104 (-100003), Cond.fieldLink RX3 105 "TurnBids$Pad" "length" "I", Cond.methodLink RX3 100 yX1_faultIndex, Cond.instanceMethod yX1_faultIndex, Cond.selects RX1 yX1_faultIndex yX1_faultIndex, Cond.code yX1_faultIndex cX1_faultIndex 3 (some .int), Cond.constant RX1 33 (-100006), Cond.methodLink RX1 25 yX1_signAt, Cond.instanceMethod yX1_signAt, Cond.selects RX1 yX1_signAt yX1_signAt, Cond.code yX1_signAt cX1_signAt 2 (some .char), Cond.methodLink RX1 29 yX1_dueBehind, Cond.static yX1_dueBehind, Cond.code yX1_dueBehind cX1_dueBehind 2 (some .int), Cond.methodLink RX1 34 yX1_isDigit]
def wsL_law_r16 : List Cond := [Cond.static yX1_isDigit, Cond.code yX1_isDigit cX1_isDigit 1 (some .boolean), Cond.methodLink RX3 109 yX1_signAt, Cond.methodLink RX3 113 yX1_isDigit, Cond.methodLink RX3 117 yX3_doMove, Cond.instanceMethod yX3_doMove, Cond.selects RX3 yX3_doMove yX3_doMove, Cond.code yX3_doMove cX3_doMove 3 (some .int), Cond.methodLink RL 55 yX4_run, Cond.instanceMethod yX4_run, Cond.selects RX4 yX4_run yX4_run, Cond.code yX4_run cX4_run 2 (some .int), Cond.constant RX4 140 (-100003), Cond.fieldLink RX4 127 "TurnBidsModel" "toldMany" "I", Cond.fieldLink RX4 117 "TurnBidsModel" "typed" "I", Cond.methodLink RX4 137 yX4_readPad, Cond.instanceMethod yX4_readPad, Cond.selects RX4 yX4_readPad yX4_readPad, Cond.code yX4_readPad cX4_readPad 2 (some .boolean), Cond.fieldLink RX4 121 "TurnBidsModel" "spot" "I", Cond.methodLink RX4 130 yX4_readMove, Cond.instanceMethod yX4_readMove, Cond.selects RX4 yX4_readMove yX4_readMove, Cond.code yX4_readMove cX4_readMove 4 (some .boolean)]
def wsL_law_r17 : List Cond := [Cond.methodLink RX4 124 yX4_sees, Cond.instanceMethod yX4_sees, Cond.selects RX4 yX4_sees yX4_sees, Cond.code yX4_sees cX4_sees 3 (some .boolean), Cond.methodLink RX4 134 yX4_takes, Cond.instanceMethod yX4_takes, Cond.selects RX4 yX4_takes yX4_takes, Cond.code yX4_takes cX4_takes 3 (some .boolean), Cond.methodLink RX4 141 yX4_can, Cond.instanceMethod yX4_can, Cond.selects RX4 yX4_can yX4_can, Cond.code yX4_can cX4_can 3 (some .boolean), Cond.methodLink RX4 144 yX4_doMove, Cond.instanceMethod yX4_doMove, Cond.selects RX4 yX4_doMove yX4_doMove, Cond.code yX4_doMove cX4_doMove 2 none, Cond.methodLink RL 56 yX3_player, Cond.instanceMethod yX3_player, Cond.selects RX3 yX3_player yX3_player, Cond.code yX3_player cX3_player 3 (some .int), Cond.fieldLink RX3 121 "TurnBids$Table" "places" "[I", Cond.fieldLink RX3 124 "TurnBids$Table" "bids" "[I", Cond.fieldLink RX3 127 "TurnBids$Table" "placesGot" "[I", Cond.fieldLink RX3 130 "TurnBids$Table" "paid" "[I"]
def wsL_law_r18 : List Cond := [Cond.fieldLink RX3 133 "TurnBids$Table" "taken" "[I", Cond.fieldLink RX3 136 "TurnBids$Table" "won" "[I", Cond.methodLink RL 59 yX4_player, Cond.instanceMethod yX4_player, Cond.selects RX4 yX4_player yX4_player, Cond.code yX4_player cX4_player 3 (some .int), Cond.methodLink RL 60 yX3_at, Cond.instanceMethod yX3_at, Cond.selects RX3 yX3_at yX3_at, Cond.code yX3_at cX3_at 2 (some .int), Cond.methodLink RL 63 yX4_at, Cond.instanceMethod yX4_at, Cond.selects RX4 yX4_at yX4_at, Cond.code yX4_at cX4_at 2 (some .int), Cond.methodLink RL 64 yX3_count, Cond.instanceMethod yX3_count, Cond.selects RX3 yX3_count yX3_count, Cond.code yX3_count cX3_count 2 (some .int), Cond.fieldLink RX3 139 "TurnBids$Table" "turn" "I", Cond.fieldLink RX3 151 "TurnBids$Table" "rounds" "I", Cond.fieldLink RX3 158 "TurnBids$History" "length" "I", Cond.methodLink RX3 142 yX2_highestBid, Cond.methodLink RX3 145 yX2_leastBid, Cond.methodLink RX3 148 yX2_playersLeft]
def wsL_law_r19 : List Cond := [Cond.methodLink RX3 154 yX3_sum, Cond.static yX3_sum, Cond.code yX3_sum cX3_sum 6 (some .int), Cond.methodLink RL 67 yX4_count, Cond.instanceMethod yX4_count, Cond.selects RX4 yX4_count yX4_count, Cond.code yX4_count cX4_count 2 (some .int), Cond.methodLink RX4 147 yX4_leftSet, Cond.instanceMethod yX4_leftSet, Cond.selects RX4 yX4_leftSet yX4_leftSet, Cond.code yX4_leftSet cX4_leftSet 3 (some .int), Cond.methodLink RX4 50 yX4_sum, Cond.instanceMethod yX4_sum, Cond.selects RX4 yX4_sum yX4_sum, Cond.code yX4_sum cX4_sum 4 (some .int), Cond.methodLink RL 68 yX3_prizeOf, Cond.instanceMethod yX3_prizeOf, Cond.selects RX3 yX3_prizeOf yX3_prizeOf, Cond.code yX3_prizeOf cX3_prizeOf 2 (some .int), Cond.methodLink RL 71 yX4_prizeOf, Cond.instanceMethod yX4_prizeOf, Cond.selects RX4 yX4_prizeOf yX4_prizeOf, Cond.code yX4_prizeOf cX4_prizeOf 2 (some .int), Cond.methodLink RL 72 yX3_ifFinished]
def wsL_law_r20 : List Cond := [Cond.instanceMethod yX3_ifFinished, Cond.selects RX3 yX3_ifFinished yX3_ifFinished, Cond.code yX3_ifFinished cX3_ifFinished 3 (some .int), Cond.methodLink RX3 159 yX3_tryRounds, Cond.instanceMethod yX3_tryRounds, Cond.selects RX3 yX3_tryRounds yX3_tryRounds, Cond.code yX3_tryRounds cX3_tryRounds 3 none, Cond.methodLink RX3 163 yX2_copyFrom, Cond.methodLink RL 75 yX4_ifFinished, Cond.instanceMethod yX4_ifFinished, Cond.selects RX4 yX4_ifFinished yX4_ifFinished, Cond.code yX4_ifFinished cX4_ifFinished 6 (some .int), Cond.methodLink RL 76 yX3_bestLimit, Cond.instanceMethod yX3_bestLimit, Cond.selects RX3 yX3_bestLimit yX3_bestLimit, Cond.code yX3_bestLimit cX3_bestLimit 6 (some .int), Cond.methodLink RL 79 yX4_bestLimit, Cond.instanceMethod yX4_bestLimit, Cond.selects RX4 yX4_bestLimit yX4_bestLimit, Cond.code yX4_bestLimit cX4_bestLimit 8 (some .int), Cond.methodLink RL 80 yX3_coinsBehind, Cond.instanceMethod yX3_coinsBehind, Cond.selects RX3 yX3_coinsBehind yX3_coinsBehind, Cond.code yX3_coinsBehind cX3_coinsBehind 3 (some .int)]
def wsL_law_r21 : List Cond := [Cond.methodLink RL 83 yX4_coinsBehind, Cond.instanceMethod yX4_coinsBehind, Cond.selects RX4 yX4_coinsBehind yX4_coinsBehind, Cond.code yX4_coinsBehind cX4_coinsBehind 4 (some .int), Cond.methodLink RX4 150 yX4_play, Cond.instanceMethod yX4_play, Cond.selects RX4 yX4_play yX4_play, Cond.code yX4_play cX4_play 3 none, Cond.methodLink RL 84 yX3_richest, Cond.instanceMethod yX3_richest, Cond.selects RX3 yX3_richest yX3_richest, Cond.code yX3_richest cX3_richest 5 (some .int), Cond.methodLink RL 87 yX4_richest, Cond.instanceMethod yX4_richest, Cond.selects RX4 yX4_richest yX4_richest, Cond.code yX4_richest cX4_richest 5 (some .int), Cond.methodLink RL 88 yX3_movesLeft, Cond.instanceMethod yX3_movesLeft, Cond.selects RX3 yX3_movesLeft yX3_movesLeft, Cond.code yX3_movesLeft cX3_movesLeft 1 (some .int), Cond.methodLink RL 91 yX4_movesLeft, Cond.instanceMethod yX4_movesLeft, Cond.selects RX4 yX4_movesLeft yX4_movesLeft, Cond.code yX4_movesLeft cX4_movesLeft 2 (some .int)]
def wsL_law_r22 : List Cond := [Cond.methodLink RL 94 yX3_put, Cond.instanceMethod yX3_put, Cond.selects RX3 yX3_put yX3_put, Cond.code yX3_put cX3_put 4 (some .int), Cond.constant RX3 170 (-100004), Cond.methodLink RX3 166 yX1_signsIn, Cond.static yX1_signsIn, Cond.code yX1_signsIn cX1_signsIn 7 (some .int), Cond.constantLong RX1 19 (255), Cond.constantLong RX1 21 (33), Cond.constantLong RX1 23 (126), Cond.methodLink RX3 171 yX1_append, Cond.instanceMethod yX1_append, Cond.selects RX1 yX1_append yX1_append, Cond.code yX1_append cX1_append 7 none, Cond.methodLink RL 98 yX4_put, Cond.instanceMethod yX4_put, Cond.selects RX4 yX4_put yX4_put, Cond.code yX4_put cX4_put 7 (some .int), Cond.constantLong RX4 115 (255), Cond.constant RX4 120 (-100004), Cond.methodLink RL 99 yX3_wipe, Cond.instanceMethod yX3_wipe, Cond.selects RX3 yX3_wipe yX3_wipe]
def wsL_law_r23 : List Cond := [Cond.code yX3_wipe cX3_wipe 2 (some .int), Cond.methodLink RL 102 yX4_wipe, Cond.instanceMethod yX4_wipe, Cond.selects RX4 yX4_wipe yX4_wipe, Cond.code yX4_wipe cX4_wipe 2 (some .int), Cond.methodLink RL 103 yX3_fault, Cond.instanceMethod yX3_fault, Cond.selects RX3 yX3_fault yX3_fault, Cond.code yX3_fault cX3_fault 1 (some .int), Cond.methodLink RL 106 yX4_fault, Cond.instanceMethod yX4_fault, Cond.selects RX4 yX4_fault yX4_fault, Cond.code yX4_fault cX4_fault 1 (some .int), Cond.methodLink RL 107 yX3_undo, Cond.instanceMethod yX3_undo, Cond.selects RX3 yX3_undo yX3_undo, Cond.code yX3_undo cX3_undo 1 (some .int), Cond.methodLink RX3 175 yX0_takeBack, Cond.instanceMethod yX0_takeBack, Cond.selects RX0 yX0_takeBack yX0_takeBack, Cond.code yX0_takeBack cX0_takeBack 3 none, Cond.methodLink RL 110 yX4_undo, Cond.instanceMethod yX4_undo, Cond.selects RX4 yX4_undo yX4_undo]
def wsL_law_r24 : List Cond := [Cond.code yX4_undo cX4_undo 1 (some .int), Cond.methodLink RL 111 yX3_save, Cond.instanceMethod yX3_save, Cond.selects RX3 yX3_save yX3_save, Cond.code yX3_save cX3_save 3 (some .int), Cond.methodLink RL 114 yX4_save, Cond.instanceMethod yX4_save, Cond.selects RX4 yX4_save yX4_save, Cond.code yX4_save cX4_save 2 (some .int), Cond.methodLink RL 115 yX3_restore, Cond.instanceMethod yX3_restore, Cond.selects RX3 yX3_restore yX3_restore, Cond.code yX3_restore cX3_restore 3 (some .int), Cond.methodLink RL 118 yX4_restore, Cond.instanceMethod yX4_restore, Cond.selects RX4 yX4_restore yX4_restore, Cond.code yX4_restore cX4_restore 2 (some .int)]
def wsL_law : List Cond := (wsL_law_r1 ++ (wsL_law_r2 ++ (wsL_law_r3 ++ (wsL_law_r4 ++ (wsL_law_r5 ++ (wsL_law_r6 ++ (wsL_law_r7 ++ (wsL_law_r8 ++ (wsL_law_r9 ++ (wsL_law_r10 ++ (wsL_law_r11 ++ (wsL_law_r12 ++ (wsL_law_r13 ++ (wsL_law_r14 ++ (wsL_law_r15 ++ (wsL_law_r16 ++ (wsL_law_r17 ++ (wsL_law_r18 ++ (wsL_law_r19 ++ (wsL_law_r20 ++ (wsL_law_r21 ++ (wsL_law_r22 ++ (wsL_law_r23 ++ wsL_law_r24))))))))))))))))))))))) ++ wsX30 ++ wsX40 ++ wsX20 ++ wsX00 ++ wsX10 ++ ([] : List Cond)
set_option maxRecDepth 20000 in
theorem wsL_in_wsL_law_r1 : ∀ w ∈ wsL_law_r1, w ∈ lw_tbl := fun w h => (goodIn_r (big := lw_tbl) wsL_law_r1 [41, 42, 33, 417, 418, 37, 681, 43, 44, 45, 46, 47, 48, 49, 50, 34, 144, 145, 110, 111, 35, 146, 147, 129] (by decide +kernel) (by decide +kernel) w h).1
set_option maxRecDepth 20000 in
theorem wsL_in_wsL_law_r2 : ∀ w ∈ wsL_law_r2, w ∈ lw_tbl := fun w h => (goodIn_r (big := lw_tbl) wsL_law_r2 [130, 36, 148, 52, 53, 54, 109, 56, 58, 60, 62, 64, 55, 66, 68, 70, 72, 74, 76, 78, 80, 113, 114, 115] (by decide +kernel) (by decide +kernel) w h).1
set_option maxRecDepth 20000 in
theorem wsL_in_wsL_law_r3 : ∀ w ∈ wsL_law_r3, w ∈ lw_tbl := fun w h => (goodIn_r (big := lw_tbl) wsL_law_r3 [116, 118, 119, 120, 132, 133, 134, 143, 135, 136, 419, 420, 421, 422, 428, 429, 430, 432, 462, 433, 434, 437, 423, 425] (by decide +kernel) (by decide +kernel) w h).1
set_option maxRecDepth 20000 in
theorem wsL_in_wsL_law_r4 : ∀ w ∈ wsL_law_r4, w ∈ lw_tbl := fun w h => (goodIn_r (big := lw_tbl) wsL_law_r4 [6, 426, 427, 160, 161, 162, 163, 164, 165, 167, 57, 169, 170, 171, 172, 184, 185, 38, 186, 173, 174, 38, 175, 177] (by decide +kernel) (by decide +kernel) w h).1
set_option maxRecDepth 20000 in
theorem wsL_in_wsL_law_r5 : ∀ w ∈ wsL_law_r5, w ∈ lw_tbl := fun w h => (goodIn_r (big := lw_tbl) wsL_law_r5 [178, 179, 180, 181, 183, 182, 39, 491, 492, 493, 494, 478, 495, 496, 497, 475, 476, 477, 498, 500, 9, 501, 487, 489] (by decide +kernel) (by decide +kernel) w h).1
set_option maxRecDepth 20000 in
theorem wsL_in_wsL_law_r6 : ∀ w ∈ wsL_law_r6, w ∈ lw_tbl := fun w h => (goodIn_r (big := lw_tbl) wsL_law_r6 [8, 490, 431, 468, 469, 470, 187, 188, 189, 190, 194, 203, 61, 191, 192, 193, 195, 196, 197, 198, 200, 201, 202, 502] (by decide +kernel) (by decide +kernel) w h).1
set_option maxRecDepth 20000 in
theorem wsL_in_wsL_law_r7 : ∀ w ∈ wsL_law_r7, w ∈ lw_tbl := fun w h => (goodIn_r (big := lw_tbl) wsL_law_r7 [503, 504, 505, 509, 467, 506, 507, 508, 204, 205, 206, 207, 63, 510, 511, 512, 513, 208, 209, 210, 211, 59, 212, 213] (by decide +kernel) (by decide +kernel) w h).1
set_option maxRecDepth 20000 in
theorem wsL_in_wsL_law_r8 : ∀ w ∈ wsL_law_r8, w ∈ lw_tbl := fun w h => (goodIn_r (big := lw_tbl) wsL_law_r8 [214, 514, 515, 516, 517, 215, 216, 217, 218, 77, 219, 220, 221, 222, 223, 224, 225, 226, 518, 519, 520, 521, 522, 524] (by decide +kernel) (by decide +kernel) w h).1
set_option maxRecDepth 20000 in
theorem wsL_in_wsL_law_r9 : ∀ w ∈ wsL_law_r9, w ∈ lw_tbl := fun w h => (goodIn_r (big := lw_tbl) wsL_law_r9 [10, 525, 526, 528, 11, 529, 227, 228, 229, 230, 231, 232, 233, 234, 235, 236, 237, 238, 239, 240, 241, 242, 243, 244] (by decide +kernel) (by decide +kernel) w h).1
set_option maxRecDepth 20000 in
theorem wsL_in_wsL_law_r10 : ∀ w ∈ wsL_law_r10, w ∈ lw_tbl := fun w h => (goodIn_r (big := lw_tbl) wsL_law_r10 [245, 246, 247, 249, 0, 250, 530, 531, 532, 533, 534, 536, 12, 537, 538, 540, 13, 541, 542, 544, 14, 545, 546, 548] (by decide +kernel) (by decide +kernel) w h).1
set_option maxRecDepth 20000 in
theorem wsL_in_wsL_law_r11 : ∀ w ∈ wsL_law_r11, w ∈ lw_tbl := fun w h => (goodIn_r (big := lw_tbl) wsL_law_r11 [15, 549, 550, 552, 16, 553, 251, 252, 253, 254, 255, 256, 257, 258, 259, 260, 261, 262, 263, 264, 40, 265, 266, 267] (by decide +kernel) (by decide +kernel) w h).1
set_option maxRecDepth 20000 in
theorem wsL_in_wsL_law_r12 : ∀ w ∈ wsL_law_r12, w ∈ lw_tbl := fun w h => (goodIn_r (big := lw_tbl) wsL_law_r12 [268, 269, 271, 1, 272, 273, 275, 2, 276, 281, 277, 279, 3, 280, 554, 555, 556, 557, 558, 560, 17, 561, 562, 564] (by decide +kernel) (by decide +kernel) w h).1
set_option maxRecDepth 20000 in
theorem wsL_in_wsL_law_r13 : ∀ w ∈ wsL_law_r13, w ∈ lw_tbl := fun w h => (goodIn_r (big := lw_tbl) wsL_law_r13 [18, 565, 566, 568, 19, 569, 570, 572, 20, 573, 574, 576, 21, 577, 282, 283, 284, 285, 286, 287, 288, 289, 290, 291] (by decide +kernel) (by decide +kernel) w h).1
set_option maxRecDepth 20000 in
theorem wsL_in_wsL_law_r14 : ∀ w ∈ wsL_law_r14, w ∈ lw_tbl := fun w h => (goodIn_r (big := lw_tbl) wsL_law_r14 [292, 578, 579, 580, 581, 582, 584, 22, 585, 293, 294, 295, 296, 297, 298, 299, 300, 301, 302, 303, 586, 587, 588, 589] (by decide +kernel) (by decide +kernel) w h).1
set_option maxRecDepth 20000 in
theorem wsL_in_wsL_law_r15 : ∀ w ∈ wsL_law_r15, w ∈ lw_tbl := fun w h => (goodIn_r (big := lw_tbl) wsL_law_r15 [590, 592, 23, 593, 304, 305, 306, 307, 323, 324, 137, 308, 309, 310, 311, 322, 312, 313, 314, 315, 316, 317, 318, 319] (by decide +kernel) (by decide +kernel) w h).1
set_option maxRecDepth 20000 in
theorem wsL_in_wsL_law_r16 : ∀ w ∈ wsL_law_r16, w ∈ lw_tbl := fun w h => (goodIn_r (big := lw_tbl) wsL_law_r16 [320, 321, 325, 326, 327, 329, 4, 330, 624, 625, 626, 627, 628, 438, 435, 608, 610, 24, 611, 436, 612, 614, 25, 615] (by decide +kernel) (by decide +kernel) w h).1
set_option maxRecDepth 20000 in
theorem wsL_in_wsL_law_r17 : ∀ w ∈ wsL_law_r17, w ∈ lw_tbl := fun w h => (goodIn_r (big := lw_tbl) wsL_law_r17 [616, 618, 26, 619, 620, 622, 27, 623, 629, 631, 28, 632, 633, 635, 29, 636, 331, 332, 333, 334, 65, 67, 69, 71] (by decide +kernel) (by decide +kernel) w h).1
set_option maxRecDepth 20000 in
theorem wsL_in_wsL_law_r18 : ∀ w ∈ wsL_law_r18, w ∈ lw_tbl := fun w h => (goodIn_r (big := lw_tbl) wsL_law_r18 [73, 75, 637, 638, 639, 640, 335, 336, 337, 338, 641, 642, 643, 644, 339, 340, 341, 342, 79, 81, 121, 343, 344, 345] (by decide +kernel) (by decide +kernel) w h).1
set_option maxRecDepth 20000 in
theorem wsL_in_wsL_law_r19 : ∀ w ∈ wsL_law_r19, w ∈ lw_tbl := fun w h => (goodIn_r (big := lw_tbl) wsL_law_r19 [346, 347, 348, 645, 646, 647, 648, 649, 651, 30, 652, 479, 481, 7, 482, 349, 350, 351, 352, 653, 654, 655, 656, 353] (by decide +kernel) (by decide +kernel) w h).1
set_option maxRecDepth 20000 in
theorem wsL_in_wsL_law_r20 : ∀ w ∈ wsL_law_r20, w ∈ lw_tbl := fun w h => (goodIn_r (big := lw_tbl) wsL_law_r20 [354, 355, 356, 357, 359, 5, 360, 361, 657, 658, 659, 660, 362, 363, 364, 365, 661, 662, 663, 664, 366, 367, 368, 369] (by decide +kernel) (by decide +kernel) w h).1
set_option maxRecDepth 20000 in
theorem wsL_in_wsL_law_r21 : ∀ w ∈ wsL_law_r21, w ∈ lw_tbl := fun w h => (goodIn_r (big := lw_tbl) wsL_law_r21 [665, 666, 667, 668, 669, 671, 31, 672, 370, 371, 372, 373, 673, 674, 675, 676, 374, 375, 376, 377, 677, 678, 679, 680] (by decide +kernel) (by decide +kernel) w h).1
set_option maxRecDepth 20000 in
theorem wsL_in_wsL_law_r22 : ∀ w ∈ wsL_law_r22, w ∈ lw_tbl := fun w h => (goodIn_r (big := lw_tbl) wsL_law_r22 [378, 379, 380, 381, 388, 382, 383, 384, 385, 386, 387, 389, 390, 391, 392, 594, 595, 596, 597, 598, 599, 393, 394, 395] (by decide +kernel) (by decide +kernel) w h).1
set_option maxRecDepth 20000 in
theorem wsL_in_wsL_law_r23 : ∀ w ∈ wsL_law_r23, w ∈ lw_tbl := fun w h => (goodIn_r (big := lw_tbl) wsL_law_r23 [396, 600, 601, 602, 603, 397, 398, 399, 400, 604, 605, 606, 607, 401, 402, 403, 404, 405, 406, 407, 408, 463, 464, 465] (by decide +kernel) (by decide +kernel) w h).1
set_option maxRecDepth 20000 in
theorem wsL_in_wsL_law_r24 : ∀ w ∈ wsL_law_r24, w ∈ lw_tbl := fun w h => (goodIn_r (big := lw_tbl) wsL_law_r24 [466, 409, 410, 411, 412, 471, 472, 473, 474, 413, 414, 415, 416, 483, 484, 485, 486] (by decide +kernel) (by decide +kernel) w h).1
set_option maxRecDepth 20000 in
theorem wsL_in_wsX30 : ∀ w ∈ wsX30, w ∈ lw_tbl := fun w h => (goodIn_r (big := lw_tbl) wsX30 [149, 151, 153, 155, 157] (by decide +kernel) (by decide +kernel) w h).1
set_option maxRecDepth 20000 in
theorem wsL_in_wsX40 : ∀ w ∈ wsX40, w ∈ lw_tbl := fun w h => (goodIn_r (big := lw_tbl) wsX40 [439, 441, 443, 445, 447, 449, 451, 453, 455, 457, 459] (by decide +kernel) (by decide +kernel) w h).1
set_option maxRecDepth 20000 in
theorem wsL_in_wsX20 : ∀ w ∈ wsX20, w ∈ lw_tbl := fun w h => (goodIn_r (big := lw_tbl) wsX20 [82, 84, 86, 88, 90, 92, 94, 96, 98, 100, 102, 104, 106] (by decide +kernel) (by decide +kernel) w h).1
set_option maxRecDepth 20000 in
theorem wsL_in_wsX00 : ∀ w ∈ wsX00, w ∈ lw_tbl := fun w h => (goodIn_r (big := lw_tbl) wsX00 [122, 124, 126] (by decide +kernel) (by decide +kernel) w h).1
set_option maxRecDepth 20000 in
theorem wsL_in_wsX10 : ∀ w ∈ wsX10, w ∈ lw_tbl := fun w h => (goodIn_r (big := lw_tbl) wsX10 [138, 140] (by decide +kernel) (by decide +kernel) w h).1
theorem wsL_app {a b c : List Cond} (ha : ∀ w ∈ a, w ∈ c) (hb : ∀ w ∈ b, w ∈ c) : ∀ w ∈ a ++ b, w ∈ c := List.forall_mem_append.mpr ⟨ha, hb⟩
theorem wsL_law_in : ∀ w ∈ wsL_law, w ∈ lw_tbl := (wsL_app (wsL_app (wsL_app (wsL_app (wsL_app (wsL_app (wsL_app wsL_in_wsL_law_r1 (wsL_app wsL_in_wsL_law_r2 (wsL_app wsL_in_wsL_law_r3 (wsL_app wsL_in_wsL_law_r4 (wsL_app wsL_in_wsL_law_r5 (wsL_app wsL_in_wsL_law_r6 (wsL_app wsL_in_wsL_law_r7 (wsL_app wsL_in_wsL_law_r8 (wsL_app wsL_in_wsL_law_r9 (wsL_app wsL_in_wsL_law_r10 (wsL_app wsL_in_wsL_law_r11 (wsL_app wsL_in_wsL_law_r12 (wsL_app wsL_in_wsL_law_r13 (wsL_app wsL_in_wsL_law_r14 (wsL_app wsL_in_wsL_law_r15 (wsL_app wsL_in_wsL_law_r16 (wsL_app wsL_in_wsL_law_r17 (wsL_app wsL_in_wsL_law_r18 (wsL_app wsL_in_wsL_law_r19 (wsL_app wsL_in_wsL_law_r20 (wsL_app wsL_in_wsL_law_r21 (wsL_app wsL_in_wsL_law_r22 (wsL_app wsL_in_wsL_law_r23 wsL_in_wsL_law_r24))))))))))))))))))))))) wsL_in_wsX30) wsL_in_wsX40) wsL_in_wsX20) wsL_in_wsX00) wsL_in_wsX10) (fun _ h => absurd h List.not_mem_nil))
theorem inlX0 : ∀ w ∈ wsX00, w ∈ wsL_law := fun _ h => List.mem_append_left _ (List.mem_append_left _ (List.mem_append_right _ h))
theorem inX0 : ∀ w ∈ wsX00, w ∈ lw_tbl := fun w h => wsL_law_in w (inlX0 w h)
theorem inlX1 : ∀ w ∈ wsX10, w ∈ wsL_law := fun _ h => List.mem_append_left _ (List.mem_append_right _ h)
theorem inX1 : ∀ w ∈ wsX10, w ∈ lw_tbl := fun w h => wsL_law_in w (inlX1 w h)
theorem inlX2 : ∀ w ∈ wsX20, w ∈ wsL_law := fun _ h => List.mem_append_left _ (List.mem_append_left _ (List.mem_append_left _ (List.mem_append_right _ h)))
theorem inX2 : ∀ w ∈ wsX20, w ∈ lw_tbl := fun w h => wsL_law_in w (inlX2 w h)
theorem inlX3 : ∀ w ∈ wsX30, w ∈ wsL_law := fun _ h => List.mem_append_left _ (List.mem_append_left _ (List.mem_append_left _ (List.mem_append_left _ (List.mem_append_left _ (List.mem_append_right _ h)))))
theorem inX3 : ∀ w ∈ wsX30, w ∈ lw_tbl := fun w h => wsL_law_in w (inlX3 w h)
theorem inlX4 : ∀ w ∈ wsX40, w ∈ wsL_law := fun _ h => List.mem_append_left _ (List.mem_append_left _ (List.mem_append_left _ (List.mem_append_left _ (List.mem_append_right _ h))))
theorem inX4 : ∀ w ∈ wsX40, w ∈ lw_tbl := fun w h => wsL_law_in w (inlX4 w h)
theorem inJ6 : ∀ w ∈ wsJ60, w ∈ lw_tbl := by decide +kernel
theorem inJ9 : ∀ w ∈ wsJ90, w ∈ lw_tbl := by decide +kernel
theorem inJ10 : ∀ w ∈ wsJ100, w ∈ lw_tbl := by decide +kernel
end
section
theorem dX0_init_0 : decode cX0_init 0 = .ok (.aload_n 0, 1) := by decide +kernel
theorem dX0_init_1 : decode cX0_init 1 = .ok (.invokespecial 3, 3) := by decide +kernel
theorem dX0_init_4 : decode cX0_init 4 = .ok (.aload_n 0, 1) := by decide +kernel
theorem dX0_init_5 : decode cX0_init 5 = .ok (.bipush 6, 2) := by decide +kernel
theorem dX0_init_7 : decode cX0_init 7 = .ok (.anewarray 9, 3) := by decide +kernel
theorem dX0_init_10 : decode cX0_init 10 = .ok (.putfield 11, 3) := by decide +kernel
theorem dX0_init_13 : decode cX0_init 13 = .ok (.aload_n 0, 1) := by decide +kernel
theorem dX0_init_14 : decode cX0_init 14 = .ok (.iconst 0, 1) := by decide +kernel
theorem dX0_init_15 : decode cX0_init 15 = .ok (.putfield 17, 3) := by decide +kernel
theorem dX0_init_18 : decode cX0_init 18 = .ok (.aload_n 0, 1) := by decide +kernel
theorem dX0_init_19 : decode cX0_init 19 = .ok (.iconst 0, 1) := by decide +kernel
theorem dX0_init_20 : decode cX0_init 20 = .ok (.putfield 21, 3) := by decide +kernel
theorem dX0_init_23 : decode cX0_init 23 = .ok (.return_, 1) := by decide +kernel
set_option maxRecDepth 20000 in
theorem ggX0_keep_J9_floorMod_7cf53 : GoodIn wsX0_keep wsJ9_floorMod_7cf53 := goodIn_r _ [14] (by decide +kernel) (by decide +kernel)
set_option maxRecDepth 20000 in
theorem gX0_keep_J9_floorMod_7cf53 : GoodIn wsX0_keep (va_wsS RX0 24 yJ9_floorMod_7cf53 wsJ9_floorMod_7cf53) := goodIn_app (goodIn_of _ (by decide +kernel)) ggX0_keep_J9_floorMod_7cf53
set_option maxRecDepth 20000 in
theorem ggX0_keep_X2_init : GoodIn wsX0_keep wsX2_init := goodIn_r _ [16, 17, 18, 19, 20, 21, 22, 23, 24, 25, 26, 27, 28, 29, 30, 31, 32, 33, 34, 46, 47, 48, 49, 50, 51, 52, 53, 54, 55, 56, 57, 58] (by decide +kernel) (by decide +kernel)
set_option maxRecDepth 20000 in
theorem gX0_keep_X2_init_n30 : GoodIn wsX0_keep (wsX2_init) := ggX0_keep_X2_init
set_option maxRecDepth 20000 in
theorem ggX0_keep_X2_copyFrom : GoodIn wsX0_keep wsX2_copyFrom := goodIn_r _ [38, 21, 39, 40, 41, 42, 22, 23, 24, 25, 27, 28, 29, 30, 31, 32, 33, 34, 46, 47, 48, 49, 50, 51, 52, 53, 54, 55, 56, 57, 58] (by decide +kernel) (by decide +kernel)
set_option maxRecDepth 20000 in
theorem gX0_keep_X2_copyFrom : GoodIn wsX0_keep (wsV RX0 31 RX2 yX2_copyFrom wsX2_copyFrom) := goodIn_app (goodIn_of _ (by decide +kernel)) ggX0_keep_X2_copyFrom
theorem dX0_keep_0 : decode cX0_keep 0 = .ok (.aload_n 0, 1) := by decide +kernel
theorem dX0_keep_1 : decode cX0_keep 1 = .ok (.getfield 17, 3) := by decide +kernel
theorem dX0_keep_4 : decode cX0_keep 4 = .ok (.bipush 6, 2) := by decide +kernel
theorem dX0_keep_6 : decode cX0_keep 6 = .ok (.invokestatic 24, 3) := by decide +kernel
theorem dX0_keep_9 : decode cX0_keep 9 = .ok (.istore_n 2, 1) := by decide +kernel
theorem dX0_keep_10 : decode cX0_keep 10 = .ok (.aload_n 0, 1) := by decide +kernel
theorem dX0_keep_11 : decode cX0_keep 11 = .ok (.getfield 11, 3) := by decide +kernel
theorem dX0_keep_14 : decode cX0_keep 14 = .ok (.iload_n 2, 1) := by decide +kernel
theorem dX0_keep_15 : decode cX0_keep 15 = .ok (.aaload, 1) := by decide +kernel
theorem dX0_keep_16 : decode cX0_keep 16 = .ok (.astore_n 3, 1) := by decide +kernel
theorem dX0_keep_17 : decode cX0_keep 17 = .ok (.aload_n 3, 1) := by decide +kernel
theorem dX0_keep_18 : decode cX0_keep 18 = .ok (.ifnonnull 18, 3) := by decide +kernel
theorem dX0_keep_21 : decode cX0_keep 21 = .ok (.new 9, 3) := by decide +kernel
theorem dX0_keep_24 : decode cX0_keep 24 = .ok (.dup, 1) := by decide +kernel
theorem dX0_keep_25 : decode cX0_keep 25 = .ok (.invokespecial 30, 3) := by decide +kernel
theorem dX0_keep_28 : decode cX0_keep 28 = .ok (.astore_n 3, 1) := by decide +kernel
theorem dX0_keep_29 : decode cX0_keep 29 = .ok (.aload_n 0, 1) := by decide +kernel
theorem dX0_keep_30 : decode cX0_keep 30 = .ok (.getfield 11, 3) := by decide +kernel
theorem dX0_keep_33 : decode cX0_keep 33 = .ok (.iload_n 2, 1) := by decide +kernel
theorem dX0_keep_34 : decode cX0_keep 34 = .ok (.aload_n 3, 1) := by decide +kernel
theorem dX0_keep_35 : decode cX0_keep 35 = .ok (.aastore, 1) := by decide +kernel
theorem dX0_keep_36 : decode cX0_keep 36 = .ok (.aload_n 3, 1) := by decide +kernel
theorem dX0_keep_37 : decode cX0_keep 37 = .ok (.aload_n 1, 1) := by decide +kernel
theorem dX0_keep_38 : decode cX0_keep 38 = .ok (.invokevirtual 31, 3) := by decide +kernel
theorem dX0_keep_41 : decode cX0_keep 41 = .ok (.aload_n 0, 1) := by decide +kernel
theorem dX0_keep_42 : decode cX0_keep 42 = .ok (.dup, 1) := by decide +kernel
theorem dX0_keep_43 : decode cX0_keep 43 = .ok (.getfield 17, 3) := by decide +kernel
theorem dX0_keep_46 : decode cX0_keep 46 = .ok (.iconst 1, 1) := by decide +kernel
theorem dX0_keep_47 : decode cX0_keep 47 = .ok (.iadd, 1) := by decide +kernel
theorem dX0_keep_48 : decode cX0_keep 48 = .ok (.putfield 17, 3) := by decide +kernel
theorem dX0_keep_51 : decode cX0_keep 51 = .ok (.aload_n 0, 1) := by decide +kernel
theorem dX0_keep_52 : decode cX0_keep 52 = .ok (.aload_n 0, 1) := by decide +kernel
theorem dX0_keep_53 : decode cX0_keep 53 = .ok (.getfield 21, 3) := by decide +kernel
theorem dX0_keep_56 : decode cX0_keep 56 = .ok (.iconst 1, 1) := by decide +kernel
theorem dX0_keep_57 : decode cX0_keep 57 = .ok (.iadd, 1) := by decide +kernel
theorem dX0_keep_58 : decode cX0_keep 58 = .ok (.bipush 6, 2) := by decide +kernel
theorem dX0_keep_60 : decode cX0_keep 60 = .ok (.invokestatic 35, 3) := by decide +kernel
theorem dX0_keep_63 : decode cX0_keep 63 = .ok (.putfield 21, 3) := by decide +kernel
theorem dX0_keep_66 : decode cX0_keep 66 = .ok (.return_, 1) := by decide +kernel
set_option maxRecDepth 20000 in
theorem ggX0_takeBack_J9_floorMod_7cf53 : GoodIn wsX0_takeBack wsJ9_floorMod_7cf53 := goodIn_r _ [7] (by decide +kernel) (by decide +kernel)
set_option maxRecDepth 20000 in
theorem gX0_takeBack_J9_floorMod_7cf53 : GoodIn wsX0_takeBack (va_wsS RX0 24 yJ9_floorMod_7cf53 wsJ9_floorMod_7cf53) := goodIn_app (goodIn_of _ (by decide +kernel)) ggX0_takeBack_J9_floorMod_7cf53
set_option maxRecDepth 20000 in
theorem ggX0_takeBack_X2_copyFrom : GoodIn wsX0_takeBack wsX2_copyFrom := goodIn_r _ [12, 13, 14, 15, 16, 17, 18, 19, 20, 21, 22, 23, 24, 25, 26, 27, 28, 29, 33, 34, 35, 36, 37, 38, 39, 40, 41, 42, 43, 44, 45] (by decide +kernel) (by decide +kernel)
set_option maxRecDepth 20000 in
theorem gX0_takeBack_X2_copyFrom : GoodIn wsX0_takeBack (wsV RX0 31 RX2 yX2_copyFrom wsX2_copyFrom) := goodIn_app (goodIn_of _ (by decide +kernel)) ggX0_takeBack_X2_copyFrom
theorem dX0_takeBack_0 : decode cX0_takeBack 0 = .ok (.aload_n 0, 1) := by decide +kernel
theorem dX0_takeBack_1 : decode cX0_takeBack 1 = .ok (.getfield 11, 3) := by decide +kernel
theorem dX0_takeBack_4 : decode cX0_takeBack 4 = .ok (.aload_n 0, 1) := by decide +kernel
theorem dX0_takeBack_5 : decode cX0_takeBack 5 = .ok (.getfield 17, 3) := by decide +kernel
theorem dX0_takeBack_8 : decode cX0_takeBack 8 = .ok (.iconst 1, 1) := by decide +kernel
theorem dX0_takeBack_9 : decode cX0_takeBack 9 = .ok (.isub, 1) := by decide +kernel
theorem dX0_takeBack_10 : decode cX0_takeBack 10 = .ok (.bipush 6, 2) := by decide +kernel
theorem dX0_takeBack_12 : decode cX0_takeBack 12 = .ok (.invokestatic 24, 3) := by decide +kernel
theorem dX0_takeBack_15 : decode cX0_takeBack 15 = .ok (.aaload, 1) := by decide +kernel
theorem dX0_takeBack_16 : decode cX0_takeBack 16 = .ok (.astore_n 2, 1) := by decide +kernel
theorem dX0_takeBack_17 : decode cX0_takeBack 17 = .ok (.aload_n 0, 1) := by decide +kernel
theorem dX0_takeBack_18 : decode cX0_takeBack 18 = .ok (.getfield 21, 3) := by decide +kernel
theorem dX0_takeBack_21 : decode cX0_takeBack 21 = .ok (.ifCond .eq 7, 3) := by decide +kernel
theorem dX0_takeBack_24 : decode cX0_takeBack 24 = .ok (.aload_n 2, 1) := by decide +kernel
theorem dX0_takeBack_25 : decode cX0_takeBack 25 = .ok (.ifnonnull 4, 3) := by decide +kernel
theorem dX0_takeBack_28 : decode cX0_takeBack 28 = .ok (.return_, 1) := by decide +kernel
theorem dX0_takeBack_29 : decode cX0_takeBack 29 = .ok (.aload_n 1, 1) := by decide +kernel
theorem dX0_takeBack_30 : decode cX0_takeBack 30 = .ok (.aload_n 2, 1) := by decide +kernel
theorem dX0_takeBack_31 : decode cX0_takeBack 31 = .ok (.invokevirtual 31, 3) := by decide +kernel
theorem dX0_takeBack_34 : decode cX0_takeBack 34 = .ok (.aload_n 0, 1) := by decide +kernel
theorem dX0_takeBack_35 : decode cX0_takeBack 35 = .ok (.dup, 1) := by decide +kernel
theorem dX0_takeBack_36 : decode cX0_takeBack 36 = .ok (.getfield 17, 3) := by decide +kernel
theorem dX0_takeBack_39 : decode cX0_takeBack 39 = .ok (.iconst 1, 1) := by decide +kernel
theorem dX0_takeBack_40 : decode cX0_takeBack 40 = .ok (.isub, 1) := by decide +kernel
theorem dX0_takeBack_41 : decode cX0_takeBack 41 = .ok (.putfield 17, 3) := by decide +kernel
theorem dX0_takeBack_44 : decode cX0_takeBack 44 = .ok (.aload_n 0, 1) := by decide +kernel
theorem dX0_takeBack_45 : decode cX0_takeBack 45 = .ok (.dup, 1) := by decide +kernel
theorem dX0_takeBack_46 : decode cX0_takeBack 46 = .ok (.getfield 21, 3) := by decide +kernel
theorem dX0_takeBack_49 : decode cX0_takeBack 49 = .ok (.iconst 1, 1) := by decide +kernel
theorem dX0_takeBack_50 : decode cX0_takeBack 50 = .ok (.isub, 1) := by decide +kernel
theorem dX0_takeBack_51 : decode cX0_takeBack 51 = .ok (.putfield 21, 3) := by decide +kernel
theorem dX0_takeBack_54 : decode cX0_takeBack 54 = .ok (.return_, 1) := by decide +kernel
theorem dX1_init_0 : decode cX1_init 0 = .ok (.aload_n 0, 1) := by decide +kernel
theorem dX1_init_1 : decode cX1_init 1 = .ok (.invokespecial 3, 3) := by decide +kernel
theorem dX1_init_4 : decode cX1_init 4 = .ok (.aload_n 0, 1) := by decide +kernel
theorem dX1_init_5 : decode cX1_init 5 = .ok (.bipush 60, 2) := by decide +kernel
theorem dX1_init_7 : decode cX1_init 7 = .ok (.newarray .char, 2) := by decide +kernel
theorem dX1_init_9 : decode cX1_init 9 = .ok (.putfield 9, 3) := by decide +kernel
theorem dX1_init_12 : decode cX1_init 12 = .ok (.aload_n 0, 1) := by decide +kernel
theorem dX1_init_13 : decode cX1_init 13 = .ok (.iconst 0, 1) := by decide +kernel
theorem dX1_init_14 : decode cX1_init 14 = .ok (.putfield 15, 3) := by decide +kernel
theorem dX1_init_17 : decode cX1_init 17 = .ok (.return_, 1) := by decide +kernel
theorem dX1_isDigit_0 : decode cX1_isDigit 0 = .ok (.iload_n 0, 1) := by decide +kernel
theorem dX1_isDigit_1 : decode cX1_isDigit 1 = .ok (.bipush 48, 2) := by decide +kernel
theorem dX1_isDigit_3 : decode cX1_isDigit 3 = .ok (.if_icmp .lt 13, 3) := by decide +kernel
theorem dX1_isDigit_6 : decode cX1_isDigit 6 = .ok (.iload_n 0, 1) := by decide +kernel
theorem dX1_isDigit_7 : decode cX1_isDigit 7 = .ok (.bipush 57, 2) := by decide +kernel
theorem dX1_isDigit_9 : decode cX1_isDigit 9 = .ok (.if_icmp .gt 7, 3) := by decide +kernel
theorem dX1_isDigit_12 : decode cX1_isDigit 12 = .ok (.iconst 1, 1) := by decide +kernel
theorem dX1_isDigit_13 : decode cX1_isDigit 13 = .ok (.goto 4, 3) := by decide +kernel
theorem dX1_isDigit_16 : decode cX1_isDigit 16 = .ok (.iconst 0, 1) := by decide +kernel
theorem dX1_isDigit_17 : decode cX1_isDigit 17 = .ok (.ireturn, 1) := by decide +kernel
theorem dX1_signsIn_0 : decode cX1_signsIn 0 = .ok (.lload_n 0, 1) := by decide +kernel
theorem dX1_signsIn_1 : decode cX1_signsIn 1 = .ok (.lstore_n 2, 1) := by decide +kernel
theorem dX1_signsIn_2 : decode cX1_signsIn 2 = .ok (.iconst 0, 1) := by decide +kernel
theorem dX1_signsIn_3 : decode cX1_signsIn 3 = .ok (.istore 4, 2) := by decide +kernel
theorem dX1_signsIn_5 : decode cX1_signsIn 5 = .ok (.lload_n 2, 1) := by decide +kernel
theorem dX1_signsIn_6 : decode cX1_signsIn 6 = .ok (.lconst 0, 1) := by decide +kernel
theorem dX1_signsIn_7 : decode cX1_signsIn 7 = .ok (.lcmp, 1) := by decide +kernel
theorem dX1_signsIn_8 : decode cX1_signsIn 8 = .ok (.ifCond .eq 48, 3) := by decide +kernel
theorem dX1_signsIn_11 : decode cX1_signsIn 11 = .ok (.iload 4, 2) := by decide +kernel
theorem dX1_signsIn_13 : decode cX1_signsIn 13 = .ok (.bipush 8, 2) := by decide +kernel
theorem dX1_signsIn_15 : decode cX1_signsIn 15 = .ok (.if_icmp .ge 41, 3) := by decide +kernel
theorem dX1_signsIn_18 : decode cX1_signsIn 18 = .ok (.lload_n 2, 1) := by decide +kernel
theorem dX1_signsIn_19 : decode cX1_signsIn 19 = .ok (.ldc2_w 19, 3) := by decide +kernel
theorem dX1_signsIn_22 : decode cX1_signsIn 22 = .ok (.land, 1) := by decide +kernel
theorem dX1_signsIn_23 : decode cX1_signsIn 23 = .ok (.lstore 5, 2) := by decide +kernel
theorem dX1_signsIn_25 : decode cX1_signsIn 25 = .ok (.lload 5, 2) := by decide +kernel
theorem dX1_signsIn_27 : decode cX1_signsIn 27 = .ok (.ldc2_w 21, 3) := by decide +kernel
theorem dX1_signsIn_30 : decode cX1_signsIn 30 = .ok (.lcmp, 1) := by decide +kernel
theorem dX1_signsIn_31 : decode cX1_signsIn 31 = .ok (.ifCond .lt 12, 3) := by decide +kernel
theorem dX1_signsIn_34 : decode cX1_signsIn 34 = .ok (.lload 5, 2) := by decide +kernel
theorem dX1_signsIn_36 : decode cX1_signsIn 36 = .ok (.ldc2_w 23, 3) := by decide +kernel
theorem dX1_signsIn_39 : decode cX1_signsIn 39 = .ok (.lcmp, 1) := by decide +kernel
theorem dX1_signsIn_40 : decode cX1_signsIn 40 = .ok (.ifCond .le 5, 3) := by decide +kernel
theorem dX1_signsIn_43 : decode cX1_signsIn 43 = .ok (.iconst 0, 1) := by decide +kernel
theorem dX1_signsIn_44 : decode cX1_signsIn 44 = .ok (.ireturn, 1) := by decide +kernel
theorem dX1_signsIn_45 : decode cX1_signsIn 45 = .ok (.iinc 4 1, 3) := by decide +kernel
theorem dX1_signsIn_48 : decode cX1_signsIn 48 = .ok (.lload_n 2, 1) := by decide +kernel
theorem dX1_signsIn_49 : decode cX1_signsIn 49 = .ok (.bipush 8, 2) := by decide +kernel
theorem dX1_signsIn_51 : decode cX1_signsIn 51 = .ok (.lushr, 1) := by decide +kernel
theorem dX1_signsIn_52 : decode cX1_signsIn 52 = .ok (.lstore_n 2, 1) := by decide +kernel
theorem dX1_signsIn_53 : decode cX1_signsIn 53 = .ok (.goto (-48), 3) := by decide +kernel
theorem dX1_signsIn_56 : decode cX1_signsIn 56 = .ok (.iload 4, 2) := by decide +kernel
theorem dX1_signsIn_58 : decode cX1_signsIn 58 = .ok (.ireturn, 1) := by decide +kernel
theorem dX1_append_0 : decode cX1_append 0 = .ok (.iload_n 3, 1) := by decide +kernel
theorem dX1_append_1 : decode cX1_append 1 = .ok (.ifCond .lt 14, 3) := by decide +kernel
theorem dX1_append_4 : decode cX1_append 4 = .ok (.aload_n 0, 1) := by decide +kernel
theorem dX1_append_5 : decode cX1_append 5 = .ok (.getfield 15, 3) := by decide +kernel
theorem dX1_append_8 : decode cX1_append 8 = .ok (.iload_n 3, 1) := by decide +kernel
theorem dX1_append_9 : decode cX1_append 9 = .ok (.iadd, 1) := by decide +kernel
theorem dX1_append_10 : decode cX1_append 10 = .ok (.bipush 60, 2) := by decide +kernel
theorem dX1_append_12 : decode cX1_append 12 = .ok (.if_icmp .le 4, 3) := by decide +kernel
theorem dX1_append_15 : decode cX1_append 15 = .ok (.return_, 1) := by decide +kernel
theorem dX1_append_16 : decode cX1_append 16 = .ok (.lload_n 1, 1) := by decide +kernel
theorem dX1_append_17 : decode cX1_append 17 = .ok (.lstore 4, 2) := by decide +kernel
theorem dX1_append_19 : decode cX1_append 19 = .ok (.aload_n 0, 1) := by decide +kernel
theorem dX1_append_20 : decode cX1_append 20 = .ok (.getfield 15, 3) := by decide +kernel
theorem dX1_append_23 : decode cX1_append 23 = .ok (.iload_n 3, 1) := by decide +kernel
theorem dX1_append_24 : decode cX1_append 24 = .ok (.iadd, 1) := by decide +kernel
theorem dX1_append_25 : decode cX1_append 25 = .ok (.iconst 1, 1) := by decide +kernel
theorem dX1_append_26 : decode cX1_append 26 = .ok (.isub, 1) := by decide +kernel
theorem dX1_append_27 : decode cX1_append 27 = .ok (.istore 6, 2) := by decide +kernel
theorem dX1_append_29 : decode cX1_append 29 = .ok (.iload 6, 2) := by decide +kernel
theorem dX1_append_31 : decode cX1_append 31 = .ok (.aload_n 0, 1) := by decide +kernel
theorem dX1_append_32 : decode cX1_append 32 = .ok (.getfield 15, 3) := by decide +kernel
theorem dX1_append_35 : decode cX1_append 35 = .ok (.if_icmp .lt 31, 3) := by decide +kernel
theorem dX1_append_38 : decode cX1_append 38 = .ok (.aload_n 0, 1) := by decide +kernel
theorem dX1_append_39 : decode cX1_append 39 = .ok (.getfield 9, 3) := by decide +kernel
theorem dX1_append_42 : decode cX1_append 42 = .ok (.iload 6, 2) := by decide +kernel
theorem dX1_append_44 : decode cX1_append 44 = .ok (.lload 4, 2) := by decide +kernel
theorem dX1_append_46 : decode cX1_append 46 = .ok (.ldc2_w 19, 3) := by decide +kernel
theorem dX1_append_49 : decode cX1_append 49 = .ok (.land, 1) := by decide +kernel
theorem dX1_append_50 : decode cX1_append 50 = .ok (.l2i, 1) := by decide +kernel
theorem dX1_append_51 : decode cX1_append 51 = .ok (.i2c, 1) := by decide +kernel
theorem dX1_append_52 : decode cX1_append 52 = .ok (.castore, 1) := by decide +kernel
theorem dX1_append_53 : decode cX1_append 53 = .ok (.lload 4, 2) := by decide +kernel
theorem dX1_append_55 : decode cX1_append 55 = .ok (.bipush 8, 2) := by decide +kernel
theorem dX1_append_57 : decode cX1_append 57 = .ok (.lushr, 1) := by decide +kernel
theorem dX1_append_58 : decode cX1_append 58 = .ok (.lstore 4, 2) := by decide +kernel
theorem dX1_append_60 : decode cX1_append 60 = .ok (.iinc 6 (-1), 3) := by decide +kernel
theorem dX1_append_63 : decode cX1_append 63 = .ok (.goto (-34), 3) := by decide +kernel
theorem dX1_append_66 : decode cX1_append 66 = .ok (.aload_n 0, 1) := by decide +kernel
theorem dX1_append_67 : decode cX1_append 67 = .ok (.dup, 1) := by decide +kernel
theorem dX1_append_68 : decode cX1_append 68 = .ok (.getfield 15, 3) := by decide +kernel
theorem dX1_append_71 : decode cX1_append 71 = .ok (.iload_n 3, 1) := by decide +kernel
theorem dX1_append_72 : decode cX1_append 72 = .ok (.iadd, 1) := by decide +kernel
theorem dX1_append_73 : decode cX1_append 73 = .ok (.putfield 15, 3) := by decide +kernel
theorem dX1_append_76 : decode cX1_append 76 = .ok (.return_, 1) := by decide +kernel
theorem dX1_signAt_0 : decode cX1_signAt 0 = .ok (.iload_n 1, 1) := by decide +kernel
theorem dX1_signAt_1 : decode cX1_signAt 1 = .ok (.ifCond .lt 18, 3) := by decide +kernel
theorem dX1_signAt_4 : decode cX1_signAt 4 = .ok (.iload_n 1, 1) := by decide +kernel
theorem dX1_signAt_5 : decode cX1_signAt 5 = .ok (.bipush 60, 2) := by decide +kernel
theorem dX1_signAt_7 : decode cX1_signAt 7 = .ok (.if_icmp .ge 12, 3) := by decide +kernel
theorem dX1_signAt_10 : decode cX1_signAt 10 = .ok (.aload_n 0, 1) := by decide +kernel
theorem dX1_signAt_11 : decode cX1_signAt 11 = .ok (.getfield 9, 3) := by decide +kernel
theorem dX1_signAt_14 : decode cX1_signAt 14 = .ok (.iload_n 1, 1) := by decide +kernel
theorem dX1_signAt_15 : decode cX1_signAt 15 = .ok (.caload, 1) := by decide +kernel
theorem dX1_signAt_16 : decode cX1_signAt 16 = .ok (.goto 5, 3) := by decide +kernel
theorem dX1_signAt_19 : decode cX1_signAt 19 = .ok (.bipush 44, 2) := by decide +kernel
theorem dX1_signAt_21 : decode cX1_signAt 21 = .ok (.ireturn, 1) := by decide +kernel
set_option maxRecDepth 20000 in
theorem ggX1_faultIndex_X1_signAt : GoodIn wsX1_faultIndex wsX1_signAt := goodIn_r _ [7, 8, 15, 16] (by decide +kernel) (by decide +kernel)
set_option maxRecDepth 20000 in
theorem gX1_faultIndex_X1_signAt : GoodIn wsX1_faultIndex (wsV RX1 25 RX1 yX1_signAt wsX1_signAt) := goodIn_app (goodIn_of _ (by decide +kernel)) ggX1_faultIndex_X1_signAt
set_option maxRecDepth 20000 in
theorem ggX1_faultIndex_X1_dueBehind : GoodIn wsX1_faultIndex wsX1_dueBehind := goodIn_r _ [11, 12, 13, 6, 14] (by decide +kernel) (by decide +kernel)
set_option maxRecDepth 20000 in
theorem gX1_faultIndex_X1_dueBehind : GoodIn wsX1_faultIndex (va_wsS RX1 29 yX1_dueBehind wsX1_dueBehind) := goodIn_app (goodIn_of _ (by decide +kernel)) ggX1_faultIndex_X1_dueBehind
theorem dX1_faultIndex_0 : decode cX1_faultIndex 0 = .ok (.iconst (-1), 1) := by decide +kernel
theorem dX1_faultIndex_1 : decode cX1_faultIndex 1 = .ok (.istore_n 1, 1) := by decide +kernel
theorem dX1_faultIndex_2 : decode cX1_faultIndex 2 = .ok (.iconst 0, 1) := by decide +kernel
theorem dX1_faultIndex_3 : decode cX1_faultIndex 3 = .ok (.istore_n 2, 1) := by decide +kernel
theorem dX1_faultIndex_4 : decode cX1_faultIndex 4 = .ok (.iload_n 2, 1) := by decide +kernel
theorem dX1_faultIndex_5 : decode cX1_faultIndex 5 = .ok (.aload_n 0, 1) := by decide +kernel
theorem dX1_faultIndex_6 : decode cX1_faultIndex 6 = .ok (.getfield 15, 3) := by decide +kernel
theorem dX1_faultIndex_9 : decode cX1_faultIndex 9 = .ok (.if_icmp .ge 27, 3) := by decide +kernel
theorem dX1_faultIndex_12 : decode cX1_faultIndex 12 = .ok (.iload_n 1, 1) := by decide +kernel
theorem dX1_faultIndex_13 : decode cX1_faultIndex 13 = .ok (.aload_n 0, 1) := by decide +kernel
theorem dX1_faultIndex_14 : decode cX1_faultIndex 14 = .ok (.iload_n 2, 1) := by decide +kernel
theorem dX1_faultIndex_15 : decode cX1_faultIndex 15 = .ok (.invokevirtual 25, 3) := by decide +kernel
theorem dX1_faultIndex_18 : decode cX1_faultIndex 18 = .ok (.invokestatic 29, 3) := by decide +kernel
theorem dX1_faultIndex_21 : decode cX1_faultIndex 21 = .ok (.istore_n 1, 1) := by decide +kernel
theorem dX1_faultIndex_22 : decode cX1_faultIndex 22 = .ok (.iload_n 1, 1) := by decide +kernel
theorem dX1_faultIndex_23 : decode cX1_faultIndex 23 = .ok (.bipush (-2), 2) := by decide +kernel
theorem dX1_faultIndex_25 : decode cX1_faultIndex 25 = .ok (.if_icmp .ne 5, 3) := by decide +kernel
theorem dX1_faultIndex_28 : decode cX1_faultIndex 28 = .ok (.iload_n 2, 1) := by decide +kernel
theorem dX1_faultIndex_29 : decode cX1_faultIndex 29 = .ok (.ireturn, 1) := by decide +kernel
theorem dX1_faultIndex_30 : decode cX1_faultIndex 30 = .ok (.iinc 2 1, 3) := by decide +kernel
theorem dX1_faultIndex_33 : decode cX1_faultIndex 33 = .ok (.goto (-29), 3) := by decide +kernel
theorem dX1_faultIndex_36 : decode cX1_faultIndex 36 = .ok (.iload_n 1, 1) := by decide +kernel
theorem dX1_faultIndex_37 : decode cX1_faultIndex 37 = .ok (.iconst (-1), 1) := by decide +kernel
theorem dX1_faultIndex_38 : decode cX1_faultIndex 38 = .ok (.if_icmp .ne 10, 3) := by decide +kernel
theorem dX1_faultIndex_41 : decode cX1_faultIndex 41 = .ok (.aload_n 0, 1) := by decide +kernel
theorem dX1_faultIndex_42 : decode cX1_faultIndex 42 = .ok (.getfield 15, 3) := by decide +kernel
theorem dX1_faultIndex_45 : decode cX1_faultIndex 45 = .ok (.goto 5, 3) := by decide +kernel
theorem dX1_faultIndex_48 : decode cX1_faultIndex 48 = .ok (.ldc 33, 2) := by decide +kernel
theorem dX1_faultIndex_50 : decode cX1_faultIndex 50 = .ok (.ireturn, 1) := by decide +kernel
set_option maxRecDepth 20000 in
theorem ggX1_dueBehind_X1_isDigit : GoodIn wsX1_dueBehind wsX1_isDigit := goodIn_r _ [4] (by decide +kernel) (by decide +kernel)
set_option maxRecDepth 20000 in
theorem gX1_dueBehind_X1_isDigit : GoodIn wsX1_dueBehind (va_wsS RX1 34 yX1_isDigit wsX1_isDigit) := goodIn_app (goodIn_of _ (by decide +kernel)) ggX1_dueBehind_X1_isDigit
theorem dX1_dueBehind_0 : decode cX1_dueBehind 0 = .ok (.iload_n 0, 1) := by decide +kernel
theorem dX1_dueBehind_1 : decode cX1_dueBehind 1 = .ok (.iconst (-1), 1) := by decide +kernel
theorem dX1_dueBehind_2 : decode cX1_dueBehind 2 = .ok (.if_icmp .eq 31, 3) := by decide +kernel
theorem dX1_dueBehind_5 : decode cX1_dueBehind 5 = .ok (.iload_n 1, 1) := by decide +kernel
theorem dX1_dueBehind_6 : decode cX1_dueBehind 6 = .ok (.bipush 44, 2) := by decide +kernel
theorem dX1_dueBehind_8 : decode cX1_dueBehind 8 = .ok (.if_icmp .ne 5, 3) := by decide +kernel
theorem dX1_dueBehind_11 : decode cX1_dueBehind 11 = .ok (.iconst (-1), 1) := by decide +kernel
theorem dX1_dueBehind_12 : decode cX1_dueBehind 12 = .ok (.ireturn, 1) := by decide +kernel
theorem dX1_dueBehind_13 : decode cX1_dueBehind 13 = .ok (.iload_n 0, 1) := by decide +kernel
theorem dX1_dueBehind_14 : decode cX1_dueBehind 14 = .ok (.ifCond .le 16, 3) := by decide +kernel
theorem dX1_dueBehind_17 : decode cX1_dueBehind 17 = .ok (.iload_n 1, 1) := by decide +kernel
theorem dX1_dueBehind_18 : decode cX1_dueBehind 18 = .ok (.invokestatic 34, 3) := by decide +kernel
theorem dX1_dueBehind_21 : decode cX1_dueBehind 21 = .ok (.ifCond .eq 9, 3) := by decide +kernel
theorem dX1_dueBehind_24 : decode cX1_dueBehind 24 = .ok (.iload_n 0, 1) := by decide +kernel
theorem dX1_dueBehind_25 : decode cX1_dueBehind 25 = .ok (.iconst 1, 1) := by decide +kernel
theorem dX1_dueBehind_26 : decode cX1_dueBehind 26 = .ok (.isub, 1) := by decide +kernel
theorem dX1_dueBehind_27 : decode cX1_dueBehind 27 = .ok (.goto 5, 3) := by decide +kernel
theorem dX1_dueBehind_30 : decode cX1_dueBehind 30 = .ok (.bipush (-2), 2) := by decide +kernel
theorem dX1_dueBehind_32 : decode cX1_dueBehind 32 = .ok (.ireturn, 1) := by decide +kernel
theorem dX1_dueBehind_33 : decode cX1_dueBehind 33 = .ok (.iload_n 1, 1) := by decide +kernel
theorem dX1_dueBehind_34 : decode cX1_dueBehind 34 = .ok (.bipush 43, 2) := by decide +kernel
theorem dX1_dueBehind_36 : decode cX1_dueBehind 36 = .ok (.if_icmp .eq 27, 3) := by decide +kernel
theorem dX1_dueBehind_39 : decode cX1_dueBehind 39 = .ok (.iload_n 1, 1) := by decide +kernel
theorem dX1_dueBehind_40 : decode cX1_dueBehind 40 = .ok (.bipush 45, 2) := by decide +kernel
theorem dX1_dueBehind_42 : decode cX1_dueBehind 42 = .ok (.if_icmp .eq 21, 3) := by decide +kernel
theorem dX1_dueBehind_45 : decode cX1_dueBehind 45 = .ok (.iload_n 1, 1) := by decide +kernel
theorem dX1_dueBehind_46 : decode cX1_dueBehind 46 = .ok (.bipush 42, 2) := by decide +kernel
theorem dX1_dueBehind_48 : decode cX1_dueBehind 48 = .ok (.if_icmp .eq 15, 3) := by decide +kernel
theorem dX1_dueBehind_51 : decode cX1_dueBehind 51 = .ok (.iload_n 1, 1) := by decide +kernel
theorem dX1_dueBehind_52 : decode cX1_dueBehind 52 = .ok (.bipush 33, 2) := by decide +kernel
theorem dX1_dueBehind_54 : decode cX1_dueBehind 54 = .ok (.if_icmp .eq 9, 3) := by decide +kernel
theorem dX1_dueBehind_57 : decode cX1_dueBehind 57 = .ok (.iload_n 1, 1) := by decide +kernel
theorem dX1_dueBehind_58 : decode cX1_dueBehind 58 = .ok (.bipush 48, 2) := by decide +kernel
theorem dX1_dueBehind_60 : decode cX1_dueBehind 60 = .ok (.if_icmp .ne 5, 3) := by decide +kernel
theorem dX1_dueBehind_63 : decode cX1_dueBehind 63 = .ok (.iconst 0, 1) := by decide +kernel
theorem dX1_dueBehind_64 : decode cX1_dueBehind 64 = .ok (.ireturn, 1) := by decide +kernel
theorem dX1_dueBehind_65 : decode cX1_dueBehind 65 = .ok (.iload_n 1, 1) := by decide +kernel
theorem dX1_dueBehind_66 : decode cX1_dueBehind 66 = .ok (.invokestatic 34, 3) := by decide +kernel
theorem dX1_dueBehind_69 : decode cX1_dueBehind 69 = .ok (.ifCond .eq 7, 3) := by decide +kernel
theorem dX1_dueBehind_72 : decode cX1_dueBehind 72 = .ok (.iconst 3, 1) := by decide +kernel
theorem dX1_dueBehind_73 : decode cX1_dueBehind 73 = .ok (.goto 5, 3) := by decide +kernel
theorem dX1_dueBehind_76 : decode cX1_dueBehind 76 = .ok (.bipush (-2), 2) := by decide +kernel
theorem dX1_dueBehind_78 : decode cX1_dueBehind 78 = .ok (.ireturn, 1) := by decide +kernel
theorem dX2_init_0 : decode cX2_init 0 = .ok (.aload_n 0, 1) := by decide +kernel
theorem dX2_init_1 : decode cX2_init 1 = .ok (.invokespecial 3, 3) := by decide +kernel
theorem dX2_init_4 : decode cX2_init 4 = .ok (.aload_n 0, 1) := by decide +kernel
theorem dX2_init_5 : decode cX2_init 5 = .ok (.iconst 4, 1) := by decide +kernel
theorem dX2_init_6 : decode cX2_init 6 = .ok (.newarray .int, 2) := by decide +kernel
theorem dX2_init_8 : decode cX2_init 8 = .ok (.dup, 1) := by decide +kernel
theorem dX2_init_9 : decode cX2_init 9 = .ok (.iconst 0, 1) := by decide +kernel
theorem dX2_init_10 : decode cX2_init 10 = .ok (.iconst 1, 1) := by decide +kernel
theorem dX2_init_11 : decode cX2_init 11 = .ok (.iastore, 1) := by decide +kernel
theorem dX2_init_12 : decode cX2_init 12 = .ok (.dup, 1) := by decide +kernel
theorem dX2_init_13 : decode cX2_init 13 = .ok (.iconst 1, 1) := by decide +kernel
theorem dX2_init_14 : decode cX2_init 14 = .ok (.iconst 1, 1) := by decide +kernel
theorem dX2_init_15 : decode cX2_init 15 = .ok (.iastore, 1) := by decide +kernel
theorem dX2_init_16 : decode cX2_init 16 = .ok (.dup, 1) := by decide +kernel
theorem dX2_init_17 : decode cX2_init 17 = .ok (.iconst 2, 1) := by decide +kernel
theorem dX2_init_18 : decode cX2_init 18 = .ok (.bipush 50, 2) := by decide +kernel
theorem dX2_init_20 : decode cX2_init 20 = .ok (.iastore, 1) := by decide +kernel
theorem dX2_init_21 : decode cX2_init 21 = .ok (.dup, 1) := by decide +kernel
theorem dX2_init_22 : decode cX2_init 22 = .ok (.iconst 3, 1) := by decide +kernel
theorem dX2_init_23 : decode cX2_init 23 = .ok (.iconst 0, 1) := by decide +kernel
theorem dX2_init_24 : decode cX2_init 24 = .ok (.iastore, 1) := by decide +kernel
theorem dX2_init_25 : decode cX2_init 25 = .ok (.putfield 9, 3) := by decide +kernel
theorem dX2_init_28 : decode cX2_init 28 = .ok (.aload_n 0, 1) := by decide +kernel
theorem dX2_init_29 : decode cX2_init 29 = .ok (.iconst 5, 1) := by decide +kernel
theorem dX2_init_30 : decode cX2_init 30 = .ok (.newarray .int, 2) := by decide +kernel
theorem dX2_init_32 : decode cX2_init 32 = .ok (.dup, 1) := by decide +kernel
theorem dX2_init_33 : decode cX2_init 33 = .ok (.iconst 0, 1) := by decide +kernel
theorem dX2_init_34 : decode cX2_init 34 = .ok (.iconst 5, 1) := by decide +kernel
theorem dX2_init_35 : decode cX2_init 35 = .ok (.iastore, 1) := by decide +kernel
theorem dX2_init_36 : decode cX2_init 36 = .ok (.dup, 1) := by decide +kernel
theorem dX2_init_37 : decode cX2_init 37 = .ok (.iconst 1, 1) := by decide +kernel
theorem dX2_init_38 : decode cX2_init 38 = .ok (.iconst 4, 1) := by decide +kernel
theorem dX2_init_39 : decode cX2_init 39 = .ok (.iastore, 1) := by decide +kernel
theorem dX2_init_40 : decode cX2_init 40 = .ok (.dup, 1) := by decide +kernel
theorem dX2_init_41 : decode cX2_init 41 = .ok (.iconst 2, 1) := by decide +kernel
theorem dX2_init_42 : decode cX2_init 42 = .ok (.iconst 3, 1) := by decide +kernel
theorem dX2_init_43 : decode cX2_init 43 = .ok (.iastore, 1) := by decide +kernel
theorem dX2_init_44 : decode cX2_init 44 = .ok (.dup, 1) := by decide +kernel
theorem dX2_init_45 : decode cX2_init 45 = .ok (.iconst 3, 1) := by decide +kernel
theorem dX2_init_46 : decode cX2_init 46 = .ok (.iconst 2, 1) := by decide +kernel
theorem dX2_init_47 : decode cX2_init 47 = .ok (.iastore, 1) := by decide +kernel
theorem dX2_init_48 : decode cX2_init 48 = .ok (.dup, 1) := by decide +kernel
theorem dX2_init_49 : decode cX2_init 49 = .ok (.iconst 4, 1) := by decide +kernel
theorem dX2_init_50 : decode cX2_init 50 = .ok (.iconst 1, 1) := by decide +kernel
theorem dX2_init_51 : decode cX2_init 51 = .ok (.iastore, 1) := by decide +kernel
theorem dX2_init_52 : decode cX2_init 52 = .ok (.putfield 15, 3) := by decide +kernel
theorem dX2_init_55 : decode cX2_init 55 = .ok (.aload_n 0, 1) := by decide +kernel
theorem dX2_init_56 : decode cX2_init 56 = .ok (.iconst 5, 1) := by decide +kernel
theorem dX2_init_57 : decode cX2_init 57 = .ok (.newarray .int, 2) := by decide +kernel
theorem dX2_init_59 : decode cX2_init 59 = .ok (.dup, 1) := by decide +kernel
theorem dX2_init_60 : decode cX2_init 60 = .ok (.iconst 0, 1) := by decide +kernel
theorem dX2_init_61 : decode cX2_init 61 = .ok (.bipush 20, 2) := by decide +kernel
theorem dX2_init_63 : decode cX2_init 63 = .ok (.iastore, 1) := by decide +kernel
theorem dX2_init_64 : decode cX2_init 64 = .ok (.dup, 1) := by decide +kernel
theorem dX2_init_65 : decode cX2_init 65 = .ok (.iconst 1, 1) := by decide +kernel
theorem dX2_init_66 : decode cX2_init 66 = .ok (.bipush 20, 2) := by decide +kernel
theorem dX2_init_68 : decode cX2_init 68 = .ok (.iastore, 1) := by decide +kernel
theorem dX2_init_69 : decode cX2_init 69 = .ok (.dup, 1) := by decide +kernel
theorem dX2_init_70 : decode cX2_init 70 = .ok (.iconst 2, 1) := by decide +kernel
theorem dX2_init_71 : decode cX2_init 71 = .ok (.bipush 20, 2) := by decide +kernel
theorem dX2_init_73 : decode cX2_init 73 = .ok (.iastore, 1) := by decide +kernel
theorem dX2_init_74 : decode cX2_init 74 = .ok (.dup, 1) := by decide +kernel
theorem dX2_init_75 : decode cX2_init 75 = .ok (.iconst 3, 1) := by decide +kernel
theorem dX2_init_76 : decode cX2_init 76 = .ok (.bipush 20, 2) := by decide +kernel
theorem dX2_init_78 : decode cX2_init 78 = .ok (.iastore, 1) := by decide +kernel
theorem dX2_init_79 : decode cX2_init 79 = .ok (.dup, 1) := by decide +kernel
theorem dX2_init_80 : decode cX2_init 80 = .ok (.iconst 4, 1) := by decide +kernel
theorem dX2_init_81 : decode cX2_init 81 = .ok (.bipush 20, 2) := by decide +kernel
theorem dX2_init_83 : decode cX2_init 83 = .ok (.iastore, 1) := by decide +kernel
theorem dX2_init_84 : decode cX2_init 84 = .ok (.putfield 18, 3) := by decide +kernel
theorem dX2_init_87 : decode cX2_init 87 = .ok (.aload_n 0, 1) := by decide +kernel
theorem dX2_init_88 : decode cX2_init 88 = .ok (.iconst 5, 1) := by decide +kernel
theorem dX2_init_89 : decode cX2_init 89 = .ok (.newarray .int, 2) := by decide +kernel
theorem dX2_init_91 : decode cX2_init 91 = .ok (.dup, 1) := by decide +kernel
theorem dX2_init_92 : decode cX2_init 92 = .ok (.iconst 0, 1) := by decide +kernel
theorem dX2_init_93 : decode cX2_init 93 = .ok (.bipush 10, 2) := by decide +kernel
theorem dX2_init_95 : decode cX2_init 95 = .ok (.iastore, 1) := by decide +kernel
theorem dX2_init_96 : decode cX2_init 96 = .ok (.dup, 1) := by decide +kernel
theorem dX2_init_97 : decode cX2_init 97 = .ok (.iconst 1, 1) := by decide +kernel
theorem dX2_init_98 : decode cX2_init 98 = .ok (.bipush 10, 2) := by decide +kernel
theorem dX2_init_100 : decode cX2_init 100 = .ok (.iastore, 1) := by decide +kernel
theorem dX2_init_101 : decode cX2_init 101 = .ok (.dup, 1) := by decide +kernel
theorem dX2_init_102 : decode cX2_init 102 = .ok (.iconst 2, 1) := by decide +kernel
theorem dX2_init_103 : decode cX2_init 103 = .ok (.bipush 10, 2) := by decide +kernel
theorem dX2_init_105 : decode cX2_init 105 = .ok (.iastore, 1) := by decide +kernel
theorem dX2_init_106 : decode cX2_init 106 = .ok (.dup, 1) := by decide +kernel
theorem dX2_init_107 : decode cX2_init 107 = .ok (.iconst 3, 1) := by decide +kernel
theorem dX2_init_108 : decode cX2_init 108 = .ok (.bipush 10, 2) := by decide +kernel
theorem dX2_init_110 : decode cX2_init 110 = .ok (.iastore, 1) := by decide +kernel
theorem dX2_init_111 : decode cX2_init 111 = .ok (.dup, 1) := by decide +kernel
theorem dX2_init_112 : decode cX2_init 112 = .ok (.iconst 4, 1) := by decide +kernel
theorem dX2_init_113 : decode cX2_init 113 = .ok (.bipush 10, 2) := by decide +kernel
theorem dX2_init_115 : decode cX2_init 115 = .ok (.iastore, 1) := by decide +kernel
theorem dX2_init_116 : decode cX2_init 116 = .ok (.putfield 21, 3) := by decide +kernel
theorem dX2_init_119 : decode cX2_init 119 = .ok (.aload_n 0, 1) := by decide +kernel
theorem dX2_init_120 : decode cX2_init 120 = .ok (.iconst 5, 1) := by decide +kernel
theorem dX2_init_121 : decode cX2_init 121 = .ok (.newarray .int, 2) := by decide +kernel
theorem dX2_init_123 : decode cX2_init 123 = .ok (.dup, 1) := by decide +kernel
theorem dX2_init_124 : decode cX2_init 124 = .ok (.iconst 0, 1) := by decide +kernel
theorem dX2_init_125 : decode cX2_init 125 = .ok (.iconst 0, 1) := by decide +kernel
theorem dX2_init_126 : decode cX2_init 126 = .ok (.iastore, 1) := by decide +kernel
theorem dX2_init_127 : decode cX2_init 127 = .ok (.dup, 1) := by decide +kernel
theorem dX2_init_128 : decode cX2_init 128 = .ok (.iconst 1, 1) := by decide +kernel
theorem dX2_init_129 : decode cX2_init 129 = .ok (.iconst 1, 1) := by decide +kernel
theorem dX2_init_130 : decode cX2_init 130 = .ok (.iastore, 1) := by decide +kernel
theorem dX2_init_131 : decode cX2_init 131 = .ok (.dup, 1) := by decide +kernel
theorem dX2_init_132 : decode cX2_init 132 = .ok (.iconst 2, 1) := by decide +kernel
theorem dX2_init_133 : decode cX2_init 133 = .ok (.iconst 2, 1) := by decide +kernel
theorem dX2_init_134 : decode cX2_init 134 = .ok (.iastore, 1) := by decide +kernel
theorem dX2_init_135 : decode cX2_init 135 = .ok (.dup, 1) := by decide +kernel
theorem dX2_init_136 : decode cX2_init 136 = .ok (.iconst 3, 1) := by decide +kernel
theorem dX2_init_137 : decode cX2_init 137 = .ok (.iconst 3, 1) := by decide +kernel
theorem dX2_init_138 : decode cX2_init 138 = .ok (.iastore, 1) := by decide +kernel
theorem dX2_init_139 : decode cX2_init 139 = .ok (.dup, 1) := by decide +kernel
theorem dX2_init_140 : decode cX2_init 140 = .ok (.iconst 4, 1) := by decide +kernel
theorem dX2_init_141 : decode cX2_init 141 = .ok (.iconst 4, 1) := by decide +kernel
theorem dX2_init_142 : decode cX2_init 142 = .ok (.iastore, 1) := by decide +kernel
theorem dX2_init_143 : decode cX2_init 143 = .ok (.putfield 24, 3) := by decide +kernel
theorem dX2_init_146 : decode cX2_init 146 = .ok (.aload_n 0, 1) := by decide +kernel
theorem dX2_init_147 : decode cX2_init 147 = .ok (.iconst 5, 1) := by decide +kernel
theorem dX2_init_148 : decode cX2_init 148 = .ok (.newarray .int, 2) := by decide +kernel
theorem dX2_init_150 : decode cX2_init 150 = .ok (.dup, 1) := by decide +kernel
theorem dX2_init_151 : decode cX2_init 151 = .ok (.iconst 0, 1) := by decide +kernel
theorem dX2_init_152 : decode cX2_init 152 = .ok (.ldc 27, 2) := by decide +kernel
theorem dX2_init_154 : decode cX2_init 154 = .ok (.iastore, 1) := by decide +kernel
theorem dX2_init_155 : decode cX2_init 155 = .ok (.dup, 1) := by decide +kernel
theorem dX2_init_156 : decode cX2_init 156 = .ok (.iconst 1, 1) := by decide +kernel
theorem dX2_init_157 : decode cX2_init 157 = .ok (.ldc 27, 2) := by decide +kernel
theorem dX2_init_159 : decode cX2_init 159 = .ok (.iastore, 1) := by decide +kernel
theorem dX2_init_160 : decode cX2_init 160 = .ok (.dup, 1) := by decide +kernel
theorem dX2_init_161 : decode cX2_init 161 = .ok (.iconst 2, 1) := by decide +kernel
theorem dX2_init_162 : decode cX2_init 162 = .ok (.ldc 27, 2) := by decide +kernel
theorem dX2_init_164 : decode cX2_init 164 = .ok (.iastore, 1) := by decide +kernel
theorem dX2_init_165 : decode cX2_init 165 = .ok (.dup, 1) := by decide +kernel
theorem dX2_init_166 : decode cX2_init 166 = .ok (.iconst 3, 1) := by decide +kernel
theorem dX2_init_167 : decode cX2_init 167 = .ok (.ldc 27, 2) := by decide +kernel
theorem dX2_init_169 : decode cX2_init 169 = .ok (.iastore, 1) := by decide +kernel
theorem dX2_init_170 : decode cX2_init 170 = .ok (.dup, 1) := by decide +kernel
theorem dX2_init_171 : decode cX2_init 171 = .ok (.iconst 4, 1) := by decide +kernel
theorem dX2_init_172 : decode cX2_init 172 = .ok (.ldc 27, 2) := by decide +kernel
theorem dX2_init_174 : decode cX2_init 174 = .ok (.iastore, 1) := by decide +kernel
theorem dX2_init_175 : decode cX2_init 175 = .ok (.putfield 28, 3) := by decide +kernel
theorem dX2_init_178 : decode cX2_init 178 = .ok (.aload_n 0, 1) := by decide +kernel
theorem dX2_init_179 : decode cX2_init 179 = .ok (.iconst 5, 1) := by decide +kernel
theorem dX2_init_180 : decode cX2_init 180 = .ok (.newarray .int, 2) := by decide +kernel
theorem dX2_init_182 : decode cX2_init 182 = .ok (.dup, 1) := by decide +kernel
theorem dX2_init_183 : decode cX2_init 183 = .ok (.iconst 0, 1) := by decide +kernel
theorem dX2_init_184 : decode cX2_init 184 = .ok (.ldc 27, 2) := by decide +kernel
theorem dX2_init_186 : decode cX2_init 186 = .ok (.iastore, 1) := by decide +kernel
theorem dX2_init_187 : decode cX2_init 187 = .ok (.dup, 1) := by decide +kernel
theorem dX2_init_188 : decode cX2_init 188 = .ok (.iconst 1, 1) := by decide +kernel
theorem dX2_init_189 : decode cX2_init 189 = .ok (.ldc 27, 2) := by decide +kernel
theorem dX2_init_191 : decode cX2_init 191 = .ok (.iastore, 1) := by decide +kernel
theorem dX2_init_192 : decode cX2_init 192 = .ok (.dup, 1) := by decide +kernel
theorem dX2_init_193 : decode cX2_init 193 = .ok (.iconst 2, 1) := by decide +kernel
theorem dX2_init_194 : decode cX2_init 194 = .ok (.ldc 27, 2) := by decide +kernel
theorem dX2_init_196 : decode cX2_init 196 = .ok (.iastore, 1) := by decide +kernel
theorem dX2_init_197 : decode cX2_init 197 = .ok (.dup, 1) := by decide +kernel
theorem dX2_init_198 : decode cX2_init 198 = .ok (.iconst 3, 1) := by decide +kernel
theorem dX2_init_199 : decode cX2_init 199 = .ok (.ldc 27, 2) := by decide +kernel
theorem dX2_init_201 : decode cX2_init 201 = .ok (.iastore, 1) := by decide +kernel
theorem dX2_init_202 : decode cX2_init 202 = .ok (.dup, 1) := by decide +kernel
theorem dX2_init_203 : decode cX2_init 203 = .ok (.iconst 4, 1) := by decide +kernel
theorem dX2_init_204 : decode cX2_init 204 = .ok (.ldc 27, 2) := by decide +kernel
theorem dX2_init_206 : decode cX2_init 206 = .ok (.iastore, 1) := by decide +kernel
theorem dX2_init_207 : decode cX2_init 207 = .ok (.putfield 31, 3) := by decide +kernel
theorem dX2_init_210 : decode cX2_init 210 = .ok (.aload_n 0, 1) := by decide +kernel
theorem dX2_init_211 : decode cX2_init 211 = .ok (.iconst 5, 1) := by decide +kernel
theorem dX2_init_212 : decode cX2_init 212 = .ok (.newarray .int, 2) := by decide +kernel
theorem dX2_init_214 : decode cX2_init 214 = .ok (.putfield 34, 3) := by decide +kernel
theorem dX2_init_217 : decode cX2_init 217 = .ok (.aload_n 0, 1) := by decide +kernel
theorem dX2_init_218 : decode cX2_init 218 = .ok (.iconst 5, 1) := by decide +kernel
theorem dX2_init_219 : decode cX2_init 219 = .ok (.newarray .int, 2) := by decide +kernel
theorem dX2_init_221 : decode cX2_init 221 = .ok (.putfield 37, 3) := by decide +kernel
theorem dX2_init_224 : decode cX2_init 224 = .ok (.aload_n 0, 1) := by decide +kernel
theorem dX2_init_225 : decode cX2_init 225 = .ok (.iconst 5, 1) := by decide +kernel
theorem dX2_init_226 : decode cX2_init 226 = .ok (.newarray .int, 2) := by decide +kernel
theorem dX2_init_228 : decode cX2_init 228 = .ok (.putfield 40, 3) := by decide +kernel
theorem dX2_init_231 : decode cX2_init 231 = .ok (.aload_n 0, 1) := by decide +kernel
theorem dX2_init_232 : decode cX2_init 232 = .ok (.iconst 0, 1) := by decide +kernel
theorem dX2_init_233 : decode cX2_init 233 = .ok (.putfield 43, 3) := by decide +kernel
theorem dX2_init_236 : decode cX2_init 236 = .ok (.aload_n 0, 1) := by decide +kernel
theorem dX2_init_237 : decode cX2_init 237 = .ok (.ldc 27, 2) := by decide +kernel
theorem dX2_init_239 : decode cX2_init 239 = .ok (.putfield 47, 3) := by decide +kernel
theorem dX2_init_242 : decode cX2_init 242 = .ok (.aload_n 0, 1) := by decide +kernel
theorem dX2_init_243 : decode cX2_init 243 = .ok (.iconst 0, 1) := by decide +kernel
theorem dX2_init_244 : decode cX2_init 244 = .ok (.putfield 51, 3) := by decide +kernel
theorem dX2_init_247 : decode cX2_init 247 = .ok (.return_, 1) := by decide +kernel
theorem dX2_copyFrom_0 : decode cX2_copyFrom 0 = .ok (.aload_n 1, 1) := by decide +kernel
theorem dX2_copyFrom_1 : decode cX2_copyFrom 1 = .ok (.getfield 9, 3) := by decide +kernel
theorem dX2_copyFrom_4 : decode cX2_copyFrom 4 = .ok (.iconst 0, 1) := by decide +kernel
theorem dX2_copyFrom_5 : decode cX2_copyFrom 5 = .ok (.aload_n 0, 1) := by decide +kernel
theorem dX2_copyFrom_6 : decode cX2_copyFrom 6 = .ok (.getfield 9, 3) := by decide +kernel
theorem dX2_copyFrom_9 : decode cX2_copyFrom 9 = .ok (.iconst 0, 1) := by decide +kernel
theorem dX2_copyFrom_10 : decode cX2_copyFrom 10 = .ok (.iconst 4, 1) := by decide +kernel
theorem dX2_copyFrom_11 : decode cX2_copyFrom 11 = .ok (.invokestatic 54, 3) := by decide +kernel
theorem dX2_copyFrom_14 : decode cX2_copyFrom 14 = .ok (.aload_n 1, 1) := by decide +kernel
theorem dX2_copyFrom_15 : decode cX2_copyFrom 15 = .ok (.getfield 15, 3) := by decide +kernel
theorem dX2_copyFrom_18 : decode cX2_copyFrom 18 = .ok (.iconst 0, 1) := by decide +kernel
theorem dX2_copyFrom_19 : decode cX2_copyFrom 19 = .ok (.aload_n 0, 1) := by decide +kernel
theorem dX2_copyFrom_20 : decode cX2_copyFrom 20 = .ok (.getfield 15, 3) := by decide +kernel
theorem dX2_copyFrom_23 : decode cX2_copyFrom 23 = .ok (.iconst 0, 1) := by decide +kernel
theorem dX2_copyFrom_24 : decode cX2_copyFrom 24 = .ok (.iconst 5, 1) := by decide +kernel
theorem dX2_copyFrom_25 : decode cX2_copyFrom 25 = .ok (.invokestatic 54, 3) := by decide +kernel
theorem dX2_copyFrom_28 : decode cX2_copyFrom 28 = .ok (.aload_n 1, 1) := by decide +kernel
theorem dX2_copyFrom_29 : decode cX2_copyFrom 29 = .ok (.getfield 18, 3) := by decide +kernel
theorem dX2_copyFrom_32 : decode cX2_copyFrom 32 = .ok (.iconst 0, 1) := by decide +kernel
theorem dX2_copyFrom_33 : decode cX2_copyFrom 33 = .ok (.aload_n 0, 1) := by decide +kernel
theorem dX2_copyFrom_34 : decode cX2_copyFrom 34 = .ok (.getfield 18, 3) := by decide +kernel
theorem dX2_copyFrom_37 : decode cX2_copyFrom 37 = .ok (.iconst 0, 1) := by decide +kernel
theorem dX2_copyFrom_38 : decode cX2_copyFrom 38 = .ok (.iconst 5, 1) := by decide +kernel
theorem dX2_copyFrom_39 : decode cX2_copyFrom 39 = .ok (.invokestatic 54, 3) := by decide +kernel
theorem dX2_copyFrom_42 : decode cX2_copyFrom 42 = .ok (.aload_n 1, 1) := by decide +kernel
theorem dX2_copyFrom_43 : decode cX2_copyFrom 43 = .ok (.getfield 21, 3) := by decide +kernel
theorem dX2_copyFrom_46 : decode cX2_copyFrom 46 = .ok (.iconst 0, 1) := by decide +kernel
theorem dX2_copyFrom_47 : decode cX2_copyFrom 47 = .ok (.aload_n 0, 1) := by decide +kernel
theorem dX2_copyFrom_48 : decode cX2_copyFrom 48 = .ok (.getfield 21, 3) := by decide +kernel
theorem dX2_copyFrom_51 : decode cX2_copyFrom 51 = .ok (.iconst 0, 1) := by decide +kernel
theorem dX2_copyFrom_52 : decode cX2_copyFrom 52 = .ok (.iconst 5, 1) := by decide +kernel
theorem dX2_copyFrom_53 : decode cX2_copyFrom 53 = .ok (.invokestatic 54, 3) := by decide +kernel
theorem dX2_copyFrom_56 : decode cX2_copyFrom 56 = .ok (.aload_n 1, 1) := by decide +kernel
theorem dX2_copyFrom_57 : decode cX2_copyFrom 57 = .ok (.getfield 24, 3) := by decide +kernel
theorem dX2_copyFrom_60 : decode cX2_copyFrom 60 = .ok (.iconst 0, 1) := by decide +kernel
theorem dX2_copyFrom_61 : decode cX2_copyFrom 61 = .ok (.aload_n 0, 1) := by decide +kernel
theorem dX2_copyFrom_62 : decode cX2_copyFrom 62 = .ok (.getfield 24, 3) := by decide +kernel
theorem dX2_copyFrom_65 : decode cX2_copyFrom 65 = .ok (.iconst 0, 1) := by decide +kernel
theorem dX2_copyFrom_66 : decode cX2_copyFrom 66 = .ok (.iconst 5, 1) := by decide +kernel
theorem dX2_copyFrom_67 : decode cX2_copyFrom 67 = .ok (.invokestatic 54, 3) := by decide +kernel
theorem dX2_copyFrom_70 : decode cX2_copyFrom 70 = .ok (.aload_n 1, 1) := by decide +kernel
theorem dX2_copyFrom_71 : decode cX2_copyFrom 71 = .ok (.getfield 28, 3) := by decide +kernel
theorem dX2_copyFrom_74 : decode cX2_copyFrom 74 = .ok (.iconst 0, 1) := by decide +kernel
theorem dX2_copyFrom_75 : decode cX2_copyFrom 75 = .ok (.aload_n 0, 1) := by decide +kernel
theorem dX2_copyFrom_76 : decode cX2_copyFrom 76 = .ok (.getfield 28, 3) := by decide +kernel
theorem dX2_copyFrom_79 : decode cX2_copyFrom 79 = .ok (.iconst 0, 1) := by decide +kernel
theorem dX2_copyFrom_80 : decode cX2_copyFrom 80 = .ok (.iconst 5, 1) := by decide +kernel
theorem dX2_copyFrom_81 : decode cX2_copyFrom 81 = .ok (.invokestatic 54, 3) := by decide +kernel
theorem dX2_copyFrom_84 : decode cX2_copyFrom 84 = .ok (.aload_n 1, 1) := by decide +kernel
theorem dX2_copyFrom_85 : decode cX2_copyFrom 85 = .ok (.getfield 31, 3) := by decide +kernel
theorem dX2_copyFrom_88 : decode cX2_copyFrom 88 = .ok (.iconst 0, 1) := by decide +kernel
theorem dX2_copyFrom_89 : decode cX2_copyFrom 89 = .ok (.aload_n 0, 1) := by decide +kernel
theorem dX2_copyFrom_90 : decode cX2_copyFrom 90 = .ok (.getfield 31, 3) := by decide +kernel
theorem dX2_copyFrom_93 : decode cX2_copyFrom 93 = .ok (.iconst 0, 1) := by decide +kernel
theorem dX2_copyFrom_94 : decode cX2_copyFrom 94 = .ok (.iconst 5, 1) := by decide +kernel
theorem dX2_copyFrom_95 : decode cX2_copyFrom 95 = .ok (.invokestatic 54, 3) := by decide +kernel
theorem dX2_copyFrom_98 : decode cX2_copyFrom 98 = .ok (.aload_n 1, 1) := by decide +kernel
theorem dX2_copyFrom_99 : decode cX2_copyFrom 99 = .ok (.getfield 34, 3) := by decide +kernel
theorem dX2_copyFrom_102 : decode cX2_copyFrom 102 = .ok (.iconst 0, 1) := by decide +kernel
theorem dX2_copyFrom_103 : decode cX2_copyFrom 103 = .ok (.aload_n 0, 1) := by decide +kernel
theorem dX2_copyFrom_104 : decode cX2_copyFrom 104 = .ok (.getfield 34, 3) := by decide +kernel
theorem dX2_copyFrom_107 : decode cX2_copyFrom 107 = .ok (.iconst 0, 1) := by decide +kernel
theorem dX2_copyFrom_108 : decode cX2_copyFrom 108 = .ok (.iconst 5, 1) := by decide +kernel
theorem dX2_copyFrom_109 : decode cX2_copyFrom 109 = .ok (.invokestatic 54, 3) := by decide +kernel
theorem dX2_copyFrom_112 : decode cX2_copyFrom 112 = .ok (.aload_n 1, 1) := by decide +kernel
theorem dX2_copyFrom_113 : decode cX2_copyFrom 113 = .ok (.getfield 37, 3) := by decide +kernel
theorem dX2_copyFrom_116 : decode cX2_copyFrom 116 = .ok (.iconst 0, 1) := by decide +kernel
theorem dX2_copyFrom_117 : decode cX2_copyFrom 117 = .ok (.aload_n 0, 1) := by decide +kernel
theorem dX2_copyFrom_118 : decode cX2_copyFrom 118 = .ok (.getfield 37, 3) := by decide +kernel
theorem dX2_copyFrom_121 : decode cX2_copyFrom 121 = .ok (.iconst 0, 1) := by decide +kernel
theorem dX2_copyFrom_122 : decode cX2_copyFrom 122 = .ok (.iconst 5, 1) := by decide +kernel
theorem dX2_copyFrom_123 : decode cX2_copyFrom 123 = .ok (.invokestatic 54, 3) := by decide +kernel
theorem dX2_copyFrom_126 : decode cX2_copyFrom 126 = .ok (.aload_n 1, 1) := by decide +kernel
theorem dX2_copyFrom_127 : decode cX2_copyFrom 127 = .ok (.getfield 40, 3) := by decide +kernel
theorem dX2_copyFrom_130 : decode cX2_copyFrom 130 = .ok (.iconst 0, 1) := by decide +kernel
theorem dX2_copyFrom_131 : decode cX2_copyFrom 131 = .ok (.aload_n 0, 1) := by decide +kernel
theorem dX2_copyFrom_132 : decode cX2_copyFrom 132 = .ok (.getfield 40, 3) := by decide +kernel
theorem dX2_copyFrom_135 : decode cX2_copyFrom 135 = .ok (.iconst 0, 1) := by decide +kernel
theorem dX2_copyFrom_136 : decode cX2_copyFrom 136 = .ok (.iconst 5, 1) := by decide +kernel
theorem dX2_copyFrom_137 : decode cX2_copyFrom 137 = .ok (.invokestatic 54, 3) := by decide +kernel
theorem dX2_copyFrom_140 : decode cX2_copyFrom 140 = .ok (.aload_n 0, 1) := by decide +kernel
theorem dX2_copyFrom_141 : decode cX2_copyFrom 141 = .ok (.aload_n 1, 1) := by decide +kernel
theorem dX2_copyFrom_142 : decode cX2_copyFrom 142 = .ok (.getfield 43, 3) := by decide +kernel
theorem dX2_copyFrom_145 : decode cX2_copyFrom 145 = .ok (.putfield 43, 3) := by decide +kernel
theorem dX2_copyFrom_148 : decode cX2_copyFrom 148 = .ok (.aload_n 0, 1) := by decide +kernel
theorem dX2_copyFrom_149 : decode cX2_copyFrom 149 = .ok (.aload_n 1, 1) := by decide +kernel
theorem dX2_copyFrom_150 : decode cX2_copyFrom 150 = .ok (.getfield 47, 3) := by decide +kernel
theorem dX2_copyFrom_153 : decode cX2_copyFrom 153 = .ok (.putfield 47, 3) := by decide +kernel
theorem dX2_copyFrom_156 : decode cX2_copyFrom 156 = .ok (.aload_n 0, 1) := by decide +kernel
theorem dX2_copyFrom_157 : decode cX2_copyFrom 157 = .ok (.aload_n 1, 1) := by decide +kernel
theorem dX2_copyFrom_158 : decode cX2_copyFrom 158 = .ok (.getfield 51, 3) := by decide +kernel
theorem dX2_copyFrom_161 : decode cX2_copyFrom 161 = .ok (.putfield 51, 3) := by decide +kernel
theorem dX2_copyFrom_164 : decode cX2_copyFrom 164 = .ok (.return_, 1) := by decide +kernel
theorem dX2_playerAt_0 : decode cX2_playerAt 0 = .ok (.iconst 0, 1) := by decide +kernel
theorem dX2_playerAt_1 : decode cX2_playerAt 1 = .ok (.istore_n 2, 1) := by decide +kernel
theorem dX2_playerAt_2 : decode cX2_playerAt 2 = .ok (.iload_n 2, 1) := by decide +kernel
theorem dX2_playerAt_3 : decode cX2_playerAt 3 = .ok (.iconst 5, 1) := by decide +kernel
theorem dX2_playerAt_4 : decode cX2_playerAt 4 = .ok (.if_icmp .ge 21, 3) := by decide +kernel
theorem dX2_playerAt_7 : decode cX2_playerAt 7 = .ok (.aload_n 0, 1) := by decide +kernel
theorem dX2_playerAt_8 : decode cX2_playerAt 8 = .ok (.getfield 24, 3) := by decide +kernel
theorem dX2_playerAt_11 : decode cX2_playerAt 11 = .ok (.iload_n 2, 1) := by decide +kernel
theorem dX2_playerAt_12 : decode cX2_playerAt 12 = .ok (.iaload, 1) := by decide +kernel
theorem dX2_playerAt_13 : decode cX2_playerAt 13 = .ok (.iload_n 1, 1) := by decide +kernel
theorem dX2_playerAt_14 : decode cX2_playerAt 14 = .ok (.if_icmp .ne 5, 3) := by decide +kernel
theorem dX2_playerAt_17 : decode cX2_playerAt 17 = .ok (.iload_n 2, 1) := by decide +kernel
theorem dX2_playerAt_18 : decode cX2_playerAt 18 = .ok (.ireturn, 1) := by decide +kernel
theorem dX2_playerAt_19 : decode cX2_playerAt 19 = .ok (.iinc 2 1, 3) := by decide +kernel
theorem dX2_playerAt_22 : decode cX2_playerAt 22 = .ok (.goto (-20), 3) := by decide +kernel
theorem dX2_playerAt_25 : decode cX2_playerAt 25 = .ok (.ldc 27, 2) := by decide +kernel
theorem dX2_playerAt_27 : decode cX2_playerAt 27 = .ok (.ireturn, 1) := by decide +kernel
theorem dX2_playersLeft_0 : decode cX2_playersLeft 0 = .ok (.aload_n 0, 1) := by decide +kernel
theorem dX2_playersLeft_1 : decode cX2_playersLeft 1 = .ok (.getfield 43, 3) := by decide +kernel
theorem dX2_playersLeft_4 : decode cX2_playersLeft 4 = .ok (.ifCond .ne 5, 3) := by decide +kernel
theorem dX2_playersLeft_7 : decode cX2_playersLeft 7 = .ok (.iconst 0, 1) := by decide +kernel
theorem dX2_playersLeft_8 : decode cX2_playersLeft 8 = .ok (.ireturn, 1) := by decide +kernel
theorem dX2_playersLeft_9 : decode cX2_playersLeft 9 = .ok (.iconst 0, 1) := by decide +kernel
theorem dX2_playersLeft_10 : decode cX2_playersLeft 10 = .ok (.istore_n 1, 1) := by decide +kernel
theorem dX2_playersLeft_11 : decode cX2_playersLeft 11 = .ok (.iconst 0, 1) := by decide +kernel
theorem dX2_playersLeft_12 : decode cX2_playersLeft 12 = .ok (.istore_n 2, 1) := by decide +kernel
theorem dX2_playersLeft_13 : decode cX2_playersLeft 13 = .ok (.iload_n 2, 1) := by decide +kernel
theorem dX2_playersLeft_14 : decode cX2_playersLeft 14 = .ok (.iconst 5, 1) := by decide +kernel
theorem dX2_playersLeft_15 : decode cX2_playersLeft 15 = .ok (.if_icmp .ge 26, 3) := by decide +kernel
theorem dX2_playersLeft_18 : decode cX2_playersLeft 18 = .ok (.aload_n 0, 1) := by decide +kernel
theorem dX2_playersLeft_19 : decode cX2_playersLeft 19 = .ok (.getfield 31, 3) := by decide +kernel
theorem dX2_playersLeft_22 : decode cX2_playersLeft 22 = .ok (.iload_n 2, 1) := by decide +kernel
theorem dX2_playersLeft_23 : decode cX2_playersLeft 23 = .ok (.iaload, 1) := by decide +kernel
theorem dX2_playersLeft_24 : decode cX2_playersLeft 24 = .ok (.ldc 27, 2) := by decide +kernel
theorem dX2_playersLeft_26 : decode cX2_playersLeft 26 = .ok (.if_icmp .ne 9, 3) := by decide +kernel
theorem dX2_playersLeft_29 : decode cX2_playersLeft 29 = .ok (.iload_n 1, 1) := by decide +kernel
theorem dX2_playersLeft_30 : decode cX2_playersLeft 30 = .ok (.iconst 1, 1) := by decide +kernel
theorem dX2_playersLeft_31 : decode cX2_playersLeft 31 = .ok (.iload_n 2, 1) := by decide +kernel
theorem dX2_playersLeft_32 : decode cX2_playersLeft 32 = .ok (.ishl, 1) := by decide +kernel
theorem dX2_playersLeft_33 : decode cX2_playersLeft 33 = .ok (.ior, 1) := by decide +kernel
theorem dX2_playersLeft_34 : decode cX2_playersLeft 34 = .ok (.istore_n 1, 1) := by decide +kernel
theorem dX2_playersLeft_35 : decode cX2_playersLeft 35 = .ok (.iinc 2 1, 3) := by decide +kernel
theorem dX2_playersLeft_38 : decode cX2_playersLeft 38 = .ok (.goto (-25), 3) := by decide +kernel
theorem dX2_playersLeft_41 : decode cX2_playersLeft 41 = .ok (.iload_n 1, 1) := by decide +kernel
theorem dX2_playersLeft_42 : decode cX2_playersLeft 42 = .ok (.ireturn, 1) := by decide +kernel
theorem dX2_highestBid_0 : decode cX2_highestBid 0 = .ok (.ldc 27, 2) := by decide +kernel
theorem dX2_highestBid_2 : decode cX2_highestBid 2 = .ok (.istore_n 1, 1) := by decide +kernel
theorem dX2_highestBid_3 : decode cX2_highestBid 3 = .ok (.aload_n 0, 1) := by decide +kernel
theorem dX2_highestBid_4 : decode cX2_highestBid 4 = .ok (.getfield 28, 3) := by decide +kernel
theorem dX2_highestBid_7 : decode cX2_highestBid 7 = .ok (.astore_n 2, 1) := by decide +kernel
theorem dX2_highestBid_8 : decode cX2_highestBid 8 = .ok (.aload_n 2, 1) := by decide +kernel
theorem dX2_highestBid_9 : decode cX2_highestBid 9 = .ok (.arraylength, 1) := by decide +kernel
theorem dX2_highestBid_10 : decode cX2_highestBid 10 = .ok (.istore_n 3, 1) := by decide +kernel
theorem dX2_highestBid_11 : decode cX2_highestBid 11 = .ok (.iconst 0, 1) := by decide +kernel
theorem dX2_highestBid_12 : decode cX2_highestBid 12 = .ok (.istore 4, 2) := by decide +kernel
theorem dX2_highestBid_14 : decode cX2_highestBid 14 = .ok (.iload 4, 2) := by decide +kernel
theorem dX2_highestBid_16 : decode cX2_highestBid 16 = .ok (.iload_n 3, 1) := by decide +kernel
theorem dX2_highestBid_17 : decode cX2_highestBid 17 = .ok (.if_icmp .ge 24, 3) := by decide +kernel
theorem dX2_highestBid_20 : decode cX2_highestBid 20 = .ok (.aload_n 2, 1) := by decide +kernel
theorem dX2_highestBid_21 : decode cX2_highestBid 21 = .ok (.iload 4, 2) := by decide +kernel
theorem dX2_highestBid_23 : decode cX2_highestBid 23 = .ok (.iaload, 1) := by decide +kernel
theorem dX2_highestBid_24 : decode cX2_highestBid 24 = .ok (.istore 5, 2) := by decide +kernel
theorem dX2_highestBid_26 : decode cX2_highestBid 26 = .ok (.iload 5, 2) := by decide +kernel
theorem dX2_highestBid_28 : decode cX2_highestBid 28 = .ok (.iload_n 1, 1) := by decide +kernel
theorem dX2_highestBid_29 : decode cX2_highestBid 29 = .ok (.if_icmp .le 6, 3) := by decide +kernel
theorem dX2_highestBid_32 : decode cX2_highestBid 32 = .ok (.iload 5, 2) := by decide +kernel
theorem dX2_highestBid_34 : decode cX2_highestBid 34 = .ok (.istore_n 1, 1) := by decide +kernel
theorem dX2_highestBid_35 : decode cX2_highestBid 35 = .ok (.iinc 4 1, 3) := by decide +kernel
theorem dX2_highestBid_38 : decode cX2_highestBid 38 = .ok (.goto (-24), 3) := by decide +kernel
theorem dX2_highestBid_41 : decode cX2_highestBid 41 = .ok (.iload_n 1, 1) := by decide +kernel
theorem dX2_highestBid_42 : decode cX2_highestBid 42 = .ok (.ireturn, 1) := by decide +kernel
set_option maxRecDepth 20000 in
theorem ggX2_leastBid_X2_highestBid : GoodIn wsX2_leastBid wsX2_highestBid := goodIn_r _ [8, 2, 9, 10, 11, 12, 13, 14, 15, 16, 17, 18, 19, 20, 21, 22] (by decide +kernel) (by decide +kernel)
set_option maxRecDepth 20000 in
theorem gX2_leastBid_X2_highestBid : GoodIn wsX2_leastBid (wsV RX2 60 RX2 yX2_highestBid wsX2_highestBid) := goodIn_app (goodIn_of _ (by decide +kernel)) ggX2_leastBid_X2_highestBid
theorem dX2_leastBid_0 : decode cX2_leastBid 0 = .ok (.aload_n 0, 1) := by decide +kernel
theorem dX2_leastBid_1 : decode cX2_leastBid 1 = .ok (.getfield 43, 3) := by decide +kernel
theorem dX2_leastBid_4 : decode cX2_leastBid 4 = .ok (.ifCond .ne 6, 3) := by decide +kernel
theorem dX2_leastBid_7 : decode cX2_leastBid 7 = .ok (.ldc 27, 2) := by decide +kernel
theorem dX2_leastBid_9 : decode cX2_leastBid 9 = .ok (.ireturn, 1) := by decide +kernel
theorem dX2_leastBid_10 : decode cX2_leastBid 10 = .ok (.aload_n 0, 1) := by decide +kernel
theorem dX2_leastBid_11 : decode cX2_leastBid 11 = .ok (.invokevirtual 60, 3) := by decide +kernel
theorem dX2_leastBid_14 : decode cX2_leastBid 14 = .ok (.istore_n 1, 1) := by decide +kernel
theorem dX2_leastBid_15 : decode cX2_leastBid 15 = .ok (.iload_n 1, 1) := by decide +kernel
theorem dX2_leastBid_16 : decode cX2_leastBid 16 = .ok (.ldc 27, 2) := by decide +kernel
theorem dX2_leastBid_18 : decode cX2_leastBid 18 = .ok (.if_icmp .ne 12, 3) := by decide +kernel
theorem dX2_leastBid_21 : decode cX2_leastBid 21 = .ok (.aload_n 0, 1) := by decide +kernel
theorem dX2_leastBid_22 : decode cX2_leastBid 22 = .ok (.getfield 9, 3) := by decide +kernel
theorem dX2_leastBid_25 : decode cX2_leastBid 25 = .ok (.iconst 1, 1) := by decide +kernel
theorem dX2_leastBid_26 : decode cX2_leastBid 26 = .ok (.iaload, 1) := by decide +kernel
theorem dX2_leastBid_27 : decode cX2_leastBid 27 = .ok (.goto 11, 3) := by decide +kernel
theorem dX2_leastBid_30 : decode cX2_leastBid 30 = .ok (.iload_n 1, 1) := by decide +kernel
theorem dX2_leastBid_31 : decode cX2_leastBid 31 = .ok (.aload_n 0, 1) := by decide +kernel
theorem dX2_leastBid_32 : decode cX2_leastBid 32 = .ok (.getfield 9, 3) := by decide +kernel
theorem dX2_leastBid_35 : decode cX2_leastBid 35 = .ok (.iconst 0, 1) := by decide +kernel
theorem dX2_leastBid_36 : decode cX2_leastBid 36 = .ok (.iaload, 1) := by decide +kernel
theorem dX2_leastBid_37 : decode cX2_leastBid 37 = .ok (.iadd, 1) := by decide +kernel
theorem dX2_leastBid_38 : decode cX2_leastBid 38 = .ok (.ireturn, 1) := by decide +kernel
set_option maxRecDepth 20000 in
theorem ggX2_hasToCover_X3_isPlayer : GoodIn wsX2_hasToCover wsX3_isPlayer := goodIn_r _ [10] (by decide +kernel) (by decide +kernel)
set_option maxRecDepth 20000 in
theorem gX2_hasToCover_X3_isPlayer_n64 : GoodIn wsX2_hasToCover (wsX3_isPlayer) := ggX2_hasToCover_X3_isPlayer
theorem dX2_hasToCover_0 : decode cX2_hasToCover 0 = .ok (.iload_n 1, 1) := by decide +kernel
theorem dX2_hasToCover_1 : decode cX2_hasToCover 1 = .ok (.invokestatic 64, 3) := by decide +kernel
theorem dX2_hasToCover_4 : decode cX2_hasToCover 4 = .ok (.ifCond .eq 14, 3) := by decide +kernel
theorem dX2_hasToCover_7 : decode cX2_hasToCover 7 = .ok (.aload_n 0, 1) := by decide +kernel
theorem dX2_hasToCover_8 : decode cX2_hasToCover 8 = .ok (.getfield 31, 3) := by decide +kernel
theorem dX2_hasToCover_11 : decode cX2_hasToCover 11 = .ok (.iload_n 1, 1) := by decide +kernel
theorem dX2_hasToCover_12 : decode cX2_hasToCover 12 = .ok (.iaload, 1) := by decide +kernel
theorem dX2_hasToCover_13 : decode cX2_hasToCover 13 = .ok (.ldc 27, 2) := by decide +kernel
theorem dX2_hasToCover_15 : decode cX2_hasToCover 15 = .ok (.if_icmp .eq 5, 3) := by decide +kernel
theorem dX2_hasToCover_18 : decode cX2_hasToCover 18 = .ok (.iconst 0, 1) := by decide +kernel
theorem dX2_hasToCover_19 : decode cX2_hasToCover 19 = .ok (.ireturn, 1) := by decide +kernel
theorem dX2_hasToCover_20 : decode cX2_hasToCover 20 = .ok (.iconst 0, 1) := by decide +kernel
theorem dX2_hasToCover_21 : decode cX2_hasToCover 21 = .ok (.aload_n 0, 1) := by decide +kernel
theorem dX2_hasToCover_22 : decode cX2_hasToCover 22 = .ok (.getfield 28, 3) := by decide +kernel
theorem dX2_hasToCover_25 : decode cX2_hasToCover 25 = .ok (.iload_n 1, 1) := by decide +kernel
theorem dX2_hasToCover_26 : decode cX2_hasToCover 26 = .ok (.iaload, 1) := by decide +kernel
theorem dX2_hasToCover_27 : decode cX2_hasToCover 27 = .ok (.invokestatic 68, 3) := by decide +kernel
theorem dX2_hasToCover_30 : decode cX2_hasToCover 30 = .ok (.ireturn, 1) := by decide +kernel
set_option maxRecDepth 20000 in
theorem ggX2_mayBid_X3_isPlayer : GoodIn wsX2_mayBid wsX3_isPlayer := goodIn_r _ [6] (by decide +kernel) (by decide +kernel)
set_option maxRecDepth 20000 in
theorem gX2_mayBid_X3_isPlayer_n64 : GoodIn wsX2_mayBid (wsX3_isPlayer) := ggX2_mayBid_X3_isPlayer
set_option maxRecDepth 20000 in
theorem ggX2_mayBid_X2_leastBid : GoodIn wsX2_mayBid wsX2_leastBid := goodIn_r _ [11, 1, 12, 13, 14, 15, 16, 10, 17, 18, 19, 20, 21, 22, 23, 24, 25, 26, 27, 28, 29, 30, 31] (by decide +kernel) (by decide +kernel)
set_option maxRecDepth 20000 in
theorem gX2_mayBid_X2_leastBid : GoodIn wsX2_mayBid (wsV RX2 74 RX2 yX2_leastBid wsX2_leastBid) := goodIn_app (goodIn_of _ (by decide +kernel)) ggX2_mayBid_X2_leastBid
theorem dX2_mayBid_0 : decode cX2_mayBid 0 = .ok (.aload_n 0, 1) := by decide +kernel
theorem dX2_mayBid_1 : decode cX2_mayBid 1 = .ok (.getfield 43, 3) := by decide +kernel
theorem dX2_mayBid_4 : decode cX2_mayBid 4 = .ok (.ifCond .eq 38, 3) := by decide +kernel
theorem dX2_mayBid_7 : decode cX2_mayBid 7 = .ok (.aload_n 0, 1) := by decide +kernel
theorem dX2_mayBid_8 : decode cX2_mayBid 8 = .ok (.getfield 47, 3) := by decide +kernel
theorem dX2_mayBid_11 : decode cX2_mayBid 11 = .ok (.invokestatic 64, 3) := by decide +kernel
theorem dX2_mayBid_14 : decode cX2_mayBid 14 = .ok (.ifCond .eq 28, 3) := by decide +kernel
theorem dX2_mayBid_17 : decode cX2_mayBid 17 = .ok (.iload_n 1, 1) := by decide +kernel
theorem dX2_mayBid_18 : decode cX2_mayBid 18 = .ok (.aload_n 0, 1) := by decide +kernel
theorem dX2_mayBid_19 : decode cX2_mayBid 19 = .ok (.invokevirtual 74, 3) := by decide +kernel
theorem dX2_mayBid_22 : decode cX2_mayBid 22 = .ok (.if_icmp .lt 20, 3) := by decide +kernel
theorem dX2_mayBid_25 : decode cX2_mayBid 25 = .ok (.iload_n 1, 1) := by decide +kernel
theorem dX2_mayBid_26 : decode cX2_mayBid 26 = .ok (.aload_n 0, 1) := by decide +kernel
theorem dX2_mayBid_27 : decode cX2_mayBid 27 = .ok (.getfield 18, 3) := by decide +kernel
theorem dX2_mayBid_30 : decode cX2_mayBid 30 = .ok (.aload_n 0, 1) := by decide +kernel
theorem dX2_mayBid_31 : decode cX2_mayBid 31 = .ok (.getfield 47, 3) := by decide +kernel
theorem dX2_mayBid_34 : decode cX2_mayBid 34 = .ok (.iaload, 1) := by decide +kernel
theorem dX2_mayBid_35 : decode cX2_mayBid 35 = .ok (.if_icmp .gt 7, 3) := by decide +kernel
theorem dX2_mayBid_38 : decode cX2_mayBid 38 = .ok (.iconst 1, 1) := by decide +kernel
theorem dX2_mayBid_39 : decode cX2_mayBid 39 = .ok (.goto 4, 3) := by decide +kernel
theorem dX2_mayBid_42 : decode cX2_mayBid 42 = .ok (.iconst 0, 1) := by decide +kernel
theorem dX2_mayBid_43 : decode cX2_mayBid 43 = .ok (.ireturn, 1) := by decide +kernel
set_option maxRecDepth 20000 in
theorem ggX2_start_X2_playerAt : GoodIn wsX2_start wsX2_playerAt := goodIn_r _ [7, 8, 9, 10, 11, 12, 13, 14, 15, 16, 17, 18, 19, 20, 21, 22] (by decide +kernel) (by decide +kernel)
set_option maxRecDepth 20000 in
theorem gX2_start_X2_playerAt : GoodIn wsX2_start (wsV RX2 77 RX2 yX2_playerAt wsX2_playerAt) := goodIn_app (goodIn_of _ (by decide +kernel)) ggX2_start_X2_playerAt
theorem dX2_start_0 : decode cX2_start 0 = .ok (.aload_n 0, 1) := by decide +kernel
theorem dX2_start_1 : decode cX2_start 1 = .ok (.iconst 1, 1) := by decide +kernel
theorem dX2_start_2 : decode cX2_start 2 = .ok (.putfield 43, 3) := by decide +kernel
theorem dX2_start_5 : decode cX2_start 5 = .ok (.aload_n 0, 1) := by decide +kernel
theorem dX2_start_6 : decode cX2_start 6 = .ok (.aload_n 0, 1) := by decide +kernel
theorem dX2_start_7 : decode cX2_start 7 = .ok (.iconst 0, 1) := by decide +kernel
theorem dX2_start_8 : decode cX2_start 8 = .ok (.invokevirtual 77, 3) := by decide +kernel
theorem dX2_start_11 : decode cX2_start 11 = .ok (.putfield 47, 3) := by decide +kernel
theorem dX2_start_14 : decode cX2_start 14 = .ok (.aload_n 0, 1) := by decide +kernel
theorem dX2_start_15 : decode cX2_start 15 = .ok (.getfield 47, 3) := by decide +kernel
theorem dX2_start_18 : decode cX2_start 18 = .ok (.ireturn, 1) := by decide +kernel
set_option maxRecDepth 20000 in
theorem ggX2_takeBid_X3_isPlayer : GoodIn wsX2_takeBid wsX3_isPlayer := goodIn_r _ [5] (by decide +kernel) (by decide +kernel)
set_option maxRecDepth 20000 in
theorem gX2_takeBid_X3_isPlayer_n64 : GoodIn wsX2_takeBid (wsX3_isPlayer) := ggX2_takeBid_X3_isPlayer
set_option maxRecDepth 20000 in
theorem ggX2_takeBid_X2_passTurn : GoodIn wsX2_takeBid wsX2_passTurn := goodIn_r _ [10, 1, 11, 12, 13, 3, 4, 5, 14, 15, 16, 9, 17, 18, 19, 20, 21, 22, 23, 24, 25, 26, 27, 28, 29, 30] (by decide +kernel) (by decide +kernel)
set_option maxRecDepth 20000 in
theorem gX2_takeBid_X2_passTurn : GoodIn wsX2_takeBid (wsV RX2 81 RX2 yX2_passTurn wsX2_passTurn) := goodIn_app (goodIn_of _ (by decide +kernel)) ggX2_takeBid_X2_passTurn
theorem dX2_takeBid_0 : decode cX2_takeBid 0 = .ok (.aload_n 0, 1) := by decide +kernel
theorem dX2_takeBid_1 : decode cX2_takeBid 1 = .ok (.getfield 47, 3) := by decide +kernel
theorem dX2_takeBid_4 : decode cX2_takeBid 4 = .ok (.invokestatic 64, 3) := by decide +kernel
theorem dX2_takeBid_7 : decode cX2_takeBid 7 = .ok (.ifCond .eq 13, 3) := by decide +kernel
theorem dX2_takeBid_10 : decode cX2_takeBid 10 = .ok (.aload_n 0, 1) := by decide +kernel
theorem dX2_takeBid_11 : decode cX2_takeBid 11 = .ok (.getfield 28, 3) := by decide +kernel
theorem dX2_takeBid_14 : decode cX2_takeBid 14 = .ok (.aload_n 0, 1) := by decide +kernel
theorem dX2_takeBid_15 : decode cX2_takeBid 15 = .ok (.getfield 47, 3) := by decide +kernel
theorem dX2_takeBid_18 : decode cX2_takeBid 18 = .ok (.iload_n 1, 1) := by decide +kernel
theorem dX2_takeBid_19 : decode cX2_takeBid 19 = .ok (.iastore, 1) := by decide +kernel
theorem dX2_takeBid_20 : decode cX2_takeBid 20 = .ok (.aload_n 0, 1) := by decide +kernel
theorem dX2_takeBid_21 : decode cX2_takeBid 21 = .ok (.invokevirtual 81, 3) := by decide +kernel
theorem dX2_takeBid_24 : decode cX2_takeBid 24 = .ok (.aload_n 0, 1) := by decide +kernel
theorem dX2_takeBid_25 : decode cX2_takeBid 25 = .ok (.getfield 47, 3) := by decide +kernel
theorem dX2_takeBid_28 : decode cX2_takeBid 28 = .ok (.ireturn, 1) := by decide +kernel
set_option maxRecDepth 20000 in
theorem ggX2_dropOut_X3_isPlayer : GoodIn wsX2_dropOut wsX3_isPlayer := goodIn_r _ [7] (by decide +kernel) (by decide +kernel)
set_option maxRecDepth 20000 in
theorem gX2_dropOut_X3_isPlayer_n64 : GoodIn wsX2_dropOut (wsX3_isPlayer) := ggX2_dropOut_X3_isPlayer
set_option maxRecDepth 20000 in
theorem ggX2_dropOut_X2_playersLeft : GoodIn wsX2_dropOut wsX2_playersLeft := goodIn_r _ [12, 13, 3, 2, 53, 54, 55, 56, 57, 58, 59, 60, 61, 62, 63, 64, 65] (by decide +kernel) (by decide +kernel)
set_option maxRecDepth 20000 in
theorem gX2_dropOut_X2_playersLeft : GoodIn wsX2_dropOut (wsV RX2 84 RX2 yX2_playersLeft wsX2_playersLeft) := goodIn_app (goodIn_of _ (by decide +kernel)) ggX2_dropOut_X2_playersLeft
set_option maxRecDepth 20000 in
theorem ggX2_dropOut_J6_bitCount_0f7a4 : GoodIn wsX2_dropOut wsJ6_bitCount_0f7a4 := goodIn_r _ [17, 18, 19, 20] (by decide +kernel) (by decide +kernel)
set_option maxRecDepth 20000 in
theorem gX2_dropOut_J6_bitCount_0f7a4 : GoodIn wsX2_dropOut (va_wsS RX2 87 yJ6_bitCount_0f7a4 wsJ6_bitCount_0f7a4) := goodIn_app (goodIn_of _ (by decide +kernel)) ggX2_dropOut_J6_bitCount_0f7a4
set_option maxRecDepth 20000 in
theorem ggX2_dropOut_X2_pay : GoodIn wsX2_dropOut wsX2_pay := goodIn_r _ [24, 25, 2, 26, 27, 5, 6, 7, 53, 54, 55, 56, 57, 58, 59, 60, 61, 62, 63, 64, 65] (by decide +kernel) (by decide +kernel)
set_option maxRecDepth 20000 in
theorem gX2_dropOut_X2_pay : GoodIn wsX2_dropOut (wsV RX2 92 RX2 yX2_pay wsX2_pay) := goodIn_app (goodIn_of _ (by decide +kernel)) ggX2_dropOut_X2_pay
set_option maxRecDepth 20000 in
theorem ggX2_dropOut_X2_endAuction : GoodIn wsX2_dropOut wsX2_endAuction := goodIn_r _ [31, 3, 2, 32, 4, 33, 26, 34, 35, 36, 37, 38, 25, 13, 1, 39, 21, 22, 23, 11, 24, 27, 5, 6, 7, 40, 41, 42, 43, 44, 53, 54, 55, 56, 57, 58, 59, 60, 61, 62, 63, 64, 65] (by decide +kernel) (by decide +kernel)
set_option maxRecDepth 20000 in
theorem gX2_dropOut_X2_endAuction : GoodIn wsX2_dropOut (wsV RX2 96 RX2 yX2_endAuction wsX2_endAuction) := goodIn_app (goodIn_of _ (by decide +kernel)) ggX2_dropOut_X2_endAuction
set_option maxRecDepth 20000 in
theorem ggX2_dropOut_X2_passTurn : GoodIn wsX2_dropOut wsX2_passTurn := goodIn_r _ [48, 1, 33, 3, 2, 5, 6, 7, 49, 50, 51, 11, 52, 53, 54, 55, 56, 57, 58, 59, 60, 61, 62, 63, 64, 65] (by decide +kernel) (by decide +kernel)
set_option maxRecDepth 20000 in
theorem gX2_dropOut_X2_passTurn : GoodIn wsX2_dropOut (wsV RX2 81 RX2 yX2_passTurn wsX2_passTurn) := goodIn_app (goodIn_of _ (by decide +kernel)) ggX2_dropOut_X2_passTurn
theorem dX2_dropOut_0 : decode cX2_dropOut 0 = .ok (.aload_n 0, 1) := by decide +kernel
theorem dX2_dropOut_1 : decode cX2_dropOut 1 = .ok (.getfield 47, 3) := by decide +kernel
theorem dX2_dropOut_4 : decode cX2_dropOut 4 = .ok (.invokestatic 64, 3) := by decide +kernel
theorem dX2_dropOut_7 : decode cX2_dropOut 7 = .ok (.ifCond .ne 6, 3) := by decide +kernel
theorem dX2_dropOut_10 : decode cX2_dropOut 10 = .ok (.ldc 27, 2) := by decide +kernel
theorem dX2_dropOut_12 : decode cX2_dropOut 12 = .ok (.ireturn, 1) := by decide +kernel
theorem dX2_dropOut_13 : decode cX2_dropOut 13 = .ok (.aload_n 0, 1) := by decide +kernel
theorem dX2_dropOut_14 : decode cX2_dropOut 14 = .ok (.invokevirtual 84, 3) := by decide +kernel
theorem dX2_dropOut_17 : decode cX2_dropOut 17 = .ok (.invokestatic 87, 3) := by decide +kernel
theorem dX2_dropOut_20 : decode cX2_dropOut 20 = .ok (.iconst 1, 1) := by decide +kernel
theorem dX2_dropOut_21 : decode cX2_dropOut 21 = .ok (.isub, 1) := by decide +kernel
theorem dX2_dropOut_22 : decode cX2_dropOut 22 = .ok (.istore_n 1, 1) := by decide +kernel
theorem dX2_dropOut_23 : decode cX2_dropOut 23 = .ok (.aload_n 0, 1) := by decide +kernel
theorem dX2_dropOut_24 : decode cX2_dropOut 24 = .ok (.getfield 31, 3) := by decide +kernel
theorem dX2_dropOut_27 : decode cX2_dropOut 27 = .ok (.aload_n 0, 1) := by decide +kernel
theorem dX2_dropOut_28 : decode cX2_dropOut 28 = .ok (.getfield 47, 3) := by decide +kernel
theorem dX2_dropOut_31 : decode cX2_dropOut 31 = .ok (.iload_n 1, 1) := by decide +kernel
theorem dX2_dropOut_32 : decode cX2_dropOut 32 = .ok (.iastore, 1) := by decide +kernel
theorem dX2_dropOut_33 : decode cX2_dropOut 33 = .ok (.aload_n 0, 1) := by decide +kernel
theorem dX2_dropOut_34 : decode cX2_dropOut 34 = .ok (.aload_n 0, 1) := by decide +kernel
theorem dX2_dropOut_35 : decode cX2_dropOut 35 = .ok (.getfield 47, 3) := by decide +kernel
theorem dX2_dropOut_38 : decode cX2_dropOut 38 = .ok (.aload_n 0, 1) := by decide +kernel
theorem dX2_dropOut_39 : decode cX2_dropOut 39 = .ok (.getfield 9, 3) := by decide +kernel
theorem dX2_dropOut_42 : decode cX2_dropOut 42 = .ok (.iconst 3, 1) := by decide +kernel
theorem dX2_dropOut_43 : decode cX2_dropOut 43 = .ok (.iaload, 1) := by decide +kernel
theorem dX2_dropOut_44 : decode cX2_dropOut 44 = .ok (.iconst 0, 1) := by decide +kernel
theorem dX2_dropOut_45 : decode cX2_dropOut 45 = .ok (.invokevirtual 92, 3) := by decide +kernel
theorem dX2_dropOut_48 : decode cX2_dropOut 48 = .ok (.iload_n 1, 1) := by decide +kernel
theorem dX2_dropOut_49 : decode cX2_dropOut 49 = .ok (.iconst 1, 1) := by decide +kernel
theorem dX2_dropOut_50 : decode cX2_dropOut 50 = .ok (.if_icmp .ne 10, 3) := by decide +kernel
theorem dX2_dropOut_53 : decode cX2_dropOut 53 = .ok (.aload_n 0, 1) := by decide +kernel
theorem dX2_dropOut_54 : decode cX2_dropOut 54 = .ok (.invokevirtual 96, 3) := by decide +kernel
theorem dX2_dropOut_57 : decode cX2_dropOut 57 = .ok (.goto 7, 3) := by decide +kernel
theorem dX2_dropOut_60 : decode cX2_dropOut 60 = .ok (.aload_n 0, 1) := by decide +kernel
theorem dX2_dropOut_61 : decode cX2_dropOut 61 = .ok (.invokevirtual 81, 3) := by decide +kernel
theorem dX2_dropOut_64 : decode cX2_dropOut 64 = .ok (.aload_n 0, 1) := by decide +kernel
theorem dX2_dropOut_65 : decode cX2_dropOut 65 = .ok (.getfield 47, 3) := by decide +kernel
theorem dX2_dropOut_68 : decode cX2_dropOut 68 = .ok (.ireturn, 1) := by decide +kernel
set_option maxRecDepth 20000 in
theorem ggX2_actByLimit_X2_leastBid : GoodIn wsX2_actByLimit wsX2_leastBid := goodIn_r _ [7, 8, 9, 10, 11, 12, 13, 6, 14, 15, 74, 75, 76, 77, 78, 79, 80, 81, 82, 83, 84, 85, 86] (by decide +kernel) (by decide +kernel)
set_option maxRecDepth 20000 in
theorem gX2_actByLimit_X2_leastBid : GoodIn wsX2_actByLimit (wsV RX2 74 RX2 yX2_leastBid wsX2_leastBid) := goodIn_app (goodIn_of _ (by decide +kernel)) ggX2_actByLimit_X2_leastBid
set_option maxRecDepth 20000 in
theorem ggX2_actByLimit_X3_isPlayer : GoodIn wsX2_actByLimit wsX3_isPlayer := goodIn_r _ [18] (by decide +kernel) (by decide +kernel)
set_option maxRecDepth 20000 in
theorem gX2_actByLimit_X3_isPlayer_n64 : GoodIn wsX2_actByLimit (wsX3_isPlayer) := ggX2_actByLimit_X3_isPlayer
set_option maxRecDepth 20000 in
theorem ggX2_actByLimit_X2_mayBid : GoodIn wsX2_actByLimit wsX2_mayBid := goodIn_r _ [22, 8, 1, 23, 16, 17, 18, 3, 4, 5, 6, 7, 9, 10, 11, 12, 13, 14, 15, 74, 75, 76, 77, 78, 79, 80, 81, 82, 83, 84, 85, 86] (by decide +kernel) (by decide +kernel)
set_option maxRecDepth 20000 in
theorem gX2_actByLimit_X2_mayBid : GoodIn wsX2_actByLimit (wsV RX2 99 RX2 yX2_mayBid wsX2_mayBid) := goodIn_app (goodIn_of _ (by decide +kernel)) ggX2_actByLimit_X2_mayBid
set_option maxRecDepth 20000 in
theorem ggX2_actByLimit_X2_takeBid : GoodIn wsX2_actByLimit wsX2_takeBid := goodIn_r _ [27, 1, 15, 16, 17, 18, 28, 29, 30, 6, 31, 32, 33, 9, 34, 35, 36, 37, 74, 75, 76, 77, 78, 79, 80, 81, 82, 83, 84, 85, 86] (by decide +kernel) (by decide +kernel)
set_option maxRecDepth 20000 in
theorem gX2_actByLimit_X2_takeBid : GoodIn wsX2_actByLimit (wsV RX2 102 RX2 yX2_takeBid wsX2_takeBid) := goodIn_app (goodIn_of _ (by decide +kernel)) ggX2_actByLimit_X2_takeBid
set_option maxRecDepth 20000 in
theorem ggX2_actByLimit_X2_dropOut : GoodIn wsX2_actByLimit wsX2_dropOut := goodIn_r _ [41, 1, 9, 33, 10, 16, 17, 18, 42, 43, 44, 6, 45, 8, 46, 47, 48, 49, 50, 51, 52, 53, 54, 55, 56, 15, 23, 57, 58, 59, 60, 61, 62, 32, 63, 64, 65, 66, 67, 68, 69, 70, 71, 72, 73, 28, 29, 30, 31, 34, 35, 36, 37, 74, 75, 76, 77, 78, 79, 80, 81, 82, 83, 84, 85, 86] (by decide +kernel) (by decide +kernel)
set_option maxRecDepth 20000 in
theorem gX2_actByLimit_X2_dropOut : GoodIn wsX2_actByLimit (wsV RX2 105 RX2 yX2_dropOut wsX2_dropOut) := goodIn_app (goodIn_of _ (by decide +kernel)) ggX2_actByLimit_X2_dropOut
theorem dX2_actByLimit_0 : decode cX2_actByLimit 0 = .ok (.aload_n 0, 1) := by decide +kernel
theorem dX2_actByLimit_1 : decode cX2_actByLimit 1 = .ok (.invokevirtual 74, 3) := by decide +kernel
theorem dX2_actByLimit_4 : decode cX2_actByLimit 4 = .ok (.istore_n 1, 1) := by decide +kernel
theorem dX2_actByLimit_5 : decode cX2_actByLimit 5 = .ok (.aload_n 0, 1) := by decide +kernel
theorem dX2_actByLimit_6 : decode cX2_actByLimit 6 = .ok (.getfield 47, 3) := by decide +kernel
theorem dX2_actByLimit_9 : decode cX2_actByLimit 9 = .ok (.invokestatic 64, 3) := by decide +kernel
theorem dX2_actByLimit_12 : decode cX2_actByLimit 12 = .ok (.ifCond .eq 30, 3) := by decide +kernel
theorem dX2_actByLimit_15 : decode cX2_actByLimit 15 = .ok (.iload_n 1, 1) := by decide +kernel
theorem dX2_actByLimit_16 : decode cX2_actByLimit 16 = .ok (.aload_n 0, 1) := by decide +kernel
theorem dX2_actByLimit_17 : decode cX2_actByLimit 17 = .ok (.getfield 21, 3) := by decide +kernel
theorem dX2_actByLimit_20 : decode cX2_actByLimit 20 = .ok (.aload_n 0, 1) := by decide +kernel
theorem dX2_actByLimit_21 : decode cX2_actByLimit 21 = .ok (.getfield 47, 3) := by decide +kernel
theorem dX2_actByLimit_24 : decode cX2_actByLimit 24 = .ok (.iaload, 1) := by decide +kernel
theorem dX2_actByLimit_25 : decode cX2_actByLimit 25 = .ok (.if_icmp .gt 17, 3) := by decide +kernel
theorem dX2_actByLimit_28 : decode cX2_actByLimit 28 = .ok (.aload_n 0, 1) := by decide +kernel
theorem dX2_actByLimit_29 : decode cX2_actByLimit 29 = .ok (.iload_n 1, 1) := by decide +kernel
theorem dX2_actByLimit_30 : decode cX2_actByLimit 30 = .ok (.invokevirtual 99, 3) := by decide +kernel
theorem dX2_actByLimit_33 : decode cX2_actByLimit 33 = .ok (.ifCond .eq 9, 3) := by decide +kernel
theorem dX2_actByLimit_36 : decode cX2_actByLimit 36 = .ok (.aload_n 0, 1) := by decide +kernel
theorem dX2_actByLimit_37 : decode cX2_actByLimit 37 = .ok (.iload_n 1, 1) := by decide +kernel
theorem dX2_actByLimit_38 : decode cX2_actByLimit 38 = .ok (.invokevirtual 102, 3) := by decide +kernel
theorem dX2_actByLimit_41 : decode cX2_actByLimit 41 = .ok (.ireturn, 1) := by decide +kernel
theorem dX2_actByLimit_42 : decode cX2_actByLimit 42 = .ok (.aload_n 0, 1) := by decide +kernel
theorem dX2_actByLimit_43 : decode cX2_actByLimit 43 = .ok (.invokevirtual 105, 3) := by decide +kernel
theorem dX2_actByLimit_46 : decode cX2_actByLimit 46 = .ok (.ireturn, 1) := by decide +kernel
set_option maxRecDepth 20000 in
theorem ggX2_playRound_X2_start : GoodIn wsX2_playRound wsX2_start := goodIn_r _ [6, 1, 7, 8, 9, 10, 5, 11, 12, 13, 82, 83, 84, 85, 86, 87, 88, 89, 90, 91, 92, 93, 94] (by decide +kernel) (by decide +kernel)
set_option maxRecDepth 20000 in
theorem gX2_playRound_X2_start : GoodIn wsX2_playRound (wsV RX2 108 RX2 yX2_start wsX2_start) := goodIn_app (goodIn_of _ (by decide +kernel)) ggX2_playRound_X2_start
set_option maxRecDepth 20000 in
theorem ggX2_playRound_X2_actByLimit : GoodIn wsX2_playRound wsX2_actByLimit := goodIn_r _ [17, 7, 18, 19, 20, 21, 5, 22, 1, 13, 23, 24, 25, 26, 27, 28, 29, 30, 31, 32, 33, 34, 35, 36, 37, 38, 39, 40, 41, 42, 43, 44, 12, 45, 8, 9, 10, 11, 46, 47, 48, 49, 50, 51, 52, 53, 54, 55, 56, 57, 58, 59, 60, 61, 62, 63, 64, 65, 66, 67, 68, 69, 70, 71, 72, 73, 74, 75, 76, 77, 78, 79, 80, 81, 82, 83, 84, 85, 86, 87, 88, 89, 90, 91, 92, 93, 94] (by decide +kernel) (by decide +kernel)
set_option maxRecDepth 20000 in
theorem gX2_playRound_X2_actByLimit : GoodIn wsX2_playRound (wsV RX2 111 RX2 yX2_actByLimit wsX2_actByLimit) := goodIn_app (goodIn_of _ (by decide +kernel)) ggX2_playRound_X2_actByLimit
theorem dX2_playRound_0 : decode cX2_playRound 0 = .ok (.aload_n 0, 1) := by decide +kernel
theorem dX2_playRound_1 : decode cX2_playRound 1 = .ok (.getfield 43, 3) := by decide +kernel
theorem dX2_playRound_4 : decode cX2_playRound 4 = .ok (.ifCond .ne 8, 3) := by decide +kernel
theorem dX2_playRound_7 : decode cX2_playRound 7 = .ok (.aload_n 0, 1) := by decide +kernel
theorem dX2_playRound_8 : decode cX2_playRound 8 = .ok (.invokevirtual 108, 3) := by decide +kernel
theorem dX2_playRound_11 : decode cX2_playRound 11 = .ok (.pop, 1) := by decide +kernel
theorem dX2_playRound_12 : decode cX2_playRound 12 = .ok (.iconst 0, 1) := by decide +kernel
theorem dX2_playRound_13 : decode cX2_playRound 13 = .ok (.istore_n 1, 1) := by decide +kernel
theorem dX2_playRound_14 : decode cX2_playRound 14 = .ok (.aload_n 0, 1) := by decide +kernel
theorem dX2_playRound_15 : decode cX2_playRound 15 = .ok (.getfield 43, 3) := by decide +kernel
theorem dX2_playRound_18 : decode cX2_playRound 18 = .ok (.ifCond .eq 21, 3) := by decide +kernel
theorem dX2_playRound_21 : decode cX2_playRound 21 = .ok (.iload_n 1, 1) := by decide +kernel
theorem dX2_playRound_22 : decode cX2_playRound 22 = .ok (.sipush 10000, 3) := by decide +kernel
theorem dX2_playRound_25 : decode cX2_playRound 25 = .ok (.if_icmp .ge 14, 3) := by decide +kernel
theorem dX2_playRound_28 : decode cX2_playRound 28 = .ok (.aload_n 0, 1) := by decide +kernel
theorem dX2_playRound_29 : decode cX2_playRound 29 = .ok (.invokevirtual 111, 3) := by decide +kernel
theorem dX2_playRound_32 : decode cX2_playRound 32 = .ok (.pop, 1) := by decide +kernel
theorem dX2_playRound_33 : decode cX2_playRound 33 = .ok (.iinc 1 1, 3) := by decide +kernel
theorem dX2_playRound_36 : decode cX2_playRound 36 = .ok (.goto (-22), 3) := by decide +kernel
theorem dX2_playRound_39 : decode cX2_playRound 39 = .ok (.iload_n 1, 1) := by decide +kernel
theorem dX2_playRound_40 : decode cX2_playRound 40 = .ok (.ireturn, 1) := by decide +kernel
set_option maxRecDepth 20000 in
theorem ggX2_passTurn_X3_isPlayer : GoodIn wsX2_passTurn wsX3_isPlayer := goodIn_r _ [7] (by decide +kernel) (by decide +kernel)
set_option maxRecDepth 20000 in
theorem gX2_passTurn_X3_isPlayer_n64 : GoodIn wsX2_passTurn (wsX3_isPlayer) := ggX2_passTurn_X3_isPlayer
set_option maxRecDepth 20000 in
theorem ggX2_passTurn_X2_playerAt : GoodIn wsX2_passTurn wsX2_playerAt := goodIn_r _ [12, 2, 4, 13, 14, 15, 16, 17, 18, 19, 20, 21, 22, 23, 24, 25] (by decide +kernel) (by decide +kernel)
set_option maxRecDepth 20000 in
theorem gX2_passTurn_X2_playerAt : GoodIn wsX2_passTurn (wsV RX2 77 RX2 yX2_playerAt wsX2_playerAt) := goodIn_app (goodIn_of _ (by decide +kernel)) ggX2_passTurn_X2_playerAt
theorem dX2_passTurn_0 : decode cX2_passTurn 0 = .ok (.aload_n 0, 1) := by decide +kernel
theorem dX2_passTurn_1 : decode cX2_passTurn 1 = .ok (.getfield 47, 3) := by decide +kernel
theorem dX2_passTurn_4 : decode cX2_passTurn 4 = .ok (.invokestatic 64, 3) := by decide +kernel
theorem dX2_passTurn_7 : decode cX2_passTurn 7 = .ok (.ifCond .ne 4, 3) := by decide +kernel
theorem dX2_passTurn_10 : decode cX2_passTurn 10 = .ok (.return_, 1) := by decide +kernel
theorem dX2_passTurn_11 : decode cX2_passTurn 11 = .ok (.aload_n 0, 1) := by decide +kernel
theorem dX2_passTurn_12 : decode cX2_passTurn 12 = .ok (.getfield 24, 3) := by decide +kernel
theorem dX2_passTurn_15 : decode cX2_passTurn 15 = .ok (.aload_n 0, 1) := by decide +kernel
theorem dX2_passTurn_16 : decode cX2_passTurn 16 = .ok (.getfield 47, 3) := by decide +kernel
theorem dX2_passTurn_19 : decode cX2_passTurn 19 = .ok (.iaload, 1) := by decide +kernel
theorem dX2_passTurn_20 : decode cX2_passTurn 20 = .ok (.istore_n 1, 1) := by decide +kernel
theorem dX2_passTurn_21 : decode cX2_passTurn 21 = .ok (.iconst 1, 1) := by decide +kernel
theorem dX2_passTurn_22 : decode cX2_passTurn 22 = .ok (.istore_n 2, 1) := by decide +kernel
theorem dX2_passTurn_23 : decode cX2_passTurn 23 = .ok (.iload_n 2, 1) := by decide +kernel
theorem dX2_passTurn_24 : decode cX2_passTurn 24 = .ok (.iconst 5, 1) := by decide +kernel
theorem dX2_passTurn_25 : decode cX2_passTurn 25 = .ok (.if_icmp .ge 43, 3) := by decide +kernel
theorem dX2_passTurn_28 : decode cX2_passTurn 28 = .ok (.aload_n 0, 1) := by decide +kernel
theorem dX2_passTurn_29 : decode cX2_passTurn 29 = .ok (.iload_n 1, 1) := by decide +kernel
theorem dX2_passTurn_30 : decode cX2_passTurn 30 = .ok (.iload_n 2, 1) := by decide +kernel
theorem dX2_passTurn_31 : decode cX2_passTurn 31 = .ok (.iadd, 1) := by decide +kernel
theorem dX2_passTurn_32 : decode cX2_passTurn 32 = .ok (.iconst 5, 1) := by decide +kernel
theorem dX2_passTurn_33 : decode cX2_passTurn 33 = .ok (.irem, 1) := by decide +kernel
theorem dX2_passTurn_34 : decode cX2_passTurn 34 = .ok (.invokevirtual 77, 3) := by decide +kernel
theorem dX2_passTurn_37 : decode cX2_passTurn 37 = .ok (.istore_n 3, 1) := by decide +kernel
theorem dX2_passTurn_38 : decode cX2_passTurn 38 = .ok (.iload_n 3, 1) := by decide +kernel
theorem dX2_passTurn_39 : decode cX2_passTurn 39 = .ok (.invokestatic 64, 3) := by decide +kernel
theorem dX2_passTurn_42 : decode cX2_passTurn 42 = .ok (.ifCond .eq 20, 3) := by decide +kernel
theorem dX2_passTurn_45 : decode cX2_passTurn 45 = .ok (.aload_n 0, 1) := by decide +kernel
theorem dX2_passTurn_46 : decode cX2_passTurn 46 = .ok (.getfield 31, 3) := by decide +kernel
theorem dX2_passTurn_49 : decode cX2_passTurn 49 = .ok (.iload_n 3, 1) := by decide +kernel
theorem dX2_passTurn_50 : decode cX2_passTurn 50 = .ok (.iaload, 1) := by decide +kernel
theorem dX2_passTurn_51 : decode cX2_passTurn 51 = .ok (.ldc 27, 2) := by decide +kernel
theorem dX2_passTurn_53 : decode cX2_passTurn 53 = .ok (.if_icmp .ne 9, 3) := by decide +kernel
theorem dX2_passTurn_56 : decode cX2_passTurn 56 = .ok (.aload_n 0, 1) := by decide +kernel
theorem dX2_passTurn_57 : decode cX2_passTurn 57 = .ok (.iload_n 3, 1) := by decide +kernel
theorem dX2_passTurn_58 : decode cX2_passTurn 58 = .ok (.putfield 47, 3) := by decide +kernel
theorem dX2_passTurn_61 : decode cX2_passTurn 61 = .ok (.return_, 1) := by decide +kernel
theorem dX2_passTurn_62 : decode cX2_passTurn 62 = .ok (.iinc 2 1, 3) := by decide +kernel
theorem dX2_passTurn_65 : decode cX2_passTurn 65 = .ok (.goto (-42), 3) := by decide +kernel
theorem dX2_passTurn_68 : decode cX2_passTurn 68 = .ok (.return_, 1) := by decide +kernel
set_option maxRecDepth 20000 in
theorem ggX2_pay_X3_isPlayer : GoodIn wsX2_pay wsX3_isPlayer := goodIn_r _ [7] (by decide +kernel) (by decide +kernel)
set_option maxRecDepth 20000 in
theorem gX2_pay_X3_isPlayer_n64 : GoodIn wsX2_pay (wsX3_isPlayer) := ggX2_pay_X3_isPlayer
theorem dX2_pay_0 : decode cX2_pay 0 = .ok (.iload_n 1, 1) := by decide +kernel
theorem dX2_pay_1 : decode cX2_pay 1 = .ok (.invokestatic 64, 3) := by decide +kernel
theorem dX2_pay_4 : decode cX2_pay 4 = .ok (.ifCond .eq 14, 3) := by decide +kernel
theorem dX2_pay_7 : decode cX2_pay 7 = .ok (.aload_n 0, 1) := by decide +kernel
theorem dX2_pay_8 : decode cX2_pay 8 = .ok (.getfield 28, 3) := by decide +kernel
theorem dX2_pay_11 : decode cX2_pay 11 = .ok (.iload_n 1, 1) := by decide +kernel
theorem dX2_pay_12 : decode cX2_pay 12 = .ok (.iaload, 1) := by decide +kernel
theorem dX2_pay_13 : decode cX2_pay 13 = .ok (.ldc 27, 2) := by decide +kernel
theorem dX2_pay_15 : decode cX2_pay 15 = .ok (.if_icmp .ne 4, 3) := by decide +kernel
theorem dX2_pay_18 : decode cX2_pay 18 = .ok (.return_, 1) := by decide +kernel
theorem dX2_pay_19 : decode cX2_pay 19 = .ok (.aload_n 0, 1) := by decide +kernel
theorem dX2_pay_20 : decode cX2_pay 20 = .ok (.getfield 28, 3) := by decide +kernel
theorem dX2_pay_23 : decode cX2_pay 23 = .ok (.iload_n 1, 1) := by decide +kernel
theorem dX2_pay_24 : decode cX2_pay 24 = .ok (.iaload, 1) := by decide +kernel
theorem dX2_pay_25 : decode cX2_pay 25 = .ok (.iload_n 2, 1) := by decide +kernel
theorem dX2_pay_26 : decode cX2_pay 26 = .ok (.imul, 1) := by decide +kernel
theorem dX2_pay_27 : decode cX2_pay 27 = .ok (.iload_n 3, 1) := by decide +kernel
theorem dX2_pay_28 : decode cX2_pay 28 = .ok (.iadd, 1) := by decide +kernel
theorem dX2_pay_29 : decode cX2_pay 29 = .ok (.bipush 100, 2) := by decide +kernel
theorem dX2_pay_31 : decode cX2_pay 31 = .ok (.idiv, 1) := by decide +kernel
theorem dX2_pay_32 : decode cX2_pay 32 = .ok (.istore 4, 2) := by decide +kernel
theorem dX2_pay_34 : decode cX2_pay 34 = .ok (.aload_n 0, 1) := by decide +kernel
theorem dX2_pay_35 : decode cX2_pay 35 = .ok (.getfield 18, 3) := by decide +kernel
theorem dX2_pay_38 : decode cX2_pay 38 = .ok (.iload_n 1, 1) := by decide +kernel
theorem dX2_pay_39 : decode cX2_pay 39 = .ok (.dup2, 1) := by decide +kernel
theorem dX2_pay_40 : decode cX2_pay 40 = .ok (.iaload, 1) := by decide +kernel
theorem dX2_pay_41 : decode cX2_pay 41 = .ok (.iload 4, 2) := by decide +kernel
theorem dX2_pay_43 : decode cX2_pay 43 = .ok (.isub, 1) := by decide +kernel
theorem dX2_pay_44 : decode cX2_pay 44 = .ok (.iastore, 1) := by decide +kernel
theorem dX2_pay_45 : decode cX2_pay 45 = .ok (.aload_n 0, 1) := by decide +kernel
theorem dX2_pay_46 : decode cX2_pay 46 = .ok (.getfield 34, 3) := by decide +kernel
theorem dX2_pay_49 : decode cX2_pay 49 = .ok (.iload_n 1, 1) := by decide +kernel
theorem dX2_pay_50 : decode cX2_pay 50 = .ok (.dup2, 1) := by decide +kernel
theorem dX2_pay_51 : decode cX2_pay 51 = .ok (.iaload, 1) := by decide +kernel
theorem dX2_pay_52 : decode cX2_pay 52 = .ok (.iload 4, 2) := by decide +kernel
theorem dX2_pay_54 : decode cX2_pay 54 = .ok (.iadd, 1) := by decide +kernel
theorem dX2_pay_55 : decode cX2_pay 55 = .ok (.iastore, 1) := by decide +kernel
theorem dX2_pay_56 : decode cX2_pay 56 = .ok (.return_, 1) := by decide +kernel
set_option maxRecDepth 20000 in
theorem ggX2_endAuction_X2_pay : GoodIn wsX2_endAuction wsX2_pay := goodIn_r _ [20, 12, 2, 6, 21, 22, 23, 24, 30, 31, 32, 33, 34, 35, 36, 37, 38, 39, 40, 41, 42] (by decide +kernel) (by decide +kernel)
set_option maxRecDepth 20000 in
theorem gX2_endAuction_X2_pay : GoodIn wsX2_endAuction (wsV RX2 92 RX2 yX2_pay wsX2_pay) := goodIn_app (goodIn_of _ (by decide +kernel)) ggX2_endAuction_X2_pay
set_option maxRecDepth 20000 in
theorem ggX2_endAuction_X2_prizeFor : GoodIn wsX2_endAuction wsX2_prizeFor := goodIn_r _ [28, 29, 30, 31, 32, 33, 34, 35, 36, 37, 38, 39, 40, 41, 42] (by decide +kernel) (by decide +kernel)
set_option maxRecDepth 20000 in
theorem gX2_endAuction_X2_prizeFor : GoodIn wsX2_endAuction (wsV RX2 114 RX2 yX2_prizeFor wsX2_prizeFor) := goodIn_app (goodIn_of _ (by decide +kernel)) ggX2_endAuction_X2_prizeFor
theorem dX2_endAuction_0 : decode cX2_endAuction 0 = .ok (.iconst 0, 1) := by decide +kernel
theorem dX2_endAuction_1 : decode cX2_endAuction 1 = .ok (.istore_n 1, 1) := by decide +kernel
theorem dX2_endAuction_2 : decode cX2_endAuction 2 = .ok (.iload_n 1, 1) := by decide +kernel
theorem dX2_endAuction_3 : decode cX2_endAuction 3 = .ok (.iconst 5, 1) := by decide +kernel
theorem dX2_endAuction_4 : decode cX2_endAuction 4 = .ok (.if_icmp .ge 119, 3) := by decide +kernel
theorem dX2_endAuction_7 : decode cX2_endAuction 7 = .ok (.aload_n 0, 1) := by decide +kernel
theorem dX2_endAuction_8 : decode cX2_endAuction 8 = .ok (.getfield 31, 3) := by decide +kernel
theorem dX2_endAuction_11 : decode cX2_endAuction 11 = .ok (.iload_n 1, 1) := by decide +kernel
theorem dX2_endAuction_12 : decode cX2_endAuction 12 = .ok (.iaload, 1) := by decide +kernel
theorem dX2_endAuction_13 : decode cX2_endAuction 13 = .ok (.ldc 27, 2) := by decide +kernel
theorem dX2_endAuction_15 : decode cX2_endAuction 15 = .ok (.if_icmp .ne 33, 3) := by decide +kernel
theorem dX2_endAuction_18 : decode cX2_endAuction 18 = .ok (.aload_n 0, 1) := by decide +kernel
theorem dX2_endAuction_19 : decode cX2_endAuction 19 = .ok (.getfield 31, 3) := by decide +kernel
theorem dX2_endAuction_22 : decode cX2_endAuction 22 = .ok (.iload_n 1, 1) := by decide +kernel
theorem dX2_endAuction_23 : decode cX2_endAuction 23 = .ok (.iconst 0, 1) := by decide +kernel
theorem dX2_endAuction_24 : decode cX2_endAuction 24 = .ok (.iastore, 1) := by decide +kernel
theorem dX2_endAuction_25 : decode cX2_endAuction 25 = .ok (.aload_n 0, 1) := by decide +kernel
theorem dX2_endAuction_26 : decode cX2_endAuction 26 = .ok (.getfield 40, 3) := by decide +kernel
theorem dX2_endAuction_29 : decode cX2_endAuction 29 = .ok (.iload_n 1, 1) := by decide +kernel
theorem dX2_endAuction_30 : decode cX2_endAuction 30 = .ok (.dup2, 1) := by decide +kernel
theorem dX2_endAuction_31 : decode cX2_endAuction 31 = .ok (.iaload, 1) := by decide +kernel
theorem dX2_endAuction_32 : decode cX2_endAuction 32 = .ok (.iconst 1, 1) := by decide +kernel
theorem dX2_endAuction_33 : decode cX2_endAuction 33 = .ok (.iadd, 1) := by decide +kernel
theorem dX2_endAuction_34 : decode cX2_endAuction 34 = .ok (.iastore, 1) := by decide +kernel
theorem dX2_endAuction_35 : decode cX2_endAuction 35 = .ok (.aload_n 0, 1) := by decide +kernel
theorem dX2_endAuction_36 : decode cX2_endAuction 36 = .ok (.iload_n 1, 1) := by decide +kernel
theorem dX2_endAuction_37 : decode cX2_endAuction 37 = .ok (.aload_n 0, 1) := by decide +kernel
theorem dX2_endAuction_38 : decode cX2_endAuction 38 = .ok (.getfield 9, 3) := by decide +kernel
theorem dX2_endAuction_41 : decode cX2_endAuction 41 = .ok (.iconst 2, 1) := by decide +kernel
theorem dX2_endAuction_42 : decode cX2_endAuction 42 = .ok (.iaload, 1) := by decide +kernel
theorem dX2_endAuction_43 : decode cX2_endAuction 43 = .ok (.bipush 99, 2) := by decide +kernel
theorem dX2_endAuction_45 : decode cX2_endAuction 45 = .ok (.invokevirtual 92, 3) := by decide +kernel
theorem dX2_endAuction_48 : decode cX2_endAuction 48 = .ok (.aload_n 0, 1) := by decide +kernel
theorem dX2_endAuction_49 : decode cX2_endAuction 49 = .ok (.getfield 24, 3) := by decide +kernel
theorem dX2_endAuction_52 : decode cX2_endAuction 52 = .ok (.iload_n 1, 1) := by decide +kernel
theorem dX2_endAuction_53 : decode cX2_endAuction 53 = .ok (.aload_n 0, 1) := by decide +kernel
theorem dX2_endAuction_54 : decode cX2_endAuction 54 = .ok (.getfield 31, 3) := by decide +kernel
theorem dX2_endAuction_57 : decode cX2_endAuction 57 = .ok (.iload_n 1, 1) := by decide +kernel
theorem dX2_endAuction_58 : decode cX2_endAuction 58 = .ok (.iaload, 1) := by decide +kernel
theorem dX2_endAuction_59 : decode cX2_endAuction 59 = .ok (.iastore, 1) := by decide +kernel
theorem dX2_endAuction_60 : decode cX2_endAuction 60 = .ok (.aload_n 0, 1) := by decide +kernel
theorem dX2_endAuction_61 : decode cX2_endAuction 61 = .ok (.aload_n 0, 1) := by decide +kernel
theorem dX2_endAuction_62 : decode cX2_endAuction 62 = .ok (.getfield 24, 3) := by decide +kernel
theorem dX2_endAuction_65 : decode cX2_endAuction 65 = .ok (.iload_n 1, 1) := by decide +kernel
theorem dX2_endAuction_66 : decode cX2_endAuction 66 = .ok (.iaload, 1) := by decide +kernel
theorem dX2_endAuction_67 : decode cX2_endAuction 67 = .ok (.invokevirtual 114, 3) := by decide +kernel
theorem dX2_endAuction_70 : decode cX2_endAuction 70 = .ok (.istore_n 2, 1) := by decide +kernel
theorem dX2_endAuction_71 : decode cX2_endAuction 71 = .ok (.aload_n 0, 1) := by decide +kernel
theorem dX2_endAuction_72 : decode cX2_endAuction 72 = .ok (.getfield 18, 3) := by decide +kernel
theorem dX2_endAuction_75 : decode cX2_endAuction 75 = .ok (.iload_n 1, 1) := by decide +kernel
theorem dX2_endAuction_76 : decode cX2_endAuction 76 = .ok (.aload_n 0, 1) := by decide +kernel
theorem dX2_endAuction_77 : decode cX2_endAuction 77 = .ok (.getfield 18, 3) := by decide +kernel
theorem dX2_endAuction_80 : decode cX2_endAuction 80 = .ok (.iload_n 1, 1) := by decide +kernel
theorem dX2_endAuction_81 : decode cX2_endAuction 81 = .ok (.iaload, 1) := by decide +kernel
theorem dX2_endAuction_82 : decode cX2_endAuction 82 = .ok (.iload_n 2, 1) := by decide +kernel
theorem dX2_endAuction_83 : decode cX2_endAuction 83 = .ok (.iadd, 1) := by decide +kernel
theorem dX2_endAuction_84 : decode cX2_endAuction 84 = .ok (.sipush 9999, 3) := by decide +kernel
theorem dX2_endAuction_87 : decode cX2_endAuction 87 = .ok (.invokestatic 117, 3) := by decide +kernel
theorem dX2_endAuction_90 : decode cX2_endAuction 90 = .ok (.iastore, 1) := by decide +kernel
theorem dX2_endAuction_91 : decode cX2_endAuction 91 = .ok (.aload_n 0, 1) := by decide +kernel
theorem dX2_endAuction_92 : decode cX2_endAuction 92 = .ok (.getfield 37, 3) := by decide +kernel
theorem dX2_endAuction_95 : decode cX2_endAuction 95 = .ok (.iload_n 1, 1) := by decide +kernel
theorem dX2_endAuction_96 : decode cX2_endAuction 96 = .ok (.dup2, 1) := by decide +kernel
theorem dX2_endAuction_97 : decode cX2_endAuction 97 = .ok (.iaload, 1) := by decide +kernel
theorem dX2_endAuction_98 : decode cX2_endAuction 98 = .ok (.iload_n 2, 1) := by decide +kernel
theorem dX2_endAuction_99 : decode cX2_endAuction 99 = .ok (.iadd, 1) := by decide +kernel
theorem dX2_endAuction_100 : decode cX2_endAuction 100 = .ok (.iastore, 1) := by decide +kernel
theorem dX2_endAuction_101 : decode cX2_endAuction 101 = .ok (.aload_n 0, 1) := by decide +kernel
theorem dX2_endAuction_102 : decode cX2_endAuction 102 = .ok (.getfield 31, 3) := by decide +kernel
theorem dX2_endAuction_105 : decode cX2_endAuction 105 = .ok (.iload_n 1, 1) := by decide +kernel
theorem dX2_endAuction_106 : decode cX2_endAuction 106 = .ok (.ldc 27, 2) := by decide +kernel
theorem dX2_endAuction_108 : decode cX2_endAuction 108 = .ok (.iastore, 1) := by decide +kernel
theorem dX2_endAuction_109 : decode cX2_endAuction 109 = .ok (.aload_n 0, 1) := by decide +kernel
theorem dX2_endAuction_110 : decode cX2_endAuction 110 = .ok (.getfield 28, 3) := by decide +kernel
theorem dX2_endAuction_113 : decode cX2_endAuction 113 = .ok (.iload_n 1, 1) := by decide +kernel
theorem dX2_endAuction_114 : decode cX2_endAuction 114 = .ok (.ldc 27, 2) := by decide +kernel
theorem dX2_endAuction_116 : decode cX2_endAuction 116 = .ok (.iastore, 1) := by decide +kernel
theorem dX2_endAuction_117 : decode cX2_endAuction 117 = .ok (.iinc 1 1, 3) := by decide +kernel
theorem dX2_endAuction_120 : decode cX2_endAuction 120 = .ok (.goto (-118), 3) := by decide +kernel
theorem dX2_endAuction_123 : decode cX2_endAuction 123 = .ok (.aload_n 0, 1) := by decide +kernel
theorem dX2_endAuction_124 : decode cX2_endAuction 124 = .ok (.iconst 0, 1) := by decide +kernel
theorem dX2_endAuction_125 : decode cX2_endAuction 125 = .ok (.putfield 43, 3) := by decide +kernel
theorem dX2_endAuction_128 : decode cX2_endAuction 128 = .ok (.aload_n 0, 1) := by decide +kernel
theorem dX2_endAuction_129 : decode cX2_endAuction 129 = .ok (.ldc 27, 2) := by decide +kernel
theorem dX2_endAuction_131 : decode cX2_endAuction 131 = .ok (.putfield 47, 3) := by decide +kernel
theorem dX2_endAuction_134 : decode cX2_endAuction 134 = .ok (.aload_n 0, 1) := by decide +kernel
theorem dX2_endAuction_135 : decode cX2_endAuction 135 = .ok (.dup, 1) := by decide +kernel
theorem dX2_endAuction_136 : decode cX2_endAuction 136 = .ok (.getfield 51, 3) := by decide +kernel
theorem dX2_endAuction_139 : decode cX2_endAuction 139 = .ok (.iconst 1, 1) := by decide +kernel
theorem dX2_endAuction_140 : decode cX2_endAuction 140 = .ok (.iadd, 1) := by decide +kernel
theorem dX2_endAuction_141 : decode cX2_endAuction 141 = .ok (.putfield 51, 3) := by decide +kernel
theorem dX2_endAuction_144 : decode cX2_endAuction 144 = .ok (.return_, 1) := by decide +kernel
theorem dX2_prizeFor_0 : decode cX2_prizeFor 0 = .ok (.iconst 0, 1) := by decide +kernel
theorem dX2_prizeFor_1 : decode cX2_prizeFor 1 = .ok (.istore_n 2, 1) := by decide +kernel
theorem dX2_prizeFor_2 : decode cX2_prizeFor 2 = .ok (.iload_n 2, 1) := by decide +kernel
theorem dX2_prizeFor_3 : decode cX2_prizeFor 3 = .ok (.iconst 5, 1) := by decide +kernel
theorem dX2_prizeFor_4 : decode cX2_prizeFor 4 = .ok (.if_icmp .ge 79, 3) := by decide +kernel
theorem dX2_prizeFor_7 : decode cX2_prizeFor 7 = .ok (.iconst 0, 1) := by decide +kernel
theorem dX2_prizeFor_8 : decode cX2_prizeFor 8 = .ok (.istore_n 3, 1) := by decide +kernel
theorem dX2_prizeFor_9 : decode cX2_prizeFor 9 = .ok (.iconst 0, 1) := by decide +kernel
theorem dX2_prizeFor_10 : decode cX2_prizeFor 10 = .ok (.istore 4, 2) := by decide +kernel
theorem dX2_prizeFor_12 : decode cX2_prizeFor 12 = .ok (.iload 4, 2) := by decide +kernel
theorem dX2_prizeFor_14 : decode cX2_prizeFor 14 = .ok (.iconst 5, 1) := by decide +kernel
theorem dX2_prizeFor_15 : decode cX2_prizeFor 15 = .ok (.if_icmp .ge 50, 3) := by decide +kernel
theorem dX2_prizeFor_18 : decode cX2_prizeFor 18 = .ok (.aload_n 0, 1) := by decide +kernel
theorem dX2_prizeFor_19 : decode cX2_prizeFor 19 = .ok (.getfield 15, 3) := by decide +kernel
theorem dX2_prizeFor_22 : decode cX2_prizeFor 22 = .ok (.iload 4, 2) := by decide +kernel
theorem dX2_prizeFor_24 : decode cX2_prizeFor 24 = .ok (.iaload, 1) := by decide +kernel
theorem dX2_prizeFor_25 : decode cX2_prizeFor 25 = .ok (.aload_n 0, 1) := by decide +kernel
theorem dX2_prizeFor_26 : decode cX2_prizeFor 26 = .ok (.getfield 15, 3) := by decide +kernel
theorem dX2_prizeFor_29 : decode cX2_prizeFor 29 = .ok (.iload_n 2, 1) := by decide +kernel
theorem dX2_prizeFor_30 : decode cX2_prizeFor 30 = .ok (.iaload, 1) := by decide +kernel
theorem dX2_prizeFor_31 : decode cX2_prizeFor 31 = .ok (.if_icmp .gt 25, 3) := by decide +kernel
theorem dX2_prizeFor_34 : decode cX2_prizeFor 34 = .ok (.aload_n 0, 1) := by decide +kernel
theorem dX2_prizeFor_35 : decode cX2_prizeFor 35 = .ok (.getfield 15, 3) := by decide +kernel
theorem dX2_prizeFor_38 : decode cX2_prizeFor 38 = .ok (.iload 4, 2) := by decide +kernel
theorem dX2_prizeFor_40 : decode cX2_prizeFor 40 = .ok (.iaload, 1) := by decide +kernel
theorem dX2_prizeFor_41 : decode cX2_prizeFor 41 = .ok (.aload_n 0, 1) := by decide +kernel
theorem dX2_prizeFor_42 : decode cX2_prizeFor 42 = .ok (.getfield 15, 3) := by decide +kernel
theorem dX2_prizeFor_45 : decode cX2_prizeFor 45 = .ok (.iload_n 2, 1) := by decide +kernel
theorem dX2_prizeFor_46 : decode cX2_prizeFor 46 = .ok (.iaload, 1) := by decide +kernel
theorem dX2_prizeFor_47 : decode cX2_prizeFor 47 = .ok (.if_icmp .ne 12, 3) := by decide +kernel
theorem dX2_prizeFor_50 : decode cX2_prizeFor 50 = .ok (.iload 4, 2) := by decide +kernel
theorem dX2_prizeFor_52 : decode cX2_prizeFor 52 = .ok (.iload_n 2, 1) := by decide +kernel
theorem dX2_prizeFor_53 : decode cX2_prizeFor 53 = .ok (.if_icmp .ge 6, 3) := by decide +kernel
theorem dX2_prizeFor_56 : decode cX2_prizeFor 56 = .ok (.iinc 3 1, 3) := by decide +kernel
theorem dX2_prizeFor_59 : decode cX2_prizeFor 59 = .ok (.iinc 4 1, 3) := by decide +kernel
theorem dX2_prizeFor_62 : decode cX2_prizeFor 62 = .ok (.goto (-50), 3) := by decide +kernel
theorem dX2_prizeFor_65 : decode cX2_prizeFor 65 = .ok (.iload_n 3, 1) := by decide +kernel
theorem dX2_prizeFor_66 : decode cX2_prizeFor 66 = .ok (.iload_n 1, 1) := by decide +kernel
theorem dX2_prizeFor_67 : decode cX2_prizeFor 67 = .ok (.if_icmp .ne 10, 3) := by decide +kernel
theorem dX2_prizeFor_70 : decode cX2_prizeFor 70 = .ok (.aload_n 0, 1) := by decide +kernel
theorem dX2_prizeFor_71 : decode cX2_prizeFor 71 = .ok (.getfield 15, 3) := by decide +kernel
theorem dX2_prizeFor_74 : decode cX2_prizeFor 74 = .ok (.iload_n 2, 1) := by decide +kernel
theorem dX2_prizeFor_75 : decode cX2_prizeFor 75 = .ok (.iaload, 1) := by decide +kernel
theorem dX2_prizeFor_76 : decode cX2_prizeFor 76 = .ok (.ireturn, 1) := by decide +kernel
theorem dX2_prizeFor_77 : decode cX2_prizeFor 77 = .ok (.iinc 2 1, 3) := by decide +kernel
theorem dX2_prizeFor_80 : decode cX2_prizeFor 80 = .ok (.goto (-78), 3) := by decide +kernel
theorem dX2_prizeFor_83 : decode cX2_prizeFor 83 = .ok (.iconst 0, 1) := by decide +kernel
theorem dX2_prizeFor_84 : decode cX2_prizeFor 84 = .ok (.ireturn, 1) := by decide +kernel
end
section
set_option maxRecDepth 20000 in
theorem ggX3_init_X2_init : GoodIn wsX3_init wsX2_init := goodIn_r _ [19, 20, 2, 3, 21, 22, 23, 24, 25, 26, 27, 28, 29, 30, 31, 32, 33, 34, 35, 49, 50, 51, 52, 53, 54, 55, 56, 57, 58, 59, 60, 61] (by decide +kernel) (by decide +kernel)
set_option maxRecDepth 20000 in
theorem gX3_init_X2_init_n9 : GoodIn wsX3_init (wsX2_init) := ggX3_init_X2_init
set_option maxRecDepth 20000 in
theorem ggX3_init_X0_init : GoodIn wsX3_init wsX0_init := goodIn_r _ [37, 38, 2, 3, 39, 40, 41, 42, 67, 68, 69] (by decide +kernel) (by decide +kernel)
set_option maxRecDepth 20000 in
theorem gX3_init_X0_init_n21 : GoodIn wsX3_init (wsX0_init) := ggX3_init_X0_init
set_option maxRecDepth 20000 in
theorem ggX3_init_X1_init : GoodIn wsX3_init wsX1_init := goodIn_r _ [44, 45, 2, 3, 46, 47, 48, 70, 71] (by decide +kernel) (by decide +kernel)
set_option maxRecDepth 20000 in
theorem gX3_init_X1_init_n32 : GoodIn wsX3_init (wsX1_init) := ggX3_init_X1_init
theorem dX3_init_0 : decode cX3_init 0 = .ok (.aload_n 0, 1) := by decide +kernel
theorem dX3_init_1 : decode cX3_init 1 = .ok (.invokespecial 1, 3) := by decide +kernel
theorem dX3_init_4 : decode cX3_init 4 = .ok (.aload_n 0, 1) := by decide +kernel
theorem dX3_init_5 : decode cX3_init 5 = .ok (.new 7, 3) := by decide +kernel
theorem dX3_init_8 : decode cX3_init 8 = .ok (.dup, 1) := by decide +kernel
theorem dX3_init_9 : decode cX3_init 9 = .ok (.invokespecial 9, 3) := by decide +kernel
theorem dX3_init_12 : decode cX3_init 12 = .ok (.putfield 10, 3) := by decide +kernel
theorem dX3_init_15 : decode cX3_init 15 = .ok (.aload_n 0, 1) := by decide +kernel
theorem dX3_init_16 : decode cX3_init 16 = .ok (.new 7, 3) := by decide +kernel
theorem dX3_init_19 : decode cX3_init 19 = .ok (.dup, 1) := by decide +kernel
theorem dX3_init_20 : decode cX3_init 20 = .ok (.invokespecial 9, 3) := by decide +kernel
theorem dX3_init_23 : decode cX3_init 23 = .ok (.putfield 16, 3) := by decide +kernel
theorem dX3_init_26 : decode cX3_init 26 = .ok (.aload_n 0, 1) := by decide +kernel
theorem dX3_init_27 : decode cX3_init 27 = .ok (.new 19, 3) := by decide +kernel
theorem dX3_init_30 : decode cX3_init 30 = .ok (.dup, 1) := by decide +kernel
theorem dX3_init_31 : decode cX3_init 31 = .ok (.invokespecial 21, 3) := by decide +kernel
theorem dX3_init_34 : decode cX3_init 34 = .ok (.putfield 22, 3) := by decide +kernel
theorem dX3_init_37 : decode cX3_init 37 = .ok (.aload_n 0, 1) := by decide +kernel
theorem dX3_init_38 : decode cX3_init 38 = .ok (.iconst 2, 1) := by decide +kernel
theorem dX3_init_39 : decode cX3_init 39 = .ok (.anewarray 7, 3) := by decide +kernel
theorem dX3_init_42 : decode cX3_init 42 = .ok (.putfield 26, 3) := by decide +kernel
theorem dX3_init_45 : decode cX3_init 45 = .ok (.aload_n 0, 1) := by decide +kernel
theorem dX3_init_46 : decode cX3_init 46 = .ok (.new 30, 3) := by decide +kernel
theorem dX3_init_49 : decode cX3_init 49 = .ok (.dup, 1) := by decide +kernel
theorem dX3_init_50 : decode cX3_init 50 = .ok (.invokespecial 32, 3) := by decide +kernel
theorem dX3_init_53 : decode cX3_init 53 = .ok (.putfield 33, 3) := by decide +kernel
theorem dX3_init_56 : decode cX3_init 56 = .ok (.return_, 1) := by decide +kernel
set_option maxRecDepth 20000 in
theorem ggX3_set_X0_keep : GoodIn wsX3_set wsX0_keep := goodIn_r _ [11, 12, 13, 14, 15, 16, 17, 18, 19, 20, 21, 22, 23, 24, 25, 26, 27, 28, 29, 30, 31, 32, 33, 34, 35, 36, 37, 38, 39, 40, 41, 42, 43, 44, 45, 46, 47, 48, 49, 50, 51, 52, 53, 72, 73, 74, 59, 60, 61, 62, 63, 64, 65, 66, 67, 68, 69, 70, 71] (by decide +kernel) (by decide +kernel)
set_option maxRecDepth 20000 in
theorem gX3_set_X0_keep : GoodIn wsX3_set (wsV RX3 45 RX0 yX0_keep wsX0_keep) := goodIn_app (goodIn_of _ (by decide +kernel)) ggX3_set_X0_keep
theorem dX3_set_0 : decode cX3_set 0 = .ok (.iload_n 1, 1) := by decide +kernel
theorem dX3_set_1 : decode cX3_set 1 = .ok (.ifCond .lt 8, 3) := by decide +kernel
theorem dX3_set_4 : decode cX3_set 4 = .ok (.iload_n 1, 1) := by decide +kernel
theorem dX3_set_5 : decode cX3_set 5 = .ok (.iconst 4, 1) := by decide +kernel
theorem dX3_set_6 : decode cX3_set 6 = .ok (.if_icmp .lt 6, 3) := by decide +kernel
theorem dX3_set_9 : decode cX3_set 9 = .ok (.ldc 37, 2) := by decide +kernel
theorem dX3_set_11 : decode cX3_set 11 = .ok (.ireturn, 1) := by decide +kernel
theorem dX3_set_12 : decode cX3_set 12 = .ok (.iload_n 2, 1) := by decide +kernel
theorem dX3_set_13 : decode cX3_set 13 = .ok (.getstatic 38, 3) := by decide +kernel
theorem dX3_set_16 : decode cX3_set 16 = .ok (.iload_n 1, 1) := by decide +kernel
theorem dX3_set_17 : decode cX3_set 17 = .ok (.iaload, 1) := by decide +kernel
theorem dX3_set_18 : decode cX3_set 18 = .ok (.if_icmp .lt 12, 3) := by decide +kernel
theorem dX3_set_21 : decode cX3_set 21 = .ok (.iload_n 2, 1) := by decide +kernel
theorem dX3_set_22 : decode cX3_set 22 = .ok (.getstatic 42, 3) := by decide +kernel
theorem dX3_set_25 : decode cX3_set 25 = .ok (.iload_n 1, 1) := by decide +kernel
theorem dX3_set_26 : decode cX3_set 26 = .ok (.iaload, 1) := by decide +kernel
theorem dX3_set_27 : decode cX3_set 27 = .ok (.if_icmp .le 6, 3) := by decide +kernel
theorem dX3_set_30 : decode cX3_set 30 = .ok (.ldc 37, 2) := by decide +kernel
theorem dX3_set_32 : decode cX3_set 32 = .ok (.ireturn, 1) := by decide +kernel
theorem dX3_set_33 : decode cX3_set 33 = .ok (.aload_n 0, 1) := by decide +kernel
theorem dX3_set_34 : decode cX3_set 34 = .ok (.getfield 22, 3) := by decide +kernel
theorem dX3_set_37 : decode cX3_set 37 = .ok (.aload_n 0, 1) := by decide +kernel
theorem dX3_set_38 : decode cX3_set 38 = .ok (.getfield 10, 3) := by decide +kernel
theorem dX3_set_41 : decode cX3_set 41 = .ok (.invokevirtual 45, 3) := by decide +kernel
theorem dX3_set_44 : decode cX3_set 44 = .ok (.aload_n 0, 1) := by decide +kernel
theorem dX3_set_45 : decode cX3_set 45 = .ok (.getfield 10, 3) := by decide +kernel
theorem dX3_set_48 : decode cX3_set 48 = .ok (.getfield 49, 3) := by decide +kernel
theorem dX3_set_51 : decode cX3_set 51 = .ok (.iload_n 1, 1) := by decide +kernel
theorem dX3_set_52 : decode cX3_set 52 = .ok (.iaload, 1) := by decide +kernel
theorem dX3_set_53 : decode cX3_set 53 = .ok (.istore_n 3, 1) := by decide +kernel
theorem dX3_set_54 : decode cX3_set 54 = .ok (.aload_n 0, 1) := by decide +kernel
theorem dX3_set_55 : decode cX3_set 55 = .ok (.getfield 10, 3) := by decide +kernel
theorem dX3_set_58 : decode cX3_set 58 = .ok (.getfield 49, 3) := by decide +kernel
theorem dX3_set_61 : decode cX3_set 61 = .ok (.iload_n 1, 1) := by decide +kernel
theorem dX3_set_62 : decode cX3_set 62 = .ok (.iload_n 2, 1) := by decide +kernel
theorem dX3_set_63 : decode cX3_set 63 = .ok (.iastore, 1) := by decide +kernel
theorem dX3_set_64 : decode cX3_set 64 = .ok (.iload_n 3, 1) := by decide +kernel
theorem dX3_set_65 : decode cX3_set 65 = .ok (.ireturn, 1) := by decide +kernel
set_option maxRecDepth 20000 in
theorem ggX3_coins_X3_isPlayer : GoodIn wsX3_coins wsX3_isPlayer := goodIn_r _ [10] (by decide +kernel) (by decide +kernel)
set_option maxRecDepth 20000 in
theorem gX3_coins_X3_isPlayer : GoodIn wsX3_coins (va_wsS RX3 52 yX3_isPlayer wsX3_isPlayer) := goodIn_app (goodIn_of _ (by decide +kernel)) ggX3_coins_X3_isPlayer
set_option maxRecDepth 20000 in
theorem ggX3_coins_X2_hasToCover : GoodIn wsX3_coins wsX2_hasToCover := goodIn_r _ [15, 16, 17, 18, 19, 20, 21, 22, 8, 9, 10, 70, 71, 72, 73, 74, 75, 76, 77, 78, 79, 80, 81, 82] (by decide +kernel) (by decide +kernel)
set_option maxRecDepth 20000 in
theorem gX3_coins_X2_hasToCover : GoodIn wsX3_coins (wsV RX3 57 RX2 yX2_hasToCover wsX2_hasToCover) := goodIn_app (goodIn_of _ (by decide +kernel)) ggX3_coins_X2_hasToCover
set_option maxRecDepth 20000 in
theorem ggX3_coins_X0_keep : GoodIn wsX3_coins wsX0_keep := goodIn_r _ [27, 28, 29, 30, 31, 14, 32, 33, 34, 21, 35, 36, 37, 38, 39, 40, 41, 42, 43, 44, 45, 46, 47, 48, 49, 50, 17, 18, 16, 51, 52, 53, 54, 55, 56, 57, 58, 59, 60, 61, 62, 63, 64, 83, 84, 85, 70, 71, 72, 73, 74, 75, 76, 77, 78, 79, 80, 81, 82] (by decide +kernel) (by decide +kernel)
set_option maxRecDepth 20000 in
theorem gX3_coins_X0_keep : GoodIn wsX3_coins (wsV RX3 45 RX0 yX0_keep wsX0_keep) := goodIn_app (goodIn_of _ (by decide +kernel)) ggX3_coins_X0_keep
theorem dX3_coins_0 : decode cX3_coins 0 = .ok (.iload_n 1, 1) := by decide +kernel
theorem dX3_coins_1 : decode cX3_coins 1 = .ok (.invokestatic 52, 3) := by decide +kernel
theorem dX3_coins_4 : decode cX3_coins 4 = .ok (.ifCond .ne 6, 3) := by decide +kernel
theorem dX3_coins_7 : decode cX3_coins 7 = .ok (.ldc 56, 2) := by decide +kernel
theorem dX3_coins_9 : decode cX3_coins 9 = .ok (.ireturn, 1) := by decide +kernel
theorem dX3_coins_10 : decode cX3_coins 10 = .ok (.iload_n 2, 1) := by decide +kernel
theorem dX3_coins_11 : decode cX3_coins 11 = .ok (.ifCond .lt 10, 3) := by decide +kernel
theorem dX3_coins_14 : decode cX3_coins 14 = .ok (.iload_n 2, 1) := by decide +kernel
theorem dX3_coins_15 : decode cX3_coins 15 = .ok (.sipush 9999, 3) := by decide +kernel
theorem dX3_coins_18 : decode cX3_coins 18 = .ok (.if_icmp .le 6, 3) := by decide +kernel
theorem dX3_coins_21 : decode cX3_coins 21 = .ok (.ldc 37, 2) := by decide +kernel
theorem dX3_coins_23 : decode cX3_coins 23 = .ok (.ireturn, 1) := by decide +kernel
theorem dX3_coins_24 : decode cX3_coins 24 = .ok (.aload_n 0, 1) := by decide +kernel
theorem dX3_coins_25 : decode cX3_coins 25 = .ok (.getfield 10, 3) := by decide +kernel
theorem dX3_coins_28 : decode cX3_coins 28 = .ok (.iload_n 1, 1) := by decide +kernel
theorem dX3_coins_29 : decode cX3_coins 29 = .ok (.invokevirtual 57, 3) := by decide +kernel
theorem dX3_coins_32 : decode cX3_coins 32 = .ok (.iload_n 2, 1) := by decide +kernel
theorem dX3_coins_33 : decode cX3_coins 33 = .ok (.if_icmp .le 6, 3) := by decide +kernel
theorem dX3_coins_36 : decode cX3_coins 36 = .ok (.ldc 61, 2) := by decide +kernel
theorem dX3_coins_38 : decode cX3_coins 38 = .ok (.ireturn, 1) := by decide +kernel
theorem dX3_coins_39 : decode cX3_coins 39 = .ok (.aload_n 0, 1) := by decide +kernel
theorem dX3_coins_40 : decode cX3_coins 40 = .ok (.getfield 22, 3) := by decide +kernel
theorem dX3_coins_43 : decode cX3_coins 43 = .ok (.aload_n 0, 1) := by decide +kernel
theorem dX3_coins_44 : decode cX3_coins 44 = .ok (.getfield 10, 3) := by decide +kernel
theorem dX3_coins_47 : decode cX3_coins 47 = .ok (.invokevirtual 45, 3) := by decide +kernel
theorem dX3_coins_50 : decode cX3_coins 50 = .ok (.aload_n 0, 1) := by decide +kernel
theorem dX3_coins_51 : decode cX3_coins 51 = .ok (.getfield 10, 3) := by decide +kernel
theorem dX3_coins_54 : decode cX3_coins 54 = .ok (.getfield 62, 3) := by decide +kernel
theorem dX3_coins_57 : decode cX3_coins 57 = .ok (.iload_n 1, 1) := by decide +kernel
theorem dX3_coins_58 : decode cX3_coins 58 = .ok (.iaload, 1) := by decide +kernel
theorem dX3_coins_59 : decode cX3_coins 59 = .ok (.istore_n 3, 1) := by decide +kernel
theorem dX3_coins_60 : decode cX3_coins 60 = .ok (.aload_n 0, 1) := by decide +kernel
theorem dX3_coins_61 : decode cX3_coins 61 = .ok (.getfield 10, 3) := by decide +kernel
theorem dX3_coins_64 : decode cX3_coins 64 = .ok (.getfield 62, 3) := by decide +kernel
theorem dX3_coins_67 : decode cX3_coins 67 = .ok (.iload_n 1, 1) := by decide +kernel
theorem dX3_coins_68 : decode cX3_coins 68 = .ok (.iload_n 2, 1) := by decide +kernel
theorem dX3_coins_69 : decode cX3_coins 69 = .ok (.iastore, 1) := by decide +kernel
theorem dX3_coins_70 : decode cX3_coins 70 = .ok (.iload_n 3, 1) := by decide +kernel
theorem dX3_coins_71 : decode cX3_coins 71 = .ok (.ireturn, 1) := by decide +kernel
set_option maxRecDepth 20000 in
theorem ggX3_limit_X3_isPlayer : GoodIn wsX3_limit wsX3_isPlayer := goodIn_r _ [9] (by decide +kernel) (by decide +kernel)
set_option maxRecDepth 20000 in
theorem gX3_limit_X3_isPlayer : GoodIn wsX3_limit (va_wsS RX3 52 yX3_isPlayer wsX3_isPlayer) := goodIn_app (goodIn_of _ (by decide +kernel)) ggX3_limit_X3_isPlayer
set_option maxRecDepth 20000 in
theorem ggX3_limit_X0_keep : GoodIn wsX3_limit wsX0_keep := goodIn_r _ [14, 15, 16, 17, 18, 19, 20, 21, 22, 23, 24, 25, 26, 27, 28, 29, 30, 31, 32, 33, 34, 35, 36, 37, 38, 39, 40, 41, 42, 43, 44, 45, 46, 47, 48, 49, 50, 51, 52, 53, 54, 55, 56, 75, 76, 77, 62, 63, 64, 65, 66, 67, 68, 69, 70, 71, 72, 73, 74] (by decide +kernel) (by decide +kernel)
set_option maxRecDepth 20000 in
theorem gX3_limit_X0_keep : GoodIn wsX3_limit (wsV RX3 45 RX0 yX0_keep wsX0_keep) := goodIn_app (goodIn_of _ (by decide +kernel)) ggX3_limit_X0_keep
theorem dX3_limit_0 : decode cX3_limit 0 = .ok (.iload_n 1, 1) := by decide +kernel
theorem dX3_limit_1 : decode cX3_limit 1 = .ok (.invokestatic 52, 3) := by decide +kernel
theorem dX3_limit_4 : decode cX3_limit 4 = .ok (.ifCond .ne 6, 3) := by decide +kernel
theorem dX3_limit_7 : decode cX3_limit 7 = .ok (.ldc 56, 2) := by decide +kernel
theorem dX3_limit_9 : decode cX3_limit 9 = .ok (.ireturn, 1) := by decide +kernel
theorem dX3_limit_10 : decode cX3_limit 10 = .ok (.iload_n 2, 1) := by decide +kernel
theorem dX3_limit_11 : decode cX3_limit 11 = .ok (.ifCond .lt 9, 3) := by decide +kernel
theorem dX3_limit_14 : decode cX3_limit 14 = .ok (.iload_n 2, 1) := by decide +kernel
theorem dX3_limit_15 : decode cX3_limit 15 = .ok (.bipush 99, 2) := by decide +kernel
theorem dX3_limit_17 : decode cX3_limit 17 = .ok (.if_icmp .le 6, 3) := by decide +kernel
theorem dX3_limit_20 : decode cX3_limit 20 = .ok (.ldc 37, 2) := by decide +kernel
theorem dX3_limit_22 : decode cX3_limit 22 = .ok (.ireturn, 1) := by decide +kernel
theorem dX3_limit_23 : decode cX3_limit 23 = .ok (.aload_n 0, 1) := by decide +kernel
theorem dX3_limit_24 : decode cX3_limit 24 = .ok (.getfield 22, 3) := by decide +kernel
theorem dX3_limit_27 : decode cX3_limit 27 = .ok (.aload_n 0, 1) := by decide +kernel
theorem dX3_limit_28 : decode cX3_limit 28 = .ok (.getfield 10, 3) := by decide +kernel
theorem dX3_limit_31 : decode cX3_limit 31 = .ok (.invokevirtual 45, 3) := by decide +kernel
theorem dX3_limit_34 : decode cX3_limit 34 = .ok (.aload_n 0, 1) := by decide +kernel
theorem dX3_limit_35 : decode cX3_limit 35 = .ok (.getfield 10, 3) := by decide +kernel
theorem dX3_limit_38 : decode cX3_limit 38 = .ok (.getfield 65, 3) := by decide +kernel
theorem dX3_limit_41 : decode cX3_limit 41 = .ok (.iload_n 1, 1) := by decide +kernel
theorem dX3_limit_42 : decode cX3_limit 42 = .ok (.iaload, 1) := by decide +kernel
theorem dX3_limit_43 : decode cX3_limit 43 = .ok (.istore_n 3, 1) := by decide +kernel
theorem dX3_limit_44 : decode cX3_limit 44 = .ok (.aload_n 0, 1) := by decide +kernel
theorem dX3_limit_45 : decode cX3_limit 45 = .ok (.getfield 10, 3) := by decide +kernel
theorem dX3_limit_48 : decode cX3_limit 48 = .ok (.getfield 65, 3) := by decide +kernel
theorem dX3_limit_51 : decode cX3_limit 51 = .ok (.iload_n 1, 1) := by decide +kernel
theorem dX3_limit_52 : decode cX3_limit 52 = .ok (.iload_n 2, 1) := by decide +kernel
theorem dX3_limit_53 : decode cX3_limit 53 = .ok (.iastore, 1) := by decide +kernel
theorem dX3_limit_54 : decode cX3_limit 54 = .ok (.iload_n 3, 1) := by decide +kernel
theorem dX3_limit_55 : decode cX3_limit 55 = .ok (.ireturn, 1) := by decide +kernel
set_option maxRecDepth 20000 in
theorem ggX3_prize_X3_isPrize : GoodIn wsX3_prize wsX3_isPrize := goodIn_r _ [9] (by decide +kernel) (by decide +kernel)
set_option maxRecDepth 20000 in
theorem gX3_prize_X3_isPrize : GoodIn wsX3_prize (va_wsS RX3 68 yX3_isPrize wsX3_isPrize) := goodIn_app (goodIn_of _ (by decide +kernel)) ggX3_prize_X3_isPrize
set_option maxRecDepth 20000 in
theorem ggX3_prize_X0_keep : GoodIn wsX3_prize wsX0_keep := goodIn_r _ [14, 15, 16, 17, 18, 19, 20, 21, 22, 23, 24, 25, 26, 27, 28, 29, 30, 31, 32, 33, 34, 35, 36, 37, 38, 39, 40, 41, 42, 43, 44, 45, 46, 47, 48, 49, 50, 51, 52, 53, 54, 55, 56, 75, 76, 77, 62, 63, 64, 65, 66, 67, 68, 69, 70, 71, 72, 73, 74] (by decide +kernel) (by decide +kernel)
set_option maxRecDepth 20000 in
theorem gX3_prize_X0_keep : GoodIn wsX3_prize (wsV RX3 45 RX0 yX0_keep wsX0_keep) := goodIn_app (goodIn_of _ (by decide +kernel)) ggX3_prize_X0_keep
theorem dX3_prize_0 : decode cX3_prize 0 = .ok (.iload_n 1, 1) := by decide +kernel
theorem dX3_prize_1 : decode cX3_prize 1 = .ok (.invokestatic 68, 3) := by decide +kernel
theorem dX3_prize_4 : decode cX3_prize 4 = .ok (.ifCond .ne 6, 3) := by decide +kernel
theorem dX3_prize_7 : decode cX3_prize 7 = .ok (.ldc 56, 2) := by decide +kernel
theorem dX3_prize_9 : decode cX3_prize 9 = .ok (.ireturn, 1) := by decide +kernel
theorem dX3_prize_10 : decode cX3_prize 10 = .ok (.iload_n 2, 1) := by decide +kernel
theorem dX3_prize_11 : decode cX3_prize 11 = .ok (.ifCond .lt 9, 3) := by decide +kernel
theorem dX3_prize_14 : decode cX3_prize 14 = .ok (.iload_n 2, 1) := by decide +kernel
theorem dX3_prize_15 : decode cX3_prize 15 = .ok (.bipush 99, 2) := by decide +kernel
theorem dX3_prize_17 : decode cX3_prize 17 = .ok (.if_icmp .le 6, 3) := by decide +kernel
theorem dX3_prize_20 : decode cX3_prize 20 = .ok (.ldc 37, 2) := by decide +kernel
theorem dX3_prize_22 : decode cX3_prize 22 = .ok (.ireturn, 1) := by decide +kernel
theorem dX3_prize_23 : decode cX3_prize 23 = .ok (.aload_n 0, 1) := by decide +kernel
theorem dX3_prize_24 : decode cX3_prize 24 = .ok (.getfield 22, 3) := by decide +kernel
theorem dX3_prize_27 : decode cX3_prize 27 = .ok (.aload_n 0, 1) := by decide +kernel
theorem dX3_prize_28 : decode cX3_prize 28 = .ok (.getfield 10, 3) := by decide +kernel
theorem dX3_prize_31 : decode cX3_prize 31 = .ok (.invokevirtual 45, 3) := by decide +kernel
theorem dX3_prize_34 : decode cX3_prize 34 = .ok (.aload_n 0, 1) := by decide +kernel
theorem dX3_prize_35 : decode cX3_prize 35 = .ok (.getfield 10, 3) := by decide +kernel
theorem dX3_prize_38 : decode cX3_prize 38 = .ok (.getfield 71, 3) := by decide +kernel
theorem dX3_prize_41 : decode cX3_prize 41 = .ok (.iload_n 1, 1) := by decide +kernel
theorem dX3_prize_42 : decode cX3_prize 42 = .ok (.iaload, 1) := by decide +kernel
theorem dX3_prize_43 : decode cX3_prize 43 = .ok (.istore_n 3, 1) := by decide +kernel
theorem dX3_prize_44 : decode cX3_prize 44 = .ok (.aload_n 0, 1) := by decide +kernel
theorem dX3_prize_45 : decode cX3_prize 45 = .ok (.getfield 10, 3) := by decide +kernel
theorem dX3_prize_48 : decode cX3_prize 48 = .ok (.getfield 71, 3) := by decide +kernel
theorem dX3_prize_51 : decode cX3_prize 51 = .ok (.iload_n 1, 1) := by decide +kernel
theorem dX3_prize_52 : decode cX3_prize 52 = .ok (.iload_n 2, 1) := by decide +kernel
theorem dX3_prize_53 : decode cX3_prize 53 = .ok (.iastore, 1) := by decide +kernel
theorem dX3_prize_54 : decode cX3_prize 54 = .ok (.iload_n 3, 1) := by decide +kernel
theorem dX3_prize_55 : decode cX3_prize 55 = .ok (.ireturn, 1) := by decide +kernel
set_option maxRecDepth 20000 in
theorem ggX3_begin_X0_keep : GoodIn wsX3_begin wsX0_keep := goodIn_r _ [9, 10, 11, 12, 13, 14, 15, 16, 17, 18, 19, 20, 21, 22, 23, 24, 25, 26, 27, 28, 29, 30, 31, 32, 33, 34, 35, 36, 37, 38, 39, 40, 41, 42, 43, 44, 45, 46, 47, 48, 49, 50, 51, 78, 79, 80, 65, 66, 67, 68, 69, 70, 71, 72, 73, 74, 75, 76, 77] (by decide +kernel) (by decide +kernel)
set_option maxRecDepth 20000 in
theorem gX3_begin_X0_keep : GoodIn wsX3_begin (wsV RX3 45 RX0 yX0_keep wsX0_keep) := goodIn_app (goodIn_of _ (by decide +kernel)) ggX3_begin_X0_keep
set_option maxRecDepth 20000 in
theorem ggX3_begin_X2_start : GoodIn wsX3_begin wsX2_start := goodIn_r _ [55, 41, 42, 56, 57, 58, 14, 59, 34, 35, 65, 66, 67, 68, 69, 70, 71, 72, 73, 74, 75, 76, 77] (by decide +kernel) (by decide +kernel)
set_option maxRecDepth 20000 in
theorem gX3_begin_X2_start : GoodIn wsX3_begin (wsV RX3 78 RX2 yX2_start wsX2_start) := goodIn_app (goodIn_of _ (by decide +kernel)) ggX3_begin_X2_start
theorem dX3_begin_0 : decode cX3_begin 0 = .ok (.aload_n 0, 1) := by decide +kernel
theorem dX3_begin_1 : decode cX3_begin 1 = .ok (.getfield 10, 3) := by decide +kernel
theorem dX3_begin_4 : decode cX3_begin 4 = .ok (.getfield 74, 3) := by decide +kernel
theorem dX3_begin_7 : decode cX3_begin 7 = .ok (.ifCond .eq 6, 3) := by decide +kernel
theorem dX3_begin_10 : decode cX3_begin 10 = .ok (.ldc 61, 2) := by decide +kernel
theorem dX3_begin_12 : decode cX3_begin 12 = .ok (.ireturn, 1) := by decide +kernel
theorem dX3_begin_13 : decode cX3_begin 13 = .ok (.aload_n 0, 1) := by decide +kernel
theorem dX3_begin_14 : decode cX3_begin 14 = .ok (.getfield 22, 3) := by decide +kernel
theorem dX3_begin_17 : decode cX3_begin 17 = .ok (.aload_n 0, 1) := by decide +kernel
theorem dX3_begin_18 : decode cX3_begin 18 = .ok (.getfield 10, 3) := by decide +kernel
theorem dX3_begin_21 : decode cX3_begin 21 = .ok (.invokevirtual 45, 3) := by decide +kernel
theorem dX3_begin_24 : decode cX3_begin 24 = .ok (.aload_n 0, 1) := by decide +kernel
theorem dX3_begin_25 : decode cX3_begin 25 = .ok (.getfield 10, 3) := by decide +kernel
theorem dX3_begin_28 : decode cX3_begin 28 = .ok (.invokevirtual 78, 3) := by decide +kernel
theorem dX3_begin_31 : decode cX3_begin 31 = .ok (.ireturn, 1) := by decide +kernel
set_option maxRecDepth 20000 in
theorem ggX3_bid_X2_mayBid : GoodIn wsX3_bid wsX2_mayBid := goodIn_r _ [9, 10, 11, 12, 13, 14, 15, 16, 17, 18, 8, 19, 20, 21, 22, 23, 24, 25, 26, 84, 85, 86, 87, 88, 89, 90, 91, 92, 93, 94, 95, 96] (by decide +kernel) (by decide +kernel)
set_option maxRecDepth 20000 in
theorem gX3_bid_X2_mayBid : GoodIn wsX3_bid (wsV RX3 82 RX2 yX2_mayBid wsX2_mayBid) := goodIn_app (goodIn_of _ (by decide +kernel)) ggX3_bid_X2_mayBid
set_option maxRecDepth 20000 in
theorem ggX3_bid_X0_keep : GoodIn wsX3_bid wsX0_keep := goodIn_r _ [31, 32, 33, 34, 35, 8, 36, 37, 38, 39, 40, 41, 42, 43, 44, 45, 46, 47, 48, 49, 50, 21, 51, 12, 52, 53, 20, 26, 54, 55, 56, 57, 10, 11, 58, 59, 60, 61, 62, 63, 64, 65, 66, 97, 98, 99, 84, 85, 86, 87, 88, 89, 90, 91, 92, 93, 94, 95, 96] (by decide +kernel) (by decide +kernel)
set_option maxRecDepth 20000 in
theorem gX3_bid_X0_keep : GoodIn wsX3_bid (wsV RX3 45 RX0 yX0_keep wsX0_keep) := goodIn_app (goodIn_of _ (by decide +kernel)) ggX3_bid_X0_keep
set_option maxRecDepth 20000 in
theorem ggX3_bid_X2_takeBid : GoodIn wsX3_bid wsX2_takeBid := goodIn_r _ [70, 11, 26, 13, 14, 15, 71, 72, 73, 8, 74, 53, 54, 20, 75, 76, 77, 78, 84, 85, 86, 87, 88, 89, 90, 91, 92, 93, 94, 95, 96] (by decide +kernel) (by decide +kernel)
set_option maxRecDepth 20000 in
theorem gX3_bid_X2_takeBid : GoodIn wsX3_bid (wsV RX3 85 RX2 yX2_takeBid wsX2_takeBid) := goodIn_app (goodIn_of _ (by decide +kernel)) ggX3_bid_X2_takeBid
theorem dX3_bid_0 : decode cX3_bid 0 = .ok (.iload_n 1, 1) := by decide +kernel
theorem dX3_bid_1 : decode cX3_bid 1 = .ok (.ifCond .lt 10, 3) := by decide +kernel
theorem dX3_bid_4 : decode cX3_bid 4 = .ok (.iload_n 1, 1) := by decide +kernel
theorem dX3_bid_5 : decode cX3_bid 5 = .ok (.sipush 9999, 3) := by decide +kernel
theorem dX3_bid_8 : decode cX3_bid 8 = .ok (.if_icmp .le 6, 3) := by decide +kernel
theorem dX3_bid_11 : decode cX3_bid 11 = .ok (.ldc 37, 2) := by decide +kernel
theorem dX3_bid_13 : decode cX3_bid 13 = .ok (.ireturn, 1) := by decide +kernel
theorem dX3_bid_14 : decode cX3_bid 14 = .ok (.aload_n 0, 1) := by decide +kernel
theorem dX3_bid_15 : decode cX3_bid 15 = .ok (.getfield 10, 3) := by decide +kernel
theorem dX3_bid_18 : decode cX3_bid 18 = .ok (.iload_n 1, 1) := by decide +kernel
theorem dX3_bid_19 : decode cX3_bid 19 = .ok (.invokevirtual 82, 3) := by decide +kernel
theorem dX3_bid_22 : decode cX3_bid 22 = .ok (.ifCond .ne 6, 3) := by decide +kernel
theorem dX3_bid_25 : decode cX3_bid 25 = .ok (.ldc 61, 2) := by decide +kernel
theorem dX3_bid_27 : decode cX3_bid 27 = .ok (.ireturn, 1) := by decide +kernel
theorem dX3_bid_28 : decode cX3_bid 28 = .ok (.aload_n 0, 1) := by decide +kernel
theorem dX3_bid_29 : decode cX3_bid 29 = .ok (.getfield 22, 3) := by decide +kernel
theorem dX3_bid_32 : decode cX3_bid 32 = .ok (.aload_n 0, 1) := by decide +kernel
theorem dX3_bid_33 : decode cX3_bid 33 = .ok (.getfield 10, 3) := by decide +kernel
theorem dX3_bid_36 : decode cX3_bid 36 = .ok (.invokevirtual 45, 3) := by decide +kernel
theorem dX3_bid_39 : decode cX3_bid 39 = .ok (.aload_n 0, 1) := by decide +kernel
theorem dX3_bid_40 : decode cX3_bid 40 = .ok (.getfield 10, 3) := by decide +kernel
theorem dX3_bid_43 : decode cX3_bid 43 = .ok (.iload_n 1, 1) := by decide +kernel
theorem dX3_bid_44 : decode cX3_bid 44 = .ok (.invokevirtual 85, 3) := by decide +kernel
theorem dX3_bid_47 : decode cX3_bid 47 = .ok (.ireturn, 1) := by decide +kernel
set_option maxRecDepth 20000 in
theorem ggX3_drop_X0_keep : GoodIn wsX3_drop wsX0_keep := goodIn_r _ [9, 10, 11, 12, 13, 14, 15, 16, 17, 18, 19, 20, 21, 22, 23, 24, 25, 26, 27, 28, 29, 30, 31, 32, 33, 34, 35, 36, 37, 38, 39, 40, 41, 42, 43, 44, 45, 46, 47, 48, 49, 50, 51, 109, 110, 111, 96, 97, 98, 99, 100, 101, 102, 103, 104, 105, 106, 107, 108] (by decide +kernel) (by decide +kernel)
set_option maxRecDepth 20000 in
theorem gX3_drop_X0_keep : GoodIn wsX3_drop (wsV RX3 45 RX0 yX0_keep wsX0_keep) := goodIn_app (goodIn_of _ (by decide +kernel)) ggX3_drop_X0_keep
set_option maxRecDepth 20000 in
theorem ggX3_drop_X2_dropOut : GoodIn wsX3_drop wsX2_dropOut := goodIn_r _ [55, 42, 35, 37, 30, 56, 57, 58, 59, 60, 61, 14, 62, 41, 63, 64, 65, 66, 67, 68, 69, 70, 71, 72, 73, 36, 32, 38, 74, 75, 76, 77, 40, 34, 78, 17, 18, 19, 39, 43, 79, 80, 81, 82, 31, 83, 84, 85, 86, 87, 88, 89, 90, 96, 97, 98, 99, 100, 101, 102, 103, 104, 105, 106, 107, 108] (by decide +kernel) (by decide +kernel)
set_option maxRecDepth 20000 in
theorem gX3_drop_X2_dropOut : GoodIn wsX3_drop (wsV RX3 88 RX2 yX2_dropOut wsX2_dropOut) := goodIn_app (goodIn_of _ (by decide +kernel)) ggX3_drop_X2_dropOut
theorem dX3_drop_0 : decode cX3_drop 0 = .ok (.aload_n 0, 1) := by decide +kernel
theorem dX3_drop_1 : decode cX3_drop 1 = .ok (.getfield 10, 3) := by decide +kernel
theorem dX3_drop_4 : decode cX3_drop 4 = .ok (.getfield 74, 3) := by decide +kernel
theorem dX3_drop_7 : decode cX3_drop 7 = .ok (.ifCond .ne 6, 3) := by decide +kernel
theorem dX3_drop_10 : decode cX3_drop 10 = .ok (.ldc 61, 2) := by decide +kernel
theorem dX3_drop_12 : decode cX3_drop 12 = .ok (.ireturn, 1) := by decide +kernel
theorem dX3_drop_13 : decode cX3_drop 13 = .ok (.aload_n 0, 1) := by decide +kernel
theorem dX3_drop_14 : decode cX3_drop 14 = .ok (.getfield 22, 3) := by decide +kernel
theorem dX3_drop_17 : decode cX3_drop 17 = .ok (.aload_n 0, 1) := by decide +kernel
theorem dX3_drop_18 : decode cX3_drop 18 = .ok (.getfield 10, 3) := by decide +kernel
theorem dX3_drop_21 : decode cX3_drop 21 = .ok (.invokevirtual 45, 3) := by decide +kernel
theorem dX3_drop_24 : decode cX3_drop 24 = .ok (.aload_n 0, 1) := by decide +kernel
theorem dX3_drop_25 : decode cX3_drop 25 = .ok (.getfield 10, 3) := by decide +kernel
theorem dX3_drop_28 : decode cX3_drop 28 = .ok (.invokevirtual 88, 3) := by decide +kernel
theorem dX3_drop_31 : decode cX3_drop 31 = .ok (.ireturn, 1) := by decide +kernel
set_option maxRecDepth 20000 in
theorem ggX3_act_X0_keep : GoodIn wsX3_act wsX0_keep := goodIn_r _ [9, 10, 11, 12, 13, 14, 15, 16, 17, 18, 19, 20, 21, 22, 23, 24, 25, 26, 27, 28, 29, 30, 31, 32, 33, 34, 35, 36, 37, 38, 39, 40, 41, 42, 43, 44, 45, 46, 47, 48, 49, 50, 51, 129, 130, 131, 116, 117, 118, 119, 120, 121, 122, 123, 124, 125, 126, 127, 128] (by decide +kernel) (by decide +kernel)
set_option maxRecDepth 20000 in
theorem gX3_act_X0_keep : GoodIn wsX3_act (wsV RX3 45 RX0 yX0_keep wsX0_keep) := goodIn_app (goodIn_of _ (by decide +kernel)) ggX3_act_X0_keep
set_option maxRecDepth 20000 in
theorem ggX3_act_X2_actByLimit : GoodIn wsX3_act wsX2_actByLimit := goodIn_r _ [55, 42, 33, 56, 57, 58, 14, 59, 41, 35, 30, 60, 61, 62, 63, 36, 64, 65, 66, 67, 68, 69, 70, 32, 71, 72, 73, 74, 75, 76, 77, 78, 34, 37, 79, 80, 81, 82, 83, 84, 85, 86, 87, 88, 89, 90, 91, 92, 93, 94, 95, 96, 97, 98, 99, 100, 101, 38, 102, 103, 104, 105, 40, 106, 17, 18, 19, 39, 43, 107, 108, 109, 110, 31, 116, 117, 118, 119, 120, 121, 122, 123, 124, 125, 126, 127, 128] (by decide +kernel) (by decide +kernel)
set_option maxRecDepth 20000 in
theorem gX3_act_X2_actByLimit : GoodIn wsX3_act (wsV RX3 91 RX2 yX2_actByLimit wsX2_actByLimit) := goodIn_app (goodIn_of _ (by decide +kernel)) ggX3_act_X2_actByLimit
theorem dX3_act_0 : decode cX3_act 0 = .ok (.aload_n 0, 1) := by decide +kernel
theorem dX3_act_1 : decode cX3_act 1 = .ok (.getfield 10, 3) := by decide +kernel
theorem dX3_act_4 : decode cX3_act 4 = .ok (.getfield 74, 3) := by decide +kernel
theorem dX3_act_7 : decode cX3_act 7 = .ok (.ifCond .ne 6, 3) := by decide +kernel
theorem dX3_act_10 : decode cX3_act 10 = .ok (.ldc 61, 2) := by decide +kernel
theorem dX3_act_12 : decode cX3_act 12 = .ok (.ireturn, 1) := by decide +kernel
theorem dX3_act_13 : decode cX3_act 13 = .ok (.aload_n 0, 1) := by decide +kernel
theorem dX3_act_14 : decode cX3_act 14 = .ok (.getfield 22, 3) := by decide +kernel
theorem dX3_act_17 : decode cX3_act 17 = .ok (.aload_n 0, 1) := by decide +kernel
theorem dX3_act_18 : decode cX3_act 18 = .ok (.getfield 10, 3) := by decide +kernel
theorem dX3_act_21 : decode cX3_act 21 = .ok (.invokevirtual 45, 3) := by decide +kernel
theorem dX3_act_24 : decode cX3_act 24 = .ok (.aload_n 0, 1) := by decide +kernel
theorem dX3_act_25 : decode cX3_act 25 = .ok (.getfield 10, 3) := by decide +kernel
theorem dX3_act_28 : decode cX3_act 28 = .ok (.invokevirtual 91, 3) := by decide +kernel
theorem dX3_act_31 : decode cX3_act 31 = .ok (.ireturn, 1) := by decide +kernel
set_option maxRecDepth 20000 in
theorem ggX3_finish_X0_keep : GoodIn wsX3_finish wsX0_keep := goodIn_r _ [7, 8, 9, 10, 11, 12, 13, 14, 15, 16, 17, 18, 19, 20, 21, 22, 23, 24, 25, 26, 27, 28, 29, 30, 31, 32, 33, 34, 35, 36, 37, 38, 39, 40, 41, 42, 43, 44, 45, 46, 47, 48, 49, 123, 124, 125, 126, 127, 128, 129, 130, 131, 132, 133, 134, 135, 136, 137, 138] (by decide +kernel) (by decide +kernel)
set_option maxRecDepth 20000 in
theorem gX3_finish_X0_keep : GoodIn wsX3_finish (wsV RX3 45 RX0 yX0_keep wsX0_keep) := goodIn_app (goodIn_of _ (by decide +kernel)) ggX3_finish_X0_keep
set_option maxRecDepth 20000 in
theorem ggX3_finish_X2_playRound : GoodIn wsX3_finish wsX2_playRound := goodIn_r _ [53, 39, 54, 55, 56, 12, 57, 40, 58, 59, 60, 61, 32, 33, 62, 63, 64, 65, 31, 66, 67, 68, 69, 28, 70, 71, 72, 73, 34, 74, 75, 76, 77, 78, 79, 80, 30, 81, 82, 83, 84, 85, 86, 87, 88, 35, 89, 90, 91, 92, 93, 94, 95, 96, 97, 98, 99, 100, 101, 102, 103, 104, 105, 106, 107, 36, 108, 109, 110, 111, 38, 112, 15, 16, 17, 37, 41, 113, 114, 115, 116, 29, 126, 127, 128, 129, 130, 131, 132, 133, 134, 135, 136, 137, 138] (by decide +kernel) (by decide +kernel)
set_option maxRecDepth 20000 in
theorem gX3_finish_X2_playRound : GoodIn wsX3_finish (wsV RX3 94 RX2 yX2_playRound wsX2_playRound) := goodIn_app (goodIn_of _ (by decide +kernel)) ggX3_finish_X2_playRound
set_option maxRecDepth 20000 in
theorem ggX3_finish_X2_playerAt : GoodIn wsX3_finish wsX2_playerAt := goodIn_r _ [61, 32, 33, 126, 127, 128, 129, 130, 131, 132, 133, 134, 135, 136, 137, 138] (by decide +kernel) (by decide +kernel)
set_option maxRecDepth 20000 in
theorem gX3_finish_X2_playerAt : GoodIn wsX3_finish (wsV RX3 97 RX2 yX2_playerAt wsX2_playerAt) := goodIn_app (goodIn_of _ (by decide +kernel)) ggX3_finish_X2_playerAt
theorem dX3_finish_0 : decode cX3_finish 0 = .ok (.aload_n 0, 1) := by decide +kernel
theorem dX3_finish_1 : decode cX3_finish 1 = .ok (.getfield 22, 3) := by decide +kernel
theorem dX3_finish_4 : decode cX3_finish 4 = .ok (.aload_n 0, 1) := by decide +kernel
theorem dX3_finish_5 : decode cX3_finish 5 = .ok (.getfield 10, 3) := by decide +kernel
theorem dX3_finish_8 : decode cX3_finish 8 = .ok (.invokevirtual 45, 3) := by decide +kernel
theorem dX3_finish_11 : decode cX3_finish 11 = .ok (.aload_n 0, 1) := by decide +kernel
theorem dX3_finish_12 : decode cX3_finish 12 = .ok (.getfield 10, 3) := by decide +kernel
theorem dX3_finish_15 : decode cX3_finish 15 = .ok (.invokevirtual 94, 3) := by decide +kernel
theorem dX3_finish_18 : decode cX3_finish 18 = .ok (.pop, 1) := by decide +kernel
theorem dX3_finish_19 : decode cX3_finish 19 = .ok (.aload_n 0, 1) := by decide +kernel
theorem dX3_finish_20 : decode cX3_finish 20 = .ok (.getfield 10, 3) := by decide +kernel
theorem dX3_finish_23 : decode cX3_finish 23 = .ok (.iconst 0, 1) := by decide +kernel
theorem dX3_finish_24 : decode cX3_finish 24 = .ok (.invokevirtual 97, 3) := by decide +kernel
theorem dX3_finish_27 : decode cX3_finish 27 = .ok (.ireturn, 1) := by decide +kernel
set_option maxRecDepth 20000 in
theorem ggX3_run_X1_faultIndex : GoodIn wsX3_run wsX1_faultIndex := goodIn_r _ [12, 13, 14, 15, 16, 17, 11, 18, 19, 20, 21, 22, 23, 24, 25, 157, 158] (by decide +kernel) (by decide +kernel)
set_option maxRecDepth 20000 in
theorem gX3_run_X1_faultIndex : GoodIn wsX3_run (wsV RX3 100 RX1 yX1_faultIndex wsX1_faultIndex) := goodIn_app (goodIn_of _ (by decide +kernel)) ggX3_run_X1_faultIndex
set_option maxRecDepth 20000 in
theorem ggX3_run_X0_keep : GoodIn wsX3_run wsX0_keep := goodIn_r _ [30, 31, 32, 33, 34, 35, 36, 37, 38, 39, 40, 41, 42, 43, 44, 45, 46, 47, 48, 49, 50, 51, 52, 53, 54, 55, 56, 57, 58, 59, 60, 61, 62, 63, 64, 65, 66, 67, 68, 69, 70, 71, 72, 159, 160, 161, 162, 163, 164, 165, 166, 167, 168, 169, 170, 171, 172, 173, 174] (by decide +kernel) (by decide +kernel)
set_option maxRecDepth 20000 in
theorem gX3_run_X0_keep : GoodIn wsX3_run (wsV RX3 45 RX0 yX0_keep wsX0_keep) := goodIn_app (goodIn_of _ (by decide +kernel)) ggX3_run_X0_keep
set_option maxRecDepth 20000 in
theorem ggX3_run_X1_signAt : GoodIn wsX3_run wsX1_signAt := goodIn_r _ [18, 19, 157, 158] (by decide +kernel) (by decide +kernel)
set_option maxRecDepth 20000 in
theorem gX3_run_X1_signAt : GoodIn wsX3_run (wsV RX3 109 RX1 yX1_signAt wsX1_signAt) := goodIn_app (goodIn_of _ (by decide +kernel)) ggX3_run_X1_signAt
set_option maxRecDepth 20000 in
theorem ggX3_run_X1_isDigit : GoodIn wsX3_run wsX1_isDigit := goodIn_r _ [25] (by decide +kernel) (by decide +kernel)
set_option maxRecDepth 20000 in
theorem gX3_run_X1_isDigit : GoodIn wsX3_run (va_wsS RX3 113 yX1_isDigit wsX1_isDigit) := goodIn_app (goodIn_of _ (by decide +kernel)) ggX3_run_X1_isDigit
set_option maxRecDepth 20000 in
theorem ggX3_run_X3_doMove : GoodIn wsX3_run wsX3_doMove := goodIn_r _ [79, 5, 80, 7, 81, 82, 83, 35, 84, 62, 63, 85, 86, 87, 88, 55, 56, 89, 90, 91, 92, 93, 94, 95, 96, 97, 54, 98, 99, 100, 101, 51, 102, 103, 104, 105, 57, 106, 78, 107, 108, 109, 110, 111, 53, 112, 113, 114, 115, 116, 117, 118, 119, 58, 120, 121, 122, 123, 124, 125, 126, 127, 128, 129, 130, 131, 132, 133, 134, 135, 136, 137, 138, 59, 139, 140, 141, 142, 61, 143, 38, 39, 40, 60, 64, 144, 145, 146, 147, 52, 148, 149, 150, 151, 152, 153, 154, 155, 156, 162, 163, 164, 165, 166, 167, 168, 169, 170, 171, 172, 173, 174] (by decide +kernel) (by decide +kernel)
set_option maxRecDepth 20000 in
theorem gX3_run_X3_doMove : GoodIn wsX3_run (wsV RX3 117 RX3 yX3_doMove wsX3_doMove) := goodIn_app (goodIn_of _ (by decide +kernel)) ggX3_run_X3_doMove
theorem dX3_run_0 : decode cX3_run 0 = .ok (.aload_n 0, 1) := by decide +kernel
theorem dX3_run_1 : decode cX3_run 1 = .ok (.getfield 33, 3) := by decide +kernel
theorem dX3_run_4 : decode cX3_run 4 = .ok (.invokevirtual 100, 3) := by decide +kernel
theorem dX3_run_7 : decode cX3_run 7 = .ok (.ldc 103, 2) := by decide +kernel
theorem dX3_run_9 : decode cX3_run 9 = .ok (.if_icmp .eq 6, 3) := by decide +kernel
theorem dX3_run_12 : decode cX3_run 12 = .ok (.ldc 104, 2) := by decide +kernel
theorem dX3_run_14 : decode cX3_run 14 = .ok (.ireturn, 1) := by decide +kernel
theorem dX3_run_15 : decode cX3_run 15 = .ok (.aload_n 0, 1) := by decide +kernel
theorem dX3_run_16 : decode cX3_run 16 = .ok (.getfield 22, 3) := by decide +kernel
theorem dX3_run_19 : decode cX3_run 19 = .ok (.aload_n 0, 1) := by decide +kernel
theorem dX3_run_20 : decode cX3_run 20 = .ok (.getfield 10, 3) := by decide +kernel
theorem dX3_run_23 : decode cX3_run 23 = .ok (.invokevirtual 45, 3) := by decide +kernel
theorem dX3_run_26 : decode cX3_run 26 = .ok (.iconst 0, 1) := by decide +kernel
theorem dX3_run_27 : decode cX3_run 27 = .ok (.istore_n 1, 1) := by decide +kernel
theorem dX3_run_28 : decode cX3_run 28 = .ok (.iconst 0, 1) := by decide +kernel
theorem dX3_run_29 : decode cX3_run 29 = .ok (.istore_n 2, 1) := by decide +kernel
theorem dX3_run_30 : decode cX3_run 30 = .ok (.iconst 0, 1) := by decide +kernel
theorem dX3_run_31 : decode cX3_run 31 = .ok (.istore_n 3, 1) := by decide +kernel
theorem dX3_run_32 : decode cX3_run 32 = .ok (.iload_n 3, 1) := by decide +kernel
theorem dX3_run_33 : decode cX3_run 33 = .ok (.aload_n 0, 1) := by decide +kernel
theorem dX3_run_34 : decode cX3_run 34 = .ok (.getfield 33, 3) := by decide +kernel
theorem dX3_run_37 : decode cX3_run 37 = .ok (.getfield 105, 3) := by decide +kernel
theorem dX3_run_40 : decode cX3_run 40 = .ok (.if_icmp .ge 108, 3) := by decide +kernel
theorem dX3_run_43 : decode cX3_run 43 = .ok (.aload_n 0, 1) := by decide +kernel
theorem dX3_run_44 : decode cX3_run 44 = .ok (.getfield 33, 3) := by decide +kernel
theorem dX3_run_47 : decode cX3_run 47 = .ok (.iload_n 3, 1) := by decide +kernel
theorem dX3_run_48 : decode cX3_run 48 = .ok (.invokevirtual 109, 3) := by decide +kernel
theorem dX3_run_51 : decode cX3_run 51 = .ok (.istore 4, 2) := by decide +kernel
theorem dX3_run_53 : decode cX3_run 53 = .ok (.iload 4, 2) := by decide +kernel
theorem dX3_run_55 : decode cX3_run 55 = .ok (.invokestatic 113, 3) := by decide +kernel
theorem dX3_run_58 : decode cX3_run 58 = .ok (.ifCond .eq 14, 3) := by decide +kernel
theorem dX3_run_61 : decode cX3_run 61 = .ok (.iload_n 2, 1) := by decide +kernel
theorem dX3_run_62 : decode cX3_run 62 = .ok (.bipush 10, 2) := by decide +kernel
theorem dX3_run_64 : decode cX3_run 64 = .ok (.imul, 1) := by decide +kernel
theorem dX3_run_65 : decode cX3_run 65 = .ok (.iload 4, 2) := by decide +kernel
theorem dX3_run_67 : decode cX3_run 67 = .ok (.iadd, 1) := by decide +kernel
theorem dX3_run_68 : decode cX3_run 68 = .ok (.bipush 48, 2) := by decide +kernel
theorem dX3_run_70 : decode cX3_run 70 = .ok (.isub, 1) := by decide +kernel
theorem dX3_run_71 : decode cX3_run 71 = .ok (.istore_n 2, 1) := by decide +kernel
theorem dX3_run_72 : decode cX3_run 72 = .ok (.iload 4, 2) := by decide +kernel
theorem dX3_run_74 : decode cX3_run 74 = .ok (.bipush 44, 2) := by decide +kernel
theorem dX3_run_76 : decode cX3_run 76 = .ok (.if_icmp .eq 35, 3) := by decide +kernel
theorem dX3_run_79 : decode cX3_run 79 = .ok (.iload_n 3, 1) := by decide +kernel
theorem dX3_run_80 : decode cX3_run 80 = .ok (.iconst 1, 1) := by decide +kernel
theorem dX3_run_81 : decode cX3_run 81 = .ok (.iadd, 1) := by decide +kernel
theorem dX3_run_82 : decode cX3_run 82 = .ok (.aload_n 0, 1) := by decide +kernel
theorem dX3_run_83 : decode cX3_run 83 = .ok (.getfield 33, 3) := by decide +kernel
theorem dX3_run_86 : decode cX3_run 86 = .ok (.getfield 105, 3) := by decide +kernel
theorem dX3_run_89 : decode cX3_run 89 = .ok (.if_icmp .eq 18, 3) := by decide +kernel
theorem dX3_run_92 : decode cX3_run 92 = .ok (.aload_n 0, 1) := by decide +kernel
theorem dX3_run_93 : decode cX3_run 93 = .ok (.getfield 33, 3) := by decide +kernel
theorem dX3_run_96 : decode cX3_run 96 = .ok (.iload_n 3, 1) := by decide +kernel
theorem dX3_run_97 : decode cX3_run 97 = .ok (.iconst 1, 1) := by decide +kernel
theorem dX3_run_98 : decode cX3_run 98 = .ok (.iadd, 1) := by decide +kernel
theorem dX3_run_99 : decode cX3_run 99 = .ok (.invokevirtual 109, 3) := by decide +kernel
theorem dX3_run_102 : decode cX3_run 102 = .ok (.bipush 44, 2) := by decide +kernel
theorem dX3_run_104 : decode cX3_run 104 = .ok (.if_icmp .ne 7, 3) := by decide +kernel
theorem dX3_run_107 : decode cX3_run 107 = .ok (.iconst 1, 1) := by decide +kernel
theorem dX3_run_108 : decode cX3_run 108 = .ok (.goto 4, 3) := by decide +kernel
theorem dX3_run_111 : decode cX3_run 111 = .ok (.iconst 0, 1) := by decide +kernel
theorem dX3_run_112 : decode cX3_run 112 = .ok (.istore 5, 2) := by decide +kernel
theorem dX3_run_114 : decode cX3_run 114 = .ok (.iload 5, 2) := by decide +kernel
theorem dX3_run_116 : decode cX3_run 116 = .ok (.ifCond .ne 6, 3) := by decide +kernel
theorem dX3_run_119 : decode cX3_run 119 = .ok (.goto 23, 3) := by decide +kernel
theorem dX3_run_122 : decode cX3_run 122 = .ok (.aload_n 0, 1) := by decide +kernel
theorem dX3_run_123 : decode cX3_run 123 = .ok (.iload 4, 2) := by decide +kernel
theorem dX3_run_125 : decode cX3_run 125 = .ok (.iload_n 2, 1) := by decide +kernel
theorem dX3_run_126 : decode cX3_run 126 = .ok (.invokevirtual 117, 3) := by decide +kernel
theorem dX3_run_129 : decode cX3_run 129 = .ok (.ldc 61, 2) := by decide +kernel
theorem dX3_run_131 : decode cX3_run 131 = .ok (.if_icmp .ne 6, 3) := by decide +kernel
theorem dX3_run_134 : decode cX3_run 134 = .ok (.goto 14, 3) := by decide +kernel
theorem dX3_run_137 : decode cX3_run 137 = .ok (.iinc 1 1, 3) := by decide +kernel
theorem dX3_run_140 : decode cX3_run 140 = .ok (.iconst 0, 1) := by decide +kernel
theorem dX3_run_141 : decode cX3_run 141 = .ok (.istore_n 2, 1) := by decide +kernel
theorem dX3_run_142 : decode cX3_run 142 = .ok (.iinc 3 1, 3) := by decide +kernel
theorem dX3_run_145 : decode cX3_run 145 = .ok (.goto (-113), 3) := by decide +kernel
theorem dX3_run_148 : decode cX3_run 148 = .ok (.aload_n 0, 1) := by decide +kernel
theorem dX3_run_149 : decode cX3_run 149 = .ok (.getfield 33, 3) := by decide +kernel
theorem dX3_run_152 : decode cX3_run 152 = .ok (.iconst 0, 1) := by decide +kernel
theorem dX3_run_153 : decode cX3_run 153 = .ok (.putfield 105, 3) := by decide +kernel
theorem dX3_run_156 : decode cX3_run 156 = .ok (.iload_n 1, 1) := by decide +kernel
theorem dX3_run_157 : decode cX3_run 157 = .ok (.ireturn, 1) := by decide +kernel
set_option maxRecDepth 20000 in
theorem ggX3_player_X3_isPlayer : GoodIn wsX3_player wsX3_isPlayer := goodIn_r _ [15] (by decide +kernel) (by decide +kernel)
set_option maxRecDepth 20000 in
theorem gX3_player_X3_isPlayer : GoodIn wsX3_player (va_wsS RX3 52 yX3_isPlayer wsX3_isPlayer) := goodIn_app (goodIn_of _ (by decide +kernel)) ggX3_player_X3_isPlayer
theorem dX3_player_0 : decode cX3_player 0 = .ok (.iload_n 1, 1) := by decide +kernel
theorem dX3_player_1 : decode cX3_player 1 = .ok (.invokestatic 52, 3) := by decide +kernel
theorem dX3_player_4 : decode cX3_player 4 = .ok (.ifCond .ne 6, 3) := by decide +kernel
theorem dX3_player_7 : decode cX3_player 7 = .ok (.ldc 56, 2) := by decide +kernel
theorem dX3_player_9 : decode cX3_player 9 = .ok (.ireturn, 1) := by decide +kernel
theorem dX3_player_10 : decode cX3_player 10 = .ok (.iload_n 2, 1) := by decide +kernel
theorem dX3_player_11 : decode cX3_player 11 = .ok (.tableswitch 125 0 7 #[45, 55, 65, 75, 85, 95, 105, 115], 45) := by decide +kernel
theorem dX3_player_56 : decode cX3_player 56 = .ok (.aload_n 0, 1) := by decide +kernel
theorem dX3_player_57 : decode cX3_player 57 = .ok (.getfield 10, 3) := by decide +kernel
theorem dX3_player_60 : decode cX3_player 60 = .ok (.getfield 62, 3) := by decide +kernel
theorem dX3_player_63 : decode cX3_player 63 = .ok (.iload_n 1, 1) := by decide +kernel
theorem dX3_player_64 : decode cX3_player 64 = .ok (.iaload, 1) := by decide +kernel
theorem dX3_player_65 : decode cX3_player 65 = .ok (.ireturn, 1) := by decide +kernel
theorem dX3_player_66 : decode cX3_player 66 = .ok (.aload_n 0, 1) := by decide +kernel
theorem dX3_player_67 : decode cX3_player 67 = .ok (.getfield 10, 3) := by decide +kernel
theorem dX3_player_70 : decode cX3_player 70 = .ok (.getfield 65, 3) := by decide +kernel
theorem dX3_player_73 : decode cX3_player 73 = .ok (.iload_n 1, 1) := by decide +kernel
theorem dX3_player_74 : decode cX3_player 74 = .ok (.iaload, 1) := by decide +kernel
theorem dX3_player_75 : decode cX3_player 75 = .ok (.ireturn, 1) := by decide +kernel
theorem dX3_player_76 : decode cX3_player 76 = .ok (.aload_n 0, 1) := by decide +kernel
theorem dX3_player_77 : decode cX3_player 77 = .ok (.getfield 10, 3) := by decide +kernel
theorem dX3_player_80 : decode cX3_player 80 = .ok (.getfield 121, 3) := by decide +kernel
theorem dX3_player_83 : decode cX3_player 83 = .ok (.iload_n 1, 1) := by decide +kernel
theorem dX3_player_84 : decode cX3_player 84 = .ok (.iaload, 1) := by decide +kernel
theorem dX3_player_85 : decode cX3_player 85 = .ok (.ireturn, 1) := by decide +kernel
theorem dX3_player_86 : decode cX3_player 86 = .ok (.aload_n 0, 1) := by decide +kernel
theorem dX3_player_87 : decode cX3_player 87 = .ok (.getfield 10, 3) := by decide +kernel
theorem dX3_player_90 : decode cX3_player 90 = .ok (.getfield 124, 3) := by decide +kernel
theorem dX3_player_93 : decode cX3_player 93 = .ok (.iload_n 1, 1) := by decide +kernel
theorem dX3_player_94 : decode cX3_player 94 = .ok (.iaload, 1) := by decide +kernel
theorem dX3_player_95 : decode cX3_player 95 = .ok (.ireturn, 1) := by decide +kernel
theorem dX3_player_96 : decode cX3_player 96 = .ok (.aload_n 0, 1) := by decide +kernel
theorem dX3_player_97 : decode cX3_player 97 = .ok (.getfield 10, 3) := by decide +kernel
theorem dX3_player_100 : decode cX3_player 100 = .ok (.getfield 127, 3) := by decide +kernel
theorem dX3_player_103 : decode cX3_player 103 = .ok (.iload_n 1, 1) := by decide +kernel
theorem dX3_player_104 : decode cX3_player 104 = .ok (.iaload, 1) := by decide +kernel
theorem dX3_player_105 : decode cX3_player 105 = .ok (.ireturn, 1) := by decide +kernel
theorem dX3_player_106 : decode cX3_player 106 = .ok (.aload_n 0, 1) := by decide +kernel
theorem dX3_player_107 : decode cX3_player 107 = .ok (.getfield 10, 3) := by decide +kernel
theorem dX3_player_110 : decode cX3_player 110 = .ok (.getfield 130, 3) := by decide +kernel
theorem dX3_player_113 : decode cX3_player 113 = .ok (.iload_n 1, 1) := by decide +kernel
theorem dX3_player_114 : decode cX3_player 114 = .ok (.iaload, 1) := by decide +kernel
theorem dX3_player_115 : decode cX3_player 115 = .ok (.ireturn, 1) := by decide +kernel
theorem dX3_player_116 : decode cX3_player 116 = .ok (.aload_n 0, 1) := by decide +kernel
theorem dX3_player_117 : decode cX3_player 117 = .ok (.getfield 10, 3) := by decide +kernel
theorem dX3_player_120 : decode cX3_player 120 = .ok (.getfield 133, 3) := by decide +kernel
theorem dX3_player_123 : decode cX3_player 123 = .ok (.iload_n 1, 1) := by decide +kernel
theorem dX3_player_124 : decode cX3_player 124 = .ok (.iaload, 1) := by decide +kernel
theorem dX3_player_125 : decode cX3_player 125 = .ok (.ireturn, 1) := by decide +kernel
theorem dX3_player_126 : decode cX3_player 126 = .ok (.aload_n 0, 1) := by decide +kernel
theorem dX3_player_127 : decode cX3_player 127 = .ok (.getfield 10, 3) := by decide +kernel
theorem dX3_player_130 : decode cX3_player 130 = .ok (.getfield 136, 3) := by decide +kernel
theorem dX3_player_133 : decode cX3_player 133 = .ok (.iload_n 1, 1) := by decide +kernel
theorem dX3_player_134 : decode cX3_player 134 = .ok (.iaload, 1) := by decide +kernel
theorem dX3_player_135 : decode cX3_player 135 = .ok (.ireturn, 1) := by decide +kernel
theorem dX3_player_136 : decode cX3_player 136 = .ok (.ldc 37, 2) := by decide +kernel
theorem dX3_player_138 : decode cX3_player 138 = .ok (.ireturn, 1) := by decide +kernel
set_option maxRecDepth 20000 in
theorem ggX3_at_X2_playerAt : GoodIn wsX3_at wsX2_playerAt := goodIn_r _ [7, 8, 9, 15, 16, 17, 18, 19, 20, 21, 22, 23, 24, 25, 26, 27] (by decide +kernel) (by decide +kernel)
set_option maxRecDepth 20000 in
theorem gX3_at_X2_playerAt : GoodIn wsX3_at (wsV RX3 97 RX2 yX2_playerAt wsX2_playerAt) := goodIn_app (goodIn_of _ (by decide +kernel)) ggX3_at_X2_playerAt
theorem dX3_at_0 : decode cX3_at 0 = .ok (.iload_n 1, 1) := by decide +kernel
theorem dX3_at_1 : decode cX3_at 1 = .ok (.ifCond .lt 8, 3) := by decide +kernel
theorem dX3_at_4 : decode cX3_at 4 = .ok (.iload_n 1, 1) := by decide +kernel
theorem dX3_at_5 : decode cX3_at 5 = .ok (.iconst 5, 1) := by decide +kernel
theorem dX3_at_6 : decode cX3_at 6 = .ok (.if_icmp .lt 6, 3) := by decide +kernel
theorem dX3_at_9 : decode cX3_at 9 = .ok (.ldc 56, 2) := by decide +kernel
theorem dX3_at_11 : decode cX3_at 11 = .ok (.ireturn, 1) := by decide +kernel
theorem dX3_at_12 : decode cX3_at 12 = .ok (.aload_n 0, 1) := by decide +kernel
theorem dX3_at_13 : decode cX3_at 13 = .ok (.getfield 10, 3) := by decide +kernel
theorem dX3_at_16 : decode cX3_at 16 = .ok (.iload_n 1, 1) := by decide +kernel
theorem dX3_at_17 : decode cX3_at 17 = .ok (.invokevirtual 97, 3) := by decide +kernel
theorem dX3_at_20 : decode cX3_at 20 = .ok (.ireturn, 1) := by decide +kernel
set_option maxRecDepth 20000 in
theorem ggX3_count_X2_highestBid : GoodIn wsX3_count wsX2_highestBid := goodIn_r _ [19, 20, 21, 43, 44, 45, 46, 47, 48, 49, 50, 51, 52, 53, 54, 55] (by decide +kernel) (by decide +kernel)
set_option maxRecDepth 20000 in
theorem gX3_count_X2_highestBid : GoodIn wsX3_count (wsV RX3 142 RX2 yX2_highestBid wsX2_highestBid) := goodIn_app (goodIn_of _ (by decide +kernel)) ggX3_count_X2_highestBid
set_option maxRecDepth 20000 in
theorem ggX3_count_X2_leastBid : GoodIn wsX3_count wsX2_leastBid := goodIn_r _ [25, 26, 20, 27, 28, 16, 17, 18, 19, 21, 43, 44, 45, 46, 47, 48, 49, 50, 51, 52, 53, 54, 55] (by decide +kernel) (by decide +kernel)
set_option maxRecDepth 20000 in
theorem gX3_count_X2_leastBid : GoodIn wsX3_count (wsV RX3 145 RX2 yX2_leastBid wsX2_leastBid) := goodIn_app (goodIn_of _ (by decide +kernel)) ggX3_count_X2_leastBid
set_option maxRecDepth 20000 in
theorem ggX3_count_X2_playersLeft : GoodIn wsX3_count wsX2_playersLeft := goodIn_r _ [32, 26, 33, 20, 43, 44, 45, 46, 47, 48, 49, 50, 51, 52, 53, 54, 55] (by decide +kernel) (by decide +kernel)
set_option maxRecDepth 20000 in
theorem gX3_count_X2_playersLeft : GoodIn wsX3_count (wsV RX3 148 RX2 yX2_playersLeft wsX2_playersLeft) := goodIn_app (goodIn_of _ (by decide +kernel)) ggX3_count_X2_playersLeft
set_option maxRecDepth 20000 in
theorem ggX3_count_X3_sum : GoodIn wsX3_count wsX3_sum := goodIn_r _ [37] (by decide +kernel) (by decide +kernel)
set_option maxRecDepth 20000 in
theorem gX3_count_X3_sum : GoodIn wsX3_count (va_wsS RX3 154 yX3_sum wsX3_sum) := goodIn_app (goodIn_of _ (by decide +kernel)) ggX3_count_X3_sum
theorem dX3_count_0 : decode cX3_count 0 = .ok (.iload_n 1, 1) := by decide +kernel
theorem dX3_count_1 : decode cX3_count 1 = .ok (.ifCond .lt 18, 3) := by decide +kernel
theorem dX3_count_4 : decode cX3_count 4 = .ok (.iload_n 1, 1) := by decide +kernel
theorem dX3_count_5 : decode cX3_count 5 = .ok (.iconst 4, 1) := by decide +kernel
theorem dX3_count_6 : decode cX3_count 6 = .ok (.if_icmp .ge 13, 3) := by decide +kernel
theorem dX3_count_9 : decode cX3_count 9 = .ok (.aload_n 0, 1) := by decide +kernel
theorem dX3_count_10 : decode cX3_count 10 = .ok (.getfield 10, 3) := by decide +kernel
theorem dX3_count_13 : decode cX3_count 13 = .ok (.getfield 49, 3) := by decide +kernel
theorem dX3_count_16 : decode cX3_count 16 = .ok (.iload_n 1, 1) := by decide +kernel
theorem dX3_count_17 : decode cX3_count 17 = .ok (.iaload, 1) := by decide +kernel
theorem dX3_count_18 : decode cX3_count 18 = .ok (.ireturn, 1) := by decide +kernel
theorem dX3_count_19 : decode cX3_count 19 = .ok (.iload_n 1, 1) := by decide +kernel
theorem dX3_count_20 : decode cX3_count 20 = .ok (.tableswitch 180 4 15 #[64, 80, 88, 96, 104, 112, 120, 131, 142, 153, 164, 172], 64) := by decide +kernel
theorem dX3_count_84 : decode cX3_count 84 = .ok (.aload_n 0, 1) := by decide +kernel
theorem dX3_count_85 : decode cX3_count 85 = .ok (.getfield 10, 3) := by decide +kernel
theorem dX3_count_88 : decode cX3_count 88 = .ok (.getfield 74, 3) := by decide +kernel
theorem dX3_count_91 : decode cX3_count 91 = .ok (.ifCond .eq 7, 3) := by decide +kernel
theorem dX3_count_94 : decode cX3_count 94 = .ok (.iconst 1, 1) := by decide +kernel
theorem dX3_count_95 : decode cX3_count 95 = .ok (.goto 4, 3) := by decide +kernel
theorem dX3_count_98 : decode cX3_count 98 = .ok (.iconst 0, 1) := by decide +kernel
theorem dX3_count_99 : decode cX3_count 99 = .ok (.ireturn, 1) := by decide +kernel
theorem dX3_count_100 : decode cX3_count 100 = .ok (.aload_n 0, 1) := by decide +kernel
theorem dX3_count_101 : decode cX3_count 101 = .ok (.getfield 10, 3) := by decide +kernel
theorem dX3_count_104 : decode cX3_count 104 = .ok (.getfield 139, 3) := by decide +kernel
theorem dX3_count_107 : decode cX3_count 107 = .ok (.ireturn, 1) := by decide +kernel
theorem dX3_count_108 : decode cX3_count 108 = .ok (.aload_n 0, 1) := by decide +kernel
theorem dX3_count_109 : decode cX3_count 109 = .ok (.getfield 10, 3) := by decide +kernel
theorem dX3_count_112 : decode cX3_count 112 = .ok (.invokevirtual 142, 3) := by decide +kernel
theorem dX3_count_115 : decode cX3_count 115 = .ok (.ireturn, 1) := by decide +kernel
theorem dX3_count_116 : decode cX3_count 116 = .ok (.aload_n 0, 1) := by decide +kernel
theorem dX3_count_117 : decode cX3_count 117 = .ok (.getfield 10, 3) := by decide +kernel
theorem dX3_count_120 : decode cX3_count 120 = .ok (.invokevirtual 145, 3) := by decide +kernel
theorem dX3_count_123 : decode cX3_count 123 = .ok (.ireturn, 1) := by decide +kernel
theorem dX3_count_124 : decode cX3_count 124 = .ok (.aload_n 0, 1) := by decide +kernel
theorem dX3_count_125 : decode cX3_count 125 = .ok (.getfield 10, 3) := by decide +kernel
theorem dX3_count_128 : decode cX3_count 128 = .ok (.invokevirtual 148, 3) := by decide +kernel
theorem dX3_count_131 : decode cX3_count 131 = .ok (.ireturn, 1) := by decide +kernel
theorem dX3_count_132 : decode cX3_count 132 = .ok (.aload_n 0, 1) := by decide +kernel
theorem dX3_count_133 : decode cX3_count 133 = .ok (.getfield 10, 3) := by decide +kernel
theorem dX3_count_136 : decode cX3_count 136 = .ok (.getfield 151, 3) := by decide +kernel
theorem dX3_count_139 : decode cX3_count 139 = .ok (.ireturn, 1) := by decide +kernel
theorem dX3_count_140 : decode cX3_count 140 = .ok (.aload_n 0, 1) := by decide +kernel
theorem dX3_count_141 : decode cX3_count 141 = .ok (.getfield 10, 3) := by decide +kernel
theorem dX3_count_144 : decode cX3_count 144 = .ok (.getfield 62, 3) := by decide +kernel
theorem dX3_count_147 : decode cX3_count 147 = .ok (.invokestatic 154, 3) := by decide +kernel
theorem dX3_count_150 : decode cX3_count 150 = .ok (.ireturn, 1) := by decide +kernel
theorem dX3_count_151 : decode cX3_count 151 = .ok (.aload_n 0, 1) := by decide +kernel
theorem dX3_count_152 : decode cX3_count 152 = .ok (.getfield 10, 3) := by decide +kernel
theorem dX3_count_155 : decode cX3_count 155 = .ok (.getfield 130, 3) := by decide +kernel
theorem dX3_count_158 : decode cX3_count 158 = .ok (.invokestatic 154, 3) := by decide +kernel
theorem dX3_count_161 : decode cX3_count 161 = .ok (.ireturn, 1) := by decide +kernel
theorem dX3_count_162 : decode cX3_count 162 = .ok (.aload_n 0, 1) := by decide +kernel
theorem dX3_count_163 : decode cX3_count 163 = .ok (.getfield 10, 3) := by decide +kernel
theorem dX3_count_166 : decode cX3_count 166 = .ok (.getfield 133, 3) := by decide +kernel
theorem dX3_count_169 : decode cX3_count 169 = .ok (.invokestatic 154, 3) := by decide +kernel
theorem dX3_count_172 : decode cX3_count 172 = .ok (.ireturn, 1) := by decide +kernel
theorem dX3_count_173 : decode cX3_count 173 = .ok (.aload_n 0, 1) := by decide +kernel
theorem dX3_count_174 : decode cX3_count 174 = .ok (.getfield 10, 3) := by decide +kernel
theorem dX3_count_177 : decode cX3_count 177 = .ok (.getfield 71, 3) := by decide +kernel
theorem dX3_count_180 : decode cX3_count 180 = .ok (.invokestatic 154, 3) := by decide +kernel
theorem dX3_count_183 : decode cX3_count 183 = .ok (.ireturn, 1) := by decide +kernel
theorem dX3_count_184 : decode cX3_count 184 = .ok (.aload_n 0, 1) := by decide +kernel
theorem dX3_count_185 : decode cX3_count 185 = .ok (.getfield 33, 3) := by decide +kernel
theorem dX3_count_188 : decode cX3_count 188 = .ok (.getfield 105, 3) := by decide +kernel
theorem dX3_count_191 : decode cX3_count 191 = .ok (.ireturn, 1) := by decide +kernel
theorem dX3_count_192 : decode cX3_count 192 = .ok (.aload_n 0, 1) := by decide +kernel
theorem dX3_count_193 : decode cX3_count 193 = .ok (.getfield 22, 3) := by decide +kernel
theorem dX3_count_196 : decode cX3_count 196 = .ok (.getfield 158, 3) := by decide +kernel
theorem dX3_count_199 : decode cX3_count 199 = .ok (.ireturn, 1) := by decide +kernel
theorem dX3_count_200 : decode cX3_count 200 = .ok (.ldc 37, 2) := by decide +kernel
theorem dX3_count_202 : decode cX3_count 202 = .ok (.ireturn, 1) := by decide +kernel
set_option maxRecDepth 20000 in
theorem ggX3_prizeOf_X3_isPrize : GoodIn wsX3_prizeOf wsX3_isPrize := goodIn_r _ [7] (by decide +kernel) (by decide +kernel)
set_option maxRecDepth 20000 in
theorem gX3_prizeOf_X3_isPrize : GoodIn wsX3_prizeOf (va_wsS RX3 68 yX3_isPrize wsX3_isPrize) := goodIn_app (goodIn_of _ (by decide +kernel)) ggX3_prizeOf_X3_isPrize
theorem dX3_prizeOf_0 : decode cX3_prizeOf 0 = .ok (.iload_n 1, 1) := by decide +kernel
theorem dX3_prizeOf_1 : decode cX3_prizeOf 1 = .ok (.invokestatic 68, 3) := by decide +kernel
theorem dX3_prizeOf_4 : decode cX3_prizeOf 4 = .ok (.ifCond .ne 6, 3) := by decide +kernel
theorem dX3_prizeOf_7 : decode cX3_prizeOf 7 = .ok (.ldc 56, 2) := by decide +kernel
theorem dX3_prizeOf_9 : decode cX3_prizeOf 9 = .ok (.ireturn, 1) := by decide +kernel
theorem dX3_prizeOf_10 : decode cX3_prizeOf 10 = .ok (.aload_n 0, 1) := by decide +kernel
theorem dX3_prizeOf_11 : decode cX3_prizeOf 11 = .ok (.getfield 10, 3) := by decide +kernel
theorem dX3_prizeOf_14 : decode cX3_prizeOf 14 = .ok (.getfield 71, 3) := by decide +kernel
theorem dX3_prizeOf_17 : decode cX3_prizeOf 17 = .ok (.iload_n 1, 1) := by decide +kernel
theorem dX3_prizeOf_18 : decode cX3_prizeOf 18 = .ok (.iaload, 1) := by decide +kernel
theorem dX3_prizeOf_19 : decode cX3_prizeOf 19 = .ok (.ireturn, 1) := by decide +kernel
set_option maxRecDepth 20000 in
theorem ggX3_ifFinished_X3_isPlayer : GoodIn wsX3_ifFinished wsX3_isPlayer := goodIn_r _ [12] (by decide +kernel) (by decide +kernel)
set_option maxRecDepth 20000 in
theorem gX3_ifFinished_X3_isPlayer : GoodIn wsX3_ifFinished (va_wsS RX3 52 yX3_isPlayer wsX3_isPlayer) := goodIn_app (goodIn_of _ (by decide +kernel)) ggX3_ifFinished_X3_isPlayer
set_option maxRecDepth 20000 in
theorem ggX3_ifFinished_X3_tryRounds : GoodIn wsX3_ifFinished wsX3_tryRounds := goodIn_r _ [16, 3, 6, 17, 18, 19, 20, 21, 22, 23, 24, 25, 26, 27, 28, 29, 30, 31, 32, 33, 34, 35, 36, 37, 38, 39, 40, 41, 42, 43, 44, 45, 46, 47, 48, 49, 50, 51, 52, 53, 54, 55, 56, 57, 58, 59, 60, 61, 62, 63, 10, 11, 12, 64, 65, 66, 67, 68, 69, 70, 71, 72, 73, 74, 75, 76, 77, 78, 79, 80, 81, 82, 83, 84, 85, 86, 87, 88, 89, 90, 91, 92, 93, 94, 95, 96, 97, 98, 99, 100, 101, 102, 103, 104, 105, 106, 107, 108, 109, 110, 111, 112, 113, 114, 115, 116, 117, 118, 119, 120, 121, 122, 123, 124] (by decide +kernel) (by decide +kernel)
set_option maxRecDepth 20000 in
theorem gX3_ifFinished_X3_tryRounds : GoodIn wsX3_ifFinished (wsV RX3 159 RX3 yX3_tryRounds wsX3_tryRounds) := goodIn_app (goodIn_of _ (by decide +kernel)) ggX3_ifFinished_X3_tryRounds
theorem dX3_ifFinished_0 : decode cX3_ifFinished 0 = .ok (.iload_n 1, 1) := by decide +kernel
theorem dX3_ifFinished_1 : decode cX3_ifFinished 1 = .ok (.invokestatic 52, 3) := by decide +kernel
theorem dX3_ifFinished_4 : decode cX3_ifFinished 4 = .ok (.ifCond .ne 6, 3) := by decide +kernel
theorem dX3_ifFinished_7 : decode cX3_ifFinished 7 = .ok (.ldc 56, 2) := by decide +kernel
theorem dX3_ifFinished_9 : decode cX3_ifFinished 9 = .ok (.ireturn, 1) := by decide +kernel
theorem dX3_ifFinished_10 : decode cX3_ifFinished 10 = .ok (.iload_n 2, 1) := by decide +kernel
theorem dX3_ifFinished_11 : decode cX3_ifFinished 11 = .ok (.ifCond .lt 8, 3) := by decide +kernel
theorem dX3_ifFinished_14 : decode cX3_ifFinished 14 = .ok (.iload_n 2, 1) := by decide +kernel
theorem dX3_ifFinished_15 : decode cX3_ifFinished 15 = .ok (.iconst 3, 1) := by decide +kernel
theorem dX3_ifFinished_16 : decode cX3_ifFinished 16 = .ok (.if_icmp .le 6, 3) := by decide +kernel
theorem dX3_ifFinished_19 : decode cX3_ifFinished 19 = .ok (.ldc 37, 2) := by decide +kernel
theorem dX3_ifFinished_21 : decode cX3_ifFinished 21 = .ok (.ireturn, 1) := by decide +kernel
theorem dX3_ifFinished_22 : decode cX3_ifFinished 22 = .ok (.aload_n 0, 1) := by decide +kernel
theorem dX3_ifFinished_23 : decode cX3_ifFinished 23 = .ok (.iconst 1, 1) := by decide +kernel
theorem dX3_ifFinished_24 : decode cX3_ifFinished 24 = .ok (.invokevirtual 159, 3) := by decide +kernel
theorem dX3_ifFinished_27 : decode cX3_ifFinished 27 = .ok (.iload_n 2, 1) := by decide +kernel
theorem dX3_ifFinished_28 : decode cX3_ifFinished 28 = .ok (.tableswitch 78 0 2 #[28, 38, 58], 28) := by decide +kernel
theorem dX3_ifFinished_56 : decode cX3_ifFinished 56 = .ok (.aload_n 0, 1) := by decide +kernel
theorem dX3_ifFinished_57 : decode cX3_ifFinished 57 = .ok (.getfield 16, 3) := by decide +kernel
theorem dX3_ifFinished_60 : decode cX3_ifFinished 60 = .ok (.getfield 121, 3) := by decide +kernel
theorem dX3_ifFinished_63 : decode cX3_ifFinished 63 = .ok (.iload_n 1, 1) := by decide +kernel
theorem dX3_ifFinished_64 : decode cX3_ifFinished 64 = .ok (.iaload, 1) := by decide +kernel
theorem dX3_ifFinished_65 : decode cX3_ifFinished 65 = .ok (.ireturn, 1) := by decide +kernel
theorem dX3_ifFinished_66 : decode cX3_ifFinished 66 = .ok (.aload_n 0, 1) := by decide +kernel
theorem dX3_ifFinished_67 : decode cX3_ifFinished 67 = .ok (.getfield 16, 3) := by decide +kernel
theorem dX3_ifFinished_70 : decode cX3_ifFinished 70 = .ok (.getfield 130, 3) := by decide +kernel
theorem dX3_ifFinished_73 : decode cX3_ifFinished 73 = .ok (.iload_n 1, 1) := by decide +kernel
theorem dX3_ifFinished_74 : decode cX3_ifFinished 74 = .ok (.iaload, 1) := by decide +kernel
theorem dX3_ifFinished_75 : decode cX3_ifFinished 75 = .ok (.aload_n 0, 1) := by decide +kernel
theorem dX3_ifFinished_76 : decode cX3_ifFinished 76 = .ok (.getfield 10, 3) := by decide +kernel
theorem dX3_ifFinished_79 : decode cX3_ifFinished 79 = .ok (.getfield 130, 3) := by decide +kernel
theorem dX3_ifFinished_82 : decode cX3_ifFinished 82 = .ok (.iload_n 1, 1) := by decide +kernel
theorem dX3_ifFinished_83 : decode cX3_ifFinished 83 = .ok (.iaload, 1) := by decide +kernel
theorem dX3_ifFinished_84 : decode cX3_ifFinished 84 = .ok (.isub, 1) := by decide +kernel
theorem dX3_ifFinished_85 : decode cX3_ifFinished 85 = .ok (.ireturn, 1) := by decide +kernel
theorem dX3_ifFinished_86 : decode cX3_ifFinished 86 = .ok (.aload_n 0, 1) := by decide +kernel
theorem dX3_ifFinished_87 : decode cX3_ifFinished 87 = .ok (.getfield 16, 3) := by decide +kernel
theorem dX3_ifFinished_90 : decode cX3_ifFinished 90 = .ok (.getfield 133, 3) := by decide +kernel
theorem dX3_ifFinished_93 : decode cX3_ifFinished 93 = .ok (.iload_n 1, 1) := by decide +kernel
theorem dX3_ifFinished_94 : decode cX3_ifFinished 94 = .ok (.iaload, 1) := by decide +kernel
theorem dX3_ifFinished_95 : decode cX3_ifFinished 95 = .ok (.aload_n 0, 1) := by decide +kernel
theorem dX3_ifFinished_96 : decode cX3_ifFinished 96 = .ok (.getfield 10, 3) := by decide +kernel
theorem dX3_ifFinished_99 : decode cX3_ifFinished 99 = .ok (.getfield 133, 3) := by decide +kernel
theorem dX3_ifFinished_102 : decode cX3_ifFinished 102 = .ok (.iload_n 1, 1) := by decide +kernel
theorem dX3_ifFinished_103 : decode cX3_ifFinished 103 = .ok (.iaload, 1) := by decide +kernel
theorem dX3_ifFinished_104 : decode cX3_ifFinished 104 = .ok (.isub, 1) := by decide +kernel
theorem dX3_ifFinished_105 : decode cX3_ifFinished 105 = .ok (.ireturn, 1) := by decide +kernel
theorem dX3_ifFinished_106 : decode cX3_ifFinished 106 = .ok (.aload_n 0, 1) := by decide +kernel
theorem dX3_ifFinished_107 : decode cX3_ifFinished 107 = .ok (.getfield 16, 3) := by decide +kernel
theorem dX3_ifFinished_110 : decode cX3_ifFinished 110 = .ok (.getfield 62, 3) := by decide +kernel
theorem dX3_ifFinished_113 : decode cX3_ifFinished 113 = .ok (.iload_n 1, 1) := by decide +kernel
theorem dX3_ifFinished_114 : decode cX3_ifFinished 114 = .ok (.iaload, 1) := by decide +kernel
theorem dX3_ifFinished_115 : decode cX3_ifFinished 115 = .ok (.aload_n 0, 1) := by decide +kernel
theorem dX3_ifFinished_116 : decode cX3_ifFinished 116 = .ok (.getfield 10, 3) := by decide +kernel
theorem dX3_ifFinished_119 : decode cX3_ifFinished 119 = .ok (.getfield 62, 3) := by decide +kernel
theorem dX3_ifFinished_122 : decode cX3_ifFinished 122 = .ok (.iload_n 1, 1) := by decide +kernel
theorem dX3_ifFinished_123 : decode cX3_ifFinished 123 = .ok (.iaload, 1) := by decide +kernel
theorem dX3_ifFinished_124 : decode cX3_ifFinished 124 = .ok (.isub, 1) := by decide +kernel
theorem dX3_ifFinished_125 : decode cX3_ifFinished 125 = .ok (.ireturn, 1) := by decide +kernel
set_option maxRecDepth 20000 in
theorem ggX3_bestLimit_X3_isPlayer : GoodIn wsX3_bestLimit wsX3_isPlayer := goodIn_r _ [11] (by decide +kernel) (by decide +kernel)
set_option maxRecDepth 20000 in
theorem gX3_bestLimit_X3_isPlayer : GoodIn wsX3_bestLimit (va_wsS RX3 52 yX3_isPlayer wsX3_isPlayer) := goodIn_app (goodIn_of _ (by decide +kernel)) ggX3_bestLimit_X3_isPlayer
set_option maxRecDepth 20000 in
theorem ggX3_bestLimit_X2_copyFrom : GoodIn wsX3_bestLimit wsX2_copyFrom := goodIn_r _ [16, 17, 18, 19, 20, 21, 22, 23, 24, 25, 26, 27, 28, 29, 30, 31, 32, 33, 107, 108, 109, 110, 111, 112, 113, 114, 115, 116, 117, 118, 119] (by decide +kernel) (by decide +kernel)
set_option maxRecDepth 20000 in
theorem gX3_bestLimit_X2_copyFrom : GoodIn wsX3_bestLimit (wsV RX3 163 RX2 yX2_copyFrom wsX2_copyFrom) := goodIn_app (goodIn_of _ (by decide +kernel)) ggX3_bestLimit_X2_copyFrom
set_option maxRecDepth 20000 in
theorem ggX3_bestLimit_X2_playRound : GoodIn wsX3_bestLimit wsX2_playRound := goodIn_r _ [37, 31, 38, 39, 40, 15, 41, 32, 42, 43, 44, 45, 25, 46, 47, 48, 49, 50, 24, 51, 52, 53, 54, 17, 55, 56, 57, 58, 26, 9, 10, 11, 59, 60, 61, 62, 23, 63, 64, 65, 66, 67, 68, 69, 70, 27, 71, 72, 73, 74, 75, 76, 77, 78, 79, 80, 81, 82, 83, 84, 85, 86, 87, 88, 89, 28, 90, 91, 92, 93, 30, 94, 95, 96, 97, 29, 33, 98, 99, 100, 101, 22, 107, 108, 109, 110, 111, 112, 113, 114, 115, 116, 117, 118, 119] (by decide +kernel) (by decide +kernel)
set_option maxRecDepth 20000 in
theorem gX3_bestLimit_X2_playRound : GoodIn wsX3_bestLimit (wsV RX3 94 RX2 yX2_playRound wsX2_playRound) := goodIn_app (goodIn_of _ (by decide +kernel)) ggX3_bestLimit_X2_playRound
theorem dX3_bestLimit_0 : decode cX3_bestLimit 0 = .ok (.iload_n 1, 1) := by decide +kernel
theorem dX3_bestLimit_1 : decode cX3_bestLimit 1 = .ok (.invokestatic 52, 3) := by decide +kernel
theorem dX3_bestLimit_4 : decode cX3_bestLimit 4 = .ok (.ifCond .ne 6, 3) := by decide +kernel
theorem dX3_bestLimit_7 : decode cX3_bestLimit 7 = .ok (.ldc 56, 2) := by decide +kernel
theorem dX3_bestLimit_9 : decode cX3_bestLimit 9 = .ok (.ireturn, 1) := by decide +kernel
theorem dX3_bestLimit_10 : decode cX3_bestLimit 10 = .ok (.iload_n 2, 1) := by decide +kernel
theorem dX3_bestLimit_11 : decode cX3_bestLimit 11 = .ok (.ifCond .eq 11, 3) := by decide +kernel
theorem dX3_bestLimit_14 : decode cX3_bestLimit 14 = .ok (.iload_n 2, 1) := by decide +kernel
theorem dX3_bestLimit_15 : decode cX3_bestLimit 15 = .ok (.iconst 1, 1) := by decide +kernel
theorem dX3_bestLimit_16 : decode cX3_bestLimit 16 = .ok (.if_icmp .eq 6, 3) := by decide +kernel
theorem dX3_bestLimit_19 : decode cX3_bestLimit 19 = .ok (.ldc 37, 2) := by decide +kernel
theorem dX3_bestLimit_21 : decode cX3_bestLimit 21 = .ok (.ireturn, 1) := by decide +kernel
theorem dX3_bestLimit_22 : decode cX3_bestLimit 22 = .ok (.iconst 0, 1) := by decide +kernel
theorem dX3_bestLimit_23 : decode cX3_bestLimit 23 = .ok (.istore_n 3, 1) := by decide +kernel
theorem dX3_bestLimit_24 : decode cX3_bestLimit 24 = .ok (.ldc 103, 2) := by decide +kernel
theorem dX3_bestLimit_26 : decode cX3_bestLimit 26 = .ok (.istore 4, 2) := by decide +kernel
theorem dX3_bestLimit_28 : decode cX3_bestLimit 28 = .ok (.iconst 0, 1) := by decide +kernel
theorem dX3_bestLimit_29 : decode cX3_bestLimit 29 = .ok (.istore 5, 2) := by decide +kernel
theorem dX3_bestLimit_31 : decode cX3_bestLimit 31 = .ok (.iload 5, 2) := by decide +kernel
theorem dX3_bestLimit_33 : decode cX3_bestLimit 33 = .ok (.bipush 99, 2) := by decide +kernel
theorem dX3_bestLimit_35 : decode cX3_bestLimit 35 = .ok (.if_icmp .gt 67, 3) := by decide +kernel
theorem dX3_bestLimit_38 : decode cX3_bestLimit 38 = .ok (.aload_n 0, 1) := by decide +kernel
theorem dX3_bestLimit_39 : decode cX3_bestLimit 39 = .ok (.getfield 16, 3) := by decide +kernel
theorem dX3_bestLimit_42 : decode cX3_bestLimit 42 = .ok (.aload_n 0, 1) := by decide +kernel
theorem dX3_bestLimit_43 : decode cX3_bestLimit 43 = .ok (.getfield 10, 3) := by decide +kernel
theorem dX3_bestLimit_46 : decode cX3_bestLimit 46 = .ok (.invokevirtual 163, 3) := by decide +kernel
theorem dX3_bestLimit_49 : decode cX3_bestLimit 49 = .ok (.aload_n 0, 1) := by decide +kernel
theorem dX3_bestLimit_50 : decode cX3_bestLimit 50 = .ok (.getfield 16, 3) := by decide +kernel
theorem dX3_bestLimit_53 : decode cX3_bestLimit 53 = .ok (.getfield 65, 3) := by decide +kernel
theorem dX3_bestLimit_56 : decode cX3_bestLimit 56 = .ok (.iload_n 1, 1) := by decide +kernel
theorem dX3_bestLimit_57 : decode cX3_bestLimit 57 = .ok (.iload 5, 2) := by decide +kernel
theorem dX3_bestLimit_59 : decode cX3_bestLimit 59 = .ok (.iastore, 1) := by decide +kernel
theorem dX3_bestLimit_60 : decode cX3_bestLimit 60 = .ok (.aload_n 0, 1) := by decide +kernel
theorem dX3_bestLimit_61 : decode cX3_bestLimit 61 = .ok (.getfield 16, 3) := by decide +kernel
theorem dX3_bestLimit_64 : decode cX3_bestLimit 64 = .ok (.invokevirtual 94, 3) := by decide +kernel
theorem dX3_bestLimit_67 : decode cX3_bestLimit 67 = .ok (.pop, 1) := by decide +kernel
theorem dX3_bestLimit_68 : decode cX3_bestLimit 68 = .ok (.aload_n 0, 1) := by decide +kernel
theorem dX3_bestLimit_69 : decode cX3_bestLimit 69 = .ok (.getfield 16, 3) := by decide +kernel
theorem dX3_bestLimit_72 : decode cX3_bestLimit 72 = .ok (.getfield 62, 3) := by decide +kernel
theorem dX3_bestLimit_75 : decode cX3_bestLimit 75 = .ok (.iload_n 1, 1) := by decide +kernel
theorem dX3_bestLimit_76 : decode cX3_bestLimit 76 = .ok (.iaload, 1) := by decide +kernel
theorem dX3_bestLimit_77 : decode cX3_bestLimit 77 = .ok (.iload 4, 2) := by decide +kernel
theorem dX3_bestLimit_79 : decode cX3_bestLimit 79 = .ok (.if_icmp .le 17, 3) := by decide +kernel
theorem dX3_bestLimit_82 : decode cX3_bestLimit 82 = .ok (.aload_n 0, 1) := by decide +kernel
theorem dX3_bestLimit_83 : decode cX3_bestLimit 83 = .ok (.getfield 16, 3) := by decide +kernel
theorem dX3_bestLimit_86 : decode cX3_bestLimit 86 = .ok (.getfield 62, 3) := by decide +kernel
theorem dX3_bestLimit_89 : decode cX3_bestLimit 89 = .ok (.iload_n 1, 1) := by decide +kernel
theorem dX3_bestLimit_90 : decode cX3_bestLimit 90 = .ok (.iaload, 1) := by decide +kernel
theorem dX3_bestLimit_91 : decode cX3_bestLimit 91 = .ok (.istore 4, 2) := by decide +kernel
theorem dX3_bestLimit_93 : decode cX3_bestLimit 93 = .ok (.iload 5, 2) := by decide +kernel
theorem dX3_bestLimit_95 : decode cX3_bestLimit 95 = .ok (.istore_n 3, 1) := by decide +kernel
theorem dX3_bestLimit_96 : decode cX3_bestLimit 96 = .ok (.iinc 5 1, 3) := by decide +kernel
theorem dX3_bestLimit_99 : decode cX3_bestLimit 99 = .ok (.goto (-68), 3) := by decide +kernel
theorem dX3_bestLimit_102 : decode cX3_bestLimit 102 = .ok (.iload_n 2, 1) := by decide +kernel
theorem dX3_bestLimit_103 : decode cX3_bestLimit 103 = .ok (.ifCond .ne 7, 3) := by decide +kernel
theorem dX3_bestLimit_106 : decode cX3_bestLimit 106 = .ok (.iload_n 3, 1) := by decide +kernel
theorem dX3_bestLimit_107 : decode cX3_bestLimit 107 = .ok (.goto 15, 3) := by decide +kernel
theorem dX3_bestLimit_110 : decode cX3_bestLimit 110 = .ok (.iload 4, 2) := by decide +kernel
theorem dX3_bestLimit_112 : decode cX3_bestLimit 112 = .ok (.aload_n 0, 1) := by decide +kernel
theorem dX3_bestLimit_113 : decode cX3_bestLimit 113 = .ok (.getfield 10, 3) := by decide +kernel
theorem dX3_bestLimit_116 : decode cX3_bestLimit 116 = .ok (.getfield 62, 3) := by decide +kernel
theorem dX3_bestLimit_119 : decode cX3_bestLimit 119 = .ok (.iload_n 1, 1) := by decide +kernel
theorem dX3_bestLimit_120 : decode cX3_bestLimit 120 = .ok (.iaload, 1) := by decide +kernel
theorem dX3_bestLimit_121 : decode cX3_bestLimit 121 = .ok (.isub, 1) := by decide +kernel
theorem dX3_bestLimit_122 : decode cX3_bestLimit 122 = .ok (.ireturn, 1) := by decide +kernel
set_option maxRecDepth 20000 in
theorem ggX3_coinsBehind_X3_isPlayer : GoodIn wsX3_coinsBehind wsX3_isPlayer := goodIn_r _ [8] (by decide +kernel) (by decide +kernel)
set_option maxRecDepth 20000 in
theorem gX3_coinsBehind_X3_isPlayer : GoodIn wsX3_coinsBehind (va_wsS RX3 52 yX3_isPlayer wsX3_isPlayer) := goodIn_app (goodIn_of _ (by decide +kernel)) ggX3_coinsBehind_X3_isPlayer
set_option maxRecDepth 20000 in
theorem ggX3_coinsBehind_X3_tryRounds : GoodIn wsX3_coinsBehind wsX3_tryRounds := goodIn_r _ [12, 3, 13, 14, 15, 16, 17, 18, 19, 20, 21, 22, 23, 24, 25, 26, 27, 28, 29, 30, 31, 32, 33, 34, 35, 36, 37, 38, 39, 40, 41, 42, 43, 44, 45, 46, 47, 48, 49, 50, 51, 52, 53, 54, 55, 56, 57, 58, 59, 60, 6, 7, 8, 61, 62, 63, 64, 65, 66, 67, 68, 69, 70, 71, 72, 73, 74, 75, 76, 77, 78, 79, 80, 81, 82, 83, 84, 85, 86, 87, 88, 89, 90, 91, 92, 93, 94, 95, 96, 97, 98, 99, 100, 101, 102, 103, 104, 105, 106, 107, 108, 109, 110, 111, 112, 113, 114, 115, 116, 117, 118, 119, 120, 121] (by decide +kernel) (by decide +kernel)
set_option maxRecDepth 20000 in
theorem gX3_coinsBehind_X3_tryRounds : GoodIn wsX3_coinsBehind (wsV RX3 159 RX3 yX3_tryRounds wsX3_tryRounds) := goodIn_app (goodIn_of _ (by decide +kernel)) ggX3_coinsBehind_X3_tryRounds
theorem dX3_coinsBehind_0 : decode cX3_coinsBehind 0 = .ok (.iload_n 1, 1) := by decide +kernel
theorem dX3_coinsBehind_1 : decode cX3_coinsBehind 1 = .ok (.invokestatic 52, 3) := by decide +kernel
theorem dX3_coinsBehind_4 : decode cX3_coinsBehind 4 = .ok (.ifCond .ne 6, 3) := by decide +kernel
theorem dX3_coinsBehind_7 : decode cX3_coinsBehind 7 = .ok (.ldc 56, 2) := by decide +kernel
theorem dX3_coinsBehind_9 : decode cX3_coinsBehind 9 = .ok (.ireturn, 1) := by decide +kernel
theorem dX3_coinsBehind_10 : decode cX3_coinsBehind 10 = .ok (.iload_n 2, 1) := by decide +kernel
theorem dX3_coinsBehind_11 : decode cX3_coinsBehind 11 = .ok (.iconst 1, 1) := by decide +kernel
theorem dX3_coinsBehind_12 : decode cX3_coinsBehind 12 = .ok (.if_icmp .lt 9, 3) := by decide +kernel
theorem dX3_coinsBehind_15 : decode cX3_coinsBehind 15 = .ok (.iload_n 2, 1) := by decide +kernel
theorem dX3_coinsBehind_16 : decode cX3_coinsBehind 16 = .ok (.bipush 100, 2) := by decide +kernel
theorem dX3_coinsBehind_18 : decode cX3_coinsBehind 18 = .ok (.if_icmp .le 6, 3) := by decide +kernel
theorem dX3_coinsBehind_21 : decode cX3_coinsBehind 21 = .ok (.ldc 37, 2) := by decide +kernel
theorem dX3_coinsBehind_23 : decode cX3_coinsBehind 23 = .ok (.ireturn, 1) := by decide +kernel
theorem dX3_coinsBehind_24 : decode cX3_coinsBehind 24 = .ok (.aload_n 0, 1) := by decide +kernel
theorem dX3_coinsBehind_25 : decode cX3_coinsBehind 25 = .ok (.iload_n 2, 1) := by decide +kernel
theorem dX3_coinsBehind_26 : decode cX3_coinsBehind 26 = .ok (.invokevirtual 159, 3) := by decide +kernel
theorem dX3_coinsBehind_29 : decode cX3_coinsBehind 29 = .ok (.aload_n 0, 1) := by decide +kernel
theorem dX3_coinsBehind_30 : decode cX3_coinsBehind 30 = .ok (.getfield 16, 3) := by decide +kernel
theorem dX3_coinsBehind_33 : decode cX3_coinsBehind 33 = .ok (.getfield 62, 3) := by decide +kernel
theorem dX3_coinsBehind_36 : decode cX3_coinsBehind 36 = .ok (.iload_n 1, 1) := by decide +kernel
theorem dX3_coinsBehind_37 : decode cX3_coinsBehind 37 = .ok (.iaload, 1) := by decide +kernel
theorem dX3_coinsBehind_38 : decode cX3_coinsBehind 38 = .ok (.ireturn, 1) := by decide +kernel
set_option maxRecDepth 20000 in
theorem ggX3_richest_X3_tryRounds : GoodIn wsX3_richest wsX3_tryRounds := goodIn_r _ [9, 2, 10, 11, 12, 13, 14, 15, 16, 17, 18, 19, 20, 21, 22, 23, 24, 25, 26, 27, 28, 29, 30, 31, 32, 33, 34, 35, 36, 37, 38, 39, 40, 41, 42, 43, 44, 45, 46, 47, 48, 49, 50, 51, 52, 53, 54, 55, 56, 57, 58, 8, 59, 60, 61, 62, 63, 64, 65, 66, 67, 68, 69, 70, 71, 72, 73, 74, 75, 76, 77, 78, 79, 80, 81, 82, 83, 84, 85, 86, 87, 88, 89, 90, 91, 92, 93, 94, 95, 96, 97, 98, 99, 100, 101, 102, 103, 104, 105, 106, 107, 108, 109, 110, 111, 112, 113, 114, 115, 116, 117, 118, 119, 120] (by decide +kernel) (by decide +kernel)
set_option maxRecDepth 20000 in
theorem gX3_richest_X3_tryRounds : GoodIn wsX3_richest (wsV RX3 159 RX3 yX3_tryRounds wsX3_tryRounds) := goodIn_app (goodIn_of _ (by decide +kernel)) ggX3_richest_X3_tryRounds
theorem dX3_richest_0 : decode cX3_richest 0 = .ok (.iload_n 1, 1) := by decide +kernel
theorem dX3_richest_1 : decode cX3_richest 1 = .ok (.iconst 1, 1) := by decide +kernel
theorem dX3_richest_2 : decode cX3_richest 2 = .ok (.if_icmp .lt 9, 3) := by decide +kernel
theorem dX3_richest_5 : decode cX3_richest 5 = .ok (.iload_n 1, 1) := by decide +kernel
theorem dX3_richest_6 : decode cX3_richest 6 = .ok (.bipush 100, 2) := by decide +kernel
theorem dX3_richest_8 : decode cX3_richest 8 = .ok (.if_icmp .le 6, 3) := by decide +kernel
theorem dX3_richest_11 : decode cX3_richest 11 = .ok (.ldc 37, 2) := by decide +kernel
theorem dX3_richest_13 : decode cX3_richest 13 = .ok (.ireturn, 1) := by decide +kernel
theorem dX3_richest_14 : decode cX3_richest 14 = .ok (.aload_n 0, 1) := by decide +kernel
theorem dX3_richest_15 : decode cX3_richest 15 = .ok (.iload_n 1, 1) := by decide +kernel
theorem dX3_richest_16 : decode cX3_richest 16 = .ok (.invokevirtual 159, 3) := by decide +kernel
theorem dX3_richest_19 : decode cX3_richest 19 = .ok (.iconst 0, 1) := by decide +kernel
theorem dX3_richest_20 : decode cX3_richest 20 = .ok (.istore_n 2, 1) := by decide +kernel
theorem dX3_richest_21 : decode cX3_richest 21 = .ok (.iconst 1, 1) := by decide +kernel
theorem dX3_richest_22 : decode cX3_richest 22 = .ok (.istore_n 3, 1) := by decide +kernel
theorem dX3_richest_23 : decode cX3_richest 23 = .ok (.iload_n 3, 1) := by decide +kernel
theorem dX3_richest_24 : decode cX3_richest 24 = .ok (.iconst 5, 1) := by decide +kernel
theorem dX3_richest_25 : decode cX3_richest 25 = .ok (.if_icmp .ge 63, 3) := by decide +kernel
theorem dX3_richest_28 : decode cX3_richest 28 = .ok (.aload_n 0, 1) := by decide +kernel
theorem dX3_richest_29 : decode cX3_richest 29 = .ok (.getfield 16, 3) := by decide +kernel
theorem dX3_richest_32 : decode cX3_richest 32 = .ok (.getfield 62, 3) := by decide +kernel
theorem dX3_richest_35 : decode cX3_richest 35 = .ok (.iload_n 3, 1) := by decide +kernel
theorem dX3_richest_36 : decode cX3_richest 36 = .ok (.iaload, 1) := by decide +kernel
theorem dX3_richest_37 : decode cX3_richest 37 = .ok (.aload_n 0, 1) := by decide +kernel
theorem dX3_richest_38 : decode cX3_richest 38 = .ok (.getfield 16, 3) := by decide +kernel
theorem dX3_richest_41 : decode cX3_richest 41 = .ok (.getfield 62, 3) := by decide +kernel
theorem dX3_richest_44 : decode cX3_richest 44 = .ok (.iload_n 2, 1) := by decide +kernel
theorem dX3_richest_45 : decode cX3_richest 45 = .ok (.iaload, 1) := by decide +kernel
theorem dX3_richest_46 : decode cX3_richest 46 = .ok (.isub, 1) := by decide +kernel
theorem dX3_richest_47 : decode cX3_richest 47 = .ok (.istore 4, 2) := by decide +kernel
theorem dX3_richest_49 : decode cX3_richest 49 = .ok (.iload 4, 2) := by decide +kernel
theorem dX3_richest_51 : decode cX3_richest 51 = .ok (.ifCond .gt 29, 3) := by decide +kernel
theorem dX3_richest_54 : decode cX3_richest 54 = .ok (.iload 4, 2) := by decide +kernel
theorem dX3_richest_56 : decode cX3_richest 56 = .ok (.ifCond .ne 26, 3) := by decide +kernel
theorem dX3_richest_59 : decode cX3_richest 59 = .ok (.aload_n 0, 1) := by decide +kernel
theorem dX3_richest_60 : decode cX3_richest 60 = .ok (.getfield 16, 3) := by decide +kernel
theorem dX3_richest_63 : decode cX3_richest 63 = .ok (.getfield 121, 3) := by decide +kernel
theorem dX3_richest_66 : decode cX3_richest 66 = .ok (.iload_n 3, 1) := by decide +kernel
theorem dX3_richest_67 : decode cX3_richest 67 = .ok (.iaload, 1) := by decide +kernel
theorem dX3_richest_68 : decode cX3_richest 68 = .ok (.aload_n 0, 1) := by decide +kernel
theorem dX3_richest_69 : decode cX3_richest 69 = .ok (.getfield 16, 3) := by decide +kernel
theorem dX3_richest_72 : decode cX3_richest 72 = .ok (.getfield 121, 3) := by decide +kernel
theorem dX3_richest_75 : decode cX3_richest 75 = .ok (.iload_n 2, 1) := by decide +kernel
theorem dX3_richest_76 : decode cX3_richest 76 = .ok (.iaload, 1) := by decide +kernel
theorem dX3_richest_77 : decode cX3_richest 77 = .ok (.if_icmp .ge 5, 3) := by decide +kernel
theorem dX3_richest_80 : decode cX3_richest 80 = .ok (.iload_n 3, 1) := by decide +kernel
theorem dX3_richest_81 : decode cX3_richest 81 = .ok (.istore_n 2, 1) := by decide +kernel
theorem dX3_richest_82 : decode cX3_richest 82 = .ok (.iinc 3 1, 3) := by decide +kernel
theorem dX3_richest_85 : decode cX3_richest 85 = .ok (.goto (-62), 3) := by decide +kernel
theorem dX3_richest_88 : decode cX3_richest 88 = .ok (.iload_n 2, 1) := by decide +kernel
theorem dX3_richest_89 : decode cX3_richest 89 = .ok (.ireturn, 1) := by decide +kernel
set_option maxRecDepth 20000 in
theorem ggX3_movesLeft_X2_copyFrom : GoodIn wsX3_movesLeft wsX2_copyFrom := goodIn_r _ [9, 10, 11, 12, 13, 14, 15, 16, 17, 18, 19, 20, 21, 22, 23, 24, 25, 26, 103, 104, 105, 106, 107, 108, 109, 110, 111, 112, 113, 114, 115] (by decide +kernel) (by decide +kernel)
set_option maxRecDepth 20000 in
theorem gX3_movesLeft_X2_copyFrom : GoodIn wsX3_movesLeft (wsV RX3 163 RX2 yX2_copyFrom wsX2_copyFrom) := goodIn_app (goodIn_of _ (by decide +kernel)) ggX3_movesLeft_X2_copyFrom
set_option maxRecDepth 20000 in
theorem ggX3_movesLeft_X2_playRound : GoodIn wsX3_movesLeft wsX2_playRound := goodIn_r _ [30, 24, 31, 32, 33, 8, 34, 25, 35, 36, 37, 38, 18, 39, 40, 41, 42, 43, 17, 44, 45, 46, 47, 10, 48, 49, 50, 51, 19, 52, 53, 54, 55, 56, 57, 58, 16, 59, 60, 61, 62, 63, 64, 65, 66, 20, 67, 68, 69, 70, 71, 72, 73, 74, 75, 76, 77, 78, 79, 80, 81, 82, 83, 84, 85, 21, 86, 87, 88, 89, 23, 90, 91, 92, 93, 22, 26, 94, 95, 96, 97, 15, 103, 104, 105, 106, 107, 108, 109, 110, 111, 112, 113, 114, 115] (by decide +kernel) (by decide +kernel)
set_option maxRecDepth 20000 in
theorem gX3_movesLeft_X2_playRound : GoodIn wsX3_movesLeft (wsV RX3 94 RX2 yX2_playRound wsX2_playRound) := goodIn_app (goodIn_of _ (by decide +kernel)) ggX3_movesLeft_X2_playRound
theorem dX3_movesLeft_0 : decode cX3_movesLeft 0 = .ok (.aload_n 0, 1) := by decide +kernel
theorem dX3_movesLeft_1 : decode cX3_movesLeft 1 = .ok (.getfield 10, 3) := by decide +kernel
theorem dX3_movesLeft_4 : decode cX3_movesLeft 4 = .ok (.getfield 74, 3) := by decide +kernel
theorem dX3_movesLeft_7 : decode cX3_movesLeft 7 = .ok (.ifCond .ne 6, 3) := by decide +kernel
theorem dX3_movesLeft_10 : decode cX3_movesLeft 10 = .ok (.ldc 61, 2) := by decide +kernel
theorem dX3_movesLeft_12 : decode cX3_movesLeft 12 = .ok (.ireturn, 1) := by decide +kernel
theorem dX3_movesLeft_13 : decode cX3_movesLeft 13 = .ok (.aload_n 0, 1) := by decide +kernel
theorem dX3_movesLeft_14 : decode cX3_movesLeft 14 = .ok (.getfield 16, 3) := by decide +kernel
theorem dX3_movesLeft_17 : decode cX3_movesLeft 17 = .ok (.aload_n 0, 1) := by decide +kernel
theorem dX3_movesLeft_18 : decode cX3_movesLeft 18 = .ok (.getfield 10, 3) := by decide +kernel
theorem dX3_movesLeft_21 : decode cX3_movesLeft 21 = .ok (.invokevirtual 163, 3) := by decide +kernel
theorem dX3_movesLeft_24 : decode cX3_movesLeft 24 = .ok (.aload_n 0, 1) := by decide +kernel
theorem dX3_movesLeft_25 : decode cX3_movesLeft 25 = .ok (.getfield 16, 3) := by decide +kernel
theorem dX3_movesLeft_28 : decode cX3_movesLeft 28 = .ok (.invokevirtual 94, 3) := by decide +kernel
theorem dX3_movesLeft_31 : decode cX3_movesLeft 31 = .ok (.ireturn, 1) := by decide +kernel
set_option maxRecDepth 20000 in
theorem ggX3_put_X1_signsIn : GoodIn wsX3_put wsX1_signsIn := goodIn_r _ [8, 9, 10, 11] (by decide +kernel) (by decide +kernel)
set_option maxRecDepth 20000 in
theorem gX3_put_X1_signsIn : GoodIn wsX3_put (va_wsS RX3 166 yX1_signsIn wsX1_signsIn) := goodIn_app (goodIn_of _ (by decide +kernel)) ggX3_put_X1_signsIn
set_option maxRecDepth 20000 in
theorem ggX3_put_X1_append : GoodIn wsX3_put wsX1_append := goodIn_r _ [15, 16, 17, 9, 23, 24] (by decide +kernel) (by decide +kernel)
set_option maxRecDepth 20000 in
theorem gX3_put_X1_append : GoodIn wsX3_put (wsV RX3 171 RX1 yX1_append wsX1_append) := goodIn_app (goodIn_of _ (by decide +kernel)) ggX3_put_X1_append
theorem dX3_put_0 : decode cX3_put 0 = .ok (.lload_n 1, 1) := by decide +kernel
theorem dX3_put_1 : decode cX3_put 1 = .ok (.invokestatic 166, 3) := by decide +kernel
theorem dX3_put_4 : decode cX3_put 4 = .ok (.istore_n 3, 1) := by decide +kernel
theorem dX3_put_5 : decode cX3_put 5 = .ok (.iload_n 3, 1) := by decide +kernel
theorem dX3_put_6 : decode cX3_put 6 = .ok (.ifCond .ne 6, 3) := by decide +kernel
theorem dX3_put_9 : decode cX3_put 9 = .ok (.ldc 37, 2) := by decide +kernel
theorem dX3_put_11 : decode cX3_put 11 = .ok (.ireturn, 1) := by decide +kernel
theorem dX3_put_12 : decode cX3_put 12 = .ok (.aload_n 0, 1) := by decide +kernel
theorem dX3_put_13 : decode cX3_put 13 = .ok (.getfield 33, 3) := by decide +kernel
theorem dX3_put_16 : decode cX3_put 16 = .ok (.getfield 105, 3) := by decide +kernel
theorem dX3_put_19 : decode cX3_put 19 = .ok (.iload_n 3, 1) := by decide +kernel
theorem dX3_put_20 : decode cX3_put 20 = .ok (.iadd, 1) := by decide +kernel
theorem dX3_put_21 : decode cX3_put 21 = .ok (.bipush 60, 2) := by decide +kernel
theorem dX3_put_23 : decode cX3_put 23 = .ok (.if_icmp .le 6, 3) := by decide +kernel
theorem dX3_put_26 : decode cX3_put 26 = .ok (.ldc 170, 2) := by decide +kernel
theorem dX3_put_28 : decode cX3_put 28 = .ok (.ireturn, 1) := by decide +kernel
theorem dX3_put_29 : decode cX3_put 29 = .ok (.aload_n 0, 1) := by decide +kernel
theorem dX3_put_30 : decode cX3_put 30 = .ok (.getfield 33, 3) := by decide +kernel
theorem dX3_put_33 : decode cX3_put 33 = .ok (.lload_n 1, 1) := by decide +kernel
theorem dX3_put_34 : decode cX3_put 34 = .ok (.iload_n 3, 1) := by decide +kernel
theorem dX3_put_35 : decode cX3_put 35 = .ok (.invokevirtual 171, 3) := by decide +kernel
theorem dX3_put_38 : decode cX3_put 38 = .ok (.aload_n 0, 1) := by decide +kernel
theorem dX3_put_39 : decode cX3_put 39 = .ok (.getfield 33, 3) := by decide +kernel
theorem dX3_put_42 : decode cX3_put 42 = .ok (.getfield 105, 3) := by decide +kernel
theorem dX3_put_45 : decode cX3_put 45 = .ok (.ireturn, 1) := by decide +kernel
theorem dX3_wipe_0 : decode cX3_wipe 0 = .ok (.aload_n 0, 1) := by decide +kernel
theorem dX3_wipe_1 : decode cX3_wipe 1 = .ok (.getfield 33, 3) := by decide +kernel
theorem dX3_wipe_4 : decode cX3_wipe 4 = .ok (.getfield 105, 3) := by decide +kernel
theorem dX3_wipe_7 : decode cX3_wipe 7 = .ok (.istore_n 1, 1) := by decide +kernel
theorem dX3_wipe_8 : decode cX3_wipe 8 = .ok (.aload_n 0, 1) := by decide +kernel
theorem dX3_wipe_9 : decode cX3_wipe 9 = .ok (.getfield 33, 3) := by decide +kernel
theorem dX3_wipe_12 : decode cX3_wipe 12 = .ok (.iconst 0, 1) := by decide +kernel
theorem dX3_wipe_13 : decode cX3_wipe 13 = .ok (.putfield 105, 3) := by decide +kernel
theorem dX3_wipe_16 : decode cX3_wipe 16 = .ok (.iload_n 1, 1) := by decide +kernel
theorem dX3_wipe_17 : decode cX3_wipe 17 = .ok (.ireturn, 1) := by decide +kernel
set_option maxRecDepth 20000 in
theorem ggX3_fault_X1_faultIndex : GoodIn wsX3_fault wsX1_faultIndex := goodIn_r _ [6, 7, 8, 9, 10, 11, 5, 12, 13, 14, 15, 16, 17, 18, 19, 25, 26] (by decide +kernel) (by decide +kernel)
set_option maxRecDepth 20000 in
theorem gX3_fault_X1_faultIndex : GoodIn wsX3_fault (wsV RX3 100 RX1 yX1_faultIndex wsX1_faultIndex) := goodIn_app (goodIn_of _ (by decide +kernel)) ggX3_fault_X1_faultIndex
theorem dX3_fault_0 : decode cX3_fault 0 = .ok (.aload_n 0, 1) := by decide +kernel
theorem dX3_fault_1 : decode cX3_fault 1 = .ok (.getfield 33, 3) := by decide +kernel
theorem dX3_fault_4 : decode cX3_fault 4 = .ok (.invokevirtual 100, 3) := by decide +kernel
theorem dX3_fault_7 : decode cX3_fault 7 = .ok (.ireturn, 1) := by decide +kernel
set_option maxRecDepth 20000 in
theorem ggX3_undo_X0_takeBack : GoodIn wsX3_undo wsX0_takeBack := goodIn_r _ [9, 10, 11, 12, 13, 14, 15, 16, 17, 18, 19, 20, 21, 22, 23, 24, 25, 26, 27, 28, 29, 30, 31, 32, 33, 34, 35, 36, 37, 38, 44, 45, 46, 47, 48, 49, 50, 51, 52, 53, 54, 55, 56, 57, 58, 59] (by decide +kernel) (by decide +kernel)
set_option maxRecDepth 20000 in
theorem gX3_undo_X0_takeBack : GoodIn wsX3_undo (wsV RX3 175 RX0 yX0_takeBack wsX0_takeBack) := goodIn_app (goodIn_of _ (by decide +kernel)) ggX3_undo_X0_takeBack
theorem dX3_undo_0 : decode cX3_undo 0 = .ok (.aload_n 0, 1) := by decide +kernel
theorem dX3_undo_1 : decode cX3_undo 1 = .ok (.getfield 22, 3) := by decide +kernel
theorem dX3_undo_4 : decode cX3_undo 4 = .ok (.getfield 158, 3) := by decide +kernel
theorem dX3_undo_7 : decode cX3_undo 7 = .ok (.ifCond .ne 6, 3) := by decide +kernel
theorem dX3_undo_10 : decode cX3_undo 10 = .ok (.ldc 61, 2) := by decide +kernel
theorem dX3_undo_12 : decode cX3_undo 12 = .ok (.ireturn, 1) := by decide +kernel
theorem dX3_undo_13 : decode cX3_undo 13 = .ok (.aload_n 0, 1) := by decide +kernel
theorem dX3_undo_14 : decode cX3_undo 14 = .ok (.getfield 22, 3) := by decide +kernel
theorem dX3_undo_17 : decode cX3_undo 17 = .ok (.aload_n 0, 1) := by decide +kernel
theorem dX3_undo_18 : decode cX3_undo 18 = .ok (.getfield 10, 3) := by decide +kernel
theorem dX3_undo_21 : decode cX3_undo 21 = .ok (.invokevirtual 175, 3) := by decide +kernel
theorem dX3_undo_24 : decode cX3_undo 24 = .ok (.aload_n 0, 1) := by decide +kernel
theorem dX3_undo_25 : decode cX3_undo 25 = .ok (.getfield 22, 3) := by decide +kernel
theorem dX3_undo_28 : decode cX3_undo 28 = .ok (.getfield 158, 3) := by decide +kernel
theorem dX3_undo_31 : decode cX3_undo 31 = .ok (.ireturn, 1) := by decide +kernel
set_option maxRecDepth 20000 in
theorem ggX3_save_X2_init : GoodIn wsX3_save wsX2_init := goodIn_r _ [9, 10, 11, 12, 13, 14, 15, 16, 17, 18, 19, 20, 21, 22, 23, 24, 25, 26, 27, 45, 46, 47, 48, 49, 50, 51, 52, 53, 54, 55, 56, 57] (by decide +kernel) (by decide +kernel)
set_option maxRecDepth 20000 in
theorem gX3_save_X2_init_n9 : GoodIn wsX3_save (wsX2_init) := ggX3_save_X2_init
set_option maxRecDepth 20000 in
theorem ggX3_save_X2_copyFrom : GoodIn wsX3_save wsX2_copyFrom := goodIn_r _ [31, 14, 32, 33, 34, 35, 15, 16, 17, 18, 20, 21, 22, 23, 24, 25, 26, 27, 45, 46, 47, 48, 49, 50, 51, 52, 53, 54, 55, 56, 57] (by decide +kernel) (by decide +kernel)
set_option maxRecDepth 20000 in
theorem gX3_save_X2_copyFrom : GoodIn wsX3_save (wsV RX3 163 RX2 yX2_copyFrom wsX2_copyFrom) := goodIn_app (goodIn_of _ (by decide +kernel)) ggX3_save_X2_copyFrom
set_option maxRecDepth 20000 in
theorem ggX3_save_X3_sum : GoodIn wsX3_save wsX3_sum := goodIn_r _ [39] (by decide +kernel) (by decide +kernel)
set_option maxRecDepth 20000 in
theorem gX3_save_X3_sum : GoodIn wsX3_save (va_wsS RX3 154 yX3_sum wsX3_sum) := goodIn_app (goodIn_of _ (by decide +kernel)) ggX3_save_X3_sum
theorem dX3_save_0 : decode cX3_save 0 = .ok (.iload_n 1, 1) := by decide +kernel
theorem dX3_save_1 : decode cX3_save 1 = .ok (.ifCond .lt 8, 3) := by decide +kernel
theorem dX3_save_4 : decode cX3_save 4 = .ok (.iload_n 1, 1) := by decide +kernel
theorem dX3_save_5 : decode cX3_save 5 = .ok (.iconst 2, 1) := by decide +kernel
theorem dX3_save_6 : decode cX3_save 6 = .ok (.if_icmp .lt 6, 3) := by decide +kernel
theorem dX3_save_9 : decode cX3_save 9 = .ok (.ldc 37, 2) := by decide +kernel
theorem dX3_save_11 : decode cX3_save 11 = .ok (.ireturn, 1) := by decide +kernel
theorem dX3_save_12 : decode cX3_save 12 = .ok (.aload_n 0, 1) := by decide +kernel
theorem dX3_save_13 : decode cX3_save 13 = .ok (.getfield 26, 3) := by decide +kernel
theorem dX3_save_16 : decode cX3_save 16 = .ok (.iload_n 1, 1) := by decide +kernel
theorem dX3_save_17 : decode cX3_save 17 = .ok (.aaload, 1) := by decide +kernel
theorem dX3_save_18 : decode cX3_save 18 = .ok (.astore_n 2, 1) := by decide +kernel
theorem dX3_save_19 : decode cX3_save 19 = .ok (.aload_n 2, 1) := by decide +kernel
theorem dX3_save_20 : decode cX3_save 20 = .ok (.ifnonnull 18, 3) := by decide +kernel
theorem dX3_save_23 : decode cX3_save 23 = .ok (.new 7, 3) := by decide +kernel
theorem dX3_save_26 : decode cX3_save 26 = .ok (.dup, 1) := by decide +kernel
theorem dX3_save_27 : decode cX3_save 27 = .ok (.invokespecial 9, 3) := by decide +kernel
theorem dX3_save_30 : decode cX3_save 30 = .ok (.astore_n 2, 1) := by decide +kernel
theorem dX3_save_31 : decode cX3_save 31 = .ok (.aload_n 0, 1) := by decide +kernel
theorem dX3_save_32 : decode cX3_save 32 = .ok (.getfield 26, 3) := by decide +kernel
theorem dX3_save_35 : decode cX3_save 35 = .ok (.iload_n 1, 1) := by decide +kernel
theorem dX3_save_36 : decode cX3_save 36 = .ok (.aload_n 2, 1) := by decide +kernel
theorem dX3_save_37 : decode cX3_save 37 = .ok (.aastore, 1) := by decide +kernel
theorem dX3_save_38 : decode cX3_save 38 = .ok (.aload_n 2, 1) := by decide +kernel
theorem dX3_save_39 : decode cX3_save 39 = .ok (.aload_n 0, 1) := by decide +kernel
theorem dX3_save_40 : decode cX3_save 40 = .ok (.getfield 10, 3) := by decide +kernel
theorem dX3_save_43 : decode cX3_save 43 = .ok (.invokevirtual 163, 3) := by decide +kernel
theorem dX3_save_46 : decode cX3_save 46 = .ok (.aload_n 0, 1) := by decide +kernel
theorem dX3_save_47 : decode cX3_save 47 = .ok (.getfield 10, 3) := by decide +kernel
theorem dX3_save_50 : decode cX3_save 50 = .ok (.getfield 62, 3) := by decide +kernel
theorem dX3_save_53 : decode cX3_save 53 = .ok (.invokestatic 154, 3) := by decide +kernel
theorem dX3_save_56 : decode cX3_save 56 = .ok (.ireturn, 1) := by decide +kernel
set_option maxRecDepth 20000 in
theorem ggX3_restore_X0_keep : GoodIn wsX3_restore wsX0_keep := goodIn_r _ [11, 12, 13, 14, 15, 16, 17, 18, 19, 20, 21, 22, 23, 24, 25, 26, 27, 28, 29, 30, 31, 32, 33, 34, 35, 36, 37, 38, 39, 40, 41, 42, 43, 44, 45, 46, 47, 48, 49, 50, 51, 52, 53, 77, 78, 79, 64, 65, 66, 67, 68, 69, 70, 71, 72, 73, 74, 75, 76] (by decide +kernel) (by decide +kernel)
set_option maxRecDepth 20000 in
theorem gX3_restore_X0_keep : GoodIn wsX3_restore (wsV RX3 45 RX0 yX0_keep wsX0_keep) := goodIn_app (goodIn_of _ (by decide +kernel)) ggX3_restore_X0_keep
set_option maxRecDepth 20000 in
theorem ggX3_restore_X2_copyFrom : GoodIn wsX3_restore wsX2_copyFrom := goodIn_r _ [49, 32, 50, 51, 52, 53, 33, 34, 35, 36, 38, 39, 40, 41, 42, 43, 44, 45, 64, 65, 66, 67, 68, 69, 70, 71, 72, 73, 74, 75, 76] (by decide +kernel) (by decide +kernel)
set_option maxRecDepth 20000 in
theorem gX3_restore_X2_copyFrom : GoodIn wsX3_restore (wsV RX3 163 RX2 yX2_copyFrom wsX2_copyFrom) := goodIn_app (goodIn_of _ (by decide +kernel)) ggX3_restore_X2_copyFrom
set_option maxRecDepth 20000 in
theorem ggX3_restore_X3_sum : GoodIn wsX3_restore wsX3_sum := goodIn_r _ [58] (by decide +kernel) (by decide +kernel)
set_option maxRecDepth 20000 in
theorem gX3_restore_X3_sum : GoodIn wsX3_restore (va_wsS RX3 154 yX3_sum wsX3_sum) := goodIn_app (goodIn_of _ (by decide +kernel)) ggX3_restore_X3_sum
theorem dX3_restore_0 : decode cX3_restore 0 = .ok (.iload_n 1, 1) := by decide +kernel
theorem dX3_restore_1 : decode cX3_restore 1 = .ok (.ifCond .lt 8, 3) := by decide +kernel
theorem dX3_restore_4 : decode cX3_restore 4 = .ok (.iload_n 1, 1) := by decide +kernel
theorem dX3_restore_5 : decode cX3_restore 5 = .ok (.iconst 2, 1) := by decide +kernel
theorem dX3_restore_6 : decode cX3_restore 6 = .ok (.if_icmp .lt 6, 3) := by decide +kernel
theorem dX3_restore_9 : decode cX3_restore 9 = .ok (.ldc 37, 2) := by decide +kernel
theorem dX3_restore_11 : decode cX3_restore 11 = .ok (.ireturn, 1) := by decide +kernel
theorem dX3_restore_12 : decode cX3_restore 12 = .ok (.aload_n 0, 1) := by decide +kernel
theorem dX3_restore_13 : decode cX3_restore 13 = .ok (.getfield 26, 3) := by decide +kernel
theorem dX3_restore_16 : decode cX3_restore 16 = .ok (.iload_n 1, 1) := by decide +kernel
theorem dX3_restore_17 : decode cX3_restore 17 = .ok (.aaload, 1) := by decide +kernel
theorem dX3_restore_18 : decode cX3_restore 18 = .ok (.astore_n 2, 1) := by decide +kernel
theorem dX3_restore_19 : decode cX3_restore 19 = .ok (.aload_n 2, 1) := by decide +kernel
theorem dX3_restore_20 : decode cX3_restore 20 = .ok (.ifnonnull 6, 3) := by decide +kernel
theorem dX3_restore_23 : decode cX3_restore 23 = .ok (.ldc 61, 2) := by decide +kernel
theorem dX3_restore_25 : decode cX3_restore 25 = .ok (.ireturn, 1) := by decide +kernel
theorem dX3_restore_26 : decode cX3_restore 26 = .ok (.aload_n 0, 1) := by decide +kernel
theorem dX3_restore_27 : decode cX3_restore 27 = .ok (.getfield 22, 3) := by decide +kernel
theorem dX3_restore_30 : decode cX3_restore 30 = .ok (.aload_n 0, 1) := by decide +kernel
theorem dX3_restore_31 : decode cX3_restore 31 = .ok (.getfield 10, 3) := by decide +kernel
theorem dX3_restore_34 : decode cX3_restore 34 = .ok (.invokevirtual 45, 3) := by decide +kernel
theorem dX3_restore_37 : decode cX3_restore 37 = .ok (.aload_n 0, 1) := by decide +kernel
theorem dX3_restore_38 : decode cX3_restore 38 = .ok (.getfield 10, 3) := by decide +kernel
theorem dX3_restore_41 : decode cX3_restore 41 = .ok (.aload_n 2, 1) := by decide +kernel
theorem dX3_restore_42 : decode cX3_restore 42 = .ok (.invokevirtual 163, 3) := by decide +kernel
theorem dX3_restore_45 : decode cX3_restore 45 = .ok (.aload_n 0, 1) := by decide +kernel
theorem dX3_restore_46 : decode cX3_restore 46 = .ok (.getfield 10, 3) := by decide +kernel
theorem dX3_restore_49 : decode cX3_restore 49 = .ok (.getfield 62, 3) := by decide +kernel
theorem dX3_restore_52 : decode cX3_restore 52 = .ok (.invokestatic 154, 3) := by decide +kernel
theorem dX3_restore_55 : decode cX3_restore 55 = .ok (.ireturn, 1) := by decide +kernel
theorem dX3_isPlayer_0 : decode cX3_isPlayer 0 = .ok (.iload_n 0, 1) := by decide +kernel
theorem dX3_isPlayer_1 : decode cX3_isPlayer 1 = .ok (.ifCond .lt 12, 3) := by decide +kernel
theorem dX3_isPlayer_4 : decode cX3_isPlayer 4 = .ok (.iload_n 0, 1) := by decide +kernel
theorem dX3_isPlayer_5 : decode cX3_isPlayer 5 = .ok (.iconst 5, 1) := by decide +kernel
theorem dX3_isPlayer_6 : decode cX3_isPlayer 6 = .ok (.if_icmp .ge 7, 3) := by decide +kernel
theorem dX3_isPlayer_9 : decode cX3_isPlayer 9 = .ok (.iconst 1, 1) := by decide +kernel
theorem dX3_isPlayer_10 : decode cX3_isPlayer 10 = .ok (.goto 4, 3) := by decide +kernel
theorem dX3_isPlayer_13 : decode cX3_isPlayer 13 = .ok (.iconst 0, 1) := by decide +kernel
theorem dX3_isPlayer_14 : decode cX3_isPlayer 14 = .ok (.ireturn, 1) := by decide +kernel
theorem dX3_isPrize_0 : decode cX3_isPrize 0 = .ok (.iload_n 0, 1) := by decide +kernel
theorem dX3_isPrize_1 : decode cX3_isPrize 1 = .ok (.ifCond .lt 12, 3) := by decide +kernel
theorem dX3_isPrize_4 : decode cX3_isPrize 4 = .ok (.iload_n 0, 1) := by decide +kernel
theorem dX3_isPrize_5 : decode cX3_isPrize 5 = .ok (.iconst 5, 1) := by decide +kernel
theorem dX3_isPrize_6 : decode cX3_isPrize 6 = .ok (.if_icmp .ge 7, 3) := by decide +kernel
theorem dX3_isPrize_9 : decode cX3_isPrize 9 = .ok (.iconst 1, 1) := by decide +kernel
theorem dX3_isPrize_10 : decode cX3_isPrize 10 = .ok (.goto 4, 3) := by decide +kernel
theorem dX3_isPrize_13 : decode cX3_isPrize 13 = .ok (.iconst 0, 1) := by decide +kernel
theorem dX3_isPrize_14 : decode cX3_isPrize 14 = .ok (.ireturn, 1) := by decide +kernel
theorem dX3_sum_0 : decode cX3_sum 0 = .ok (.iconst 0, 1) := by decide +kernel
theorem dX3_sum_1 : decode cX3_sum 1 = .ok (.istore_n 1, 1) := by decide +kernel
theorem dX3_sum_2 : decode cX3_sum 2 = .ok (.aload_n 0, 1) := by decide +kernel
theorem dX3_sum_3 : decode cX3_sum 3 = .ok (.astore_n 2, 1) := by decide +kernel
theorem dX3_sum_4 : decode cX3_sum 4 = .ok (.aload_n 2, 1) := by decide +kernel
theorem dX3_sum_5 : decode cX3_sum 5 = .ok (.arraylength, 1) := by decide +kernel
theorem dX3_sum_6 : decode cX3_sum 6 = .ok (.istore_n 3, 1) := by decide +kernel
theorem dX3_sum_7 : decode cX3_sum 7 = .ok (.iconst 0, 1) := by decide +kernel
theorem dX3_sum_8 : decode cX3_sum 8 = .ok (.istore 4, 2) := by decide +kernel
theorem dX3_sum_10 : decode cX3_sum 10 = .ok (.iload 4, 2) := by decide +kernel
theorem dX3_sum_12 : decode cX3_sum 12 = .ok (.iload_n 3, 1) := by decide +kernel
theorem dX3_sum_13 : decode cX3_sum 13 = .ok (.if_icmp .ge 20, 3) := by decide +kernel
theorem dX3_sum_16 : decode cX3_sum 16 = .ok (.aload_n 2, 1) := by decide +kernel
theorem dX3_sum_17 : decode cX3_sum 17 = .ok (.iload 4, 2) := by decide +kernel
theorem dX3_sum_19 : decode cX3_sum 19 = .ok (.iaload, 1) := by decide +kernel
theorem dX3_sum_20 : decode cX3_sum 20 = .ok (.istore 5, 2) := by decide +kernel
theorem dX3_sum_22 : decode cX3_sum 22 = .ok (.iload_n 1, 1) := by decide +kernel
theorem dX3_sum_23 : decode cX3_sum 23 = .ok (.iload 5, 2) := by decide +kernel
theorem dX3_sum_25 : decode cX3_sum 25 = .ok (.iadd, 1) := by decide +kernel
theorem dX3_sum_26 : decode cX3_sum 26 = .ok (.istore_n 1, 1) := by decide +kernel
theorem dX3_sum_27 : decode cX3_sum 27 = .ok (.iinc 4 1, 3) := by decide +kernel
theorem dX3_sum_30 : decode cX3_sum 30 = .ok (.goto (-20), 3) := by decide +kernel
theorem dX3_sum_33 : decode cX3_sum 33 = .ok (.iload_n 1, 1) := by decide +kernel
theorem dX3_sum_34 : decode cX3_sum 34 = .ok (.ireturn, 1) := by decide +kernel
set_option maxRecDepth 20000 in
theorem ggX3_tryRounds_X2_copyFrom : GoodIn wsX3_tryRounds wsX2_copyFrom := goodIn_r _ [7, 8, 9, 10, 11, 12, 13, 14, 15, 16, 17, 18, 19, 20, 21, 22, 23, 24, 101, 102, 103, 104, 105, 106, 107, 108, 109, 110, 111, 112, 113] (by decide +kernel) (by decide +kernel)
set_option maxRecDepth 20000 in
theorem gX3_tryRounds_X2_copyFrom : GoodIn wsX3_tryRounds (wsV RX3 163 RX2 yX2_copyFrom wsX2_copyFrom) := goodIn_app (goodIn_of _ (by decide +kernel)) ggX3_tryRounds_X2_copyFrom
set_option maxRecDepth 20000 in
theorem ggX3_tryRounds_X2_playRound : GoodIn wsX3_tryRounds wsX2_playRound := goodIn_r _ [28, 22, 29, 30, 31, 6, 32, 23, 33, 34, 35, 36, 16, 37, 38, 39, 40, 41, 15, 42, 43, 44, 45, 8, 46, 47, 48, 49, 17, 50, 51, 52, 53, 54, 55, 56, 14, 57, 58, 59, 60, 61, 62, 63, 64, 18, 65, 66, 67, 68, 69, 70, 71, 72, 73, 74, 75, 76, 77, 78, 79, 80, 81, 82, 83, 19, 84, 85, 86, 87, 21, 88, 89, 90, 91, 20, 24, 92, 93, 94, 95, 13, 101, 102, 103, 104, 105, 106, 107, 108, 109, 110, 111, 112, 113] (by decide +kernel) (by decide +kernel)
set_option maxRecDepth 20000 in
theorem gX3_tryRounds_X2_playRound : GoodIn wsX3_tryRounds (wsV RX3 94 RX2 yX2_playRound wsX2_playRound) := goodIn_app (goodIn_of _ (by decide +kernel)) ggX3_tryRounds_X2_playRound
theorem dX3_tryRounds_0 : decode cX3_tryRounds 0 = .ok (.aload_n 0, 1) := by decide +kernel
theorem dX3_tryRounds_1 : decode cX3_tryRounds 1 = .ok (.getfield 16, 3) := by decide +kernel
theorem dX3_tryRounds_4 : decode cX3_tryRounds 4 = .ok (.aload_n 0, 1) := by decide +kernel
theorem dX3_tryRounds_5 : decode cX3_tryRounds 5 = .ok (.getfield 10, 3) := by decide +kernel
theorem dX3_tryRounds_8 : decode cX3_tryRounds 8 = .ok (.invokevirtual 163, 3) := by decide +kernel
theorem dX3_tryRounds_11 : decode cX3_tryRounds 11 = .ok (.iconst 0, 1) := by decide +kernel
theorem dX3_tryRounds_12 : decode cX3_tryRounds 12 = .ok (.istore_n 2, 1) := by decide +kernel
theorem dX3_tryRounds_13 : decode cX3_tryRounds 13 = .ok (.iload_n 2, 1) := by decide +kernel
theorem dX3_tryRounds_14 : decode cX3_tryRounds 14 = .ok (.iload_n 1, 1) := by decide +kernel
theorem dX3_tryRounds_15 : decode cX3_tryRounds 15 = .ok (.if_icmp .ge 17, 3) := by decide +kernel
theorem dX3_tryRounds_18 : decode cX3_tryRounds 18 = .ok (.aload_n 0, 1) := by decide +kernel
theorem dX3_tryRounds_19 : decode cX3_tryRounds 19 = .ok (.getfield 16, 3) := by decide +kernel
theorem dX3_tryRounds_22 : decode cX3_tryRounds 22 = .ok (.invokevirtual 94, 3) := by decide +kernel
theorem dX3_tryRounds_25 : decode cX3_tryRounds 25 = .ok (.pop, 1) := by decide +kernel
theorem dX3_tryRounds_26 : decode cX3_tryRounds 26 = .ok (.iinc 2 1, 3) := by decide +kernel
theorem dX3_tryRounds_29 : decode cX3_tryRounds 29 = .ok (.goto (-16), 3) := by decide +kernel
theorem dX3_tryRounds_32 : decode cX3_tryRounds 32 = .ok (.return_, 1) := by decide +kernel
set_option maxRecDepth 20000 in
theorem ggX3_doMove_X2_start : GoodIn wsX3_doMove wsX2_start := goodIn_r _ [8, 9, 10, 11, 12, 13, 7, 14, 15, 16, 99, 100, 101, 102, 103, 104, 105, 106, 107, 108, 109, 110, 111] (by decide +kernel) (by decide +kernel)
set_option maxRecDepth 20000 in
theorem gX3_doMove_X2_start : GoodIn wsX3_doMove (wsV RX3 78 RX2 yX2_start wsX2_start) := goodIn_app (goodIn_of _ (by decide +kernel)) ggX3_doMove_X2_start
set_option maxRecDepth 20000 in
theorem ggX3_doMove_X2_playRound : GoodIn wsX3_doMove wsX2_playRound := goodIn_r _ [20, 9, 21, 5, 6, 7, 8, 10, 11, 12, 13, 14, 15, 16, 22, 23, 24, 25, 26, 27, 28, 29, 30, 31, 32, 33, 34, 35, 36, 37, 38, 39, 40, 41, 42, 43, 44, 45, 46, 47, 48, 49, 50, 51, 52, 53, 54, 55, 56, 57, 58, 59, 60, 61, 62, 63, 64, 65, 66, 67, 68, 69, 70, 71, 72, 73, 74, 75, 76, 77, 78, 79, 80, 81, 82, 83, 84, 85, 86, 87, 88, 89, 99, 100, 101, 102, 103, 104, 105, 106, 107, 108, 109, 110, 111] (by decide +kernel) (by decide +kernel)
set_option maxRecDepth 20000 in
theorem gX3_doMove_X2_playRound : GoodIn wsX3_doMove (wsV RX3 94 RX2 yX2_playRound wsX2_playRound) := goodIn_app (goodIn_of _ (by decide +kernel)) ggX3_doMove_X2_playRound
set_option maxRecDepth 20000 in
theorem ggX3_doMove_X2_dropOut : GoodIn wsX3_doMove wsX2_dropOut := goodIn_r _ [57, 10, 16, 53, 31, 37, 38, 39, 58, 59, 60, 7, 61, 9, 62, 63, 64, 65, 66, 67, 68, 69, 70, 71, 72, 36, 44, 73, 74, 75, 76, 77, 78, 15, 79, 80, 81, 82, 83, 84, 85, 86, 87, 88, 89, 49, 50, 51, 52, 11, 12, 13, 14, 99, 100, 101, 102, 103, 104, 105, 106, 107, 108, 109, 110, 111] (by decide +kernel) (by decide +kernel)
set_option maxRecDepth 20000 in
theorem gX3_doMove_X2_dropOut : GoodIn wsX3_doMove (wsV RX3 88 RX2 yX2_dropOut wsX2_dropOut) := goodIn_app (goodIn_of _ (by decide +kernel)) ggX3_doMove_X2_dropOut
set_option maxRecDepth 20000 in
theorem ggX3_doMove_X2_actByLimit : GoodIn wsX3_doMove wsX2_actByLimit := goodIn_r _ [25, 10, 26, 27, 28, 29, 7, 30, 9, 16, 31, 32, 33, 34, 35, 36, 37, 38, 39, 40, 41, 42, 43, 44, 45, 46, 47, 48, 49, 50, 51, 52, 15, 53, 11, 12, 13, 14, 54, 55, 56, 57, 58, 59, 60, 61, 62, 63, 64, 65, 66, 67, 68, 69, 70, 71, 72, 73, 74, 75, 76, 77, 78, 79, 80, 81, 82, 83, 84, 85, 86, 87, 88, 89, 99, 100, 101, 102, 103, 104, 105, 106, 107, 108, 109, 110, 111] (by decide +kernel) (by decide +kernel)
set_option maxRecDepth 20000 in
theorem gX3_doMove_X2_actByLimit : GoodIn wsX3_doMove (wsV RX3 91 RX2 yX2_actByLimit wsX2_actByLimit) := goodIn_app (goodIn_of _ (by decide +kernel)) ggX3_doMove_X2_actByLimit
set_option maxRecDepth 20000 in
theorem ggX3_doMove_X2_mayBid : GoodIn wsX3_doMove wsX2_mayBid := goodIn_r _ [43, 9, 10, 44, 37, 38, 39, 27, 28, 29, 7, 30, 16, 31, 32, 33, 34, 35, 36, 99, 100, 101, 102, 103, 104, 105, 106, 107, 108, 109, 110, 111] (by decide +kernel) (by decide +kernel)
set_option maxRecDepth 20000 in
theorem gX3_doMove_X2_mayBid : GoodIn wsX3_doMove (wsV RX3 82 RX2 yX2_mayBid wsX2_mayBid) := goodIn_app (goodIn_of _ (by decide +kernel)) ggX3_doMove_X2_mayBid
set_option maxRecDepth 20000 in
theorem ggX3_doMove_X2_takeBid : GoodIn wsX3_doMove wsX2_takeBid := goodIn_r _ [48, 10, 36, 37, 38, 39, 49, 50, 51, 7, 52, 15, 53, 16, 11, 12, 13, 14, 99, 100, 101, 102, 103, 104, 105, 106, 107, 108, 109, 110, 111] (by decide +kernel) (by decide +kernel)
set_option maxRecDepth 20000 in
theorem gX3_doMove_X2_takeBid : GoodIn wsX3_doMove (wsV RX3 85 RX2 yX2_takeBid wsX2_takeBid) := goodIn_app (goodIn_of _ (by decide +kernel)) ggX3_doMove_X2_takeBid
theorem dX3_doMove_0 : decode cX3_doMove 0 = .ok (.iload_n 1, 1) := by decide +kernel
theorem dX3_doMove_1 : decode cX3_doMove 1 = .ok (.bipush 43, 2) := by decide +kernel
theorem dX3_doMove_3 : decode cX3_doMove 3 = .ok (.if_icmp .ne 26, 3) := by decide +kernel
theorem dX3_doMove_6 : decode cX3_doMove 6 = .ok (.aload_n 0, 1) := by decide +kernel
theorem dX3_doMove_7 : decode cX3_doMove 7 = .ok (.getfield 10, 3) := by decide +kernel
theorem dX3_doMove_10 : decode cX3_doMove 10 = .ok (.getfield 74, 3) := by decide +kernel
theorem dX3_doMove_13 : decode cX3_doMove 13 = .ok (.ifCond .eq 8, 3) := by decide +kernel
theorem dX3_doMove_16 : decode cX3_doMove 16 = .ok (.ldc 61, 2) := by decide +kernel
theorem dX3_doMove_18 : decode cX3_doMove 18 = .ok (.goto 10, 3) := by decide +kernel
theorem dX3_doMove_21 : decode cX3_doMove 21 = .ok (.aload_n 0, 1) := by decide +kernel
theorem dX3_doMove_22 : decode cX3_doMove 22 = .ok (.getfield 10, 3) := by decide +kernel
theorem dX3_doMove_25 : decode cX3_doMove 25 = .ok (.invokevirtual 78, 3) := by decide +kernel
theorem dX3_doMove_28 : decode cX3_doMove 28 = .ok (.ireturn, 1) := by decide +kernel
theorem dX3_doMove_29 : decode cX3_doMove 29 = .ok (.iload_n 1, 1) := by decide +kernel
theorem dX3_doMove_30 : decode cX3_doMove 30 = .ok (.bipush 33, 2) := by decide +kernel
theorem dX3_doMove_32 : decode cX3_doMove 32 = .ok (.if_icmp .ne 11, 3) := by decide +kernel
theorem dX3_doMove_35 : decode cX3_doMove 35 = .ok (.aload_n 0, 1) := by decide +kernel
theorem dX3_doMove_36 : decode cX3_doMove 36 = .ok (.getfield 10, 3) := by decide +kernel
theorem dX3_doMove_39 : decode cX3_doMove 39 = .ok (.invokevirtual 94, 3) := by decide +kernel
theorem dX3_doMove_42 : decode cX3_doMove 42 = .ok (.ireturn, 1) := by decide +kernel
theorem dX3_doMove_43 : decode cX3_doMove 43 = .ok (.aload_n 0, 1) := by decide +kernel
theorem dX3_doMove_44 : decode cX3_doMove 44 = .ok (.getfield 10, 3) := by decide +kernel
theorem dX3_doMove_47 : decode cX3_doMove 47 = .ok (.getfield 74, 3) := by decide +kernel
theorem dX3_doMove_50 : decode cX3_doMove 50 = .ok (.ifCond .ne 6, 3) := by decide +kernel
theorem dX3_doMove_53 : decode cX3_doMove 53 = .ok (.ldc 61, 2) := by decide +kernel
theorem dX3_doMove_55 : decode cX3_doMove 55 = .ok (.ireturn, 1) := by decide +kernel
theorem dX3_doMove_56 : decode cX3_doMove 56 = .ok (.iload_n 1, 1) := by decide +kernel
theorem dX3_doMove_57 : decode cX3_doMove 57 = .ok (.bipush 45, 2) := by decide +kernel
theorem dX3_doMove_59 : decode cX3_doMove 59 = .ok (.if_icmp .ne 11, 3) := by decide +kernel
theorem dX3_doMove_62 : decode cX3_doMove 62 = .ok (.aload_n 0, 1) := by decide +kernel
theorem dX3_doMove_63 : decode cX3_doMove 63 = .ok (.getfield 10, 3) := by decide +kernel
theorem dX3_doMove_66 : decode cX3_doMove 66 = .ok (.invokevirtual 88, 3) := by decide +kernel
theorem dX3_doMove_69 : decode cX3_doMove 69 = .ok (.ireturn, 1) := by decide +kernel
theorem dX3_doMove_70 : decode cX3_doMove 70 = .ok (.iload_n 1, 1) := by decide +kernel
theorem dX3_doMove_71 : decode cX3_doMove 71 = .ok (.bipush 42, 2) := by decide +kernel
theorem dX3_doMove_73 : decode cX3_doMove 73 = .ok (.if_icmp .ne 11, 3) := by decide +kernel
theorem dX3_doMove_76 : decode cX3_doMove 76 = .ok (.aload_n 0, 1) := by decide +kernel
theorem dX3_doMove_77 : decode cX3_doMove 77 = .ok (.getfield 10, 3) := by decide +kernel
theorem dX3_doMove_80 : decode cX3_doMove 80 = .ok (.invokevirtual 91, 3) := by decide +kernel
theorem dX3_doMove_83 : decode cX3_doMove 83 = .ok (.ireturn, 1) := by decide +kernel
theorem dX3_doMove_84 : decode cX3_doMove 84 = .ok (.aload_n 0, 1) := by decide +kernel
theorem dX3_doMove_85 : decode cX3_doMove 85 = .ok (.getfield 10, 3) := by decide +kernel
theorem dX3_doMove_88 : decode cX3_doMove 88 = .ok (.iload_n 2, 1) := by decide +kernel
theorem dX3_doMove_89 : decode cX3_doMove 89 = .ok (.invokevirtual 82, 3) := by decide +kernel
theorem dX3_doMove_92 : decode cX3_doMove 92 = .ok (.ifCond .eq 14, 3) := by decide +kernel
theorem dX3_doMove_95 : decode cX3_doMove 95 = .ok (.aload_n 0, 1) := by decide +kernel
theorem dX3_doMove_96 : decode cX3_doMove 96 = .ok (.getfield 10, 3) := by decide +kernel
theorem dX3_doMove_99 : decode cX3_doMove 99 = .ok (.iload_n 2, 1) := by decide +kernel
theorem dX3_doMove_100 : decode cX3_doMove 100 = .ok (.invokevirtual 85, 3) := by decide +kernel
theorem dX3_doMove_103 : decode cX3_doMove 103 = .ok (.goto 5, 3) := by decide +kernel
theorem dX3_doMove_106 : decode cX3_doMove 106 = .ok (.ldc 61, 2) := by decide +kernel
theorem dX3_doMove_108 : decode cX3_doMove 108 = .ok (.ireturn, 1) := by decide +kernel
end
section
set_option maxRecDepth 20000 in
theorem ggX4_init_X4_clearAuction : GoodIn wsX4_init wsX4_clearAuction := goodIn_r _ [17, 5, 18, 19, 20, 21, 22, 23, 24, 25, 26, 27, 28, 29] (by decide +kernel) (by decide +kernel)
set_option maxRecDepth 20000 in
theorem gX4_init_X4_clearAuction : GoodIn wsX4_init (wsV RX4 32 RX4 yX4_clearAuction wsX4_clearAuction) := goodIn_app (goodIn_of _ (by decide +kernel)) ggX4_init_X4_clearAuction
theorem dX4_init_0 : decode cX4_init 0 = .ok (.aload_n 0, 1) := by decide +kernel
theorem dX4_init_1 : decode cX4_init 1 = .ok (.invokespecial 1, 3) := by decide +kernel
theorem dX4_init_4 : decode cX4_init 4 = .ok (.aload_n 0, 1) := by decide +kernel
theorem dX4_init_5 : decode cX4_init 5 = .ok (.bipush 53, 2) := by decide +kernel
theorem dX4_init_7 : decode cX4_init 7 = .ok (.newarray .int, 2) := by decide +kernel
theorem dX4_init_9 : decode cX4_init 9 = .ok (.putfield 7, 3) := by decide +kernel
theorem dX4_init_12 : decode cX4_init 12 = .ok (.aload_n 0, 1) := by decide +kernel
theorem dX4_init_13 : decode cX4_init 13 = .ok (.bipush 53, 2) := by decide +kernel
theorem dX4_init_15 : decode cX4_init 15 = .ok (.newarray .int, 2) := by decide +kernel
theorem dX4_init_17 : decode cX4_init 17 = .ok (.putfield 13, 3) := by decide +kernel
theorem dX4_init_20 : decode cX4_init 20 = .ok (.aload_n 0, 1) := by decide +kernel
theorem dX4_init_21 : decode cX4_init 21 = .ok (.sipush 318, 3) := by decide +kernel
theorem dX4_init_24 : decode cX4_init 24 = .ok (.newarray .int, 2) := by decide +kernel
theorem dX4_init_26 : decode cX4_init 26 = .ok (.putfield 16, 3) := by decide +kernel
theorem dX4_init_29 : decode cX4_init 29 = .ok (.aload_n 0, 1) := by decide +kernel
theorem dX4_init_30 : decode cX4_init 30 = .ok (.bipush 106, 2) := by decide +kernel
theorem dX4_init_32 : decode cX4_init 32 = .ok (.newarray .int, 2) := by decide +kernel
theorem dX4_init_34 : decode cX4_init 34 = .ok (.putfield 19, 3) := by decide +kernel
theorem dX4_init_37 : decode cX4_init 37 = .ok (.aload_n 0, 1) := by decide +kernel
theorem dX4_init_38 : decode cX4_init 38 = .ok (.iconst 2, 1) := by decide +kernel
theorem dX4_init_39 : decode cX4_init 39 = .ok (.newarray .boolean, 2) := by decide +kernel
theorem dX4_init_41 : decode cX4_init 41 = .ok (.putfield 22, 3) := by decide +kernel
theorem dX4_init_44 : decode cX4_init 44 = .ok (.aload_n 0, 1) := by decide +kernel
theorem dX4_init_45 : decode cX4_init 45 = .ok (.bipush 60, 2) := by decide +kernel
theorem dX4_init_47 : decode cX4_init 47 = .ok (.newarray .int, 2) := by decide +kernel
theorem dX4_init_49 : decode cX4_init 49 = .ok (.putfield 26, 3) := by decide +kernel
theorem dX4_init_52 : decode cX4_init 52 = .ok (.aload_n 0, 1) := by decide +kernel
theorem dX4_init_53 : decode cX4_init 53 = .ok (.bipush 31, 2) := by decide +kernel
theorem dX4_init_55 : decode cX4_init 55 = .ok (.newarray .int, 2) := by decide +kernel
theorem dX4_init_57 : decode cX4_init 57 = .ok (.putfield 29, 3) := by decide +kernel
theorem dX4_init_60 : decode cX4_init 60 = .ok (.aload_n 0, 1) := by decide +kernel
theorem dX4_init_61 : decode cX4_init 61 = .ok (.getfield 7, 3) := by decide +kernel
theorem dX4_init_64 : decode cX4_init 64 = .ok (.iconst 0, 1) := by decide +kernel
theorem dX4_init_65 : decode cX4_init 65 = .ok (.iconst 1, 1) := by decide +kernel
theorem dX4_init_66 : decode cX4_init 66 = .ok (.iastore, 1) := by decide +kernel
theorem dX4_init_67 : decode cX4_init 67 = .ok (.aload_n 0, 1) := by decide +kernel
theorem dX4_init_68 : decode cX4_init 68 = .ok (.getfield 7, 3) := by decide +kernel
theorem dX4_init_71 : decode cX4_init 71 = .ok (.iconst 1, 1) := by decide +kernel
theorem dX4_init_72 : decode cX4_init 72 = .ok (.iconst 1, 1) := by decide +kernel
theorem dX4_init_73 : decode cX4_init 73 = .ok (.iastore, 1) := by decide +kernel
theorem dX4_init_74 : decode cX4_init 74 = .ok (.aload_n 0, 1) := by decide +kernel
theorem dX4_init_75 : decode cX4_init 75 = .ok (.getfield 7, 3) := by decide +kernel
theorem dX4_init_78 : decode cX4_init 78 = .ok (.iconst 2, 1) := by decide +kernel
theorem dX4_init_79 : decode cX4_init 79 = .ok (.bipush 50, 2) := by decide +kernel
theorem dX4_init_81 : decode cX4_init 81 = .ok (.iastore, 1) := by decide +kernel
theorem dX4_init_82 : decode cX4_init 82 = .ok (.iconst 0, 1) := by decide +kernel
theorem dX4_init_83 : decode cX4_init 83 = .ok (.istore_n 1, 1) := by decide +kernel
theorem dX4_init_84 : decode cX4_init 84 = .ok (.iload_n 1, 1) := by decide +kernel
theorem dX4_init_85 : decode cX4_init 85 = .ok (.iconst 5, 1) := by decide +kernel
theorem dX4_init_86 : decode cX4_init 86 = .ok (.if_icmp .ge 53, 3) := by decide +kernel
theorem dX4_init_89 : decode cX4_init 89 = .ok (.aload_n 0, 1) := by decide +kernel
theorem dX4_init_90 : decode cX4_init 90 = .ok (.getfield 7, 3) := by decide +kernel
theorem dX4_init_93 : decode cX4_init 93 = .ok (.bipush 8, 2) := by decide +kernel
theorem dX4_init_95 : decode cX4_init 95 = .ok (.iload_n 1, 1) := by decide +kernel
theorem dX4_init_96 : decode cX4_init 96 = .ok (.iadd, 1) := by decide +kernel
theorem dX4_init_97 : decode cX4_init 97 = .ok (.bipush 20, 2) := by decide +kernel
theorem dX4_init_99 : decode cX4_init 99 = .ok (.iastore, 1) := by decide +kernel
theorem dX4_init_100 : decode cX4_init 100 = .ok (.aload_n 0, 1) := by decide +kernel
theorem dX4_init_101 : decode cX4_init 101 = .ok (.getfield 7, 3) := by decide +kernel
theorem dX4_init_104 : decode cX4_init 104 = .ok (.bipush 13, 2) := by decide +kernel
theorem dX4_init_106 : decode cX4_init 106 = .ok (.iload_n 1, 1) := by decide +kernel
theorem dX4_init_107 : decode cX4_init 107 = .ok (.iadd, 1) := by decide +kernel
theorem dX4_init_108 : decode cX4_init 108 = .ok (.bipush 10, 2) := by decide +kernel
theorem dX4_init_110 : decode cX4_init 110 = .ok (.iastore, 1) := by decide +kernel
theorem dX4_init_111 : decode cX4_init 111 = .ok (.aload_n 0, 1) := by decide +kernel
theorem dX4_init_112 : decode cX4_init 112 = .ok (.getfield 7, 3) := by decide +kernel
theorem dX4_init_115 : decode cX4_init 115 = .ok (.bipush 18, 2) := by decide +kernel
theorem dX4_init_117 : decode cX4_init 117 = .ok (.iload_n 1, 1) := by decide +kernel
theorem dX4_init_118 : decode cX4_init 118 = .ok (.iadd, 1) := by decide +kernel
theorem dX4_init_119 : decode cX4_init 119 = .ok (.iload_n 1, 1) := by decide +kernel
theorem dX4_init_120 : decode cX4_init 120 = .ok (.iastore, 1) := by decide +kernel
theorem dX4_init_121 : decode cX4_init 121 = .ok (.aload_n 0, 1) := by decide +kernel
theorem dX4_init_122 : decode cX4_init 122 = .ok (.getfield 7, 3) := by decide +kernel
theorem dX4_init_125 : decode cX4_init 125 = .ok (.bipush 48, 2) := by decide +kernel
theorem dX4_init_127 : decode cX4_init 127 = .ok (.iload_n 1, 1) := by decide +kernel
theorem dX4_init_128 : decode cX4_init 128 = .ok (.iadd, 1) := by decide +kernel
theorem dX4_init_129 : decode cX4_init 129 = .ok (.iconst 5, 1) := by decide +kernel
theorem dX4_init_130 : decode cX4_init 130 = .ok (.iload_n 1, 1) := by decide +kernel
theorem dX4_init_131 : decode cX4_init 131 = .ok (.isub, 1) := by decide +kernel
theorem dX4_init_132 : decode cX4_init 132 = .ok (.iastore, 1) := by decide +kernel
theorem dX4_init_133 : decode cX4_init 133 = .ok (.iinc 1 1, 3) := by decide +kernel
theorem dX4_init_136 : decode cX4_init 136 = .ok (.goto (-52), 3) := by decide +kernel
theorem dX4_init_139 : decode cX4_init 139 = .ok (.aload_n 0, 1) := by decide +kernel
theorem dX4_init_140 : decode cX4_init 140 = .ok (.invokevirtual 32, 3) := by decide +kernel
theorem dX4_init_143 : decode cX4_init 143 = .ok (.return_, 1) := by decide +kernel
theorem dX4_in_0 : decode cX4_in 0 = .ok (.iload_n 0, 1) := by decide +kernel
theorem dX4_in_1 : decode cX4_in 1 = .ok (.iload_n 1, 1) := by decide +kernel
theorem dX4_in_2 : decode cX4_in 2 = .ok (.if_icmp .lt 12, 3) := by decide +kernel
theorem dX4_in_5 : decode cX4_in 5 = .ok (.iload_n 0, 1) := by decide +kernel
theorem dX4_in_6 : decode cX4_in 6 = .ok (.iload_n 2, 1) := by decide +kernel
theorem dX4_in_7 : decode cX4_in 7 = .ok (.if_icmp .gt 7, 3) := by decide +kernel
theorem dX4_in_10 : decode cX4_in 10 = .ok (.iconst 1, 1) := by decide +kernel
theorem dX4_in_11 : decode cX4_in 11 = .ok (.goto 4, 3) := by decide +kernel
theorem dX4_in_14 : decode cX4_in 14 = .ok (.iconst 0, 1) := by decide +kernel
theorem dX4_in_15 : decode cX4_in 15 = .ok (.ireturn, 1) := by decide +kernel
set_option maxRecDepth 20000 in
theorem ggX4_isPlayer_X4_in : GoodIn wsX4_isPlayer wsX4_in := goodIn_r _ [4] (by decide +kernel) (by decide +kernel)
set_option maxRecDepth 20000 in
theorem gX4_isPlayer_X4_in : GoodIn wsX4_isPlayer (va_wsS RX4 35 yX4_in wsX4_in) := goodIn_app (goodIn_of _ (by decide +kernel)) ggX4_isPlayer_X4_in
theorem dX4_isPlayer_0 : decode cX4_isPlayer 0 = .ok (.iload_n 0, 1) := by decide +kernel
theorem dX4_isPlayer_1 : decode cX4_isPlayer 1 = .ok (.iconst 0, 1) := by decide +kernel
theorem dX4_isPlayer_2 : decode cX4_isPlayer 2 = .ok (.iconst 4, 1) := by decide +kernel
theorem dX4_isPlayer_3 : decode cX4_isPlayer 3 = .ok (.invokestatic 35, 3) := by decide +kernel
theorem dX4_isPlayer_6 : decode cX4_isPlayer 6 = .ok (.ireturn, 1) := by decide +kernel
theorem dX4_sum_0 : decode cX4_sum 0 = .ok (.iconst 0, 1) := by decide +kernel
theorem dX4_sum_1 : decode cX4_sum 1 = .ok (.istore_n 2, 1) := by decide +kernel
theorem dX4_sum_2 : decode cX4_sum 2 = .ok (.iconst 0, 1) := by decide +kernel
theorem dX4_sum_3 : decode cX4_sum 3 = .ok (.istore_n 3, 1) := by decide +kernel
theorem dX4_sum_4 : decode cX4_sum 4 = .ok (.iload_n 3, 1) := by decide +kernel
theorem dX4_sum_5 : decode cX4_sum 5 = .ok (.iconst 5, 1) := by decide +kernel
theorem dX4_sum_6 : decode cX4_sum 6 = .ok (.if_icmp .ge 20, 3) := by decide +kernel
theorem dX4_sum_9 : decode cX4_sum 9 = .ok (.iload_n 2, 1) := by decide +kernel
theorem dX4_sum_10 : decode cX4_sum 10 = .ok (.aload_n 0, 1) := by decide +kernel
theorem dX4_sum_11 : decode cX4_sum 11 = .ok (.getfield 7, 3) := by decide +kernel
theorem dX4_sum_14 : decode cX4_sum 14 = .ok (.iload_n 1, 1) := by decide +kernel
theorem dX4_sum_15 : decode cX4_sum 15 = .ok (.iload_n 3, 1) := by decide +kernel
theorem dX4_sum_16 : decode cX4_sum 16 = .ok (.iadd, 1) := by decide +kernel
theorem dX4_sum_17 : decode cX4_sum 17 = .ok (.iaload, 1) := by decide +kernel
theorem dX4_sum_18 : decode cX4_sum 18 = .ok (.iadd, 1) := by decide +kernel
theorem dX4_sum_19 : decode cX4_sum 19 = .ok (.istore_n 2, 1) := by decide +kernel
theorem dX4_sum_20 : decode cX4_sum 20 = .ok (.iinc 3 1, 3) := by decide +kernel
theorem dX4_sum_23 : decode cX4_sum 23 = .ok (.goto (-19), 3) := by decide +kernel
theorem dX4_sum_26 : decode cX4_sum 26 = .ok (.iload_n 2, 1) := by decide +kernel
theorem dX4_sum_27 : decode cX4_sum 27 = .ok (.ireturn, 1) := by decide +kernel
theorem dX4_playerAt_0 : decode cX4_playerAt 0 = .ok (.ldc 39, 2) := by decide +kernel
theorem dX4_playerAt_2 : decode cX4_playerAt 2 = .ok (.istore_n 2, 1) := by decide +kernel
theorem dX4_playerAt_3 : decode cX4_playerAt 3 = .ok (.iconst 0, 1) := by decide +kernel
theorem dX4_playerAt_4 : decode cX4_playerAt 4 = .ok (.istore_n 3, 1) := by decide +kernel
theorem dX4_playerAt_5 : decode cX4_playerAt 5 = .ok (.iload_n 3, 1) := by decide +kernel
theorem dX4_playerAt_6 : decode cX4_playerAt 6 = .ok (.iconst 5, 1) := by decide +kernel
theorem dX4_playerAt_7 : decode cX4_playerAt 7 = .ok (.if_icmp .ge 28, 3) := by decide +kernel
theorem dX4_playerAt_10 : decode cX4_playerAt 10 = .ok (.aload_n 0, 1) := by decide +kernel
theorem dX4_playerAt_11 : decode cX4_playerAt 11 = .ok (.getfield 7, 3) := by decide +kernel
theorem dX4_playerAt_14 : decode cX4_playerAt 14 = .ok (.bipush 18, 2) := by decide +kernel
theorem dX4_playerAt_16 : decode cX4_playerAt 16 = .ok (.iload_n 3, 1) := by decide +kernel
theorem dX4_playerAt_17 : decode cX4_playerAt 17 = .ok (.iadd, 1) := by decide +kernel
theorem dX4_playerAt_18 : decode cX4_playerAt 18 = .ok (.iaload, 1) := by decide +kernel
theorem dX4_playerAt_19 : decode cX4_playerAt 19 = .ok (.iload_n 1, 1) := by decide +kernel
theorem dX4_playerAt_20 : decode cX4_playerAt 20 = .ok (.if_icmp .ne 7, 3) := by decide +kernel
theorem dX4_playerAt_23 : decode cX4_playerAt 23 = .ok (.iload_n 3, 1) := by decide +kernel
theorem dX4_playerAt_24 : decode cX4_playerAt 24 = .ok (.goto 4, 3) := by decide +kernel
theorem dX4_playerAt_27 : decode cX4_playerAt 27 = .ok (.iload_n 2, 1) := by decide +kernel
theorem dX4_playerAt_28 : decode cX4_playerAt 28 = .ok (.istore_n 2, 1) := by decide +kernel
theorem dX4_playerAt_29 : decode cX4_playerAt 29 = .ok (.iinc 3 1, 3) := by decide +kernel
theorem dX4_playerAt_32 : decode cX4_playerAt 32 = .ok (.goto (-27), 3) := by decide +kernel
theorem dX4_playerAt_35 : decode cX4_playerAt 35 = .ok (.iload_n 2, 1) := by decide +kernel
theorem dX4_playerAt_36 : decode cX4_playerAt 36 = .ok (.ireturn, 1) := by decide +kernel
theorem dX4_clearAuction_0 : decode cX4_clearAuction 0 = .ok (.aload_n 0, 1) := by decide +kernel
theorem dX4_clearAuction_1 : decode cX4_clearAuction 1 = .ok (.getfield 7, 3) := by decide +kernel
theorem dX4_clearAuction_4 : decode cX4_clearAuction 4 = .ok (.iconst 4, 1) := by decide +kernel
theorem dX4_clearAuction_5 : decode cX4_clearAuction 5 = .ok (.iconst 0, 1) := by decide +kernel
theorem dX4_clearAuction_6 : decode cX4_clearAuction 6 = .ok (.iastore, 1) := by decide +kernel
theorem dX4_clearAuction_7 : decode cX4_clearAuction 7 = .ok (.aload_n 0, 1) := by decide +kernel
theorem dX4_clearAuction_8 : decode cX4_clearAuction 8 = .ok (.getfield 7, 3) := by decide +kernel
theorem dX4_clearAuction_11 : decode cX4_clearAuction 11 = .ok (.iconst 5, 1) := by decide +kernel
theorem dX4_clearAuction_12 : decode cX4_clearAuction 12 = .ok (.ldc 39, 2) := by decide +kernel
theorem dX4_clearAuction_14 : decode cX4_clearAuction 14 = .ok (.iastore, 1) := by decide +kernel
theorem dX4_clearAuction_15 : decode cX4_clearAuction 15 = .ok (.aload_n 0, 1) := by decide +kernel
theorem dX4_clearAuction_16 : decode cX4_clearAuction 16 = .ok (.getfield 7, 3) := by decide +kernel
theorem dX4_clearAuction_19 : decode cX4_clearAuction 19 = .ok (.bipush 6, 2) := by decide +kernel
theorem dX4_clearAuction_21 : decode cX4_clearAuction 21 = .ok (.ldc 39, 2) := by decide +kernel
theorem dX4_clearAuction_23 : decode cX4_clearAuction 23 = .ok (.iastore, 1) := by decide +kernel
theorem dX4_clearAuction_24 : decode cX4_clearAuction 24 = .ok (.iconst 0, 1) := by decide +kernel
theorem dX4_clearAuction_25 : decode cX4_clearAuction 25 = .ok (.istore_n 1, 1) := by decide +kernel
theorem dX4_clearAuction_26 : decode cX4_clearAuction 26 = .ok (.iload_n 1, 1) := by decide +kernel
theorem dX4_clearAuction_27 : decode cX4_clearAuction 27 = .ok (.iconst 5, 1) := by decide +kernel
theorem dX4_clearAuction_28 : decode cX4_clearAuction 28 = .ok (.if_icmp .ge 31, 3) := by decide +kernel
theorem dX4_clearAuction_31 : decode cX4_clearAuction 31 = .ok (.aload_n 0, 1) := by decide +kernel
theorem dX4_clearAuction_32 : decode cX4_clearAuction 32 = .ok (.getfield 7, 3) := by decide +kernel
theorem dX4_clearAuction_35 : decode cX4_clearAuction 35 = .ok (.bipush 23, 2) := by decide +kernel
theorem dX4_clearAuction_37 : decode cX4_clearAuction 37 = .ok (.iload_n 1, 1) := by decide +kernel
theorem dX4_clearAuction_38 : decode cX4_clearAuction 38 = .ok (.iadd, 1) := by decide +kernel
theorem dX4_clearAuction_39 : decode cX4_clearAuction 39 = .ok (.ldc 39, 2) := by decide +kernel
theorem dX4_clearAuction_41 : decode cX4_clearAuction 41 = .ok (.iastore, 1) := by decide +kernel
theorem dX4_clearAuction_42 : decode cX4_clearAuction 42 = .ok (.aload_n 0, 1) := by decide +kernel
theorem dX4_clearAuction_43 : decode cX4_clearAuction 43 = .ok (.getfield 7, 3) := by decide +kernel
theorem dX4_clearAuction_46 : decode cX4_clearAuction 46 = .ok (.bipush 28, 2) := by decide +kernel
theorem dX4_clearAuction_48 : decode cX4_clearAuction 48 = .ok (.iload_n 1, 1) := by decide +kernel
theorem dX4_clearAuction_49 : decode cX4_clearAuction 49 = .ok (.iadd, 1) := by decide +kernel
theorem dX4_clearAuction_50 : decode cX4_clearAuction 50 = .ok (.ldc 39, 2) := by decide +kernel
theorem dX4_clearAuction_52 : decode cX4_clearAuction 52 = .ok (.iastore, 1) := by decide +kernel
theorem dX4_clearAuction_53 : decode cX4_clearAuction 53 = .ok (.iinc 1 1, 3) := by decide +kernel
theorem dX4_clearAuction_56 : decode cX4_clearAuction 56 = .ok (.goto (-30), 3) := by decide +kernel
theorem dX4_clearAuction_59 : decode cX4_clearAuction 59 = .ok (.return_, 1) := by decide +kernel
theorem dX4_copyState_0 : decode cX4_copyState 0 = .ok (.iconst 0, 1) := by decide +kernel
theorem dX4_copyState_1 : decode cX4_copyState 1 = .ok (.istore 4, 2) := by decide +kernel
theorem dX4_copyState_3 : decode cX4_copyState 3 = .ok (.iload 4, 2) := by decide +kernel
theorem dX4_copyState_5 : decode cX4_copyState 5 = .ok (.bipush 53, 2) := by decide +kernel
theorem dX4_copyState_7 : decode cX4_copyState 7 = .ok (.if_icmp .ge 21, 3) := by decide +kernel
theorem dX4_copyState_10 : decode cX4_copyState 10 = .ok (.aload_n 2, 1) := by decide +kernel
theorem dX4_copyState_11 : decode cX4_copyState 11 = .ok (.iload_n 3, 1) := by decide +kernel
theorem dX4_copyState_12 : decode cX4_copyState 12 = .ok (.iload 4, 2) := by decide +kernel
theorem dX4_copyState_14 : decode cX4_copyState 14 = .ok (.iadd, 1) := by decide +kernel
theorem dX4_copyState_15 : decode cX4_copyState 15 = .ok (.aload_n 0, 1) := by decide +kernel
theorem dX4_copyState_16 : decode cX4_copyState 16 = .ok (.iload_n 1, 1) := by decide +kernel
theorem dX4_copyState_17 : decode cX4_copyState 17 = .ok (.iload 4, 2) := by decide +kernel
theorem dX4_copyState_19 : decode cX4_copyState 19 = .ok (.iadd, 1) := by decide +kernel
theorem dX4_copyState_20 : decode cX4_copyState 20 = .ok (.iaload, 1) := by decide +kernel
theorem dX4_copyState_21 : decode cX4_copyState 21 = .ok (.iastore, 1) := by decide +kernel
theorem dX4_copyState_22 : decode cX4_copyState 22 = .ok (.iinc 4 1, 3) := by decide +kernel
theorem dX4_copyState_25 : decode cX4_copyState 25 = .ok (.goto (-22), 3) := by decide +kernel
theorem dX4_copyState_28 : decode cX4_copyState 28 = .ok (.return_, 1) := by decide +kernel
set_option maxRecDepth 20000 in
theorem ggX4_record_X4_copyState : GoodIn wsX4_record wsX4_copyState := goodIn_r _ [7] (by decide +kernel) (by decide +kernel)
set_option maxRecDepth 20000 in
theorem gX4_record_X4_copyState : GoodIn wsX4_record (va_wsS RX4 44 yX4_copyState wsX4_copyState) := goodIn_app (goodIn_of _ (by decide +kernel)) ggX4_record_X4_copyState
theorem dX4_record_0 : decode cX4_record 0 = .ok (.aload_n 0, 1) := by decide +kernel
theorem dX4_record_1 : decode cX4_record 1 = .ok (.getfield 40, 3) := by decide +kernel
theorem dX4_record_4 : decode cX4_record 4 = .ok (.bipush 6, 2) := by decide +kernel
theorem dX4_record_6 : decode cX4_record 6 = .ok (.if_icmp .ne 43, 3) := by decide +kernel
theorem dX4_record_9 : decode cX4_record 9 = .ok (.iconst 0, 1) := by decide +kernel
theorem dX4_record_10 : decode cX4_record 10 = .ok (.istore_n 1, 1) := by decide +kernel
theorem dX4_record_11 : decode cX4_record 11 = .ok (.iload_n 1, 1) := by decide +kernel
theorem dX4_record_12 : decode cX4_record 12 = .ok (.sipush 265, 3) := by decide +kernel
theorem dX4_record_15 : decode cX4_record 15 = .ok (.if_icmp .ge 24, 3) := by decide +kernel
theorem dX4_record_18 : decode cX4_record 18 = .ok (.aload_n 0, 1) := by decide +kernel
theorem dX4_record_19 : decode cX4_record 19 = .ok (.getfield 16, 3) := by decide +kernel
theorem dX4_record_22 : decode cX4_record 22 = .ok (.iload_n 1, 1) := by decide +kernel
theorem dX4_record_23 : decode cX4_record 23 = .ok (.aload_n 0, 1) := by decide +kernel
theorem dX4_record_24 : decode cX4_record 24 = .ok (.getfield 16, 3) := by decide +kernel
theorem dX4_record_27 : decode cX4_record 27 = .ok (.iload_n 1, 1) := by decide +kernel
theorem dX4_record_28 : decode cX4_record 28 = .ok (.bipush 53, 2) := by decide +kernel
theorem dX4_record_30 : decode cX4_record 30 = .ok (.iadd, 1) := by decide +kernel
theorem dX4_record_31 : decode cX4_record 31 = .ok (.iaload, 1) := by decide +kernel
theorem dX4_record_32 : decode cX4_record 32 = .ok (.iastore, 1) := by decide +kernel
theorem dX4_record_33 : decode cX4_record 33 = .ok (.iinc 1 1, 3) := by decide +kernel
theorem dX4_record_36 : decode cX4_record 36 = .ok (.goto (-25), 3) := by decide +kernel
theorem dX4_record_39 : decode cX4_record 39 = .ok (.aload_n 0, 1) := by decide +kernel
theorem dX4_record_40 : decode cX4_record 40 = .ok (.dup, 1) := by decide +kernel
theorem dX4_record_41 : decode cX4_record 41 = .ok (.getfield 40, 3) := by decide +kernel
theorem dX4_record_44 : decode cX4_record 44 = .ok (.iconst 1, 1) := by decide +kernel
theorem dX4_record_45 : decode cX4_record 45 = .ok (.isub, 1) := by decide +kernel
theorem dX4_record_46 : decode cX4_record 46 = .ok (.putfield 40, 3) := by decide +kernel
theorem dX4_record_49 : decode cX4_record 49 = .ok (.aload_n 0, 1) := by decide +kernel
theorem dX4_record_50 : decode cX4_record 50 = .ok (.getfield 7, 3) := by decide +kernel
theorem dX4_record_53 : decode cX4_record 53 = .ok (.iconst 0, 1) := by decide +kernel
theorem dX4_record_54 : decode cX4_record 54 = .ok (.aload_n 0, 1) := by decide +kernel
theorem dX4_record_55 : decode cX4_record 55 = .ok (.getfield 16, 3) := by decide +kernel
theorem dX4_record_58 : decode cX4_record 58 = .ok (.bipush 53, 2) := by decide +kernel
theorem dX4_record_60 : decode cX4_record 60 = .ok (.aload_n 0, 1) := by decide +kernel
theorem dX4_record_61 : decode cX4_record 61 = .ok (.getfield 40, 3) := by decide +kernel
theorem dX4_record_64 : decode cX4_record 64 = .ok (.imul, 1) := by decide +kernel
theorem dX4_record_65 : decode cX4_record 65 = .ok (.invokestatic 44, 3) := by decide +kernel
theorem dX4_record_68 : decode cX4_record 68 = .ok (.aload_n 0, 1) := by decide +kernel
theorem dX4_record_69 : decode cX4_record 69 = .ok (.dup, 1) := by decide +kernel
theorem dX4_record_70 : decode cX4_record 70 = .ok (.getfield 40, 3) := by decide +kernel
theorem dX4_record_73 : decode cX4_record 73 = .ok (.iconst 1, 1) := by decide +kernel
theorem dX4_record_74 : decode cX4_record 74 = .ok (.iadd, 1) := by decide +kernel
theorem dX4_record_75 : decode cX4_record 75 = .ok (.putfield 40, 3) := by decide +kernel
theorem dX4_record_78 : decode cX4_record 78 = .ok (.return_, 1) := by decide +kernel
set_option maxRecDepth 20000 in
theorem ggX4_undo_X4_copyState : GoodIn wsX4_undo wsX4_copyState := goodIn_r _ [8] (by decide +kernel) (by decide +kernel)
set_option maxRecDepth 20000 in
theorem gX4_undo_X4_copyState : GoodIn wsX4_undo (va_wsS RX4 44 yX4_copyState wsX4_copyState) := goodIn_app (goodIn_of _ (by decide +kernel)) ggX4_undo_X4_copyState
theorem dX4_undo_0 : decode cX4_undo 0 = .ok (.aload_n 0, 1) := by decide +kernel
theorem dX4_undo_1 : decode cX4_undo 1 = .ok (.getfield 40, 3) := by decide +kernel
theorem dX4_undo_4 : decode cX4_undo 4 = .ok (.ifCond .ne 6, 3) := by decide +kernel
theorem dX4_undo_7 : decode cX4_undo 7 = .ok (.ldc 48, 2) := by decide +kernel
theorem dX4_undo_9 : decode cX4_undo 9 = .ok (.ireturn, 1) := by decide +kernel
theorem dX4_undo_10 : decode cX4_undo 10 = .ok (.aload_n 0, 1) := by decide +kernel
theorem dX4_undo_11 : decode cX4_undo 11 = .ok (.dup, 1) := by decide +kernel
theorem dX4_undo_12 : decode cX4_undo 12 = .ok (.getfield 40, 3) := by decide +kernel
theorem dX4_undo_15 : decode cX4_undo 15 = .ok (.iconst 1, 1) := by decide +kernel
theorem dX4_undo_16 : decode cX4_undo 16 = .ok (.isub, 1) := by decide +kernel
theorem dX4_undo_17 : decode cX4_undo 17 = .ok (.putfield 40, 3) := by decide +kernel
theorem dX4_undo_20 : decode cX4_undo 20 = .ok (.aload_n 0, 1) := by decide +kernel
theorem dX4_undo_21 : decode cX4_undo 21 = .ok (.getfield 16, 3) := by decide +kernel
theorem dX4_undo_24 : decode cX4_undo 24 = .ok (.bipush 53, 2) := by decide +kernel
theorem dX4_undo_26 : decode cX4_undo 26 = .ok (.aload_n 0, 1) := by decide +kernel
theorem dX4_undo_27 : decode cX4_undo 27 = .ok (.getfield 40, 3) := by decide +kernel
theorem dX4_undo_30 : decode cX4_undo 30 = .ok (.imul, 1) := by decide +kernel
theorem dX4_undo_31 : decode cX4_undo 31 = .ok (.aload_n 0, 1) := by decide +kernel
theorem dX4_undo_32 : decode cX4_undo 32 = .ok (.getfield 7, 3) := by decide +kernel
theorem dX4_undo_35 : decode cX4_undo 35 = .ok (.iconst 0, 1) := by decide +kernel
theorem dX4_undo_36 : decode cX4_undo 36 = .ok (.invokestatic 44, 3) := by decide +kernel
theorem dX4_undo_39 : decode cX4_undo 39 = .ok (.aload_n 0, 1) := by decide +kernel
theorem dX4_undo_40 : decode cX4_undo 40 = .ok (.getfield 40, 3) := by decide +kernel
theorem dX4_undo_43 : decode cX4_undo 43 = .ok (.ireturn, 1) := by decide +kernel
set_option maxRecDepth 20000 in
theorem ggX4_save_X4_in : GoodIn wsX4_save wsX4_in := goodIn_r _ [8] (by decide +kernel) (by decide +kernel)
set_option maxRecDepth 20000 in
theorem gX4_save_X4_in : GoodIn wsX4_save (va_wsS RX4 35 yX4_in wsX4_in) := goodIn_app (goodIn_of _ (by decide +kernel)) ggX4_save_X4_in
set_option maxRecDepth 20000 in
theorem ggX4_save_X4_copyState : GoodIn wsX4_save wsX4_copyState := goodIn_r _ [11] (by decide +kernel) (by decide +kernel)
set_option maxRecDepth 20000 in
theorem gX4_save_X4_copyState : GoodIn wsX4_save (va_wsS RX4 44 yX4_copyState wsX4_copyState) := goodIn_app (goodIn_of _ (by decide +kernel)) ggX4_save_X4_copyState
set_option maxRecDepth 20000 in
theorem ggX4_save_X4_sum : GoodIn wsX4_save wsX4_sum := goodIn_r _ [15, 2, 16, 17, 18, 19, 20, 21, 22, 23, 24, 25, 26] (by decide +kernel) (by decide +kernel)
set_option maxRecDepth 20000 in
theorem gX4_save_X4_sum : GoodIn wsX4_save (wsV RX4 50 RX4 yX4_sum wsX4_sum) := goodIn_app (goodIn_of _ (by decide +kernel)) ggX4_save_X4_sum
theorem dX4_save_0 : decode cX4_save 0 = .ok (.iload_n 1, 1) := by decide +kernel
theorem dX4_save_1 : decode cX4_save 1 = .ok (.iconst 0, 1) := by decide +kernel
theorem dX4_save_2 : decode cX4_save 2 = .ok (.iconst 1, 1) := by decide +kernel
theorem dX4_save_3 : decode cX4_save 3 = .ok (.invokestatic 35, 3) := by decide +kernel
theorem dX4_save_6 : decode cX4_save 6 = .ok (.ifCond .ne 6, 3) := by decide +kernel
theorem dX4_save_9 : decode cX4_save 9 = .ok (.ldc 49, 2) := by decide +kernel
theorem dX4_save_11 : decode cX4_save 11 = .ok (.ireturn, 1) := by decide +kernel
theorem dX4_save_12 : decode cX4_save 12 = .ok (.aload_n 0, 1) := by decide +kernel
theorem dX4_save_13 : decode cX4_save 13 = .ok (.getfield 7, 3) := by decide +kernel
theorem dX4_save_16 : decode cX4_save 16 = .ok (.iconst 0, 1) := by decide +kernel
theorem dX4_save_17 : decode cX4_save 17 = .ok (.aload_n 0, 1) := by decide +kernel
theorem dX4_save_18 : decode cX4_save 18 = .ok (.getfield 19, 3) := by decide +kernel
theorem dX4_save_21 : decode cX4_save 21 = .ok (.bipush 53, 2) := by decide +kernel
theorem dX4_save_23 : decode cX4_save 23 = .ok (.iload_n 1, 1) := by decide +kernel
theorem dX4_save_24 : decode cX4_save 24 = .ok (.imul, 1) := by decide +kernel
theorem dX4_save_25 : decode cX4_save 25 = .ok (.invokestatic 44, 3) := by decide +kernel
theorem dX4_save_28 : decode cX4_save 28 = .ok (.aload_n 0, 1) := by decide +kernel
theorem dX4_save_29 : decode cX4_save 29 = .ok (.getfield 22, 3) := by decide +kernel
theorem dX4_save_32 : decode cX4_save 32 = .ok (.iload_n 1, 1) := by decide +kernel
theorem dX4_save_33 : decode cX4_save 33 = .ok (.iconst 1, 1) := by decide +kernel
theorem dX4_save_34 : decode cX4_save 34 = .ok (.bastore, 1) := by decide +kernel
theorem dX4_save_35 : decode cX4_save 35 = .ok (.aload_n 0, 1) := by decide +kernel
theorem dX4_save_36 : decode cX4_save 36 = .ok (.bipush 8, 2) := by decide +kernel
theorem dX4_save_38 : decode cX4_save 38 = .ok (.invokevirtual 50, 3) := by decide +kernel
theorem dX4_save_41 : decode cX4_save 41 = .ok (.ireturn, 1) := by decide +kernel
set_option maxRecDepth 20000 in
theorem ggX4_restore_X4_in : GoodIn wsX4_restore wsX4_in := goodIn_r _ [9] (by decide +kernel) (by decide +kernel)
set_option maxRecDepth 20000 in
theorem gX4_restore_X4_in : GoodIn wsX4_restore (va_wsS RX4 35 yX4_in wsX4_in) := goodIn_app (goodIn_of _ (by decide +kernel)) ggX4_restore_X4_in
set_option maxRecDepth 20000 in
theorem ggX4_restore_X4_record : GoodIn wsX4_restore wsX4_record := goodIn_r _ [13, 14, 15, 5, 16, 17, 8, 18, 23, 24, 25, 26, 27, 28, 29, 30, 31, 32, 33] (by decide +kernel) (by decide +kernel)
set_option maxRecDepth 20000 in
theorem gX4_restore_X4_record : GoodIn wsX4_restore (wsV RX4 54 RX4 yX4_record wsX4_record) := goodIn_app (goodIn_of _ (by decide +kernel)) ggX4_restore_X4_record
set_option maxRecDepth 20000 in
theorem ggX4_restore_X4_copyState : GoodIn wsX4_restore wsX4_copyState := goodIn_r _ [18] (by decide +kernel) (by decide +kernel)
set_option maxRecDepth 20000 in
theorem gX4_restore_X4_copyState : GoodIn wsX4_restore (va_wsS RX4 44 yX4_copyState wsX4_copyState) := goodIn_app (goodIn_of _ (by decide +kernel)) ggX4_restore_X4_copyState
set_option maxRecDepth 20000 in
theorem ggX4_restore_X4_sum : GoodIn wsX4_restore wsX4_sum := goodIn_r _ [22, 5, 23, 24, 25, 26, 27, 28, 29, 30, 31, 32, 33] (by decide +kernel) (by decide +kernel)
set_option maxRecDepth 20000 in
theorem gX4_restore_X4_sum : GoodIn wsX4_restore (wsV RX4 50 RX4 yX4_sum wsX4_sum) := goodIn_app (goodIn_of _ (by decide +kernel)) ggX4_restore_X4_sum
theorem dX4_restore_0 : decode cX4_restore 0 = .ok (.iload_n 1, 1) := by decide +kernel
theorem dX4_restore_1 : decode cX4_restore 1 = .ok (.iconst 0, 1) := by decide +kernel
theorem dX4_restore_2 : decode cX4_restore 2 = .ok (.iconst 1, 1) := by decide +kernel
theorem dX4_restore_3 : decode cX4_restore 3 = .ok (.invokestatic 35, 3) := by decide +kernel
theorem dX4_restore_6 : decode cX4_restore 6 = .ok (.ifCond .ne 6, 3) := by decide +kernel
theorem dX4_restore_9 : decode cX4_restore 9 = .ok (.ldc 49, 2) := by decide +kernel
theorem dX4_restore_11 : decode cX4_restore 11 = .ok (.ireturn, 1) := by decide +kernel
theorem dX4_restore_12 : decode cX4_restore 12 = .ok (.aload_n 0, 1) := by decide +kernel
theorem dX4_restore_13 : decode cX4_restore 13 = .ok (.getfield 22, 3) := by decide +kernel
theorem dX4_restore_16 : decode cX4_restore 16 = .ok (.iload_n 1, 1) := by decide +kernel
theorem dX4_restore_17 : decode cX4_restore 17 = .ok (.baload, 1) := by decide +kernel
theorem dX4_restore_18 : decode cX4_restore 18 = .ok (.ifCond .ne 6, 3) := by decide +kernel
theorem dX4_restore_21 : decode cX4_restore 21 = .ok (.ldc 48, 2) := by decide +kernel
theorem dX4_restore_23 : decode cX4_restore 23 = .ok (.ireturn, 1) := by decide +kernel
theorem dX4_restore_24 : decode cX4_restore 24 = .ok (.aload_n 0, 1) := by decide +kernel
theorem dX4_restore_25 : decode cX4_restore 25 = .ok (.invokevirtual 54, 3) := by decide +kernel
theorem dX4_restore_28 : decode cX4_restore 28 = .ok (.aload_n 0, 1) := by decide +kernel
theorem dX4_restore_29 : decode cX4_restore 29 = .ok (.getfield 19, 3) := by decide +kernel
theorem dX4_restore_32 : decode cX4_restore 32 = .ok (.bipush 53, 2) := by decide +kernel
theorem dX4_restore_34 : decode cX4_restore 34 = .ok (.iload_n 1, 1) := by decide +kernel
theorem dX4_restore_35 : decode cX4_restore 35 = .ok (.imul, 1) := by decide +kernel
theorem dX4_restore_36 : decode cX4_restore 36 = .ok (.aload_n 0, 1) := by decide +kernel
theorem dX4_restore_37 : decode cX4_restore 37 = .ok (.getfield 7, 3) := by decide +kernel
theorem dX4_restore_40 : decode cX4_restore 40 = .ok (.iconst 0, 1) := by decide +kernel
theorem dX4_restore_41 : decode cX4_restore 41 = .ok (.invokestatic 44, 3) := by decide +kernel
theorem dX4_restore_44 : decode cX4_restore 44 = .ok (.aload_n 0, 1) := by decide +kernel
theorem dX4_restore_45 : decode cX4_restore 45 = .ok (.bipush 8, 2) := by decide +kernel
theorem dX4_restore_47 : decode cX4_restore 47 = .ok (.invokevirtual 50, 3) := by decide +kernel
theorem dX4_restore_50 : decode cX4_restore 50 = .ok (.ireturn, 1) := by decide +kernel
set_option maxRecDepth 20000 in
theorem ggX4_isValue_X4_in : GoodIn wsX4_isValue wsX4_in := goodIn_r _ [4] (by decide +kernel) (by decide +kernel)
set_option maxRecDepth 20000 in
theorem gX4_isValue_X4_in : GoodIn wsX4_isValue (va_wsS RX4 35 yX4_in wsX4_in) := goodIn_app (goodIn_of _ (by decide +kernel)) ggX4_isValue_X4_in
theorem dX4_isValue_0 : decode cX4_isValue 0 = .ok (.iload_n 0, 1) := by decide +kernel
theorem dX4_isValue_1 : decode cX4_isValue 1 = .ok (.tableswitch 55 0 3 #[31, 39, 47, 47], 31) := by decide +kernel
theorem dX4_isValue_32 : decode cX4_isValue 32 = .ok (.iload_n 1, 1) := by decide +kernel
theorem dX4_isValue_33 : decode cX4_isValue 33 = .ok (.iconst 1, 1) := by decide +kernel
theorem dX4_isValue_34 : decode cX4_isValue 34 = .ok (.bipush 9, 2) := by decide +kernel
theorem dX4_isValue_36 : decode cX4_isValue 36 = .ok (.invokestatic 35, 3) := by decide +kernel
theorem dX4_isValue_39 : decode cX4_isValue 39 = .ok (.ireturn, 1) := by decide +kernel
theorem dX4_isValue_40 : decode cX4_isValue 40 = .ok (.iload_n 1, 1) := by decide +kernel
theorem dX4_isValue_41 : decode cX4_isValue 41 = .ok (.iconst 0, 1) := by decide +kernel
theorem dX4_isValue_42 : decode cX4_isValue 42 = .ok (.bipush 20, 2) := by decide +kernel
theorem dX4_isValue_44 : decode cX4_isValue 44 = .ok (.invokestatic 35, 3) := by decide +kernel
theorem dX4_isValue_47 : decode cX4_isValue 47 = .ok (.ireturn, 1) := by decide +kernel
theorem dX4_isValue_48 : decode cX4_isValue 48 = .ok (.iload_n 1, 1) := by decide +kernel
theorem dX4_isValue_49 : decode cX4_isValue 49 = .ok (.iconst 0, 1) := by decide +kernel
theorem dX4_isValue_50 : decode cX4_isValue 50 = .ok (.bipush 100, 2) := by decide +kernel
theorem dX4_isValue_52 : decode cX4_isValue 52 = .ok (.invokestatic 35, 3) := by decide +kernel
theorem dX4_isValue_55 : decode cX4_isValue 55 = .ok (.ireturn, 1) := by decide +kernel
theorem dX4_isValue_56 : decode cX4_isValue 56 = .ok (.iconst 0, 1) := by decide +kernel
theorem dX4_isValue_57 : decode cX4_isValue 57 = .ok (.ireturn, 1) := by decide +kernel
set_option maxRecDepth 20000 in
theorem ggX4_change_X4_record : GoodIn wsX4_change wsX4_record := goodIn_r _ [6, 7, 8, 1, 9, 10, 5, 11, 12, 13, 14, 15, 16, 17, 18, 19, 20, 21, 22] (by decide +kernel) (by decide +kernel)
set_option maxRecDepth 20000 in
theorem gX4_change_X4_record : GoodIn wsX4_change (wsV RX4 54 RX4 yX4_record wsX4_record) := goodIn_app (goodIn_of _ (by decide +kernel)) ggX4_change_X4_record
theorem dX4_change_0 : decode cX4_change 0 = .ok (.aload_n 0, 1) := by decide +kernel
theorem dX4_change_1 : decode cX4_change 1 = .ok (.invokevirtual 54, 3) := by decide +kernel
theorem dX4_change_4 : decode cX4_change 4 = .ok (.aload_n 0, 1) := by decide +kernel
theorem dX4_change_5 : decode cX4_change 5 = .ok (.getfield 7, 3) := by decide +kernel
theorem dX4_change_8 : decode cX4_change 8 = .ok (.iload_n 1, 1) := by decide +kernel
theorem dX4_change_9 : decode cX4_change 9 = .ok (.iaload, 1) := by decide +kernel
theorem dX4_change_10 : decode cX4_change 10 = .ok (.istore_n 3, 1) := by decide +kernel
theorem dX4_change_11 : decode cX4_change 11 = .ok (.aload_n 0, 1) := by decide +kernel
theorem dX4_change_12 : decode cX4_change 12 = .ok (.getfield 7, 3) := by decide +kernel
theorem dX4_change_15 : decode cX4_change 15 = .ok (.iload_n 1, 1) := by decide +kernel
theorem dX4_change_16 : decode cX4_change 16 = .ok (.iload_n 2, 1) := by decide +kernel
theorem dX4_change_17 : decode cX4_change 17 = .ok (.iastore, 1) := by decide +kernel
theorem dX4_change_18 : decode cX4_change 18 = .ok (.iload_n 3, 1) := by decide +kernel
theorem dX4_change_19 : decode cX4_change 19 = .ok (.ireturn, 1) := by decide +kernel
set_option maxRecDepth 20000 in
theorem ggX4_set_X4_isValue : GoodIn wsX4_set wsX4_isValue := goodIn_r _ [5, 6, 7, 4, 8] (by decide +kernel) (by decide +kernel)
set_option maxRecDepth 20000 in
theorem gX4_set_X4_isValue : GoodIn wsX4_set (va_wsS RX4 57 yX4_isValue wsX4_isValue) := goodIn_app (goodIn_of _ (by decide +kernel)) ggX4_set_X4_isValue
set_option maxRecDepth 20000 in
theorem ggX4_set_X4_change : GoodIn wsX4_set wsX4_change := goodIn_r _ [12, 13, 14, 15, 16, 4, 17, 18, 19, 20, 21, 22, 23, 24, 25, 26, 27, 28, 29, 30, 31, 32, 33] (by decide +kernel) (by decide +kernel)
set_option maxRecDepth 20000 in
theorem gX4_set_X4_change : GoodIn wsX4_set (wsV RX4 61 RX4 yX4_change wsX4_change) := goodIn_app (goodIn_of _ (by decide +kernel)) ggX4_set_X4_change
theorem dX4_set_0 : decode cX4_set 0 = .ok (.iload_n 1, 1) := by decide +kernel
theorem dX4_set_1 : decode cX4_set 1 = .ok (.iload_n 2, 1) := by decide +kernel
theorem dX4_set_2 : decode cX4_set 2 = .ok (.invokestatic 57, 3) := by decide +kernel
theorem dX4_set_5 : decode cX4_set 5 = .ok (.ifCond .eq 12, 3) := by decide +kernel
theorem dX4_set_8 : decode cX4_set 8 = .ok (.aload_n 0, 1) := by decide +kernel
theorem dX4_set_9 : decode cX4_set 9 = .ok (.iload_n 1, 1) := by decide +kernel
theorem dX4_set_10 : decode cX4_set 10 = .ok (.iload_n 2, 1) := by decide +kernel
theorem dX4_set_11 : decode cX4_set 11 = .ok (.invokevirtual 61, 3) := by decide +kernel
theorem dX4_set_14 : decode cX4_set 14 = .ok (.goto 5, 3) := by decide +kernel
theorem dX4_set_17 : decode cX4_set 17 = .ok (.ldc 49, 2) := by decide +kernel
theorem dX4_set_19 : decode cX4_set 19 = .ok (.ireturn, 1) := by decide +kernel
set_option maxRecDepth 20000 in
theorem ggX4_coins_X4_isPlayer : GoodIn wsX4_coins wsX4_isPlayer := goodIn_r _ [9, 10, 11, 8, 12] (by decide +kernel) (by decide +kernel)
set_option maxRecDepth 20000 in
theorem gX4_coins_X4_isPlayer : GoodIn wsX4_coins (va_wsS RX4 65 yX4_isPlayer wsX4_isPlayer) := goodIn_app (goodIn_of _ (by decide +kernel)) ggX4_coins_X4_isPlayer
set_option maxRecDepth 20000 in
theorem ggX4_coins_X4_in : GoodIn wsX4_coins wsX4_in := goodIn_r _ [12] (by decide +kernel) (by decide +kernel)
set_option maxRecDepth 20000 in
theorem gX4_coins_X4_in : GoodIn wsX4_coins (va_wsS RX4 35 yX4_in wsX4_in) := goodIn_app (goodIn_of _ (by decide +kernel)) ggX4_coins_X4_in
set_option maxRecDepth 20000 in
theorem ggX4_coins_X4_change : GoodIn wsX4_coins wsX4_change := goodIn_r _ [16, 3, 17, 18, 19, 8, 20, 21, 22, 23, 24, 25, 26, 27, 28, 29, 30, 31, 32, 33, 34, 35, 36] (by decide +kernel) (by decide +kernel)
set_option maxRecDepth 20000 in
theorem gX4_coins_X4_change : GoodIn wsX4_coins (wsV RX4 61 RX4 yX4_change wsX4_change) := goodIn_app (goodIn_of _ (by decide +kernel)) ggX4_coins_X4_change
theorem dX4_coins_0 : decode cX4_coins 0 = .ok (.iload_n 1, 1) := by decide +kernel
theorem dX4_coins_1 : decode cX4_coins 1 = .ok (.invokestatic 65, 3) := by decide +kernel
theorem dX4_coins_4 : decode cX4_coins 4 = .ok (.ifCond .ne 6, 3) := by decide +kernel
theorem dX4_coins_7 : decode cX4_coins 7 = .ok (.ldc 69, 2) := by decide +kernel
theorem dX4_coins_9 : decode cX4_coins 9 = .ok (.ireturn, 1) := by decide +kernel
theorem dX4_coins_10 : decode cX4_coins 10 = .ok (.iload_n 2, 1) := by decide +kernel
theorem dX4_coins_11 : decode cX4_coins 11 = .ok (.iconst 0, 1) := by decide +kernel
theorem dX4_coins_12 : decode cX4_coins 12 = .ok (.sipush 9999, 3) := by decide +kernel
theorem dX4_coins_15 : decode cX4_coins 15 = .ok (.invokestatic 35, 3) := by decide +kernel
theorem dX4_coins_18 : decode cX4_coins 18 = .ok (.ifCond .ne 6, 3) := by decide +kernel
theorem dX4_coins_21 : decode cX4_coins 21 = .ok (.ldc 49, 2) := by decide +kernel
theorem dX4_coins_23 : decode cX4_coins 23 = .ok (.ireturn, 1) := by decide +kernel
theorem dX4_coins_24 : decode cX4_coins 24 = .ok (.aload_n 0, 1) := by decide +kernel
theorem dX4_coins_25 : decode cX4_coins 25 = .ok (.getfield 7, 3) := by decide +kernel
theorem dX4_coins_28 : decode cX4_coins 28 = .ok (.bipush 23, 2) := by decide +kernel
theorem dX4_coins_30 : decode cX4_coins 30 = .ok (.iload_n 1, 1) := by decide +kernel
theorem dX4_coins_31 : decode cX4_coins 31 = .ok (.iadd, 1) := by decide +kernel
theorem dX4_coins_32 : decode cX4_coins 32 = .ok (.iaload, 1) := by decide +kernel
theorem dX4_coins_33 : decode cX4_coins 33 = .ok (.ldc 39, 2) := by decide +kernel
theorem dX4_coins_35 : decode cX4_coins 35 = .ok (.if_icmp .eq 34, 3) := by decide +kernel
theorem dX4_coins_38 : decode cX4_coins 38 = .ok (.aload_n 0, 1) := by decide +kernel
theorem dX4_coins_39 : decode cX4_coins 39 = .ok (.getfield 7, 3) := by decide +kernel
theorem dX4_coins_42 : decode cX4_coins 42 = .ok (.bipush 28, 2) := by decide +kernel
theorem dX4_coins_44 : decode cX4_coins 44 = .ok (.iload_n 1, 1) := by decide +kernel
theorem dX4_coins_45 : decode cX4_coins 45 = .ok (.iadd, 1) := by decide +kernel
theorem dX4_coins_46 : decode cX4_coins 46 = .ok (.iaload, 1) := by decide +kernel
theorem dX4_coins_47 : decode cX4_coins 47 = .ok (.ldc 39, 2) := by decide +kernel
theorem dX4_coins_49 : decode cX4_coins 49 = .ok (.if_icmp .ne 20, 3) := by decide +kernel
theorem dX4_coins_52 : decode cX4_coins 52 = .ok (.aload_n 0, 1) := by decide +kernel
theorem dX4_coins_53 : decode cX4_coins 53 = .ok (.getfield 7, 3) := by decide +kernel
theorem dX4_coins_56 : decode cX4_coins 56 = .ok (.bipush 23, 2) := by decide +kernel
theorem dX4_coins_58 : decode cX4_coins 58 = .ok (.iload_n 1, 1) := by decide +kernel
theorem dX4_coins_59 : decode cX4_coins 59 = .ok (.iadd, 1) := by decide +kernel
theorem dX4_coins_60 : decode cX4_coins 60 = .ok (.iaload, 1) := by decide +kernel
theorem dX4_coins_61 : decode cX4_coins 61 = .ok (.iload_n 2, 1) := by decide +kernel
theorem dX4_coins_62 : decode cX4_coins 62 = .ok (.if_icmp .le 7, 3) := by decide +kernel
theorem dX4_coins_65 : decode cX4_coins 65 = .ok (.iconst 1, 1) := by decide +kernel
theorem dX4_coins_66 : decode cX4_coins 66 = .ok (.goto 4, 3) := by decide +kernel
theorem dX4_coins_69 : decode cX4_coins 69 = .ok (.iconst 0, 1) := by decide +kernel
theorem dX4_coins_70 : decode cX4_coins 70 = .ok (.istore_n 3, 1) := by decide +kernel
theorem dX4_coins_71 : decode cX4_coins 71 = .ok (.iload_n 3, 1) := by decide +kernel
theorem dX4_coins_72 : decode cX4_coins 72 = .ok (.ifCond .eq 8, 3) := by decide +kernel
theorem dX4_coins_75 : decode cX4_coins 75 = .ok (.ldc 48, 2) := by decide +kernel
theorem dX4_coins_77 : decode cX4_coins 77 = .ok (.goto 12, 3) := by decide +kernel
theorem dX4_coins_80 : decode cX4_coins 80 = .ok (.aload_n 0, 1) := by decide +kernel
theorem dX4_coins_81 : decode cX4_coins 81 = .ok (.bipush 8, 2) := by decide +kernel
theorem dX4_coins_83 : decode cX4_coins 83 = .ok (.iload_n 1, 1) := by decide +kernel
theorem dX4_coins_84 : decode cX4_coins 84 = .ok (.iadd, 1) := by decide +kernel
theorem dX4_coins_85 : decode cX4_coins 85 = .ok (.iload_n 2, 1) := by decide +kernel
theorem dX4_coins_86 : decode cX4_coins 86 = .ok (.invokevirtual 61, 3) := by decide +kernel
theorem dX4_coins_89 : decode cX4_coins 89 = .ok (.ireturn, 1) := by decide +kernel
set_option maxRecDepth 20000 in
theorem ggX4_limit_X4_isPlayer : GoodIn wsX4_limit wsX4_isPlayer := goodIn_r _ [6, 7, 8, 5, 9] (by decide +kernel) (by decide +kernel)
set_option maxRecDepth 20000 in
theorem gX4_limit_X4_isPlayer : GoodIn wsX4_limit (va_wsS RX4 65 yX4_isPlayer wsX4_isPlayer) := goodIn_app (goodIn_of _ (by decide +kernel)) ggX4_limit_X4_isPlayer
set_option maxRecDepth 20000 in
theorem ggX4_limit_X4_in : GoodIn wsX4_limit wsX4_in := goodIn_r _ [9] (by decide +kernel) (by decide +kernel)
set_option maxRecDepth 20000 in
theorem gX4_limit_X4_in : GoodIn wsX4_limit (va_wsS RX4 35 yX4_in wsX4_in) := goodIn_app (goodIn_of _ (by decide +kernel)) ggX4_limit_X4_in
set_option maxRecDepth 20000 in
theorem ggX4_limit_X4_change : GoodIn wsX4_limit wsX4_change := goodIn_r _ [13, 14, 15, 16, 17, 5, 18, 19, 20, 21, 22, 23, 24, 25, 26, 27, 28, 29, 30, 31, 32, 33, 34] (by decide +kernel) (by decide +kernel)
set_option maxRecDepth 20000 in
theorem gX4_limit_X4_change : GoodIn wsX4_limit (wsV RX4 61 RX4 yX4_change wsX4_change) := goodIn_app (goodIn_of _ (by decide +kernel)) ggX4_limit_X4_change
theorem dX4_limit_0 : decode cX4_limit 0 = .ok (.iload_n 1, 1) := by decide +kernel
theorem dX4_limit_1 : decode cX4_limit 1 = .ok (.invokestatic 65, 3) := by decide +kernel
theorem dX4_limit_4 : decode cX4_limit 4 = .ok (.ifCond .ne 8, 3) := by decide +kernel
theorem dX4_limit_7 : decode cX4_limit 7 = .ok (.ldc 69, 2) := by decide +kernel
theorem dX4_limit_9 : decode cX4_limit 9 = .ok (.goto 27, 3) := by decide +kernel
theorem dX4_limit_12 : decode cX4_limit 12 = .ok (.iload_n 2, 1) := by decide +kernel
theorem dX4_limit_13 : decode cX4_limit 13 = .ok (.iconst 0, 1) := by decide +kernel
theorem dX4_limit_14 : decode cX4_limit 14 = .ok (.bipush 99, 2) := by decide +kernel
theorem dX4_limit_16 : decode cX4_limit 16 = .ok (.invokestatic 35, 3) := by decide +kernel
theorem dX4_limit_19 : decode cX4_limit 19 = .ok (.ifCond .eq 15, 3) := by decide +kernel
theorem dX4_limit_22 : decode cX4_limit 22 = .ok (.aload_n 0, 1) := by decide +kernel
theorem dX4_limit_23 : decode cX4_limit 23 = .ok (.bipush 13, 2) := by decide +kernel
theorem dX4_limit_25 : decode cX4_limit 25 = .ok (.iload_n 1, 1) := by decide +kernel
theorem dX4_limit_26 : decode cX4_limit 26 = .ok (.iadd, 1) := by decide +kernel
theorem dX4_limit_27 : decode cX4_limit 27 = .ok (.iload_n 2, 1) := by decide +kernel
theorem dX4_limit_28 : decode cX4_limit 28 = .ok (.invokevirtual 61, 3) := by decide +kernel
theorem dX4_limit_31 : decode cX4_limit 31 = .ok (.goto 5, 3) := by decide +kernel
theorem dX4_limit_34 : decode cX4_limit 34 = .ok (.ldc 49, 2) := by decide +kernel
theorem dX4_limit_36 : decode cX4_limit 36 = .ok (.ireturn, 1) := by decide +kernel
set_option maxRecDepth 20000 in
theorem ggX4_prize_X4_isPlayer : GoodIn wsX4_prize wsX4_isPlayer := goodIn_r _ [6, 7, 8, 5, 9] (by decide +kernel) (by decide +kernel)
set_option maxRecDepth 20000 in
theorem gX4_prize_X4_isPlayer : GoodIn wsX4_prize (va_wsS RX4 65 yX4_isPlayer wsX4_isPlayer) := goodIn_app (goodIn_of _ (by decide +kernel)) ggX4_prize_X4_isPlayer
set_option maxRecDepth 20000 in
theorem ggX4_prize_X4_in : GoodIn wsX4_prize wsX4_in := goodIn_r _ [9] (by decide +kernel) (by decide +kernel)
set_option maxRecDepth 20000 in
theorem gX4_prize_X4_in : GoodIn wsX4_prize (va_wsS RX4 35 yX4_in wsX4_in) := goodIn_app (goodIn_of _ (by decide +kernel)) ggX4_prize_X4_in
set_option maxRecDepth 20000 in
theorem ggX4_prize_X4_change : GoodIn wsX4_prize wsX4_change := goodIn_r _ [13, 14, 15, 16, 17, 5, 18, 19, 20, 21, 22, 23, 24, 25, 26, 27, 28, 29, 30, 31, 32, 33, 34] (by decide +kernel) (by decide +kernel)
set_option maxRecDepth 20000 in
theorem gX4_prize_X4_change : GoodIn wsX4_prize (wsV RX4 61 RX4 yX4_change wsX4_change) := goodIn_app (goodIn_of _ (by decide +kernel)) ggX4_prize_X4_change
theorem dX4_prize_0 : decode cX4_prize 0 = .ok (.iload_n 1, 1) := by decide +kernel
theorem dX4_prize_1 : decode cX4_prize 1 = .ok (.invokestatic 65, 3) := by decide +kernel
theorem dX4_prize_4 : decode cX4_prize 4 = .ok (.ifCond .ne 8, 3) := by decide +kernel
theorem dX4_prize_7 : decode cX4_prize 7 = .ok (.ldc 69, 2) := by decide +kernel
theorem dX4_prize_9 : decode cX4_prize 9 = .ok (.goto 27, 3) := by decide +kernel
theorem dX4_prize_12 : decode cX4_prize 12 = .ok (.iload_n 2, 1) := by decide +kernel
theorem dX4_prize_13 : decode cX4_prize 13 = .ok (.iconst 0, 1) := by decide +kernel
theorem dX4_prize_14 : decode cX4_prize 14 = .ok (.bipush 99, 2) := by decide +kernel
theorem dX4_prize_16 : decode cX4_prize 16 = .ok (.invokestatic 35, 3) := by decide +kernel
theorem dX4_prize_19 : decode cX4_prize 19 = .ok (.ifCond .eq 15, 3) := by decide +kernel
theorem dX4_prize_22 : decode cX4_prize 22 = .ok (.aload_n 0, 1) := by decide +kernel
theorem dX4_prize_23 : decode cX4_prize 23 = .ok (.bipush 48, 2) := by decide +kernel
theorem dX4_prize_25 : decode cX4_prize 25 = .ok (.iload_n 1, 1) := by decide +kernel
theorem dX4_prize_26 : decode cX4_prize 26 = .ok (.iadd, 1) := by decide +kernel
theorem dX4_prize_27 : decode cX4_prize 27 = .ok (.iload_n 2, 1) := by decide +kernel
theorem dX4_prize_28 : decode cX4_prize 28 = .ok (.invokevirtual 61, 3) := by decide +kernel
theorem dX4_prize_31 : decode cX4_prize 31 = .ok (.goto 5, 3) := by decide +kernel
theorem dX4_prize_34 : decode cX4_prize 34 = .ok (.ldc 49, 2) := by decide +kernel
theorem dX4_prize_36 : decode cX4_prize 36 = .ok (.ireturn, 1) := by decide +kernel
theorem dX4_least_0 : decode cX4_least 0 = .ok (.aload_n 0, 1) := by decide +kernel
theorem dX4_least_1 : decode cX4_least 1 = .ok (.getfield 7, 3) := by decide +kernel
theorem dX4_least_4 : decode cX4_least 4 = .ok (.bipush 6, 2) := by decide +kernel
theorem dX4_least_6 : decode cX4_least 6 = .ok (.iaload, 1) := by decide +kernel
theorem dX4_least_7 : decode cX4_least 7 = .ok (.ldc 39, 2) := by decide +kernel
theorem dX4_least_9 : decode cX4_least 9 = .ok (.if_icmp .ne 12, 3) := by decide +kernel
theorem dX4_least_12 : decode cX4_least 12 = .ok (.aload_n 0, 1) := by decide +kernel
theorem dX4_least_13 : decode cX4_least 13 = .ok (.getfield 7, 3) := by decide +kernel
theorem dX4_least_16 : decode cX4_least 16 = .ok (.iconst 1, 1) := by decide +kernel
theorem dX4_least_17 : decode cX4_least 17 = .ok (.iaload, 1) := by decide +kernel
theorem dX4_least_18 : decode cX4_least 18 = .ok (.goto 17, 3) := by decide +kernel
theorem dX4_least_21 : decode cX4_least 21 = .ok (.aload_n 0, 1) := by decide +kernel
theorem dX4_least_22 : decode cX4_least 22 = .ok (.getfield 7, 3) := by decide +kernel
theorem dX4_least_25 : decode cX4_least 25 = .ok (.bipush 6, 2) := by decide +kernel
theorem dX4_least_27 : decode cX4_least 27 = .ok (.iaload, 1) := by decide +kernel
theorem dX4_least_28 : decode cX4_least 28 = .ok (.aload_n 0, 1) := by decide +kernel
theorem dX4_least_29 : decode cX4_least 29 = .ok (.getfield 7, 3) := by decide +kernel
theorem dX4_least_32 : decode cX4_least 32 = .ok (.iconst 0, 1) := by decide +kernel
theorem dX4_least_33 : decode cX4_least 33 = .ok (.iaload, 1) := by decide +kernel
theorem dX4_least_34 : decode cX4_least 34 = .ok (.iadd, 1) := by decide +kernel
theorem dX4_least_35 : decode cX4_least 35 = .ok (.ireturn, 1) := by decide +kernel
set_option maxRecDepth 20000 in
theorem ggX4_beginNow_X4_clearAuction : GoodIn wsX4_beginNow wsX4_clearAuction := goodIn_r _ [6, 1, 7, 12, 13, 14, 15, 16, 17, 18, 19, 20, 21, 22] (by decide +kernel) (by decide +kernel)
set_option maxRecDepth 20000 in
theorem gX4_beginNow_X4_clearAuction : GoodIn wsX4_beginNow (wsV RX4 32 RX4 yX4_clearAuction wsX4_clearAuction) := goodIn_app (goodIn_of _ (by decide +kernel)) ggX4_beginNow_X4_clearAuction
set_option maxRecDepth 20000 in
theorem ggX4_beginNow_X4_playerAt : GoodIn wsX4_beginNow wsX4_playerAt := goodIn_r _ [11, 7, 1, 12, 13, 14, 15, 16, 17, 18, 19, 20, 21, 22] (by decide +kernel) (by decide +kernel)
set_option maxRecDepth 20000 in
theorem gX4_beginNow_X4_playerAt : GoodIn wsX4_beginNow (wsV RX4 70 RX4 yX4_playerAt wsX4_playerAt) := goodIn_app (goodIn_of _ (by decide +kernel)) ggX4_beginNow_X4_playerAt
theorem dX4_beginNow_0 : decode cX4_beginNow 0 = .ok (.aload_n 0, 1) := by decide +kernel
theorem dX4_beginNow_1 : decode cX4_beginNow 1 = .ok (.invokevirtual 32, 3) := by decide +kernel
theorem dX4_beginNow_4 : decode cX4_beginNow 4 = .ok (.aload_n 0, 1) := by decide +kernel
theorem dX4_beginNow_5 : decode cX4_beginNow 5 = .ok (.getfield 7, 3) := by decide +kernel
theorem dX4_beginNow_8 : decode cX4_beginNow 8 = .ok (.iconst 4, 1) := by decide +kernel
theorem dX4_beginNow_9 : decode cX4_beginNow 9 = .ok (.iconst 1, 1) := by decide +kernel
theorem dX4_beginNow_10 : decode cX4_beginNow 10 = .ok (.iastore, 1) := by decide +kernel
theorem dX4_beginNow_11 : decode cX4_beginNow 11 = .ok (.aload_n 0, 1) := by decide +kernel
theorem dX4_beginNow_12 : decode cX4_beginNow 12 = .ok (.getfield 7, 3) := by decide +kernel
theorem dX4_beginNow_15 : decode cX4_beginNow 15 = .ok (.iconst 5, 1) := by decide +kernel
theorem dX4_beginNow_16 : decode cX4_beginNow 16 = .ok (.aload_n 0, 1) := by decide +kernel
theorem dX4_beginNow_17 : decode cX4_beginNow 17 = .ok (.iconst 0, 1) := by decide +kernel
theorem dX4_beginNow_18 : decode cX4_beginNow 18 = .ok (.invokevirtual 70, 3) := by decide +kernel
theorem dX4_beginNow_21 : decode cX4_beginNow 21 = .ok (.iastore, 1) := by decide +kernel
theorem dX4_beginNow_22 : decode cX4_beginNow 22 = .ok (.return_, 1) := by decide +kernel
set_option maxRecDepth 20000 in
theorem ggX4_pass_X4_playerAt : GoodIn wsX4_pass wsX4_playerAt := goodIn_r _ [7, 2, 1, 8, 9, 10, 11, 12, 13, 14, 15, 16, 17, 18] (by decide +kernel) (by decide +kernel)
set_option maxRecDepth 20000 in
theorem gX4_pass_X4_playerAt : GoodIn wsX4_pass (wsV RX4 70 RX4 yX4_playerAt wsX4_playerAt) := goodIn_app (goodIn_of _ (by decide +kernel)) ggX4_pass_X4_playerAt
theorem dX4_pass_0 : decode cX4_pass 0 = .ok (.aload_n 0, 1) := by decide +kernel
theorem dX4_pass_1 : decode cX4_pass 1 = .ok (.getfield 7, 3) := by decide +kernel
theorem dX4_pass_4 : decode cX4_pass 4 = .ok (.bipush 18, 2) := by decide +kernel
theorem dX4_pass_6 : decode cX4_pass 6 = .ok (.aload_n 0, 1) := by decide +kernel
theorem dX4_pass_7 : decode cX4_pass 7 = .ok (.getfield 7, 3) := by decide +kernel
theorem dX4_pass_10 : decode cX4_pass 10 = .ok (.iconst 5, 1) := by decide +kernel
theorem dX4_pass_11 : decode cX4_pass 11 = .ok (.iaload, 1) := by decide +kernel
theorem dX4_pass_12 : decode cX4_pass 12 = .ok (.iadd, 1) := by decide +kernel
theorem dX4_pass_13 : decode cX4_pass 13 = .ok (.iaload, 1) := by decide +kernel
theorem dX4_pass_14 : decode cX4_pass 14 = .ok (.istore_n 1, 1) := by decide +kernel
theorem dX4_pass_15 : decode cX4_pass 15 = .ok (.iload_n 1, 1) := by decide +kernel
theorem dX4_pass_16 : decode cX4_pass 16 = .ok (.iconst 1, 1) := by decide +kernel
theorem dX4_pass_17 : decode cX4_pass 17 = .ok (.iadd, 1) := by decide +kernel
theorem dX4_pass_18 : decode cX4_pass 18 = .ok (.iconst 5, 1) := by decide +kernel
theorem dX4_pass_19 : decode cX4_pass 19 = .ok (.irem, 1) := by decide +kernel
theorem dX4_pass_20 : decode cX4_pass 20 = .ok (.istore_n 1, 1) := by decide +kernel
theorem dX4_pass_21 : decode cX4_pass 21 = .ok (.aload_n 0, 1) := by decide +kernel
theorem dX4_pass_22 : decode cX4_pass 22 = .ok (.getfield 7, 3) := by decide +kernel
theorem dX4_pass_25 : decode cX4_pass 25 = .ok (.bipush 28, 2) := by decide +kernel
theorem dX4_pass_27 : decode cX4_pass 27 = .ok (.aload_n 0, 1) := by decide +kernel
theorem dX4_pass_28 : decode cX4_pass 28 = .ok (.iload_n 1, 1) := by decide +kernel
theorem dX4_pass_29 : decode cX4_pass 29 = .ok (.invokevirtual 70, 3) := by decide +kernel
theorem dX4_pass_32 : decode cX4_pass 32 = .ok (.iadd, 1) := by decide +kernel
theorem dX4_pass_33 : decode cX4_pass 33 = .ok (.iaload, 1) := by decide +kernel
theorem dX4_pass_34 : decode cX4_pass 34 = .ok (.ldc 39, 2) := by decide +kernel
theorem dX4_pass_36 : decode cX4_pass 36 = .ok (.if_icmp .ne (-21), 3) := by decide +kernel
theorem dX4_pass_39 : decode cX4_pass 39 = .ok (.aload_n 0, 1) := by decide +kernel
theorem dX4_pass_40 : decode cX4_pass 40 = .ok (.getfield 7, 3) := by decide +kernel
theorem dX4_pass_43 : decode cX4_pass 43 = .ok (.iconst 5, 1) := by decide +kernel
theorem dX4_pass_44 : decode cX4_pass 44 = .ok (.aload_n 0, 1) := by decide +kernel
theorem dX4_pass_45 : decode cX4_pass 45 = .ok (.iload_n 1, 1) := by decide +kernel
theorem dX4_pass_46 : decode cX4_pass 46 = .ok (.invokevirtual 70, 3) := by decide +kernel
theorem dX4_pass_49 : decode cX4_pass 49 = .ok (.iastore, 1) := by decide +kernel
theorem dX4_pass_50 : decode cX4_pass 50 = .ok (.return_, 1) := by decide +kernel
theorem dX4_pay_0 : decode cX4_pay 0 = .ok (.aload_n 0, 1) := by decide +kernel
theorem dX4_pay_1 : decode cX4_pay 1 = .ok (.getfield 7, 3) := by decide +kernel
theorem dX4_pay_4 : decode cX4_pay 4 = .ok (.bipush 8, 2) := by decide +kernel
theorem dX4_pay_6 : decode cX4_pay 6 = .ok (.iload_n 1, 1) := by decide +kernel
theorem dX4_pay_7 : decode cX4_pay 7 = .ok (.iadd, 1) := by decide +kernel
theorem dX4_pay_8 : decode cX4_pay 8 = .ok (.dup2, 1) := by decide +kernel
theorem dX4_pay_9 : decode cX4_pay 9 = .ok (.iaload, 1) := by decide +kernel
theorem dX4_pay_10 : decode cX4_pay 10 = .ok (.iload_n 2, 1) := by decide +kernel
theorem dX4_pay_11 : decode cX4_pay 11 = .ok (.isub, 1) := by decide +kernel
theorem dX4_pay_12 : decode cX4_pay 12 = .ok (.iastore, 1) := by decide +kernel
theorem dX4_pay_13 : decode cX4_pay 13 = .ok (.aload_n 0, 1) := by decide +kernel
theorem dX4_pay_14 : decode cX4_pay 14 = .ok (.getfield 7, 3) := by decide +kernel
theorem dX4_pay_17 : decode cX4_pay 17 = .ok (.bipush 33, 2) := by decide +kernel
theorem dX4_pay_19 : decode cX4_pay 19 = .ok (.iload_n 1, 1) := by decide +kernel
theorem dX4_pay_20 : decode cX4_pay 20 = .ok (.iadd, 1) := by decide +kernel
theorem dX4_pay_21 : decode cX4_pay 21 = .ok (.dup2, 1) := by decide +kernel
theorem dX4_pay_22 : decode cX4_pay 22 = .ok (.iaload, 1) := by decide +kernel
theorem dX4_pay_23 : decode cX4_pay 23 = .ok (.iload_n 2, 1) := by decide +kernel
theorem dX4_pay_24 : decode cX4_pay 24 = .ok (.iadd, 1) := by decide +kernel
theorem dX4_pay_25 : decode cX4_pay 25 = .ok (.iastore, 1) := by decide +kernel
theorem dX4_pay_26 : decode cX4_pay 26 = .ok (.return_, 1) := by decide +kernel
set_option maxRecDepth 20000 in
theorem ggX4_canBid_X4_least : GoodIn wsX4_canBid wsX4_least := goodIn_r _ [6, 1, 7, 8, 9, 10, 11, 12, 13, 14, 15, 16, 17, 18] (by decide +kernel) (by decide +kernel)
set_option maxRecDepth 20000 in
theorem gX4_canBid_X4_least : GoodIn wsX4_canBid (wsV RX4 73 RX4 yX4_least wsX4_least) := goodIn_app (goodIn_of _ (by decide +kernel)) ggX4_canBid_X4_least
theorem dX4_canBid_0 : decode cX4_canBid 0 = .ok (.iload_n 1, 1) := by decide +kernel
theorem dX4_canBid_1 : decode cX4_canBid 1 = .ok (.aload_n 0, 1) := by decide +kernel
theorem dX4_canBid_2 : decode cX4_canBid 2 = .ok (.invokevirtual 73, 3) := by decide +kernel
theorem dX4_canBid_5 : decode cX4_canBid 5 = .ok (.if_icmp .lt 25, 3) := by decide +kernel
theorem dX4_canBid_8 : decode cX4_canBid 8 = .ok (.iload_n 1, 1) := by decide +kernel
theorem dX4_canBid_9 : decode cX4_canBid 9 = .ok (.aload_n 0, 1) := by decide +kernel
theorem dX4_canBid_10 : decode cX4_canBid 10 = .ok (.getfield 7, 3) := by decide +kernel
theorem dX4_canBid_13 : decode cX4_canBid 13 = .ok (.bipush 8, 2) := by decide +kernel
theorem dX4_canBid_15 : decode cX4_canBid 15 = .ok (.aload_n 0, 1) := by decide +kernel
theorem dX4_canBid_16 : decode cX4_canBid 16 = .ok (.getfield 7, 3) := by decide +kernel
theorem dX4_canBid_19 : decode cX4_canBid 19 = .ok (.iconst 5, 1) := by decide +kernel
theorem dX4_canBid_20 : decode cX4_canBid 20 = .ok (.iaload, 1) := by decide +kernel
theorem dX4_canBid_21 : decode cX4_canBid 21 = .ok (.iadd, 1) := by decide +kernel
theorem dX4_canBid_22 : decode cX4_canBid 22 = .ok (.iaload, 1) := by decide +kernel
theorem dX4_canBid_23 : decode cX4_canBid 23 = .ok (.if_icmp .gt 7, 3) := by decide +kernel
theorem dX4_canBid_26 : decode cX4_canBid 26 = .ok (.iconst 1, 1) := by decide +kernel
theorem dX4_canBid_27 : decode cX4_canBid 27 = .ok (.goto 4, 3) := by decide +kernel
theorem dX4_canBid_30 : decode cX4_canBid 30 = .ok (.iconst 0, 1) := by decide +kernel
theorem dX4_canBid_31 : decode cX4_canBid 31 = .ok (.ireturn, 1) := by decide +kernel
set_option maxRecDepth 20000 in
theorem ggX4_bidNow_X4_pass : GoodIn wsX4_bidNow wsX4_pass := goodIn_r _ [6, 1, 7, 8, 9, 10, 5, 11, 12, 13, 14, 15, 16, 17, 18, 19, 20, 21, 22] (by decide +kernel) (by decide +kernel)
set_option maxRecDepth 20000 in
theorem gX4_bidNow_X4_pass : GoodIn wsX4_bidNow (wsV RX4 77 RX4 yX4_pass wsX4_pass) := goodIn_app (goodIn_of _ (by decide +kernel)) ggX4_bidNow_X4_pass
theorem dX4_bidNow_0 : decode cX4_bidNow 0 = .ok (.aload_n 0, 1) := by decide +kernel
theorem dX4_bidNow_1 : decode cX4_bidNow 1 = .ok (.getfield 7, 3) := by decide +kernel
theorem dX4_bidNow_4 : decode cX4_bidNow 4 = .ok (.bipush 23, 2) := by decide +kernel
theorem dX4_bidNow_6 : decode cX4_bidNow 6 = .ok (.aload_n 0, 1) := by decide +kernel
theorem dX4_bidNow_7 : decode cX4_bidNow 7 = .ok (.getfield 7, 3) := by decide +kernel
theorem dX4_bidNow_10 : decode cX4_bidNow 10 = .ok (.iconst 5, 1) := by decide +kernel
theorem dX4_bidNow_11 : decode cX4_bidNow 11 = .ok (.iaload, 1) := by decide +kernel
theorem dX4_bidNow_12 : decode cX4_bidNow 12 = .ok (.iadd, 1) := by decide +kernel
theorem dX4_bidNow_13 : decode cX4_bidNow 13 = .ok (.iload_n 1, 1) := by decide +kernel
theorem dX4_bidNow_14 : decode cX4_bidNow 14 = .ok (.iastore, 1) := by decide +kernel
theorem dX4_bidNow_15 : decode cX4_bidNow 15 = .ok (.aload_n 0, 1) := by decide +kernel
theorem dX4_bidNow_16 : decode cX4_bidNow 16 = .ok (.getfield 7, 3) := by decide +kernel
theorem dX4_bidNow_19 : decode cX4_bidNow 19 = .ok (.bipush 6, 2) := by decide +kernel
theorem dX4_bidNow_21 : decode cX4_bidNow 21 = .ok (.iload_n 1, 1) := by decide +kernel
theorem dX4_bidNow_22 : decode cX4_bidNow 22 = .ok (.iastore, 1) := by decide +kernel
theorem dX4_bidNow_23 : decode cX4_bidNow 23 = .ok (.aload_n 0, 1) := by decide +kernel
theorem dX4_bidNow_24 : decode cX4_bidNow 24 = .ok (.invokevirtual 77, 3) := by decide +kernel
theorem dX4_bidNow_27 : decode cX4_bidNow 27 = .ok (.return_, 1) := by decide +kernel
theorem dX4_left_0 : decode cX4_left 0 = .ok (.iconst 0, 1) := by decide +kernel
theorem dX4_left_1 : decode cX4_left 1 = .ok (.istore_n 1, 1) := by decide +kernel
theorem dX4_left_2 : decode cX4_left 2 = .ok (.iconst 0, 1) := by decide +kernel
theorem dX4_left_3 : decode cX4_left 3 = .ok (.istore_n 2, 1) := by decide +kernel
theorem dX4_left_4 : decode cX4_left 4 = .ok (.iload_n 2, 1) := by decide +kernel
theorem dX4_left_5 : decode cX4_left 5 = .ok (.iconst 5, 1) := by decide +kernel
theorem dX4_left_6 : decode cX4_left 6 = .ok (.if_icmp .ge 31, 3) := by decide +kernel
theorem dX4_left_9 : decode cX4_left 9 = .ok (.iload_n 1, 1) := by decide +kernel
theorem dX4_left_10 : decode cX4_left 10 = .ok (.aload_n 0, 1) := by decide +kernel
theorem dX4_left_11 : decode cX4_left 11 = .ok (.getfield 7, 3) := by decide +kernel
theorem dX4_left_14 : decode cX4_left 14 = .ok (.bipush 28, 2) := by decide +kernel
theorem dX4_left_16 : decode cX4_left 16 = .ok (.iload_n 2, 1) := by decide +kernel
theorem dX4_left_17 : decode cX4_left 17 = .ok (.iadd, 1) := by decide +kernel
theorem dX4_left_18 : decode cX4_left 18 = .ok (.iaload, 1) := by decide +kernel
theorem dX4_left_19 : decode cX4_left 19 = .ok (.ldc 39, 2) := by decide +kernel
theorem dX4_left_21 : decode cX4_left 21 = .ok (.if_icmp .ne 7, 3) := by decide +kernel
theorem dX4_left_24 : decode cX4_left 24 = .ok (.iconst 1, 1) := by decide +kernel
theorem dX4_left_25 : decode cX4_left 25 = .ok (.goto 4, 3) := by decide +kernel
theorem dX4_left_28 : decode cX4_left 28 = .ok (.iconst 0, 1) := by decide +kernel
theorem dX4_left_29 : decode cX4_left 29 = .ok (.iadd, 1) := by decide +kernel
theorem dX4_left_30 : decode cX4_left 30 = .ok (.istore_n 1, 1) := by decide +kernel
theorem dX4_left_31 : decode cX4_left 31 = .ok (.iinc 2 1, 3) := by decide +kernel
theorem dX4_left_34 : decode cX4_left 34 = .ok (.goto (-30), 3) := by decide +kernel
theorem dX4_left_37 : decode cX4_left 37 = .ok (.iload_n 1, 1) := by decide +kernel
theorem dX4_left_38 : decode cX4_left 38 = .ok (.ireturn, 1) := by decide +kernel
theorem dX4_prizeAt_0 : decode cX4_prizeAt 0 = .ok (.iconst 0, 1) := by decide +kernel
theorem dX4_prizeAt_1 : decode cX4_prizeAt 1 = .ok (.istore_n 2, 1) := by decide +kernel
theorem dX4_prizeAt_2 : decode cX4_prizeAt 2 = .ok (.iconst 0, 1) := by decide +kernel
theorem dX4_prizeAt_3 : decode cX4_prizeAt 3 = .ok (.istore_n 3, 1) := by decide +kernel
theorem dX4_prizeAt_4 : decode cX4_prizeAt 4 = .ok (.iload_n 3, 1) := by decide +kernel
theorem dX4_prizeAt_5 : decode cX4_prizeAt 5 = .ok (.iconst 5, 1) := by decide +kernel
theorem dX4_prizeAt_6 : decode cX4_prizeAt 6 = .ok (.if_icmp .ge 107, 3) := by decide +kernel
theorem dX4_prizeAt_9 : decode cX4_prizeAt 9 = .ok (.iconst 0, 1) := by decide +kernel
theorem dX4_prizeAt_10 : decode cX4_prizeAt 10 = .ok (.istore 4, 2) := by decide +kernel
theorem dX4_prizeAt_12 : decode cX4_prizeAt 12 = .ok (.iconst 0, 1) := by decide +kernel
theorem dX4_prizeAt_13 : decode cX4_prizeAt 13 = .ok (.istore 5, 2) := by decide +kernel
theorem dX4_prizeAt_15 : decode cX4_prizeAt 15 = .ok (.iload 5, 2) := by decide +kernel
theorem dX4_prizeAt_17 : decode cX4_prizeAt 17 = .ok (.iconst 5, 1) := by decide +kernel
theorem dX4_prizeAt_18 : decode cX4_prizeAt 18 = .ok (.if_icmp .ge 69, 3) := by decide +kernel
theorem dX4_prizeAt_21 : decode cX4_prizeAt 21 = .ok (.iload 4, 2) := by decide +kernel
theorem dX4_prizeAt_23 : decode cX4_prizeAt 23 = .ok (.aload_n 0, 1) := by decide +kernel
theorem dX4_prizeAt_24 : decode cX4_prizeAt 24 = .ok (.getfield 7, 3) := by decide +kernel
theorem dX4_prizeAt_27 : decode cX4_prizeAt 27 = .ok (.bipush 48, 2) := by decide +kernel
theorem dX4_prizeAt_29 : decode cX4_prizeAt 29 = .ok (.iload 5, 2) := by decide +kernel
theorem dX4_prizeAt_31 : decode cX4_prizeAt 31 = .ok (.iadd, 1) := by decide +kernel
theorem dX4_prizeAt_32 : decode cX4_prizeAt 32 = .ok (.iaload, 1) := by decide +kernel
theorem dX4_prizeAt_33 : decode cX4_prizeAt 33 = .ok (.aload_n 0, 1) := by decide +kernel
theorem dX4_prizeAt_34 : decode cX4_prizeAt 34 = .ok (.getfield 7, 3) := by decide +kernel
theorem dX4_prizeAt_37 : decode cX4_prizeAt 37 = .ok (.bipush 48, 2) := by decide +kernel
theorem dX4_prizeAt_39 : decode cX4_prizeAt 39 = .ok (.iload_n 3, 1) := by decide +kernel
theorem dX4_prizeAt_40 : decode cX4_prizeAt 40 = .ok (.iadd, 1) := by decide +kernel
theorem dX4_prizeAt_41 : decode cX4_prizeAt 41 = .ok (.iaload, 1) := by decide +kernel
theorem dX4_prizeAt_42 : decode cX4_prizeAt 42 = .ok (.if_icmp .gt 31, 3) := by decide +kernel
theorem dX4_prizeAt_45 : decode cX4_prizeAt 45 = .ok (.aload_n 0, 1) := by decide +kernel
theorem dX4_prizeAt_46 : decode cX4_prizeAt 46 = .ok (.getfield 7, 3) := by decide +kernel
theorem dX4_prizeAt_49 : decode cX4_prizeAt 49 = .ok (.bipush 48, 2) := by decide +kernel
theorem dX4_prizeAt_51 : decode cX4_prizeAt 51 = .ok (.iload 5, 2) := by decide +kernel
theorem dX4_prizeAt_53 : decode cX4_prizeAt 53 = .ok (.iadd, 1) := by decide +kernel
theorem dX4_prizeAt_54 : decode cX4_prizeAt 54 = .ok (.iaload, 1) := by decide +kernel
theorem dX4_prizeAt_55 : decode cX4_prizeAt 55 = .ok (.aload_n 0, 1) := by decide +kernel
theorem dX4_prizeAt_56 : decode cX4_prizeAt 56 = .ok (.getfield 7, 3) := by decide +kernel
theorem dX4_prizeAt_59 : decode cX4_prizeAt 59 = .ok (.bipush 48, 2) := by decide +kernel
theorem dX4_prizeAt_61 : decode cX4_prizeAt 61 = .ok (.iload_n 3, 1) := by decide +kernel
theorem dX4_prizeAt_62 : decode cX4_prizeAt 62 = .ok (.iadd, 1) := by decide +kernel
theorem dX4_prizeAt_63 : decode cX4_prizeAt 63 = .ok (.iaload, 1) := by decide +kernel
theorem dX4_prizeAt_64 : decode cX4_prizeAt 64 = .ok (.if_icmp .ne 13, 3) := by decide +kernel
theorem dX4_prizeAt_67 : decode cX4_prizeAt 67 = .ok (.iload 5, 2) := by decide +kernel
theorem dX4_prizeAt_69 : decode cX4_prizeAt 69 = .ok (.iload_n 3, 1) := by decide +kernel
theorem dX4_prizeAt_70 : decode cX4_prizeAt 70 = .ok (.if_icmp .ge 7, 3) := by decide +kernel
theorem dX4_prizeAt_73 : decode cX4_prizeAt 73 = .ok (.iconst 1, 1) := by decide +kernel
theorem dX4_prizeAt_74 : decode cX4_prizeAt 74 = .ok (.goto 4, 3) := by decide +kernel
theorem dX4_prizeAt_77 : decode cX4_prizeAt 77 = .ok (.iconst 0, 1) := by decide +kernel
theorem dX4_prizeAt_78 : decode cX4_prizeAt 78 = .ok (.iadd, 1) := by decide +kernel
theorem dX4_prizeAt_79 : decode cX4_prizeAt 79 = .ok (.istore 4, 2) := by decide +kernel
theorem dX4_prizeAt_81 : decode cX4_prizeAt 81 = .ok (.iinc 5 1, 3) := by decide +kernel
theorem dX4_prizeAt_84 : decode cX4_prizeAt 84 = .ok (.goto (-69), 3) := by decide +kernel
theorem dX4_prizeAt_87 : decode cX4_prizeAt 87 = .ok (.iload 4, 2) := by decide +kernel
theorem dX4_prizeAt_89 : decode cX4_prizeAt 89 = .ok (.iload_n 1, 1) := by decide +kernel
theorem dX4_prizeAt_90 : decode cX4_prizeAt 90 = .ok (.if_icmp .ne 15, 3) := by decide +kernel
theorem dX4_prizeAt_93 : decode cX4_prizeAt 93 = .ok (.aload_n 0, 1) := by decide +kernel
theorem dX4_prizeAt_94 : decode cX4_prizeAt 94 = .ok (.getfield 7, 3) := by decide +kernel
theorem dX4_prizeAt_97 : decode cX4_prizeAt 97 = .ok (.bipush 48, 2) := by decide +kernel
theorem dX4_prizeAt_99 : decode cX4_prizeAt 99 = .ok (.iload_n 3, 1) := by decide +kernel
theorem dX4_prizeAt_100 : decode cX4_prizeAt 100 = .ok (.iadd, 1) := by decide +kernel
theorem dX4_prizeAt_101 : decode cX4_prizeAt 101 = .ok (.iaload, 1) := by decide +kernel
theorem dX4_prizeAt_102 : decode cX4_prizeAt 102 = .ok (.goto 4, 3) := by decide +kernel
theorem dX4_prizeAt_105 : decode cX4_prizeAt 105 = .ok (.iload_n 2, 1) := by decide +kernel
theorem dX4_prizeAt_106 : decode cX4_prizeAt 106 = .ok (.istore_n 2, 1) := by decide +kernel
theorem dX4_prizeAt_107 : decode cX4_prizeAt 107 = .ok (.iinc 3 1, 3) := by decide +kernel
theorem dX4_prizeAt_110 : decode cX4_prizeAt 110 = .ok (.goto (-106), 3) := by decide +kernel
theorem dX4_prizeAt_113 : decode cX4_prizeAt 113 = .ok (.iload_n 2, 1) := by decide +kernel
theorem dX4_prizeAt_114 : decode cX4_prizeAt 114 = .ok (.ireturn, 1) := by decide +kernel
set_option maxRecDepth 20000 in
theorem ggX4_dropNow_X4_left : GoodIn wsX4_dropNow wsX4_left := goodIn_r _ [7, 1, 2, 32, 33, 34, 35, 36, 37, 38, 39, 40, 41, 42] (by decide +kernel) (by decide +kernel)
set_option maxRecDepth 20000 in
theorem gX4_dropNow_X4_left : GoodIn wsX4_dropNow (wsV RX4 80 RX4 yX4_left wsX4_left) := goodIn_app (goodIn_of _ (by decide +kernel)) ggX4_dropNow_X4_left
set_option maxRecDepth 20000 in
theorem ggX4_dropNow_X4_pay : GoodIn wsX4_dropNow wsX4_pay := goodIn_r _ [11, 1, 32, 33, 34, 35, 36, 37, 38, 39, 40, 41, 42] (by decide +kernel) (by decide +kernel)
set_option maxRecDepth 20000 in
theorem gX4_dropNow_X4_pay : GoodIn wsX4_dropNow (wsV RX4 83 RX4 yX4_pay wsX4_pay) := goodIn_app (goodIn_of _ (by decide +kernel)) ggX4_dropNow_X4_pay
set_option maxRecDepth 20000 in
theorem ggX4_dropNow_X4_pass : GoodIn wsX4_dropNow wsX4_pass := goodIn_r _ [15, 1, 2, 16, 17, 18, 6, 19, 32, 33, 34, 35, 36, 37, 38, 39, 40, 41, 42] (by decide +kernel) (by decide +kernel)
set_option maxRecDepth 20000 in
theorem gX4_dropNow_X4_pass : GoodIn wsX4_dropNow (wsV RX4 77 RX4 yX4_pass wsX4_pass) := goodIn_app (goodIn_of _ (by decide +kernel)) ggX4_dropNow_X4_pass
set_option maxRecDepth 20000 in
theorem ggX4_dropNow_X4_endNow : GoodIn wsX4_dropNow wsX4_endNow := goodIn_r _ [23, 1, 2, 8, 9, 10, 6, 11, 24, 25, 26, 27, 28, 29, 30, 31, 32, 33, 34, 35, 36, 37, 38, 39, 40, 41, 42] (by decide +kernel) (by decide +kernel)
set_option maxRecDepth 20000 in
theorem gX4_dropNow_X4_endNow : GoodIn wsX4_dropNow (wsV RX4 87 RX4 yX4_endNow wsX4_endNow) := goodIn_app (goodIn_of _ (by decide +kernel)) ggX4_dropNow_X4_endNow
theorem dX4_dropNow_0 : decode cX4_dropNow 0 = .ok (.aload_n 0, 1) := by decide +kernel
theorem dX4_dropNow_1 : decode cX4_dropNow 1 = .ok (.getfield 7, 3) := by decide +kernel
theorem dX4_dropNow_4 : decode cX4_dropNow 4 = .ok (.iconst 5, 1) := by decide +kernel
theorem dX4_dropNow_5 : decode cX4_dropNow 5 = .ok (.iaload, 1) := by decide +kernel
theorem dX4_dropNow_6 : decode cX4_dropNow 6 = .ok (.istore_n 1, 1) := by decide +kernel
theorem dX4_dropNow_7 : decode cX4_dropNow 7 = .ok (.aload_n 0, 1) := by decide +kernel
theorem dX4_dropNow_8 : decode cX4_dropNow 8 = .ok (.invokevirtual 80, 3) := by decide +kernel
theorem dX4_dropNow_11 : decode cX4_dropNow 11 = .ok (.iconst 1, 1) := by decide +kernel
theorem dX4_dropNow_12 : decode cX4_dropNow 12 = .ok (.isub, 1) := by decide +kernel
theorem dX4_dropNow_13 : decode cX4_dropNow 13 = .ok (.istore_n 2, 1) := by decide +kernel
theorem dX4_dropNow_14 : decode cX4_dropNow 14 = .ok (.aload_n 0, 1) := by decide +kernel
theorem dX4_dropNow_15 : decode cX4_dropNow 15 = .ok (.getfield 7, 3) := by decide +kernel
theorem dX4_dropNow_18 : decode cX4_dropNow 18 = .ok (.bipush 23, 2) := by decide +kernel
theorem dX4_dropNow_20 : decode cX4_dropNow 20 = .ok (.iload_n 1, 1) := by decide +kernel
theorem dX4_dropNow_21 : decode cX4_dropNow 21 = .ok (.iadd, 1) := by decide +kernel
theorem dX4_dropNow_22 : decode cX4_dropNow 22 = .ok (.iaload, 1) := by decide +kernel
theorem dX4_dropNow_23 : decode cX4_dropNow 23 = .ok (.ldc 39, 2) := by decide +kernel
theorem dX4_dropNow_25 : decode cX4_dropNow 25 = .ok (.if_icmp .eq 27, 3) := by decide +kernel
theorem dX4_dropNow_28 : decode cX4_dropNow 28 = .ok (.aload_n 0, 1) := by decide +kernel
theorem dX4_dropNow_29 : decode cX4_dropNow 29 = .ok (.iload_n 1, 1) := by decide +kernel
theorem dX4_dropNow_30 : decode cX4_dropNow 30 = .ok (.aload_n 0, 1) := by decide +kernel
theorem dX4_dropNow_31 : decode cX4_dropNow 31 = .ok (.getfield 7, 3) := by decide +kernel
theorem dX4_dropNow_34 : decode cX4_dropNow 34 = .ok (.bipush 23, 2) := by decide +kernel
theorem dX4_dropNow_36 : decode cX4_dropNow 36 = .ok (.iload_n 1, 1) := by decide +kernel
theorem dX4_dropNow_37 : decode cX4_dropNow 37 = .ok (.iadd, 1) := by decide +kernel
theorem dX4_dropNow_38 : decode cX4_dropNow 38 = .ok (.iaload, 1) := by decide +kernel
theorem dX4_dropNow_39 : decode cX4_dropNow 39 = .ok (.aload_n 0, 1) := by decide +kernel
theorem dX4_dropNow_40 : decode cX4_dropNow 40 = .ok (.getfield 7, 3) := by decide +kernel
theorem dX4_dropNow_43 : decode cX4_dropNow 43 = .ok (.iconst 3, 1) := by decide +kernel
theorem dX4_dropNow_44 : decode cX4_dropNow 44 = .ok (.iaload, 1) := by decide +kernel
theorem dX4_dropNow_45 : decode cX4_dropNow 45 = .ok (.imul, 1) := by decide +kernel
theorem dX4_dropNow_46 : decode cX4_dropNow 46 = .ok (.bipush 100, 2) := by decide +kernel
theorem dX4_dropNow_48 : decode cX4_dropNow 48 = .ok (.idiv, 1) := by decide +kernel
theorem dX4_dropNow_49 : decode cX4_dropNow 49 = .ok (.invokevirtual 83, 3) := by decide +kernel
theorem dX4_dropNow_52 : decode cX4_dropNow 52 = .ok (.iload_n 2, 1) := by decide +kernel
theorem dX4_dropNow_53 : decode cX4_dropNow 53 = .ok (.iconst 1, 1) := by decide +kernel
theorem dX4_dropNow_54 : decode cX4_dropNow 54 = .ok (.if_icmp .le 18, 3) := by decide +kernel
theorem dX4_dropNow_57 : decode cX4_dropNow 57 = .ok (.aload_n 0, 1) := by decide +kernel
theorem dX4_dropNow_58 : decode cX4_dropNow 58 = .ok (.getfield 7, 3) := by decide +kernel
theorem dX4_dropNow_61 : decode cX4_dropNow 61 = .ok (.bipush 28, 2) := by decide +kernel
theorem dX4_dropNow_63 : decode cX4_dropNow 63 = .ok (.iload_n 1, 1) := by decide +kernel
theorem dX4_dropNow_64 : decode cX4_dropNow 64 = .ok (.iadd, 1) := by decide +kernel
theorem dX4_dropNow_65 : decode cX4_dropNow 65 = .ok (.iload_n 2, 1) := by decide +kernel
theorem dX4_dropNow_66 : decode cX4_dropNow 66 = .ok (.iastore, 1) := by decide +kernel
theorem dX4_dropNow_67 : decode cX4_dropNow 67 = .ok (.aload_n 0, 1) := by decide +kernel
theorem dX4_dropNow_68 : decode cX4_dropNow 68 = .ok (.invokevirtual 77, 3) := by decide +kernel
theorem dX4_dropNow_71 : decode cX4_dropNow 71 = .ok (.return_, 1) := by decide +kernel
theorem dX4_dropNow_72 : decode cX4_dropNow 72 = .ok (.aload_n 0, 1) := by decide +kernel
theorem dX4_dropNow_73 : decode cX4_dropNow 73 = .ok (.invokevirtual 77, 3) := by decide +kernel
theorem dX4_dropNow_76 : decode cX4_dropNow 76 = .ok (.aload_n 0, 1) := by decide +kernel
theorem dX4_dropNow_77 : decode cX4_dropNow 77 = .ok (.getfield 7, 3) := by decide +kernel
theorem dX4_dropNow_80 : decode cX4_dropNow 80 = .ok (.bipush 28, 2) := by decide +kernel
theorem dX4_dropNow_82 : decode cX4_dropNow 82 = .ok (.iload_n 1, 1) := by decide +kernel
theorem dX4_dropNow_83 : decode cX4_dropNow 83 = .ok (.iadd, 1) := by decide +kernel
theorem dX4_dropNow_84 : decode cX4_dropNow 84 = .ok (.iload_n 2, 1) := by decide +kernel
theorem dX4_dropNow_85 : decode cX4_dropNow 85 = .ok (.iastore, 1) := by decide +kernel
theorem dX4_dropNow_86 : decode cX4_dropNow 86 = .ok (.aload_n 0, 1) := by decide +kernel
theorem dX4_dropNow_87 : decode cX4_dropNow 87 = .ok (.aload_n 0, 1) := by decide +kernel
theorem dX4_dropNow_88 : decode cX4_dropNow 88 = .ok (.getfield 7, 3) := by decide +kernel
theorem dX4_dropNow_91 : decode cX4_dropNow 91 = .ok (.iconst 5, 1) := by decide +kernel
theorem dX4_dropNow_92 : decode cX4_dropNow 92 = .ok (.iaload, 1) := by decide +kernel
theorem dX4_dropNow_93 : decode cX4_dropNow 93 = .ok (.invokevirtual 87, 3) := by decide +kernel
theorem dX4_dropNow_96 : decode cX4_dropNow 96 = .ok (.return_, 1) := by decide +kernel
set_option maxRecDepth 20000 in
theorem ggX4_endNow_X4_pay : GoodIn wsX4_endNow wsX4_pay := goodIn_r _ [7, 1, 16, 17, 18, 19, 20, 21, 22, 23, 24, 25, 26] (by decide +kernel) (by decide +kernel)
set_option maxRecDepth 20000 in
theorem gX4_endNow_X4_pay : GoodIn wsX4_endNow (wsV RX4 83 RX4 yX4_pay wsX4_pay) := goodIn_app (goodIn_of _ (by decide +kernel)) ggX4_endNow_X4_pay
set_option maxRecDepth 20000 in
theorem ggX4_endNow_X4_prizeAt : GoodIn wsX4_endNow wsX4_prizeAt := goodIn_r _ [11, 1, 16, 17, 18, 19, 20, 21, 22, 23, 24, 25, 26] (by decide +kernel) (by decide +kernel)
set_option maxRecDepth 20000 in
theorem gX4_endNow_X4_prizeAt : GoodIn wsX4_endNow (wsV RX4 91 RX4 yX4_prizeAt wsX4_prizeAt) := goodIn_app (goodIn_of _ (by decide +kernel)) ggX4_endNow_X4_prizeAt
set_option maxRecDepth 20000 in
theorem ggX4_endNow_X4_clearAuction : GoodIn wsX4_endNow wsX4_clearAuction := goodIn_r _ [15, 1, 2, 16, 17, 18, 19, 20, 21, 22, 23, 24, 25, 26] (by decide +kernel) (by decide +kernel)
set_option maxRecDepth 20000 in
theorem gX4_endNow_X4_clearAuction : GoodIn wsX4_endNow (wsV RX4 32 RX4 yX4_clearAuction wsX4_clearAuction) := goodIn_app (goodIn_of _ (by decide +kernel)) ggX4_endNow_X4_clearAuction
theorem dX4_endNow_0 : decode cX4_endNow 0 = .ok (.aload_n 0, 1) := by decide +kernel
theorem dX4_endNow_1 : decode cX4_endNow 1 = .ok (.getfield 7, 3) := by decide +kernel
theorem dX4_endNow_4 : decode cX4_endNow 4 = .ok (.bipush 23, 2) := by decide +kernel
theorem dX4_endNow_6 : decode cX4_endNow 6 = .ok (.iload_n 1, 1) := by decide +kernel
theorem dX4_endNow_7 : decode cX4_endNow 7 = .ok (.iadd, 1) := by decide +kernel
theorem dX4_endNow_8 : decode cX4_endNow 8 = .ok (.iaload, 1) := by decide +kernel
theorem dX4_endNow_9 : decode cX4_endNow 9 = .ok (.ldc 39, 2) := by decide +kernel
theorem dX4_endNow_11 : decode cX4_endNow 11 = .ok (.if_icmp .eq 30, 3) := by decide +kernel
theorem dX4_endNow_14 : decode cX4_endNow 14 = .ok (.aload_n 0, 1) := by decide +kernel
theorem dX4_endNow_15 : decode cX4_endNow 15 = .ok (.iload_n 1, 1) := by decide +kernel
theorem dX4_endNow_16 : decode cX4_endNow 16 = .ok (.aload_n 0, 1) := by decide +kernel
theorem dX4_endNow_17 : decode cX4_endNow 17 = .ok (.getfield 7, 3) := by decide +kernel
theorem dX4_endNow_20 : decode cX4_endNow 20 = .ok (.bipush 23, 2) := by decide +kernel
theorem dX4_endNow_22 : decode cX4_endNow 22 = .ok (.iload_n 1, 1) := by decide +kernel
theorem dX4_endNow_23 : decode cX4_endNow 23 = .ok (.iadd, 1) := by decide +kernel
theorem dX4_endNow_24 : decode cX4_endNow 24 = .ok (.iaload, 1) := by decide +kernel
theorem dX4_endNow_25 : decode cX4_endNow 25 = .ok (.aload_n 0, 1) := by decide +kernel
theorem dX4_endNow_26 : decode cX4_endNow 26 = .ok (.getfield 7, 3) := by decide +kernel
theorem dX4_endNow_29 : decode cX4_endNow 29 = .ok (.iconst 2, 1) := by decide +kernel
theorem dX4_endNow_30 : decode cX4_endNow 30 = .ok (.iaload, 1) := by decide +kernel
theorem dX4_endNow_31 : decode cX4_endNow 31 = .ok (.imul, 1) := by decide +kernel
theorem dX4_endNow_32 : decode cX4_endNow 32 = .ok (.bipush 99, 2) := by decide +kernel
theorem dX4_endNow_34 : decode cX4_endNow 34 = .ok (.iadd, 1) := by decide +kernel
theorem dX4_endNow_35 : decode cX4_endNow 35 = .ok (.bipush 100, 2) := by decide +kernel
theorem dX4_endNow_37 : decode cX4_endNow 37 = .ok (.idiv, 1) := by decide +kernel
theorem dX4_endNow_38 : decode cX4_endNow 38 = .ok (.invokevirtual 83, 3) := by decide +kernel
theorem dX4_endNow_41 : decode cX4_endNow 41 = .ok (.aload_n 0, 1) := by decide +kernel
theorem dX4_endNow_42 : decode cX4_endNow 42 = .ok (.getfield 7, 3) := by decide +kernel
theorem dX4_endNow_45 : decode cX4_endNow 45 = .ok (.bipush 28, 2) := by decide +kernel
theorem dX4_endNow_47 : decode cX4_endNow 47 = .ok (.iload_n 1, 1) := by decide +kernel
theorem dX4_endNow_48 : decode cX4_endNow 48 = .ok (.iadd, 1) := by decide +kernel
theorem dX4_endNow_49 : decode cX4_endNow 49 = .ok (.iconst 0, 1) := by decide +kernel
theorem dX4_endNow_50 : decode cX4_endNow 50 = .ok (.iastore, 1) := by decide +kernel
theorem dX4_endNow_51 : decode cX4_endNow 51 = .ok (.aload_n 0, 1) := by decide +kernel
theorem dX4_endNow_52 : decode cX4_endNow 52 = .ok (.getfield 7, 3) := by decide +kernel
theorem dX4_endNow_55 : decode cX4_endNow 55 = .ok (.bipush 43, 2) := by decide +kernel
theorem dX4_endNow_57 : decode cX4_endNow 57 = .ok (.iload_n 1, 1) := by decide +kernel
theorem dX4_endNow_58 : decode cX4_endNow 58 = .ok (.iadd, 1) := by decide +kernel
theorem dX4_endNow_59 : decode cX4_endNow 59 = .ok (.dup2, 1) := by decide +kernel
theorem dX4_endNow_60 : decode cX4_endNow 60 = .ok (.iaload, 1) := by decide +kernel
theorem dX4_endNow_61 : decode cX4_endNow 61 = .ok (.iconst 1, 1) := by decide +kernel
theorem dX4_endNow_62 : decode cX4_endNow 62 = .ok (.iadd, 1) := by decide +kernel
theorem dX4_endNow_63 : decode cX4_endNow 63 = .ok (.iastore, 1) := by decide +kernel
theorem dX4_endNow_64 : decode cX4_endNow 64 = .ok (.iconst 0, 1) := by decide +kernel
theorem dX4_endNow_65 : decode cX4_endNow 65 = .ok (.istore_n 2, 1) := by decide +kernel
theorem dX4_endNow_66 : decode cX4_endNow 66 = .ok (.iload_n 2, 1) := by decide +kernel
theorem dX4_endNow_67 : decode cX4_endNow 67 = .ok (.iconst 5, 1) := by decide +kernel
theorem dX4_endNow_68 : decode cX4_endNow 68 = .ok (.if_icmp .ge 92, 3) := by decide +kernel
theorem dX4_endNow_71 : decode cX4_endNow 71 = .ok (.aload_n 0, 1) := by decide +kernel
theorem dX4_endNow_72 : decode cX4_endNow 72 = .ok (.aload_n 0, 1) := by decide +kernel
theorem dX4_endNow_73 : decode cX4_endNow 73 = .ok (.getfield 7, 3) := by decide +kernel
theorem dX4_endNow_76 : decode cX4_endNow 76 = .ok (.bipush 28, 2) := by decide +kernel
theorem dX4_endNow_78 : decode cX4_endNow 78 = .ok (.iload_n 2, 1) := by decide +kernel
theorem dX4_endNow_79 : decode cX4_endNow 79 = .ok (.iadd, 1) := by decide +kernel
theorem dX4_endNow_80 : decode cX4_endNow 80 = .ok (.iaload, 1) := by decide +kernel
theorem dX4_endNow_81 : decode cX4_endNow 81 = .ok (.invokevirtual 91, 3) := by decide +kernel
theorem dX4_endNow_84 : decode cX4_endNow 84 = .ok (.istore_n 3, 1) := by decide +kernel
theorem dX4_endNow_85 : decode cX4_endNow 85 = .ok (.aload_n 0, 1) := by decide +kernel
theorem dX4_endNow_86 : decode cX4_endNow 86 = .ok (.getfield 7, 3) := by decide +kernel
theorem dX4_endNow_89 : decode cX4_endNow 89 = .ok (.bipush 8, 2) := by decide +kernel
theorem dX4_endNow_91 : decode cX4_endNow 91 = .ok (.iload_n 2, 1) := by decide +kernel
theorem dX4_endNow_92 : decode cX4_endNow 92 = .ok (.iadd, 1) := by decide +kernel
theorem dX4_endNow_93 : decode cX4_endNow 93 = .ok (.iaload, 1) := by decide +kernel
theorem dX4_endNow_94 : decode cX4_endNow 94 = .ok (.iload_n 3, 1) := by decide +kernel
theorem dX4_endNow_95 : decode cX4_endNow 95 = .ok (.iadd, 1) := by decide +kernel
theorem dX4_endNow_96 : decode cX4_endNow 96 = .ok (.istore 4, 2) := by decide +kernel
theorem dX4_endNow_98 : decode cX4_endNow 98 = .ok (.aload_n 0, 1) := by decide +kernel
theorem dX4_endNow_99 : decode cX4_endNow 99 = .ok (.getfield 7, 3) := by decide +kernel
theorem dX4_endNow_102 : decode cX4_endNow 102 = .ok (.bipush 18, 2) := by decide +kernel
theorem dX4_endNow_104 : decode cX4_endNow 104 = .ok (.iload_n 2, 1) := by decide +kernel
theorem dX4_endNow_105 : decode cX4_endNow 105 = .ok (.iadd, 1) := by decide +kernel
theorem dX4_endNow_106 : decode cX4_endNow 106 = .ok (.aload_n 0, 1) := by decide +kernel
theorem dX4_endNow_107 : decode cX4_endNow 107 = .ok (.getfield 7, 3) := by decide +kernel
theorem dX4_endNow_110 : decode cX4_endNow 110 = .ok (.bipush 28, 2) := by decide +kernel
theorem dX4_endNow_112 : decode cX4_endNow 112 = .ok (.iload_n 2, 1) := by decide +kernel
theorem dX4_endNow_113 : decode cX4_endNow 113 = .ok (.iadd, 1) := by decide +kernel
theorem dX4_endNow_114 : decode cX4_endNow 114 = .ok (.iaload, 1) := by decide +kernel
theorem dX4_endNow_115 : decode cX4_endNow 115 = .ok (.iastore, 1) := by decide +kernel
theorem dX4_endNow_116 : decode cX4_endNow 116 = .ok (.aload_n 0, 1) := by decide +kernel
theorem dX4_endNow_117 : decode cX4_endNow 117 = .ok (.getfield 7, 3) := by decide +kernel
theorem dX4_endNow_120 : decode cX4_endNow 120 = .ok (.bipush 8, 2) := by decide +kernel
theorem dX4_endNow_122 : decode cX4_endNow 122 = .ok (.iload_n 2, 1) := by decide +kernel
theorem dX4_endNow_123 : decode cX4_endNow 123 = .ok (.iadd, 1) := by decide +kernel
theorem dX4_endNow_124 : decode cX4_endNow 124 = .ok (.iload 4, 2) := by decide +kernel
theorem dX4_endNow_126 : decode cX4_endNow 126 = .ok (.sipush 9999, 3) := by decide +kernel
theorem dX4_endNow_129 : decode cX4_endNow 129 = .ok (.if_icmp .le 9, 3) := by decide +kernel
theorem dX4_endNow_132 : decode cX4_endNow 132 = .ok (.sipush 9999, 3) := by decide +kernel
theorem dX4_endNow_135 : decode cX4_endNow 135 = .ok (.goto 5, 3) := by decide +kernel
theorem dX4_endNow_138 : decode cX4_endNow 138 = .ok (.iload 4, 2) := by decide +kernel
theorem dX4_endNow_140 : decode cX4_endNow 140 = .ok (.iastore, 1) := by decide +kernel
theorem dX4_endNow_141 : decode cX4_endNow 141 = .ok (.aload_n 0, 1) := by decide +kernel
theorem dX4_endNow_142 : decode cX4_endNow 142 = .ok (.getfield 7, 3) := by decide +kernel
theorem dX4_endNow_145 : decode cX4_endNow 145 = .ok (.bipush 38, 2) := by decide +kernel
theorem dX4_endNow_147 : decode cX4_endNow 147 = .ok (.iload_n 2, 1) := by decide +kernel
theorem dX4_endNow_148 : decode cX4_endNow 148 = .ok (.iadd, 1) := by decide +kernel
theorem dX4_endNow_149 : decode cX4_endNow 149 = .ok (.dup2, 1) := by decide +kernel
theorem dX4_endNow_150 : decode cX4_endNow 150 = .ok (.iaload, 1) := by decide +kernel
theorem dX4_endNow_151 : decode cX4_endNow 151 = .ok (.iload_n 3, 1) := by decide +kernel
theorem dX4_endNow_152 : decode cX4_endNow 152 = .ok (.iadd, 1) := by decide +kernel
theorem dX4_endNow_153 : decode cX4_endNow 153 = .ok (.iastore, 1) := by decide +kernel
theorem dX4_endNow_154 : decode cX4_endNow 154 = .ok (.iinc 2 1, 3) := by decide +kernel
theorem dX4_endNow_157 : decode cX4_endNow 157 = .ok (.goto (-91), 3) := by decide +kernel
theorem dX4_endNow_160 : decode cX4_endNow 160 = .ok (.aload_n 0, 1) := by decide +kernel
theorem dX4_endNow_161 : decode cX4_endNow 161 = .ok (.getfield 7, 3) := by decide +kernel
theorem dX4_endNow_164 : decode cX4_endNow 164 = .ok (.bipush 7, 2) := by decide +kernel
theorem dX4_endNow_166 : decode cX4_endNow 166 = .ok (.dup2, 1) := by decide +kernel
theorem dX4_endNow_167 : decode cX4_endNow 167 = .ok (.iaload, 1) := by decide +kernel
theorem dX4_endNow_168 : decode cX4_endNow 168 = .ok (.iconst 1, 1) := by decide +kernel
theorem dX4_endNow_169 : decode cX4_endNow 169 = .ok (.iadd, 1) := by decide +kernel
theorem dX4_endNow_170 : decode cX4_endNow 170 = .ok (.iastore, 1) := by decide +kernel
theorem dX4_endNow_171 : decode cX4_endNow 171 = .ok (.aload_n 0, 1) := by decide +kernel
theorem dX4_endNow_172 : decode cX4_endNow 172 = .ok (.invokevirtual 32, 3) := by decide +kernel
theorem dX4_endNow_175 : decode cX4_endNow 175 = .ok (.return_, 1) := by decide +kernel
set_option maxRecDepth 20000 in
theorem ggX4_actNow_X4_least : GoodIn wsX4_actNow wsX4_least := goodIn_r _ [6, 1, 7, 48, 49, 50, 51, 52, 53, 54, 55, 56, 57, 58] (by decide +kernel) (by decide +kernel)
set_option maxRecDepth 20000 in
theorem gX4_actNow_X4_least : GoodIn wsX4_actNow (wsV RX4 73 RX4 yX4_least wsX4_least) := goodIn_app (goodIn_of _ (by decide +kernel)) ggX4_actNow_X4_least
set_option maxRecDepth 20000 in
theorem ggX4_actNow_X4_canBid : GoodIn wsX4_actNow wsX4_canBid := goodIn_r _ [11, 1, 2, 3, 4, 5, 6, 7, 48, 49, 50, 51, 52, 53, 54, 55, 56, 57, 58] (by decide +kernel) (by decide +kernel)
set_option maxRecDepth 20000 in
theorem gX4_actNow_X4_canBid : GoodIn wsX4_actNow (wsV RX4 94 RX4 yX4_canBid wsX4_canBid) := goodIn_app (goodIn_of _ (by decide +kernel)) ggX4_actNow_X4_canBid
set_option maxRecDepth 20000 in
theorem ggX4_actNow_X4_bidNow : GoodIn wsX4_actNow wsX4_bidNow := goodIn_r _ [15, 1, 16, 17, 18, 5, 19, 7, 20, 21, 22, 23, 48, 49, 50, 51, 52, 53, 54, 55, 56, 57, 58] (by decide +kernel) (by decide +kernel)
set_option maxRecDepth 20000 in
theorem gX4_actNow_X4_bidNow : GoodIn wsX4_actNow (wsV RX4 97 RX4 yX4_bidNow wsX4_bidNow) := goodIn_app (goodIn_of _ (by decide +kernel)) ggX4_actNow_X4_bidNow
set_option maxRecDepth 20000 in
theorem ggX4_actNow_X4_dropNow : GoodIn wsX4_actNow wsX4_dropNow := goodIn_r _ [27, 1, 7, 28, 29, 30, 5, 31, 32, 33, 34, 35, 16, 17, 18, 19, 20, 21, 22, 23, 36, 37, 38, 39, 40, 41, 42, 43, 44, 45, 46, 47, 48, 49, 50, 51, 52, 53, 54, 55, 56, 57, 58] (by decide +kernel) (by decide +kernel)
set_option maxRecDepth 20000 in
theorem gX4_actNow_X4_dropNow : GoodIn wsX4_actNow (wsV RX4 100 RX4 yX4_dropNow wsX4_dropNow) := goodIn_app (goodIn_of _ (by decide +kernel)) ggX4_actNow_X4_dropNow
theorem dX4_actNow_0 : decode cX4_actNow 0 = .ok (.aload_n 0, 1) := by decide +kernel
theorem dX4_actNow_1 : decode cX4_actNow 1 = .ok (.invokevirtual 73, 3) := by decide +kernel
theorem dX4_actNow_4 : decode cX4_actNow 4 = .ok (.istore_n 1, 1) := by decide +kernel
theorem dX4_actNow_5 : decode cX4_actNow 5 = .ok (.iload_n 1, 1) := by decide +kernel
theorem dX4_actNow_6 : decode cX4_actNow 6 = .ok (.aload_n 0, 1) := by decide +kernel
theorem dX4_actNow_7 : decode cX4_actNow 7 = .ok (.getfield 7, 3) := by decide +kernel
theorem dX4_actNow_10 : decode cX4_actNow 10 = .ok (.bipush 13, 2) := by decide +kernel
theorem dX4_actNow_12 : decode cX4_actNow 12 = .ok (.aload_n 0, 1) := by decide +kernel
theorem dX4_actNow_13 : decode cX4_actNow 13 = .ok (.getfield 7, 3) := by decide +kernel
theorem dX4_actNow_16 : decode cX4_actNow 16 = .ok (.iconst 5, 1) := by decide +kernel
theorem dX4_actNow_17 : decode cX4_actNow 17 = .ok (.iaload, 1) := by decide +kernel
theorem dX4_actNow_18 : decode cX4_actNow 18 = .ok (.iadd, 1) := by decide +kernel
theorem dX4_actNow_19 : decode cX4_actNow 19 = .ok (.iaload, 1) := by decide +kernel
theorem dX4_actNow_20 : decode cX4_actNow 20 = .ok (.if_icmp .gt 19, 3) := by decide +kernel
theorem dX4_actNow_23 : decode cX4_actNow 23 = .ok (.aload_n 0, 1) := by decide +kernel
theorem dX4_actNow_24 : decode cX4_actNow 24 = .ok (.iload_n 1, 1) := by decide +kernel
theorem dX4_actNow_25 : decode cX4_actNow 25 = .ok (.invokevirtual 94, 3) := by decide +kernel
theorem dX4_actNow_28 : decode cX4_actNow 28 = .ok (.ifCond .eq 11, 3) := by decide +kernel
theorem dX4_actNow_31 : decode cX4_actNow 31 = .ok (.aload_n 0, 1) := by decide +kernel
theorem dX4_actNow_32 : decode cX4_actNow 32 = .ok (.iload_n 1, 1) := by decide +kernel
theorem dX4_actNow_33 : decode cX4_actNow 33 = .ok (.invokevirtual 97, 3) := by decide +kernel
theorem dX4_actNow_36 : decode cX4_actNow 36 = .ok (.goto 7, 3) := by decide +kernel
theorem dX4_actNow_39 : decode cX4_actNow 39 = .ok (.aload_n 0, 1) := by decide +kernel
theorem dX4_actNow_40 : decode cX4_actNow 40 = .ok (.invokevirtual 100, 3) := by decide +kernel
theorem dX4_actNow_43 : decode cX4_actNow 43 = .ok (.return_, 1) := by decide +kernel
set_option maxRecDepth 20000 in
theorem ggX4_finishNow_X4_beginNow : GoodIn wsX4_finishNow wsX4_beginNow := goodIn_r _ [6, 1, 7, 8, 9, 5, 10, 11, 12, 13, 14, 15, 56, 57, 58, 59, 60, 61, 62, 63, 64, 65, 66] (by decide +kernel) (by decide +kernel)
set_option maxRecDepth 20000 in
theorem gX4_finishNow_X4_beginNow : GoodIn wsX4_finishNow (wsV RX4 103 RX4 yX4_beginNow wsX4_beginNow) := goodIn_app (goodIn_of _ (by decide +kernel)) ggX4_finishNow_X4_beginNow
set_option maxRecDepth 20000 in
theorem ggX4_finishNow_X4_actNow : GoodIn wsX4_finishNow wsX4_actNow := goodIn_r _ [19, 1, 20, 21, 22, 5, 23, 11, 24, 25, 26, 27, 28, 29, 30, 31, 32, 33, 34, 35, 12, 13, 14, 15, 36, 37, 38, 39, 40, 41, 42, 43, 44, 45, 46, 47, 48, 49, 50, 51, 52, 53, 54, 55, 7, 8, 9, 10, 56, 57, 58, 59, 60, 61, 62, 63, 64, 65, 66] (by decide +kernel) (by decide +kernel)
set_option maxRecDepth 20000 in
theorem gX4_finishNow_X4_actNow : GoodIn wsX4_finishNow (wsV RX4 106 RX4 yX4_actNow wsX4_actNow) := goodIn_app (goodIn_of _ (by decide +kernel)) ggX4_finishNow_X4_actNow
theorem dX4_finishNow_0 : decode cX4_finishNow 0 = .ok (.aload_n 0, 1) := by decide +kernel
theorem dX4_finishNow_1 : decode cX4_finishNow 1 = .ok (.getfield 7, 3) := by decide +kernel
theorem dX4_finishNow_4 : decode cX4_finishNow 4 = .ok (.iconst 4, 1) := by decide +kernel
theorem dX4_finishNow_5 : decode cX4_finishNow 5 = .ok (.iaload, 1) := by decide +kernel
theorem dX4_finishNow_6 : decode cX4_finishNow 6 = .ok (.ifCond .ne 7, 3) := by decide +kernel
theorem dX4_finishNow_9 : decode cX4_finishNow 9 = .ok (.aload_n 0, 1) := by decide +kernel
theorem dX4_finishNow_10 : decode cX4_finishNow 10 = .ok (.invokevirtual 103, 3) := by decide +kernel
theorem dX4_finishNow_13 : decode cX4_finishNow 13 = .ok (.iconst 0, 1) := by decide +kernel
theorem dX4_finishNow_14 : decode cX4_finishNow 14 = .ok (.istore_n 1, 1) := by decide +kernel
theorem dX4_finishNow_15 : decode cX4_finishNow 15 = .ok (.aload_n 0, 1) := by decide +kernel
theorem dX4_finishNow_16 : decode cX4_finishNow 16 = .ok (.getfield 7, 3) := by decide +kernel
theorem dX4_finishNow_19 : decode cX4_finishNow 19 = .ok (.iconst 4, 1) := by decide +kernel
theorem dX4_finishNow_20 : decode cX4_finishNow 20 = .ok (.iaload, 1) := by decide +kernel
theorem dX4_finishNow_21 : decode cX4_finishNow 21 = .ok (.iconst 1, 1) := by decide +kernel
theorem dX4_finishNow_22 : decode cX4_finishNow 22 = .ok (.if_icmp .ne 13, 3) := by decide +kernel
theorem dX4_finishNow_25 : decode cX4_finishNow 25 = .ok (.aload_n 0, 1) := by decide +kernel
theorem dX4_finishNow_26 : decode cX4_finishNow 26 = .ok (.invokevirtual 106, 3) := by decide +kernel
theorem dX4_finishNow_29 : decode cX4_finishNow 29 = .ok (.iinc 1 1, 3) := by decide +kernel
theorem dX4_finishNow_32 : decode cX4_finishNow 32 = .ok (.goto (-17), 3) := by decide +kernel
theorem dX4_finishNow_35 : decode cX4_finishNow 35 = .ok (.iload_n 1, 1) := by decide +kernel
theorem dX4_finishNow_36 : decode cX4_finishNow 36 = .ok (.ireturn, 1) := by decide +kernel
set_option maxRecDepth 20000 in
theorem ggX4_begin_X4_record : GoodIn wsX4_begin wsX4_record := goodIn_r _ [7, 8, 9, 1, 10, 11, 6, 12, 26, 27, 28, 29, 30, 31, 32, 33, 34, 35, 36] (by decide +kernel) (by decide +kernel)
set_option maxRecDepth 20000 in
theorem gX4_begin_X4_record : GoodIn wsX4_begin (wsV RX4 54 RX4 yX4_record wsX4_record) := goodIn_app (goodIn_of _ (by decide +kernel)) ggX4_begin_X4_record
set_option maxRecDepth 20000 in
theorem ggX4_begin_X4_beginNow : GoodIn wsX4_begin wsX4_beginNow := goodIn_r _ [16, 1, 17, 18, 19, 6, 20, 21, 22, 23, 24, 25, 26, 27, 28, 29, 30, 31, 32, 33, 34, 35, 36] (by decide +kernel) (by decide +kernel)
set_option maxRecDepth 20000 in
theorem gX4_begin_X4_beginNow : GoodIn wsX4_begin (wsV RX4 103 RX4 yX4_beginNow wsX4_beginNow) := goodIn_app (goodIn_of _ (by decide +kernel)) ggX4_begin_X4_beginNow
theorem dX4_begin_0 : decode cX4_begin 0 = .ok (.aload_n 0, 1) := by decide +kernel
theorem dX4_begin_1 : decode cX4_begin 1 = .ok (.getfield 7, 3) := by decide +kernel
theorem dX4_begin_4 : decode cX4_begin 4 = .ok (.iconst 4, 1) := by decide +kernel
theorem dX4_begin_5 : decode cX4_begin 5 = .ok (.iaload, 1) := by decide +kernel
theorem dX4_begin_6 : decode cX4_begin 6 = .ok (.iconst 1, 1) := by decide +kernel
theorem dX4_begin_7 : decode cX4_begin 7 = .ok (.if_icmp .ne 6, 3) := by decide +kernel
theorem dX4_begin_10 : decode cX4_begin 10 = .ok (.ldc 48, 2) := by decide +kernel
theorem dX4_begin_12 : decode cX4_begin 12 = .ok (.ireturn, 1) := by decide +kernel
theorem dX4_begin_13 : decode cX4_begin 13 = .ok (.aload_n 0, 1) := by decide +kernel
theorem dX4_begin_14 : decode cX4_begin 14 = .ok (.invokevirtual 54, 3) := by decide +kernel
theorem dX4_begin_17 : decode cX4_begin 17 = .ok (.aload_n 0, 1) := by decide +kernel
theorem dX4_begin_18 : decode cX4_begin 18 = .ok (.invokevirtual 103, 3) := by decide +kernel
theorem dX4_begin_21 : decode cX4_begin 21 = .ok (.aload_n 0, 1) := by decide +kernel
theorem dX4_begin_22 : decode cX4_begin 22 = .ok (.getfield 7, 3) := by decide +kernel
theorem dX4_begin_25 : decode cX4_begin 25 = .ok (.iconst 5, 1) := by decide +kernel
theorem dX4_begin_26 : decode cX4_begin 26 = .ok (.iaload, 1) := by decide +kernel
theorem dX4_begin_27 : decode cX4_begin 27 = .ok (.ireturn, 1) := by decide +kernel
set_option maxRecDepth 20000 in
theorem ggX4_mayBid_X4_canBid : GoodIn wsX4_mayBid wsX4_canBid := goodIn_r _ [6, 1, 7, 8, 9, 5, 10, 11, 12, 13, 14, 15, 16, 17, 18, 19, 20, 21, 22] (by decide +kernel) (by decide +kernel)
set_option maxRecDepth 20000 in
theorem gX4_mayBid_X4_canBid : GoodIn wsX4_mayBid (wsV RX4 94 RX4 yX4_canBid wsX4_canBid) := goodIn_app (goodIn_of _ (by decide +kernel)) ggX4_mayBid_X4_canBid
theorem dX4_mayBid_0 : decode cX4_mayBid 0 = .ok (.aload_n 0, 1) := by decide +kernel
theorem dX4_mayBid_1 : decode cX4_mayBid 1 = .ok (.getfield 7, 3) := by decide +kernel
theorem dX4_mayBid_4 : decode cX4_mayBid 4 = .ok (.iconst 4, 1) := by decide +kernel
theorem dX4_mayBid_5 : decode cX4_mayBid 5 = .ok (.iaload, 1) := by decide +kernel
theorem dX4_mayBid_6 : decode cX4_mayBid 6 = .ok (.iconst 1, 1) := by decide +kernel
theorem dX4_mayBid_7 : decode cX4_mayBid 7 = .ok (.if_icmp .ne 15, 3) := by decide +kernel
theorem dX4_mayBid_10 : decode cX4_mayBid 10 = .ok (.aload_n 0, 1) := by decide +kernel
theorem dX4_mayBid_11 : decode cX4_mayBid 11 = .ok (.iload_n 1, 1) := by decide +kernel
theorem dX4_mayBid_12 : decode cX4_mayBid 12 = .ok (.invokevirtual 94, 3) := by decide +kernel
theorem dX4_mayBid_15 : decode cX4_mayBid 15 = .ok (.ifCond .eq 7, 3) := by decide +kernel
theorem dX4_mayBid_18 : decode cX4_mayBid 18 = .ok (.iconst 1, 1) := by decide +kernel
theorem dX4_mayBid_19 : decode cX4_mayBid 19 = .ok (.goto 4, 3) := by decide +kernel
theorem dX4_mayBid_22 : decode cX4_mayBid 22 = .ok (.iconst 0, 1) := by decide +kernel
theorem dX4_mayBid_23 : decode cX4_mayBid 23 = .ok (.ireturn, 1) := by decide +kernel
set_option maxRecDepth 20000 in
theorem ggX4_bid_X4_in : GoodIn wsX4_bid wsX4_in := goodIn_r _ [7] (by decide +kernel) (by decide +kernel)
set_option maxRecDepth 20000 in
theorem gX4_bid_X4_in : GoodIn wsX4_bid (va_wsS RX4 35 yX4_in wsX4_in) := goodIn_app (goodIn_of _ (by decide +kernel)) ggX4_bid_X4_in
set_option maxRecDepth 20000 in
theorem ggX4_bid_X4_mayBid : GoodIn wsX4_bid wsX4_mayBid := goodIn_r _ [11, 3, 12, 13, 14, 6, 15, 16, 17, 18, 19, 20, 42, 43, 44, 45, 46, 47, 48, 49, 50, 51, 52] (by decide +kernel) (by decide +kernel)
set_option maxRecDepth 20000 in
theorem gX4_bid_X4_mayBid : GoodIn wsX4_bid (wsV RX4 109 RX4 yX4_mayBid wsX4_mayBid) := goodIn_app (goodIn_of _ (by decide +kernel)) ggX4_bid_X4_mayBid
set_option maxRecDepth 20000 in
theorem ggX4_bid_X4_record : GoodIn wsX4_bid wsX4_record := goodIn_r _ [24, 25, 26, 3, 27, 28, 6, 29, 42, 43, 44, 45, 46, 47, 48, 49, 50, 51, 52] (by decide +kernel) (by decide +kernel)
set_option maxRecDepth 20000 in
theorem gX4_bid_X4_record : GoodIn wsX4_bid (wsV RX4 54 RX4 yX4_record wsX4_record) := goodIn_app (goodIn_of _ (by decide +kernel)) ggX4_bid_X4_record
set_option maxRecDepth 20000 in
theorem ggX4_bid_X4_bidNow : GoodIn wsX4_bid wsX4_bidNow := goodIn_r _ [33, 3, 34, 35, 36, 6, 37, 20, 38, 39, 40, 41, 42, 43, 44, 45, 46, 47, 48, 49, 50, 51, 52] (by decide +kernel) (by decide +kernel)
set_option maxRecDepth 20000 in
theorem gX4_bid_X4_bidNow : GoodIn wsX4_bid (wsV RX4 97 RX4 yX4_bidNow wsX4_bidNow) := goodIn_app (goodIn_of _ (by decide +kernel)) ggX4_bid_X4_bidNow
theorem dX4_bid_0 : decode cX4_bid 0 = .ok (.iload_n 1, 1) := by decide +kernel
theorem dX4_bid_1 : decode cX4_bid 1 = .ok (.iconst 0, 1) := by decide +kernel
theorem dX4_bid_2 : decode cX4_bid 2 = .ok (.sipush 9999, 3) := by decide +kernel
theorem dX4_bid_5 : decode cX4_bid 5 = .ok (.invokestatic 35, 3) := by decide +kernel
theorem dX4_bid_8 : decode cX4_bid 8 = .ok (.ifCond .ne 6, 3) := by decide +kernel
theorem dX4_bid_11 : decode cX4_bid 11 = .ok (.ldc 49, 2) := by decide +kernel
theorem dX4_bid_13 : decode cX4_bid 13 = .ok (.ireturn, 1) := by decide +kernel
theorem dX4_bid_14 : decode cX4_bid 14 = .ok (.aload_n 0, 1) := by decide +kernel
theorem dX4_bid_15 : decode cX4_bid 15 = .ok (.iload_n 1, 1) := by decide +kernel
theorem dX4_bid_16 : decode cX4_bid 16 = .ok (.invokevirtual 109, 3) := by decide +kernel
theorem dX4_bid_19 : decode cX4_bid 19 = .ok (.ifCond .ne 6, 3) := by decide +kernel
theorem dX4_bid_22 : decode cX4_bid 22 = .ok (.ldc 48, 2) := by decide +kernel
theorem dX4_bid_24 : decode cX4_bid 24 = .ok (.ireturn, 1) := by decide +kernel
theorem dX4_bid_25 : decode cX4_bid 25 = .ok (.aload_n 0, 1) := by decide +kernel
theorem dX4_bid_26 : decode cX4_bid 26 = .ok (.invokevirtual 54, 3) := by decide +kernel
theorem dX4_bid_29 : decode cX4_bid 29 = .ok (.aload_n 0, 1) := by decide +kernel
theorem dX4_bid_30 : decode cX4_bid 30 = .ok (.iload_n 1, 1) := by decide +kernel
theorem dX4_bid_31 : decode cX4_bid 31 = .ok (.invokevirtual 97, 3) := by decide +kernel
theorem dX4_bid_34 : decode cX4_bid 34 = .ok (.aload_n 0, 1) := by decide +kernel
theorem dX4_bid_35 : decode cX4_bid 35 = .ok (.getfield 7, 3) := by decide +kernel
theorem dX4_bid_38 : decode cX4_bid 38 = .ok (.iconst 5, 1) := by decide +kernel
theorem dX4_bid_39 : decode cX4_bid 39 = .ok (.iaload, 1) := by decide +kernel
theorem dX4_bid_40 : decode cX4_bid 40 = .ok (.ireturn, 1) := by decide +kernel
set_option maxRecDepth 20000 in
theorem ggX4_drop_X4_record : GoodIn wsX4_drop wsX4_record := goodIn_r _ [7, 8, 9, 1, 10, 11, 6, 12, 46, 47, 48, 49, 50, 51, 52, 53, 54, 55, 56] (by decide +kernel) (by decide +kernel)
set_option maxRecDepth 20000 in
theorem gX4_drop_X4_record : GoodIn wsX4_drop (wsV RX4 54 RX4 yX4_record wsX4_record) := goodIn_app (goodIn_of _ (by decide +kernel)) ggX4_drop_X4_record
set_option maxRecDepth 20000 in
theorem ggX4_drop_X4_dropNow : GoodIn wsX4_drop wsX4_dropNow := goodIn_r _ [16, 1, 17, 18, 19, 20, 6, 21, 22, 23, 24, 25, 26, 27, 28, 29, 30, 31, 32, 33, 34, 35, 36, 37, 38, 39, 40, 41, 42, 43, 44, 45, 46, 47, 48, 49, 50, 51, 52, 53, 54, 55, 56] (by decide +kernel) (by decide +kernel)
set_option maxRecDepth 20000 in
theorem gX4_drop_X4_dropNow : GoodIn wsX4_drop (wsV RX4 100 RX4 yX4_dropNow wsX4_dropNow) := goodIn_app (goodIn_of _ (by decide +kernel)) ggX4_drop_X4_dropNow
theorem dX4_drop_0 : decode cX4_drop 0 = .ok (.aload_n 0, 1) := by decide +kernel
theorem dX4_drop_1 : decode cX4_drop 1 = .ok (.getfield 7, 3) := by decide +kernel
theorem dX4_drop_4 : decode cX4_drop 4 = .ok (.iconst 4, 1) := by decide +kernel
theorem dX4_drop_5 : decode cX4_drop 5 = .ok (.iaload, 1) := by decide +kernel
theorem dX4_drop_6 : decode cX4_drop 6 = .ok (.ifCond .ne 6, 3) := by decide +kernel
theorem dX4_drop_9 : decode cX4_drop 9 = .ok (.ldc 48, 2) := by decide +kernel
theorem dX4_drop_11 : decode cX4_drop 11 = .ok (.ireturn, 1) := by decide +kernel
theorem dX4_drop_12 : decode cX4_drop 12 = .ok (.aload_n 0, 1) := by decide +kernel
theorem dX4_drop_13 : decode cX4_drop 13 = .ok (.invokevirtual 54, 3) := by decide +kernel
theorem dX4_drop_16 : decode cX4_drop 16 = .ok (.aload_n 0, 1) := by decide +kernel
theorem dX4_drop_17 : decode cX4_drop 17 = .ok (.invokevirtual 100, 3) := by decide +kernel
theorem dX4_drop_20 : decode cX4_drop 20 = .ok (.aload_n 0, 1) := by decide +kernel
theorem dX4_drop_21 : decode cX4_drop 21 = .ok (.getfield 7, 3) := by decide +kernel
theorem dX4_drop_24 : decode cX4_drop 24 = .ok (.iconst 5, 1) := by decide +kernel
theorem dX4_drop_25 : decode cX4_drop 25 = .ok (.iaload, 1) := by decide +kernel
theorem dX4_drop_26 : decode cX4_drop 26 = .ok (.ireturn, 1) := by decide +kernel
set_option maxRecDepth 20000 in
theorem ggX4_act_X4_record : GoodIn wsX4_act wsX4_record := goodIn_r _ [7, 8, 9, 1, 10, 11, 6, 12, 62, 63, 64, 65, 66, 67, 68, 69, 70, 71, 72] (by decide +kernel) (by decide +kernel)
set_option maxRecDepth 20000 in
theorem gX4_act_X4_record : GoodIn wsX4_act (wsV RX4 54 RX4 yX4_record wsX4_record) := goodIn_app (goodIn_of _ (by decide +kernel)) ggX4_act_X4_record
set_option maxRecDepth 20000 in
theorem ggX4_act_X4_actNow : GoodIn wsX4_act wsX4_actNow := goodIn_r _ [16, 1, 17, 18, 19, 6, 20, 21, 22, 23, 24, 25, 26, 27, 28, 29, 30, 31, 32, 33, 34, 35, 36, 37, 38, 39, 40, 41, 42, 43, 44, 45, 46, 47, 48, 49, 50, 51, 52, 53, 54, 55, 56, 57, 58, 59, 60, 61, 62, 63, 64, 65, 66, 67, 68, 69, 70, 71, 72] (by decide +kernel) (by decide +kernel)
set_option maxRecDepth 20000 in
theorem gX4_act_X4_actNow : GoodIn wsX4_act (wsV RX4 106 RX4 yX4_actNow wsX4_actNow) := goodIn_app (goodIn_of _ (by decide +kernel)) ggX4_act_X4_actNow
theorem dX4_act_0 : decode cX4_act 0 = .ok (.aload_n 0, 1) := by decide +kernel
theorem dX4_act_1 : decode cX4_act 1 = .ok (.getfield 7, 3) := by decide +kernel
theorem dX4_act_4 : decode cX4_act 4 = .ok (.iconst 4, 1) := by decide +kernel
theorem dX4_act_5 : decode cX4_act 5 = .ok (.iaload, 1) := by decide +kernel
theorem dX4_act_6 : decode cX4_act 6 = .ok (.ifCond .ne 6, 3) := by decide +kernel
theorem dX4_act_9 : decode cX4_act 9 = .ok (.ldc 48, 2) := by decide +kernel
theorem dX4_act_11 : decode cX4_act 11 = .ok (.ireturn, 1) := by decide +kernel
theorem dX4_act_12 : decode cX4_act 12 = .ok (.aload_n 0, 1) := by decide +kernel
theorem dX4_act_13 : decode cX4_act 13 = .ok (.invokevirtual 54, 3) := by decide +kernel
theorem dX4_act_16 : decode cX4_act 16 = .ok (.aload_n 0, 1) := by decide +kernel
theorem dX4_act_17 : decode cX4_act 17 = .ok (.invokevirtual 106, 3) := by decide +kernel
theorem dX4_act_20 : decode cX4_act 20 = .ok (.aload_n 0, 1) := by decide +kernel
theorem dX4_act_21 : decode cX4_act 21 = .ok (.getfield 7, 3) := by decide +kernel
theorem dX4_act_24 : decode cX4_act 24 = .ok (.iconst 5, 1) := by decide +kernel
theorem dX4_act_25 : decode cX4_act 25 = .ok (.iaload, 1) := by decide +kernel
theorem dX4_act_26 : decode cX4_act 26 = .ok (.ireturn, 1) := by decide +kernel
set_option maxRecDepth 20000 in
theorem ggX4_finish_X4_record : GoodIn wsX4_finish wsX4_record := goodIn_r _ [5, 6, 7, 8, 9, 10, 4, 11, 69, 70, 71, 72, 73, 74, 75, 76, 77, 78, 79] (by decide +kernel) (by decide +kernel)
set_option maxRecDepth 20000 in
theorem gX4_finish_X4_record : GoodIn wsX4_finish (wsV RX4 54 RX4 yX4_record wsX4_record) := goodIn_app (goodIn_of _ (by decide +kernel)) ggX4_finish_X4_record
set_option maxRecDepth 20000 in
theorem ggX4_finish_X4_finishNow : GoodIn wsX4_finish wsX4_finishNow := goodIn_r _ [15, 8, 16, 17, 18, 4, 19, 20, 21, 22, 23, 24, 25, 26, 27, 28, 29, 30, 31, 32, 33, 34, 35, 36, 37, 38, 39, 40, 41, 42, 43, 44, 45, 46, 47, 48, 49, 50, 51, 52, 53, 54, 55, 56, 57, 58, 59, 60, 61, 62, 63, 64, 65, 66, 67, 68, 69, 70, 71, 72, 73, 74, 75, 76, 77, 78, 79] (by decide +kernel) (by decide +kernel)
set_option maxRecDepth 20000 in
theorem gX4_finish_X4_finishNow : GoodIn wsX4_finish (wsV RX4 112 RX4 yX4_finishNow wsX4_finishNow) := goodIn_app (goodIn_of _ (by decide +kernel)) ggX4_finish_X4_finishNow
set_option maxRecDepth 20000 in
theorem ggX4_finish_X4_playerAt : GoodIn wsX4_finish wsX4_playerAt := goodIn_r _ [28, 24, 8, 69, 70, 71, 72, 73, 74, 75, 76, 77, 78, 79] (by decide +kernel) (by decide +kernel)
set_option maxRecDepth 20000 in
theorem gX4_finish_X4_playerAt : GoodIn wsX4_finish (wsV RX4 70 RX4 yX4_playerAt wsX4_playerAt) := goodIn_app (goodIn_of _ (by decide +kernel)) ggX4_finish_X4_playerAt
theorem dX4_finish_0 : decode cX4_finish 0 = .ok (.aload_n 0, 1) := by decide +kernel
theorem dX4_finish_1 : decode cX4_finish 1 = .ok (.invokevirtual 54, 3) := by decide +kernel
theorem dX4_finish_4 : decode cX4_finish 4 = .ok (.aload_n 0, 1) := by decide +kernel
theorem dX4_finish_5 : decode cX4_finish 5 = .ok (.invokevirtual 112, 3) := by decide +kernel
theorem dX4_finish_8 : decode cX4_finish 8 = .ok (.pop, 1) := by decide +kernel
theorem dX4_finish_9 : decode cX4_finish 9 = .ok (.aload_n 0, 1) := by decide +kernel
theorem dX4_finish_10 : decode cX4_finish 10 = .ok (.iconst 0, 1) := by decide +kernel
theorem dX4_finish_11 : decode cX4_finish 11 = .ok (.invokevirtual 70, 3) := by decide +kernel
theorem dX4_finish_14 : decode cX4_finish 14 = .ok (.ireturn, 1) := by decide +kernel
set_option maxRecDepth 20000 in
theorem ggX4_put_X4_in : GoodIn wsX4_put wsX4_in := goodIn_r _ [9] (by decide +kernel) (by decide +kernel)
set_option maxRecDepth 20000 in
theorem gX4_put_X4_in : GoodIn wsX4_put (va_wsS RX4 35 yX4_in wsX4_in) := goodIn_app (goodIn_of _ (by decide +kernel)) ggX4_put_X4_in
theorem dX4_put_0 : decode cX4_put 0 = .ok (.lload_n 1, 1) := by decide +kernel
theorem dX4_put_1 : decode cX4_put 1 = .ok (.lstore_n 3, 1) := by decide +kernel
theorem dX4_put_2 : decode cX4_put 2 = .ok (.iconst 0, 1) := by decide +kernel
theorem dX4_put_3 : decode cX4_put 3 = .ok (.istore 5, 2) := by decide +kernel
theorem dX4_put_5 : decode cX4_put 5 = .ok (.lload_n 3, 1) := by decide +kernel
theorem dX4_put_6 : decode cX4_put 6 = .ok (.lconst 0, 1) := by decide +kernel
theorem dX4_put_7 : decode cX4_put 7 = .ok (.lcmp, 1) := by decide +kernel
theorem dX4_put_8 : decode cX4_put 8 = .ok (.ifCond .eq 40, 3) := by decide +kernel
theorem dX4_put_11 : decode cX4_put 11 = .ok (.iload 5, 2) := by decide +kernel
theorem dX4_put_13 : decode cX4_put 13 = .ok (.bipush 8, 2) := by decide +kernel
theorem dX4_put_15 : decode cX4_put 15 = .ok (.if_icmp .ge 33, 3) := by decide +kernel
theorem dX4_put_18 : decode cX4_put 18 = .ok (.lload_n 3, 1) := by decide +kernel
theorem dX4_put_19 : decode cX4_put 19 = .ok (.ldc2_w 115, 3) := by decide +kernel
theorem dX4_put_22 : decode cX4_put 22 = .ok (.land, 1) := by decide +kernel
theorem dX4_put_23 : decode cX4_put 23 = .ok (.l2i, 1) := by decide +kernel
theorem dX4_put_24 : decode cX4_put 24 = .ok (.bipush 33, 2) := by decide +kernel
theorem dX4_put_26 : decode cX4_put 26 = .ok (.bipush 126, 2) := by decide +kernel
theorem dX4_put_28 : decode cX4_put 28 = .ok (.invokestatic 35, 3) := by decide +kernel
theorem dX4_put_31 : decode cX4_put 31 = .ok (.ifCond .ne 6, 3) := by decide +kernel
theorem dX4_put_34 : decode cX4_put 34 = .ok (.ldc 49, 2) := by decide +kernel
theorem dX4_put_36 : decode cX4_put 36 = .ok (.ireturn, 1) := by decide +kernel
theorem dX4_put_37 : decode cX4_put 37 = .ok (.lload_n 3, 1) := by decide +kernel
theorem dX4_put_38 : decode cX4_put 38 = .ok (.bipush 8, 2) := by decide +kernel
theorem dX4_put_40 : decode cX4_put 40 = .ok (.lushr, 1) := by decide +kernel
theorem dX4_put_41 : decode cX4_put 41 = .ok (.lstore_n 3, 1) := by decide +kernel
theorem dX4_put_42 : decode cX4_put 42 = .ok (.iinc 5 1, 3) := by decide +kernel
theorem dX4_put_45 : decode cX4_put 45 = .ok (.goto (-40), 3) := by decide +kernel
theorem dX4_put_48 : decode cX4_put 48 = .ok (.iload 5, 2) := by decide +kernel
theorem dX4_put_50 : decode cX4_put 50 = .ok (.ifCond .ne 6, 3) := by decide +kernel
theorem dX4_put_53 : decode cX4_put 53 = .ok (.ldc 49, 2) := by decide +kernel
theorem dX4_put_55 : decode cX4_put 55 = .ok (.ireturn, 1) := by decide +kernel
theorem dX4_put_56 : decode cX4_put 56 = .ok (.aload_n 0, 1) := by decide +kernel
theorem dX4_put_57 : decode cX4_put 57 = .ok (.getfield 117, 3) := by decide +kernel
theorem dX4_put_60 : decode cX4_put 60 = .ok (.iload 5, 2) := by decide +kernel
theorem dX4_put_62 : decode cX4_put 62 = .ok (.iadd, 1) := by decide +kernel
theorem dX4_put_63 : decode cX4_put 63 = .ok (.bipush 60, 2) := by decide +kernel
theorem dX4_put_65 : decode cX4_put 65 = .ok (.if_icmp .le 6, 3) := by decide +kernel
theorem dX4_put_68 : decode cX4_put 68 = .ok (.ldc 120, 2) := by decide +kernel
theorem dX4_put_70 : decode cX4_put 70 = .ok (.ireturn, 1) := by decide +kernel
theorem dX4_put_71 : decode cX4_put 71 = .ok (.iload 5, 2) := by decide +kernel
theorem dX4_put_73 : decode cX4_put 73 = .ok (.iconst 1, 1) := by decide +kernel
theorem dX4_put_74 : decode cX4_put 74 = .ok (.isub, 1) := by decide +kernel
theorem dX4_put_75 : decode cX4_put 75 = .ok (.istore 6, 2) := by decide +kernel
theorem dX4_put_77 : decode cX4_put 77 = .ok (.iload 6, 2) := by decide +kernel
theorem dX4_put_79 : decode cX4_put 79 = .ok (.ifCond .lt 40, 3) := by decide +kernel
theorem dX4_put_82 : decode cX4_put 82 = .ok (.aload_n 0, 1) := by decide +kernel
theorem dX4_put_83 : decode cX4_put 83 = .ok (.getfield 26, 3) := by decide +kernel
theorem dX4_put_86 : decode cX4_put 86 = .ok (.aload_n 0, 1) := by decide +kernel
theorem dX4_put_87 : decode cX4_put 87 = .ok (.getfield 117, 3) := by decide +kernel
theorem dX4_put_90 : decode cX4_put 90 = .ok (.lload_n 1, 1) := by decide +kernel
theorem dX4_put_91 : decode cX4_put 91 = .ok (.bipush 8, 2) := by decide +kernel
theorem dX4_put_93 : decode cX4_put 93 = .ok (.iload 6, 2) := by decide +kernel
theorem dX4_put_95 : decode cX4_put 95 = .ok (.imul, 1) := by decide +kernel
theorem dX4_put_96 : decode cX4_put 96 = .ok (.lushr, 1) := by decide +kernel
theorem dX4_put_97 : decode cX4_put 97 = .ok (.ldc2_w 115, 3) := by decide +kernel
theorem dX4_put_100 : decode cX4_put 100 = .ok (.land, 1) := by decide +kernel
theorem dX4_put_101 : decode cX4_put 101 = .ok (.l2i, 1) := by decide +kernel
theorem dX4_put_102 : decode cX4_put 102 = .ok (.iastore, 1) := by decide +kernel
theorem dX4_put_103 : decode cX4_put 103 = .ok (.aload_n 0, 1) := by decide +kernel
theorem dX4_put_104 : decode cX4_put 104 = .ok (.dup, 1) := by decide +kernel
theorem dX4_put_105 : decode cX4_put 105 = .ok (.getfield 117, 3) := by decide +kernel
theorem dX4_put_108 : decode cX4_put 108 = .ok (.iconst 1, 1) := by decide +kernel
theorem dX4_put_109 : decode cX4_put 109 = .ok (.iadd, 1) := by decide +kernel
theorem dX4_put_110 : decode cX4_put 110 = .ok (.putfield 117, 3) := by decide +kernel
theorem dX4_put_113 : decode cX4_put 113 = .ok (.iinc 6 (-1), 3) := by decide +kernel
theorem dX4_put_116 : decode cX4_put 116 = .ok (.goto (-39), 3) := by decide +kernel
theorem dX4_put_119 : decode cX4_put 119 = .ok (.aload_n 0, 1) := by decide +kernel
theorem dX4_put_120 : decode cX4_put 120 = .ok (.getfield 117, 3) := by decide +kernel
theorem dX4_put_123 : decode cX4_put 123 = .ok (.ireturn, 1) := by decide +kernel
theorem dX4_wipe_0 : decode cX4_wipe 0 = .ok (.aload_n 0, 1) := by decide +kernel
theorem dX4_wipe_1 : decode cX4_wipe 1 = .ok (.getfield 117, 3) := by decide +kernel
theorem dX4_wipe_4 : decode cX4_wipe 4 = .ok (.istore_n 1, 1) := by decide +kernel
theorem dX4_wipe_5 : decode cX4_wipe 5 = .ok (.aload_n 0, 1) := by decide +kernel
theorem dX4_wipe_6 : decode cX4_wipe 6 = .ok (.iconst 0, 1) := by decide +kernel
theorem dX4_wipe_7 : decode cX4_wipe 7 = .ok (.putfield 117, 3) := by decide +kernel
theorem dX4_wipe_10 : decode cX4_wipe 10 = .ok (.iload_n 1, 1) := by decide +kernel
theorem dX4_wipe_11 : decode cX4_wipe 11 = .ok (.ireturn, 1) := by decide +kernel
set_option maxRecDepth 20000 in
theorem ggX4_sees_X4_in : GoodIn wsX4_sees wsX4_in := goodIn_r _ [7] (by decide +kernel) (by decide +kernel)
set_option maxRecDepth 20000 in
theorem gX4_sees_X4_in : GoodIn wsX4_sees (va_wsS RX4 35 yX4_in wsX4_in) := goodIn_app (goodIn_of _ (by decide +kernel)) ggX4_sees_X4_in
theorem dX4_sees_0 : decode cX4_sees 0 = .ok (.aload_n 0, 1) := by decide +kernel
theorem dX4_sees_1 : decode cX4_sees 1 = .ok (.getfield 121, 3) := by decide +kernel
theorem dX4_sees_4 : decode cX4_sees 4 = .ok (.aload_n 0, 1) := by decide +kernel
theorem dX4_sees_5 : decode cX4_sees 5 = .ok (.getfield 117, 3) := by decide +kernel
theorem dX4_sees_8 : decode cX4_sees 8 = .ok (.if_icmp .ge 24, 3) := by decide +kernel
theorem dX4_sees_11 : decode cX4_sees 11 = .ok (.aload_n 0, 1) := by decide +kernel
theorem dX4_sees_12 : decode cX4_sees 12 = .ok (.getfield 26, 3) := by decide +kernel
theorem dX4_sees_15 : decode cX4_sees 15 = .ok (.aload_n 0, 1) := by decide +kernel
theorem dX4_sees_16 : decode cX4_sees 16 = .ok (.getfield 121, 3) := by decide +kernel
theorem dX4_sees_19 : decode cX4_sees 19 = .ok (.iaload, 1) := by decide +kernel
theorem dX4_sees_20 : decode cX4_sees 20 = .ok (.iload_n 1, 1) := by decide +kernel
theorem dX4_sees_21 : decode cX4_sees 21 = .ok (.iload_n 2, 1) := by decide +kernel
theorem dX4_sees_22 : decode cX4_sees 22 = .ok (.invokestatic 35, 3) := by decide +kernel
theorem dX4_sees_25 : decode cX4_sees 25 = .ok (.ifCond .eq 7, 3) := by decide +kernel
theorem dX4_sees_28 : decode cX4_sees 28 = .ok (.iconst 1, 1) := by decide +kernel
theorem dX4_sees_29 : decode cX4_sees 29 = .ok (.goto 4, 3) := by decide +kernel
theorem dX4_sees_32 : decode cX4_sees 32 = .ok (.iconst 0, 1) := by decide +kernel
theorem dX4_sees_33 : decode cX4_sees 33 = .ok (.ireturn, 1) := by decide +kernel
set_option maxRecDepth 20000 in
theorem ggX4_takes_X4_sees : GoodIn wsX4_takes wsX4_sees := goodIn_r _ [6, 1, 7, 8, 9, 10, 5, 11, 12, 13, 14, 15, 16, 17, 18, 19, 20, 21, 22] (by decide +kernel) (by decide +kernel)
set_option maxRecDepth 20000 in
theorem gX4_takes_X4_sees : GoodIn wsX4_takes (wsV RX4 124 RX4 yX4_sees wsX4_sees) := goodIn_app (goodIn_of _ (by decide +kernel)) ggX4_takes_X4_sees
theorem dX4_takes_0 : decode cX4_takes 0 = .ok (.aload_n 0, 1) := by decide +kernel
theorem dX4_takes_1 : decode cX4_takes 1 = .ok (.iload_n 1, 1) := by decide +kernel
theorem dX4_takes_2 : decode cX4_takes 2 = .ok (.iload_n 1, 1) := by decide +kernel
theorem dX4_takes_3 : decode cX4_takes 3 = .ok (.invokevirtual 124, 3) := by decide +kernel
theorem dX4_takes_6 : decode cX4_takes 6 = .ok (.istore_n 2, 1) := by decide +kernel
theorem dX4_takes_7 : decode cX4_takes 7 = .ok (.aload_n 0, 1) := by decide +kernel
theorem dX4_takes_8 : decode cX4_takes 8 = .ok (.dup, 1) := by decide +kernel
theorem dX4_takes_9 : decode cX4_takes 9 = .ok (.getfield 121, 3) := by decide +kernel
theorem dX4_takes_12 : decode cX4_takes 12 = .ok (.iload_n 2, 1) := by decide +kernel
theorem dX4_takes_13 : decode cX4_takes 13 = .ok (.ifCond .eq 7, 3) := by decide +kernel
theorem dX4_takes_16 : decode cX4_takes 16 = .ok (.iconst 1, 1) := by decide +kernel
theorem dX4_takes_17 : decode cX4_takes 17 = .ok (.goto 4, 3) := by decide +kernel
theorem dX4_takes_20 : decode cX4_takes 20 = .ok (.iconst 0, 1) := by decide +kernel
theorem dX4_takes_21 : decode cX4_takes 21 = .ok (.iadd, 1) := by decide +kernel
theorem dX4_takes_22 : decode cX4_takes 22 = .ok (.putfield 121, 3) := by decide +kernel
theorem dX4_takes_25 : decode cX4_takes 25 = .ok (.iload_n 2, 1) := by decide +kernel
theorem dX4_takes_26 : decode cX4_takes 26 = .ok (.ireturn, 1) := by decide +kernel
set_option maxRecDepth 20000 in
theorem ggX4_readMove_X4_in : GoodIn wsX4_readMove wsX4_in := goodIn_r _ [9] (by decide +kernel) (by decide +kernel)
set_option maxRecDepth 20000 in
theorem gX4_readMove_X4_in : GoodIn wsX4_readMove (va_wsS RX4 35 yX4_in wsX4_in) := goodIn_app (goodIn_of _ (by decide +kernel)) ggX4_readMove_X4_in
set_option maxRecDepth 20000 in
theorem ggX4_readMove_X4_sees : GoodIn wsX4_readMove wsX4_sees := goodIn_r _ [13, 1, 2, 3, 6, 7, 8, 9, 14, 15, 16, 17, 18, 19, 20, 21, 22, 23, 24] (by decide +kernel) (by decide +kernel)
set_option maxRecDepth 20000 in
theorem gX4_readMove_X4_sees : GoodIn wsX4_readMove (wsV RX4 124 RX4 yX4_sees wsX4_sees) := goodIn_app (goodIn_of _ (by decide +kernel)) ggX4_readMove_X4_sees
theorem dX4_readMove_0 : decode cX4_readMove 0 = .ok (.aload_n 0, 1) := by decide +kernel
theorem dX4_readMove_1 : decode cX4_readMove 1 = .ok (.getfield 121, 3) := by decide +kernel
theorem dX4_readMove_4 : decode cX4_readMove 4 = .ok (.aload_n 0, 1) := by decide +kernel
theorem dX4_readMove_5 : decode cX4_readMove 5 = .ok (.getfield 117, 3) := by decide +kernel
theorem dX4_readMove_8 : decode cX4_readMove 8 = .ok (.if_icmp .ge 15, 3) := by decide +kernel
theorem dX4_readMove_11 : decode cX4_readMove 11 = .ok (.aload_n 0, 1) := by decide +kernel
theorem dX4_readMove_12 : decode cX4_readMove 12 = .ok (.getfield 26, 3) := by decide +kernel
theorem dX4_readMove_15 : decode cX4_readMove 15 = .ok (.aload_n 0, 1) := by decide +kernel
theorem dX4_readMove_16 : decode cX4_readMove 16 = .ok (.getfield 121, 3) := by decide +kernel
theorem dX4_readMove_19 : decode cX4_readMove 19 = .ok (.iaload, 1) := by decide +kernel
theorem dX4_readMove_20 : decode cX4_readMove 20 = .ok (.goto 4, 3) := by decide +kernel
theorem dX4_readMove_23 : decode cX4_readMove 23 = .ok (.iconst 0, 1) := by decide +kernel
theorem dX4_readMove_24 : decode cX4_readMove 24 = .ok (.istore_n 1, 1) := by decide +kernel
theorem dX4_readMove_25 : decode cX4_readMove 25 = .ok (.iload_n 1, 1) := by decide +kernel
theorem dX4_readMove_26 : decode cX4_readMove 26 = .ok (.bipush 48, 2) := by decide +kernel
theorem dX4_readMove_28 : decode cX4_readMove 28 = .ok (.bipush 57, 2) := by decide +kernel
theorem dX4_readMove_30 : decode cX4_readMove 30 = .ok (.invokestatic 35, 3) := by decide +kernel
theorem dX4_readMove_33 : decode cX4_readMove 33 = .ok (.istore_n 2, 1) := by decide +kernel
theorem dX4_readMove_34 : decode cX4_readMove 34 = .ok (.iload_n 2, 1) := by decide +kernel
theorem dX4_readMove_35 : decode cX4_readMove 35 = .ok (.ifCond .ne 29, 3) := by decide +kernel
theorem dX4_readMove_38 : decode cX4_readMove 38 = .ok (.iload_n 1, 1) := by decide +kernel
theorem dX4_readMove_39 : decode cX4_readMove 39 = .ok (.bipush 43, 2) := by decide +kernel
theorem dX4_readMove_41 : decode cX4_readMove 41 = .ok (.if_icmp .eq 23, 3) := by decide +kernel
theorem dX4_readMove_44 : decode cX4_readMove 44 = .ok (.iload_n 1, 1) := by decide +kernel
theorem dX4_readMove_45 : decode cX4_readMove 45 = .ok (.bipush 45, 2) := by decide +kernel
theorem dX4_readMove_47 : decode cX4_readMove 47 = .ok (.if_icmp .eq 17, 3) := by decide +kernel
theorem dX4_readMove_50 : decode cX4_readMove 50 = .ok (.iload_n 1, 1) := by decide +kernel
theorem dX4_readMove_51 : decode cX4_readMove 51 = .ok (.bipush 42, 2) := by decide +kernel
theorem dX4_readMove_53 : decode cX4_readMove 53 = .ok (.if_icmp .eq 11, 3) := by decide +kernel
theorem dX4_readMove_56 : decode cX4_readMove 56 = .ok (.iload_n 1, 1) := by decide +kernel
theorem dX4_readMove_57 : decode cX4_readMove 57 = .ok (.bipush 33, 2) := by decide +kernel
theorem dX4_readMove_59 : decode cX4_readMove 59 = .ok (.if_icmp .eq 5, 3) := by decide +kernel
theorem dX4_readMove_62 : decode cX4_readMove 62 = .ok (.iconst 0, 1) := by decide +kernel
theorem dX4_readMove_63 : decode cX4_readMove 63 = .ok (.ireturn, 1) := by decide +kernel
theorem dX4_readMove_64 : decode cX4_readMove 64 = .ok (.iload_n 2, 1) := by decide +kernel
theorem dX4_readMove_65 : decode cX4_readMove 65 = .ok (.ifCond .eq 10, 3) := by decide +kernel
theorem dX4_readMove_68 : decode cX4_readMove 68 = .ok (.iload_n 1, 1) := by decide +kernel
theorem dX4_readMove_69 : decode cX4_readMove 69 = .ok (.bipush 48, 2) := by decide +kernel
theorem dX4_readMove_71 : decode cX4_readMove 71 = .ok (.isub, 1) := by decide +kernel
theorem dX4_readMove_72 : decode cX4_readMove 72 = .ok (.goto 8, 3) := by decide +kernel
theorem dX4_readMove_75 : decode cX4_readMove 75 = .ok (.iload_n 1, 1) := by decide +kernel
theorem dX4_readMove_76 : decode cX4_readMove 76 = .ok (.sipush 1000, 3) := by decide +kernel
theorem dX4_readMove_79 : decode cX4_readMove 79 = .ok (.isub, 1) := by decide +kernel
theorem dX4_readMove_80 : decode cX4_readMove 80 = .ok (.istore_n 3, 1) := by decide +kernel
theorem dX4_readMove_81 : decode cX4_readMove 81 = .ok (.aload_n 0, 1) := by decide +kernel
theorem dX4_readMove_82 : decode cX4_readMove 82 = .ok (.dup, 1) := by decide +kernel
theorem dX4_readMove_83 : decode cX4_readMove 83 = .ok (.getfield 121, 3) := by decide +kernel
theorem dX4_readMove_86 : decode cX4_readMove 86 = .ok (.iconst 1, 1) := by decide +kernel
theorem dX4_readMove_87 : decode cX4_readMove 87 = .ok (.iadd, 1) := by decide +kernel
theorem dX4_readMove_88 : decode cX4_readMove 88 = .ok (.putfield 121, 3) := by decide +kernel
theorem dX4_readMove_91 : decode cX4_readMove 91 = .ok (.iload_n 3, 1) := by decide +kernel
theorem dX4_readMove_92 : decode cX4_readMove 92 = .ok (.ifCond .le 68, 3) := by decide +kernel
theorem dX4_readMove_95 : decode cX4_readMove 95 = .ok (.aload_n 0, 1) := by decide +kernel
theorem dX4_readMove_96 : decode cX4_readMove 96 = .ok (.bipush 48, 2) := by decide +kernel
theorem dX4_readMove_98 : decode cX4_readMove 98 = .ok (.bipush 57, 2) := by decide +kernel
theorem dX4_readMove_100 : decode cX4_readMove 100 = .ok (.invokevirtual 124, 3) := by decide +kernel
theorem dX4_readMove_103 : decode cX4_readMove 103 = .ok (.ifCond .eq 57, 3) := by decide +kernel
theorem dX4_readMove_106 : decode cX4_readMove 106 = .ok (.bipush 10, 2) := by decide +kernel
theorem dX4_readMove_108 : decode cX4_readMove 108 = .ok (.iload_n 3, 1) := by decide +kernel
theorem dX4_readMove_109 : decode cX4_readMove 109 = .ok (.imul, 1) := by decide +kernel
theorem dX4_readMove_110 : decode cX4_readMove 110 = .ok (.aload_n 0, 1) := by decide +kernel
theorem dX4_readMove_111 : decode cX4_readMove 111 = .ok (.getfield 26, 3) := by decide +kernel
theorem dX4_readMove_114 : decode cX4_readMove 114 = .ok (.aload_n 0, 1) := by decide +kernel
theorem dX4_readMove_115 : decode cX4_readMove 115 = .ok (.getfield 121, 3) := by decide +kernel
theorem dX4_readMove_118 : decode cX4_readMove 118 = .ok (.iaload, 1) := by decide +kernel
theorem dX4_readMove_119 : decode cX4_readMove 119 = .ok (.iadd, 1) := by decide +kernel
theorem dX4_readMove_120 : decode cX4_readMove 120 = .ok (.bipush 48, 2) := by decide +kernel
theorem dX4_readMove_122 : decode cX4_readMove 122 = .ok (.isub, 1) := by decide +kernel
theorem dX4_readMove_123 : decode cX4_readMove 123 = .ok (.sipush 9999, 3) := by decide +kernel
theorem dX4_readMove_126 : decode cX4_readMove 126 = .ok (.if_icmp .gt 34, 3) := by decide +kernel
theorem dX4_readMove_129 : decode cX4_readMove 129 = .ok (.bipush 10, 2) := by decide +kernel
theorem dX4_readMove_131 : decode cX4_readMove 131 = .ok (.iload_n 3, 1) := by decide +kernel
theorem dX4_readMove_132 : decode cX4_readMove 132 = .ok (.imul, 1) := by decide +kernel
theorem dX4_readMove_133 : decode cX4_readMove 133 = .ok (.aload_n 0, 1) := by decide +kernel
theorem dX4_readMove_134 : decode cX4_readMove 134 = .ok (.getfield 26, 3) := by decide +kernel
theorem dX4_readMove_137 : decode cX4_readMove 137 = .ok (.aload_n 0, 1) := by decide +kernel
theorem dX4_readMove_138 : decode cX4_readMove 138 = .ok (.getfield 121, 3) := by decide +kernel
theorem dX4_readMove_141 : decode cX4_readMove 141 = .ok (.iaload, 1) := by decide +kernel
theorem dX4_readMove_142 : decode cX4_readMove 142 = .ok (.iadd, 1) := by decide +kernel
theorem dX4_readMove_143 : decode cX4_readMove 143 = .ok (.bipush 48, 2) := by decide +kernel
theorem dX4_readMove_145 : decode cX4_readMove 145 = .ok (.isub, 1) := by decide +kernel
theorem dX4_readMove_146 : decode cX4_readMove 146 = .ok (.istore_n 3, 1) := by decide +kernel
theorem dX4_readMove_147 : decode cX4_readMove 147 = .ok (.aload_n 0, 1) := by decide +kernel
theorem dX4_readMove_148 : decode cX4_readMove 148 = .ok (.dup, 1) := by decide +kernel
theorem dX4_readMove_149 : decode cX4_readMove 149 = .ok (.getfield 121, 3) := by decide +kernel
theorem dX4_readMove_152 : decode cX4_readMove 152 = .ok (.iconst 1, 1) := by decide +kernel
theorem dX4_readMove_153 : decode cX4_readMove 153 = .ok (.iadd, 1) := by decide +kernel
theorem dX4_readMove_154 : decode cX4_readMove 154 = .ok (.putfield 121, 3) := by decide +kernel
theorem dX4_readMove_157 : decode cX4_readMove 157 = .ok (.goto (-66), 3) := by decide +kernel
theorem dX4_readMove_160 : decode cX4_readMove 160 = .ok (.aload_n 0, 1) := by decide +kernel
theorem dX4_readMove_161 : decode cX4_readMove 161 = .ok (.getfield 29, 3) := by decide +kernel
theorem dX4_readMove_164 : decode cX4_readMove 164 = .ok (.aload_n 0, 1) := by decide +kernel
theorem dX4_readMove_165 : decode cX4_readMove 165 = .ok (.getfield 127, 3) := by decide +kernel
theorem dX4_readMove_168 : decode cX4_readMove 168 = .ok (.iload_n 3, 1) := by decide +kernel
theorem dX4_readMove_169 : decode cX4_readMove 169 = .ok (.iastore, 1) := by decide +kernel
theorem dX4_readMove_170 : decode cX4_readMove 170 = .ok (.aload_n 0, 1) := by decide +kernel
theorem dX4_readMove_171 : decode cX4_readMove 171 = .ok (.dup, 1) := by decide +kernel
theorem dX4_readMove_172 : decode cX4_readMove 172 = .ok (.getfield 127, 3) := by decide +kernel
theorem dX4_readMove_175 : decode cX4_readMove 175 = .ok (.iconst 1, 1) := by decide +kernel
theorem dX4_readMove_176 : decode cX4_readMove 176 = .ok (.iadd, 1) := by decide +kernel
theorem dX4_readMove_177 : decode cX4_readMove 177 = .ok (.putfield 127, 3) := by decide +kernel
theorem dX4_readMove_180 : decode cX4_readMove 180 = .ok (.iconst 1, 1) := by decide +kernel
theorem dX4_readMove_181 : decode cX4_readMove 181 = .ok (.ireturn, 1) := by decide +kernel
set_option maxRecDepth 20000 in
theorem ggX4_readPad_X4_readMove : GoodIn wsX4_readPad wsX4_readMove := goodIn_r _ [8, 1, 3, 9, 10, 2, 11, 12, 7, 13, 14, 15, 16, 17, 22, 23, 24, 25, 26, 27, 28, 29, 30, 31, 32] (by decide +kernel) (by decide +kernel)
set_option maxRecDepth 20000 in
theorem gX4_readPad_X4_readMove : GoodIn wsX4_readPad (wsV RX4 130 RX4 yX4_readMove wsX4_readMove) := goodIn_app (goodIn_of _ (by decide +kernel)) ggX4_readPad_X4_readMove
set_option maxRecDepth 20000 in
theorem ggX4_readPad_X4_takes : GoodIn wsX4_readPad wsX4_takes := goodIn_r _ [21, 1, 14, 15, 16, 7, 17, 3, 9, 11, 12, 13, 22, 23, 24, 25, 26, 27, 28, 29, 30, 31, 32] (by decide +kernel) (by decide +kernel)
set_option maxRecDepth 20000 in
theorem gX4_readPad_X4_takes : GoodIn wsX4_readPad (wsV RX4 134 RX4 yX4_takes wsX4_takes) := goodIn_app (goodIn_of _ (by decide +kernel)) ggX4_readPad_X4_takes
theorem dX4_readPad_0 : decode cX4_readPad 0 = .ok (.aload_n 0, 1) := by decide +kernel
theorem dX4_readPad_1 : decode cX4_readPad 1 = .ok (.iconst 0, 1) := by decide +kernel
theorem dX4_readPad_2 : decode cX4_readPad 2 = .ok (.putfield 121, 3) := by decide +kernel
theorem dX4_readPad_5 : decode cX4_readPad 5 = .ok (.aload_n 0, 1) := by decide +kernel
theorem dX4_readPad_6 : decode cX4_readPad 6 = .ok (.iconst 0, 1) := by decide +kernel
theorem dX4_readPad_7 : decode cX4_readPad 7 = .ok (.putfield 127, 3) := by decide +kernel
theorem dX4_readPad_10 : decode cX4_readPad 10 = .ok (.aload_n 0, 1) := by decide +kernel
theorem dX4_readPad_11 : decode cX4_readPad 11 = .ok (.invokevirtual 130, 3) := by decide +kernel
theorem dX4_readPad_14 : decode cX4_readPad 14 = .ok (.istore_n 1, 1) := by decide +kernel
theorem dX4_readPad_15 : decode cX4_readPad 15 = .ok (.iload_n 1, 1) := by decide +kernel
theorem dX4_readPad_16 : decode cX4_readPad 16 = .ok (.ifCond .eq 39, 3) := by decide +kernel
theorem dX4_readPad_19 : decode cX4_readPad 19 = .ok (.aload_n 0, 1) := by decide +kernel
theorem dX4_readPad_20 : decode cX4_readPad 20 = .ok (.getfield 121, 3) := by decide +kernel
theorem dX4_readPad_23 : decode cX4_readPad 23 = .ok (.aload_n 0, 1) := by decide +kernel
theorem dX4_readPad_24 : decode cX4_readPad 24 = .ok (.getfield 117, 3) := by decide +kernel
theorem dX4_readPad_27 : decode cX4_readPad 27 = .ok (.if_icmp .ge 28, 3) := by decide +kernel
theorem dX4_readPad_30 : decode cX4_readPad 30 = .ok (.aload_n 0, 1) := by decide +kernel
theorem dX4_readPad_31 : decode cX4_readPad 31 = .ok (.bipush 44, 2) := by decide +kernel
theorem dX4_readPad_33 : decode cX4_readPad 33 = .ok (.invokevirtual 134, 3) := by decide +kernel
theorem dX4_readPad_36 : decode cX4_readPad 36 = .ok (.ifCond .eq 14, 3) := by decide +kernel
theorem dX4_readPad_39 : decode cX4_readPad 39 = .ok (.aload_n 0, 1) := by decide +kernel
theorem dX4_readPad_40 : decode cX4_readPad 40 = .ok (.invokevirtual 130, 3) := by decide +kernel
theorem dX4_readPad_43 : decode cX4_readPad 43 = .ok (.ifCond .eq 7, 3) := by decide +kernel
theorem dX4_readPad_46 : decode cX4_readPad 46 = .ok (.iconst 1, 1) := by decide +kernel
theorem dX4_readPad_47 : decode cX4_readPad 47 = .ok (.goto 4, 3) := by decide +kernel
theorem dX4_readPad_50 : decode cX4_readPad 50 = .ok (.iconst 0, 1) := by decide +kernel
theorem dX4_readPad_51 : decode cX4_readPad 51 = .ok (.istore_n 1, 1) := by decide +kernel
theorem dX4_readPad_52 : decode cX4_readPad 52 = .ok (.goto (-37), 3) := by decide +kernel
theorem dX4_readPad_55 : decode cX4_readPad 55 = .ok (.iload_n 1, 1) := by decide +kernel
theorem dX4_readPad_56 : decode cX4_readPad 56 = .ok (.ireturn, 1) := by decide +kernel
set_option maxRecDepth 20000 in
theorem ggX4_fault_X4_readPad : GoodIn wsX4_fault wsX4_readPad := goodIn_r _ [7, 2, 8, 9, 10, 11, 12, 6, 13, 14, 15, 16, 17, 18, 19, 20, 21, 22, 23, 24, 25, 26, 27, 28, 29, 30, 31, 32, 33, 34, 35, 36, 37] (by decide +kernel) (by decide +kernel)
set_option maxRecDepth 20000 in
theorem gX4_fault_X4_readPad : GoodIn wsX4_fault (wsV RX4 137 RX4 yX4_readPad wsX4_readPad) := goodIn_app (goodIn_of _ (by decide +kernel)) ggX4_fault_X4_readPad
theorem dX4_fault_0 : decode cX4_fault 0 = .ok (.aload_n 0, 1) := by decide +kernel
theorem dX4_fault_1 : decode cX4_fault 1 = .ok (.invokevirtual 137, 3) := by decide +kernel
theorem dX4_fault_4 : decode cX4_fault 4 = .ok (.ifCond .eq 8, 3) := by decide +kernel
theorem dX4_fault_7 : decode cX4_fault 7 = .ok (.ldc 39, 2) := by decide +kernel
theorem dX4_fault_9 : decode cX4_fault 9 = .ok (.goto 7, 3) := by decide +kernel
theorem dX4_fault_12 : decode cX4_fault 12 = .ok (.aload_n 0, 1) := by decide +kernel
theorem dX4_fault_13 : decode cX4_fault 13 = .ok (.getfield 121, 3) := by decide +kernel
theorem dX4_fault_16 : decode cX4_fault 16 = .ok (.ireturn, 1) := by decide +kernel
set_option maxRecDepth 20000 in
theorem ggX4_can_X4_mayBid : GoodIn wsX4_can wsX4_mayBid := goodIn_r _ [6, 1, 7, 8, 9, 5, 10, 11, 12, 13, 14, 15, 16, 17, 18, 19, 20, 21, 22, 23, 24, 25, 26] (by decide +kernel) (by decide +kernel)
set_option maxRecDepth 20000 in
theorem gX4_can_X4_mayBid : GoodIn wsX4_can (wsV RX4 109 RX4 yX4_mayBid wsX4_mayBid) := goodIn_app (goodIn_of _ (by decide +kernel)) ggX4_can_X4_mayBid
theorem dX4_can_0 : decode cX4_can 0 = .ok (.iload_n 1, 1) := by decide +kernel
theorem dX4_can_1 : decode cX4_can 1 = .ok (.ifCond .lt 9, 3) := by decide +kernel
theorem dX4_can_4 : decode cX4_can 4 = .ok (.aload_n 0, 1) := by decide +kernel
theorem dX4_can_5 : decode cX4_can 5 = .ok (.iload_n 1, 1) := by decide +kernel
theorem dX4_can_6 : decode cX4_can 6 = .ok (.invokevirtual 109, 3) := by decide +kernel
theorem dX4_can_9 : decode cX4_can 9 = .ok (.ireturn, 1) := by decide +kernel
theorem dX4_can_10 : decode cX4_can 10 = .ok (.iload_n 1, 1) := by decide +kernel
theorem dX4_can_11 : decode cX4_can 11 = .ok (.sipush 1000, 3) := by decide +kernel
theorem dX4_can_14 : decode cX4_can 14 = .ok (.iadd, 1) := by decide +kernel
theorem dX4_can_15 : decode cX4_can 15 = .ok (.istore_n 2, 1) := by decide +kernel
theorem dX4_can_16 : decode cX4_can 16 = .ok (.iload_n 2, 1) := by decide +kernel
theorem dX4_can_17 : decode cX4_can 17 = .ok (.bipush 33, 2) := by decide +kernel
theorem dX4_can_19 : decode cX4_can 19 = .ok (.if_icmp .eq 31, 3) := by decide +kernel
theorem dX4_can_22 : decode cX4_can 22 = .ok (.iload_n 2, 1) := by decide +kernel
theorem dX4_can_23 : decode cX4_can 23 = .ok (.bipush 43, 2) := by decide +kernel
theorem dX4_can_25 : decode cX4_can 25 = .ok (.if_icmp .ne 7, 3) := by decide +kernel
theorem dX4_can_28 : decode cX4_can 28 = .ok (.iconst 1, 1) := by decide +kernel
theorem dX4_can_29 : decode cX4_can 29 = .ok (.goto 4, 3) := by decide +kernel
theorem dX4_can_32 : decode cX4_can 32 = .ok (.iconst 0, 1) := by decide +kernel
theorem dX4_can_33 : decode cX4_can 33 = .ok (.aload_n 0, 1) := by decide +kernel
theorem dX4_can_34 : decode cX4_can 34 = .ok (.getfield 7, 3) := by decide +kernel
theorem dX4_can_37 : decode cX4_can 37 = .ok (.iconst 4, 1) := by decide +kernel
theorem dX4_can_38 : decode cX4_can 38 = .ok (.iaload, 1) := by decide +kernel
theorem dX4_can_39 : decode cX4_can 39 = .ok (.ifCond .ne 7, 3) := by decide +kernel
theorem dX4_can_42 : decode cX4_can 42 = .ok (.iconst 1, 1) := by decide +kernel
theorem dX4_can_43 : decode cX4_can 43 = .ok (.goto 4, 3) := by decide +kernel
theorem dX4_can_46 : decode cX4_can 46 = .ok (.iconst 0, 1) := by decide +kernel
theorem dX4_can_47 : decode cX4_can 47 = .ok (.if_icmp .ne 7, 3) := by decide +kernel
theorem dX4_can_50 : decode cX4_can 50 = .ok (.iconst 1, 1) := by decide +kernel
theorem dX4_can_51 : decode cX4_can 51 = .ok (.goto 4, 3) := by decide +kernel
theorem dX4_can_54 : decode cX4_can 54 = .ok (.iconst 0, 1) := by decide +kernel
theorem dX4_can_55 : decode cX4_can 55 = .ok (.ireturn, 1) := by decide +kernel
set_option maxRecDepth 20000 in
theorem ggX4_doMove_X4_beginNow : GoodIn wsX4_doMove wsX4_beginNow := goodIn_r _ [5, 6, 7, 8, 9, 4, 10, 11, 12, 13, 14, 15, 60, 61, 62, 63, 64, 65, 66, 67, 68, 69, 70] (by decide +kernel) (by decide +kernel)
set_option maxRecDepth 20000 in
theorem gX4_doMove_X4_beginNow : GoodIn wsX4_doMove (wsV RX4 103 RX4 yX4_beginNow wsX4_beginNow) := goodIn_app (goodIn_of _ (by decide +kernel)) ggX4_doMove_X4_beginNow
set_option maxRecDepth 20000 in
theorem ggX4_doMove_X4_dropNow : GoodIn wsX4_doMove wsX4_dropNow := goodIn_r _ [19, 6, 11, 20, 21, 22, 4, 23, 24, 25, 26, 27, 28, 29, 30, 31, 12, 13, 14, 15, 32, 33, 34, 35, 36, 37, 38, 39, 7, 8, 9, 10, 60, 61, 62, 63, 64, 65, 66, 67, 68, 69, 70] (by decide +kernel) (by decide +kernel)
set_option maxRecDepth 20000 in
theorem gX4_doMove_X4_dropNow : GoodIn wsX4_doMove (wsV RX4 100 RX4 yX4_dropNow wsX4_dropNow) := goodIn_app (goodIn_of _ (by decide +kernel)) ggX4_doMove_X4_dropNow
set_option maxRecDepth 20000 in
theorem ggX4_doMove_X4_actNow : GoodIn wsX4_doMove wsX4_actNow := goodIn_r _ [43, 6, 44, 45, 46, 4, 47, 11, 48, 49, 50, 51, 52, 53, 54, 55, 28, 29, 30, 31, 12, 13, 14, 15, 16, 17, 18, 19, 20, 21, 22, 23, 24, 25, 26, 27, 32, 33, 34, 35, 36, 37, 38, 39, 7, 8, 9, 10, 60, 61, 62, 63, 64, 65, 66, 67, 68, 69, 70] (by decide +kernel) (by decide +kernel)
set_option maxRecDepth 20000 in
theorem gX4_doMove_X4_actNow : GoodIn wsX4_doMove (wsV RX4 106 RX4 yX4_actNow wsX4_actNow) := goodIn_app (goodIn_of _ (by decide +kernel)) ggX4_doMove_X4_actNow
set_option maxRecDepth 20000 in
theorem ggX4_doMove_X4_finishNow : GoodIn wsX4_doMove wsX4_finishNow := goodIn_r _ [59, 6, 1, 2, 3, 4, 5, 7, 8, 9, 10, 11, 12, 13, 14, 15, 40, 41, 42, 43, 44, 45, 46, 47, 48, 49, 50, 51, 52, 53, 54, 55, 28, 29, 30, 31, 16, 17, 18, 19, 20, 21, 22, 23, 24, 25, 26, 27, 32, 33, 34, 35, 36, 37, 38, 39, 60, 61, 62, 63, 64, 65, 66, 67, 68, 69, 70] (by decide +kernel) (by decide +kernel)
set_option maxRecDepth 20000 in
theorem gX4_doMove_X4_finishNow : GoodIn wsX4_doMove (wsV RX4 112 RX4 yX4_finishNow wsX4_finishNow) := goodIn_app (goodIn_of _ (by decide +kernel)) ggX4_doMove_X4_finishNow
set_option maxRecDepth 20000 in
theorem ggX4_doMove_X4_bidNow : GoodIn wsX4_doMove wsX4_bidNow := goodIn_r _ [55, 6, 28, 29, 30, 4, 31, 11, 12, 13, 14, 15, 60, 61, 62, 63, 64, 65, 66, 67, 68, 69, 70] (by decide +kernel) (by decide +kernel)
set_option maxRecDepth 20000 in
theorem gX4_doMove_X4_bidNow : GoodIn wsX4_doMove (wsV RX4 97 RX4 yX4_bidNow wsX4_bidNow) := goodIn_app (goodIn_of _ (by decide +kernel)) ggX4_doMove_X4_bidNow
theorem dX4_doMove_0 : decode cX4_doMove 0 = .ok (.iload_n 1, 1) := by decide +kernel
theorem dX4_doMove_1 : decode cX4_doMove 1 = .ok (.ifCond .ge 11, 3) := by decide +kernel
theorem dX4_doMove_4 : decode cX4_doMove 4 = .ok (.iload_n 1, 1) := by decide +kernel
theorem dX4_doMove_5 : decode cX4_doMove 5 = .ok (.sipush 1000, 3) := by decide +kernel
theorem dX4_doMove_8 : decode cX4_doMove 8 = .ok (.iadd, 1) := by decide +kernel
theorem dX4_doMove_9 : decode cX4_doMove 9 = .ok (.goto 4, 3) := by decide +kernel
theorem dX4_doMove_12 : decode cX4_doMove 12 = .ok (.iconst 0, 1) := by decide +kernel
theorem dX4_doMove_13 : decode cX4_doMove 13 = .ok (.lookupswitch 72 #[(33, 64), (42, 57), (43, 43), (45, 50)], 43) := by decide +kernel
theorem dX4_doMove_56 : decode cX4_doMove 56 = .ok (.aload_n 0, 1) := by decide +kernel
theorem dX4_doMove_57 : decode cX4_doMove 57 = .ok (.invokevirtual 103, 3) := by decide +kernel
theorem dX4_doMove_60 : decode cX4_doMove 60 = .ok (.goto 30, 3) := by decide +kernel
theorem dX4_doMove_63 : decode cX4_doMove 63 = .ok (.aload_n 0, 1) := by decide +kernel
theorem dX4_doMove_64 : decode cX4_doMove 64 = .ok (.invokevirtual 100, 3) := by decide +kernel
theorem dX4_doMove_67 : decode cX4_doMove 67 = .ok (.goto 23, 3) := by decide +kernel
theorem dX4_doMove_70 : decode cX4_doMove 70 = .ok (.aload_n 0, 1) := by decide +kernel
theorem dX4_doMove_71 : decode cX4_doMove 71 = .ok (.invokevirtual 106, 3) := by decide +kernel
theorem dX4_doMove_74 : decode cX4_doMove 74 = .ok (.goto 16, 3) := by decide +kernel
theorem dX4_doMove_77 : decode cX4_doMove 77 = .ok (.aload_n 0, 1) := by decide +kernel
theorem dX4_doMove_78 : decode cX4_doMove 78 = .ok (.invokevirtual 112, 3) := by decide +kernel
theorem dX4_doMove_81 : decode cX4_doMove 81 = .ok (.pop, 1) := by decide +kernel
theorem dX4_doMove_82 : decode cX4_doMove 82 = .ok (.goto 8, 3) := by decide +kernel
theorem dX4_doMove_85 : decode cX4_doMove 85 = .ok (.aload_n 0, 1) := by decide +kernel
theorem dX4_doMove_86 : decode cX4_doMove 86 = .ok (.iload_n 1, 1) := by decide +kernel
theorem dX4_doMove_87 : decode cX4_doMove 87 = .ok (.invokevirtual 97, 3) := by decide +kernel
theorem dX4_doMove_90 : decode cX4_doMove 90 = .ok (.return_, 1) := by decide +kernel
set_option maxRecDepth 20000 in
theorem ggX4_run_X4_readPad : GoodIn wsX4_run wsX4_readPad := goodIn_r _ [9, 10, 2, 4, 11, 12, 13, 8, 14, 15, 3, 16, 17, 18, 19, 20, 21, 22, 23, 24, 25, 26, 106, 107, 108, 109, 110, 111, 112, 113, 114, 115, 116] (by decide +kernel) (by decide +kernel)
set_option maxRecDepth 20000 in
theorem gX4_run_X4_readPad : GoodIn wsX4_run (wsV RX4 137 RX4 yX4_readPad wsX4_readPad) := goodIn_app (goodIn_of _ (by decide +kernel)) ggX4_run_X4_readPad
set_option maxRecDepth 20000 in
theorem ggX4_run_X4_record : GoodIn wsX4_run wsX4_record := goodIn_r _ [30, 31, 32, 33, 34, 35, 8, 36, 106, 107, 108, 109, 110, 111, 112, 113, 114, 115, 116] (by decide +kernel) (by decide +kernel)
set_option maxRecDepth 20000 in
theorem gX4_run_X4_record : GoodIn wsX4_run (wsV RX4 54 RX4 yX4_record wsX4_record) := goodIn_app (goodIn_of _ (by decide +kernel)) ggX4_run_X4_record
set_option maxRecDepth 20000 in
theorem ggX4_run_X4_can : GoodIn wsX4_run wsX4_can := goodIn_r _ [40, 33, 41, 42, 43, 8, 44, 45, 46, 47, 48, 49, 50, 51, 52, 53, 106, 107, 108, 109, 110, 111, 112, 113, 114, 115, 116] (by decide +kernel) (by decide +kernel)
set_option maxRecDepth 20000 in
theorem gX4_run_X4_can : GoodIn wsX4_run (wsV RX4 141 RX4 yX4_can wsX4_can) := goodIn_app (goodIn_of _ (by decide +kernel)) ggX4_run_X4_can
set_option maxRecDepth 20000 in
theorem ggX4_run_X4_doMove : GoodIn wsX4_run wsX4_doMove := goodIn_r _ [57, 58, 59, 60, 8, 61, 33, 62, 63, 64, 65, 53, 66, 67, 68, 69, 70, 71, 72, 73, 74, 75, 76, 77, 78, 79, 80, 81, 82, 83, 84, 85, 86, 87, 88, 89, 90, 91, 92, 93, 94, 95, 96, 97, 49, 50, 51, 52, 45, 46, 47, 48, 98, 99, 100, 101, 102, 103, 104, 105, 106, 107, 108, 109, 110, 111, 112, 113, 114, 115, 116] (by decide +kernel) (by decide +kernel)
set_option maxRecDepth 20000 in
theorem gX4_run_X4_doMove : GoodIn wsX4_run (wsV RX4 144 RX4 yX4_doMove wsX4_doMove) := goodIn_app (goodIn_of _ (by decide +kernel)) ggX4_run_X4_doMove
theorem dX4_run_0 : decode cX4_run 0 = .ok (.aload_n 0, 1) := by decide +kernel
theorem dX4_run_1 : decode cX4_run 1 = .ok (.invokevirtual 137, 3) := by decide +kernel
theorem dX4_run_4 : decode cX4_run 4 = .ok (.ifCond .ne 6, 3) := by decide +kernel
theorem dX4_run_7 : decode cX4_run 7 = .ok (.ldc 140, 2) := by decide +kernel
theorem dX4_run_9 : decode cX4_run 9 = .ok (.ireturn, 1) := by decide +kernel
theorem dX4_run_10 : decode cX4_run 10 = .ok (.aload_n 0, 1) := by decide +kernel
theorem dX4_run_11 : decode cX4_run 11 = .ok (.invokevirtual 54, 3) := by decide +kernel
theorem dX4_run_14 : decode cX4_run 14 = .ok (.iconst 0, 1) := by decide +kernel
theorem dX4_run_15 : decode cX4_run 15 = .ok (.istore_n 1, 1) := by decide +kernel
theorem dX4_run_16 : decode cX4_run 16 = .ok (.iload_n 1, 1) := by decide +kernel
theorem dX4_run_17 : decode cX4_run 17 = .ok (.aload_n 0, 1) := by decide +kernel
theorem dX4_run_18 : decode cX4_run 18 = .ok (.getfield 127, 3) := by decide +kernel
theorem dX4_run_21 : decode cX4_run 21 = .ok (.if_icmp .ge 32, 3) := by decide +kernel
theorem dX4_run_24 : decode cX4_run 24 = .ok (.aload_n 0, 1) := by decide +kernel
theorem dX4_run_25 : decode cX4_run 25 = .ok (.aload_n 0, 1) := by decide +kernel
theorem dX4_run_26 : decode cX4_run 26 = .ok (.getfield 29, 3) := by decide +kernel
theorem dX4_run_29 : decode cX4_run 29 = .ok (.iload_n 1, 1) := by decide +kernel
theorem dX4_run_30 : decode cX4_run 30 = .ok (.iaload, 1) := by decide +kernel
theorem dX4_run_31 : decode cX4_run 31 = .ok (.invokevirtual 141, 3) := by decide +kernel
theorem dX4_run_34 : decode cX4_run 34 = .ok (.ifCond .eq 19, 3) := by decide +kernel
theorem dX4_run_37 : decode cX4_run 37 = .ok (.aload_n 0, 1) := by decide +kernel
theorem dX4_run_38 : decode cX4_run 38 = .ok (.aload_n 0, 1) := by decide +kernel
theorem dX4_run_39 : decode cX4_run 39 = .ok (.getfield 29, 3) := by decide +kernel
theorem dX4_run_42 : decode cX4_run 42 = .ok (.iload_n 1, 1) := by decide +kernel
theorem dX4_run_43 : decode cX4_run 43 = .ok (.iaload, 1) := by decide +kernel
theorem dX4_run_44 : decode cX4_run 44 = .ok (.invokevirtual 144, 3) := by decide +kernel
theorem dX4_run_47 : decode cX4_run 47 = .ok (.iinc 1 1, 3) := by decide +kernel
theorem dX4_run_50 : decode cX4_run 50 = .ok (.goto (-34), 3) := by decide +kernel
theorem dX4_run_53 : decode cX4_run 53 = .ok (.aload_n 0, 1) := by decide +kernel
theorem dX4_run_54 : decode cX4_run 54 = .ok (.iconst 0, 1) := by decide +kernel
theorem dX4_run_55 : decode cX4_run 55 = .ok (.putfield 117, 3) := by decide +kernel
theorem dX4_run_58 : decode cX4_run 58 = .ok (.iload_n 1, 1) := by decide +kernel
theorem dX4_run_59 : decode cX4_run 59 = .ok (.ireturn, 1) := by decide +kernel
set_option maxRecDepth 20000 in
theorem ggX4_player_X4_isPlayer : GoodIn wsX4_player wsX4_isPlayer := goodIn_r _ [7, 8, 9, 6, 10] (by decide +kernel) (by decide +kernel)
set_option maxRecDepth 20000 in
theorem gX4_player_X4_isPlayer : GoodIn wsX4_player (va_wsS RX4 65 yX4_isPlayer wsX4_isPlayer) := goodIn_app (goodIn_of _ (by decide +kernel)) ggX4_player_X4_isPlayer
set_option maxRecDepth 20000 in
theorem ggX4_player_X4_in : GoodIn wsX4_player wsX4_in := goodIn_r _ [10] (by decide +kernel) (by decide +kernel)
set_option maxRecDepth 20000 in
theorem gX4_player_X4_in : GoodIn wsX4_player (va_wsS RX4 35 yX4_in wsX4_in) := goodIn_app (goodIn_of _ (by decide +kernel)) ggX4_player_X4_in
theorem dX4_player_0 : decode cX4_player 0 = .ok (.iload_n 1, 1) := by decide +kernel
theorem dX4_player_1 : decode cX4_player 1 = .ok (.invokestatic 65, 3) := by decide +kernel
theorem dX4_player_4 : decode cX4_player 4 = .ok (.ifCond .ne 6, 3) := by decide +kernel
theorem dX4_player_7 : decode cX4_player 7 = .ok (.ldc 69, 2) := by decide +kernel
theorem dX4_player_9 : decode cX4_player 9 = .ok (.ireturn, 1) := by decide +kernel
theorem dX4_player_10 : decode cX4_player 10 = .ok (.iload_n 2, 1) := by decide +kernel
theorem dX4_player_11 : decode cX4_player 11 = .ok (.iconst 0, 1) := by decide +kernel
theorem dX4_player_12 : decode cX4_player 12 = .ok (.bipush 7, 2) := by decide +kernel
theorem dX4_player_14 : decode cX4_player 14 = .ok (.invokestatic 35, 3) := by decide +kernel
theorem dX4_player_17 : decode cX4_player 17 = .ok (.ifCond .eq 19, 3) := by decide +kernel
theorem dX4_player_20 : decode cX4_player 20 = .ok (.aload_n 0, 1) := by decide +kernel
theorem dX4_player_21 : decode cX4_player 21 = .ok (.getfield 7, 3) := by decide +kernel
theorem dX4_player_24 : decode cX4_player 24 = .ok (.bipush 8, 2) := by decide +kernel
theorem dX4_player_26 : decode cX4_player 26 = .ok (.iconst 5, 1) := by decide +kernel
theorem dX4_player_27 : decode cX4_player 27 = .ok (.iload_n 2, 1) := by decide +kernel
theorem dX4_player_28 : decode cX4_player 28 = .ok (.imul, 1) := by decide +kernel
theorem dX4_player_29 : decode cX4_player 29 = .ok (.iadd, 1) := by decide +kernel
theorem dX4_player_30 : decode cX4_player 30 = .ok (.iload_n 1, 1) := by decide +kernel
theorem dX4_player_31 : decode cX4_player 31 = .ok (.iadd, 1) := by decide +kernel
theorem dX4_player_32 : decode cX4_player 32 = .ok (.iaload, 1) := by decide +kernel
theorem dX4_player_33 : decode cX4_player 33 = .ok (.goto 5, 3) := by decide +kernel
theorem dX4_player_36 : decode cX4_player 36 = .ok (.ldc 49, 2) := by decide +kernel
theorem dX4_player_38 : decode cX4_player 38 = .ok (.ireturn, 1) := by decide +kernel
set_option maxRecDepth 20000 in
theorem ggX4_at_X4_isPlayer : GoodIn wsX4_at wsX4_isPlayer := goodIn_r _ [5, 6, 7, 4, 8] (by decide +kernel) (by decide +kernel)
set_option maxRecDepth 20000 in
theorem gX4_at_X4_isPlayer : GoodIn wsX4_at (va_wsS RX4 65 yX4_isPlayer wsX4_isPlayer) := goodIn_app (goodIn_of _ (by decide +kernel)) ggX4_at_X4_isPlayer
set_option maxRecDepth 20000 in
theorem ggX4_at_X4_playerAt : GoodIn wsX4_at wsX4_playerAt := goodIn_r _ [12, 13, 14, 15, 16, 17, 18, 19, 20, 21, 22, 23, 24, 25] (by decide +kernel) (by decide +kernel)
set_option maxRecDepth 20000 in
theorem gX4_at_X4_playerAt : GoodIn wsX4_at (wsV RX4 70 RX4 yX4_playerAt wsX4_playerAt) := goodIn_app (goodIn_of _ (by decide +kernel)) ggX4_at_X4_playerAt
theorem dX4_at_0 : decode cX4_at 0 = .ok (.iload_n 1, 1) := by decide +kernel
theorem dX4_at_1 : decode cX4_at 1 = .ok (.invokestatic 65, 3) := by decide +kernel
theorem dX4_at_4 : decode cX4_at 4 = .ok (.ifCond .eq 11, 3) := by decide +kernel
theorem dX4_at_7 : decode cX4_at 7 = .ok (.aload_n 0, 1) := by decide +kernel
theorem dX4_at_8 : decode cX4_at 8 = .ok (.iload_n 1, 1) := by decide +kernel
theorem dX4_at_9 : decode cX4_at 9 = .ok (.invokevirtual 70, 3) := by decide +kernel
theorem dX4_at_12 : decode cX4_at 12 = .ok (.goto 5, 3) := by decide +kernel
theorem dX4_at_15 : decode cX4_at 15 = .ok (.ldc 69, 2) := by decide +kernel
theorem dX4_at_17 : decode cX4_at 17 = .ok (.ireturn, 1) := by decide +kernel
theorem dX4_leftSet_0 : decode cX4_leftSet 0 = .ok (.iconst 0, 1) := by decide +kernel
theorem dX4_leftSet_1 : decode cX4_leftSet 1 = .ok (.istore_n 1, 1) := by decide +kernel
theorem dX4_leftSet_2 : decode cX4_leftSet 2 = .ok (.iconst 0, 1) := by decide +kernel
theorem dX4_leftSet_3 : decode cX4_leftSet 3 = .ok (.istore_n 2, 1) := by decide +kernel
theorem dX4_leftSet_4 : decode cX4_leftSet 4 = .ok (.iload_n 2, 1) := by decide +kernel
theorem dX4_leftSet_5 : decode cX4_leftSet 5 = .ok (.iconst 5, 1) := by decide +kernel
theorem dX4_leftSet_6 : decode cX4_leftSet 6 = .ok (.if_icmp .ge 43, 3) := by decide +kernel
theorem dX4_leftSet_9 : decode cX4_leftSet 9 = .ok (.aload_n 0, 1) := by decide +kernel
theorem dX4_leftSet_10 : decode cX4_leftSet 10 = .ok (.getfield 7, 3) := by decide +kernel
theorem dX4_leftSet_13 : decode cX4_leftSet 13 = .ok (.iconst 4, 1) := by decide +kernel
theorem dX4_leftSet_14 : decode cX4_leftSet 14 = .ok (.iaload, 1) := by decide +kernel
theorem dX4_leftSet_15 : decode cX4_leftSet 15 = .ok (.iconst 1, 1) := by decide +kernel
theorem dX4_leftSet_16 : decode cX4_leftSet 16 = .ok (.if_icmp .ne 33, 3) := by decide +kernel
theorem dX4_leftSet_19 : decode cX4_leftSet 19 = .ok (.iload_n 1, 1) := by decide +kernel
theorem dX4_leftSet_20 : decode cX4_leftSet 20 = .ok (.aload_n 0, 1) := by decide +kernel
theorem dX4_leftSet_21 : decode cX4_leftSet 21 = .ok (.getfield 7, 3) := by decide +kernel
theorem dX4_leftSet_24 : decode cX4_leftSet 24 = .ok (.bipush 28, 2) := by decide +kernel
theorem dX4_leftSet_26 : decode cX4_leftSet 26 = .ok (.iload_n 2, 1) := by decide +kernel
theorem dX4_leftSet_27 : decode cX4_leftSet 27 = .ok (.iadd, 1) := by decide +kernel
theorem dX4_leftSet_28 : decode cX4_leftSet 28 = .ok (.iaload, 1) := by decide +kernel
theorem dX4_leftSet_29 : decode cX4_leftSet 29 = .ok (.ldc 39, 2) := by decide +kernel
theorem dX4_leftSet_31 : decode cX4_leftSet 31 = .ok (.if_icmp .ne 9, 3) := by decide +kernel
theorem dX4_leftSet_34 : decode cX4_leftSet 34 = .ok (.iconst 1, 1) := by decide +kernel
theorem dX4_leftSet_35 : decode cX4_leftSet 35 = .ok (.iload_n 2, 1) := by decide +kernel
theorem dX4_leftSet_36 : decode cX4_leftSet 36 = .ok (.ishl, 1) := by decide +kernel
theorem dX4_leftSet_37 : decode cX4_leftSet 37 = .ok (.goto 4, 3) := by decide +kernel
theorem dX4_leftSet_40 : decode cX4_leftSet 40 = .ok (.iconst 0, 1) := by decide +kernel
theorem dX4_leftSet_41 : decode cX4_leftSet 41 = .ok (.ior, 1) := by decide +kernel
theorem dX4_leftSet_42 : decode cX4_leftSet 42 = .ok (.istore_n 1, 1) := by decide +kernel
theorem dX4_leftSet_43 : decode cX4_leftSet 43 = .ok (.iinc 2 1, 3) := by decide +kernel
theorem dX4_leftSet_46 : decode cX4_leftSet 46 = .ok (.goto (-42), 3) := by decide +kernel
theorem dX4_leftSet_49 : decode cX4_leftSet 49 = .ok (.iload_n 1, 1) := by decide +kernel
theorem dX4_leftSet_50 : decode cX4_leftSet 50 = .ok (.ireturn, 1) := by decide +kernel
set_option maxRecDepth 20000 in
theorem ggX4_count_X4_least : GoodIn wsX4_count wsX4_least := goodIn_r _ [10, 1, 2, 19, 20, 21, 22, 23, 24, 25, 26, 27, 28, 29] (by decide +kernel) (by decide +kernel)
set_option maxRecDepth 20000 in
theorem gX4_count_X4_least : GoodIn wsX4_count (wsV RX4 73 RX4 yX4_least wsX4_least) := goodIn_app (goodIn_of _ (by decide +kernel)) ggX4_count_X4_least
set_option maxRecDepth 20000 in
theorem ggX4_count_X4_leftSet : GoodIn wsX4_count wsX4_leftSet := goodIn_r _ [14, 1, 2, 19, 20, 21, 22, 23, 24, 25, 26, 27, 28, 29] (by decide +kernel) (by decide +kernel)
set_option maxRecDepth 20000 in
theorem gX4_count_X4_leftSet : GoodIn wsX4_count (wsV RX4 147 RX4 yX4_leftSet wsX4_leftSet) := goodIn_app (goodIn_of _ (by decide +kernel)) ggX4_count_X4_leftSet
set_option maxRecDepth 20000 in
theorem ggX4_count_X4_sum : GoodIn wsX4_count wsX4_sum := goodIn_r _ [18, 1, 19, 20, 21, 22, 23, 24, 25, 26, 27, 28, 29] (by decide +kernel) (by decide +kernel)
set_option maxRecDepth 20000 in
theorem gX4_count_X4_sum : GoodIn wsX4_count (wsV RX4 50 RX4 yX4_sum wsX4_sum) := goodIn_app (goodIn_of _ (by decide +kernel)) ggX4_count_X4_sum
theorem dX4_count_0 : decode cX4_count 0 = .ok (.iload_n 1, 1) := by decide +kernel
theorem dX4_count_1 : decode cX4_count 1 = .ok (.tableswitch 157 0 15 #[79, 79, 79, 79, 79, 79, 79, 86, 106, 111, 119, 126, 133, 140, 147, 152], 79) := by decide +kernel
theorem dX4_count_80 : decode cX4_count 80 = .ok (.aload_n 0, 1) := by decide +kernel
theorem dX4_count_81 : decode cX4_count 81 = .ok (.getfield 7, 3) := by decide +kernel
theorem dX4_count_84 : decode cX4_count 84 = .ok (.iload_n 1, 1) := by decide +kernel
theorem dX4_count_85 : decode cX4_count 85 = .ok (.iaload, 1) := by decide +kernel
theorem dX4_count_86 : decode cX4_count 86 = .ok (.ireturn, 1) := by decide +kernel
theorem dX4_count_87 : decode cX4_count 87 = .ok (.aload_n 0, 1) := by decide +kernel
theorem dX4_count_88 : decode cX4_count 88 = .ok (.getfield 7, 3) := by decide +kernel
theorem dX4_count_91 : decode cX4_count 91 = .ok (.iconst 4, 1) := by decide +kernel
theorem dX4_count_92 : decode cX4_count 92 = .ok (.iaload, 1) := by decide +kernel
theorem dX4_count_93 : decode cX4_count 93 = .ok (.iconst 1, 1) := by decide +kernel
theorem dX4_count_94 : decode cX4_count 94 = .ok (.if_icmp .ne 10, 3) := by decide +kernel
theorem dX4_count_97 : decode cX4_count 97 = .ok (.aload_n 0, 1) := by decide +kernel
theorem dX4_count_98 : decode cX4_count 98 = .ok (.invokevirtual 73, 3) := by decide +kernel
theorem dX4_count_101 : decode cX4_count 101 = .ok (.goto 5, 3) := by decide +kernel
theorem dX4_count_104 : decode cX4_count 104 = .ok (.ldc 39, 2) := by decide +kernel
theorem dX4_count_106 : decode cX4_count 106 = .ok (.ireturn, 1) := by decide +kernel
theorem dX4_count_107 : decode cX4_count 107 = .ok (.aload_n 0, 1) := by decide +kernel
theorem dX4_count_108 : decode cX4_count 108 = .ok (.invokevirtual 147, 3) := by decide +kernel
theorem dX4_count_111 : decode cX4_count 111 = .ok (.ireturn, 1) := by decide +kernel
theorem dX4_count_112 : decode cX4_count 112 = .ok (.aload_n 0, 1) := by decide +kernel
theorem dX4_count_113 : decode cX4_count 113 = .ok (.getfield 7, 3) := by decide +kernel
theorem dX4_count_116 : decode cX4_count 116 = .ok (.bipush 7, 2) := by decide +kernel
theorem dX4_count_118 : decode cX4_count 118 = .ok (.iaload, 1) := by decide +kernel
theorem dX4_count_119 : decode cX4_count 119 = .ok (.ireturn, 1) := by decide +kernel
theorem dX4_count_120 : decode cX4_count 120 = .ok (.aload_n 0, 1) := by decide +kernel
theorem dX4_count_121 : decode cX4_count 121 = .ok (.bipush 8, 2) := by decide +kernel
theorem dX4_count_123 : decode cX4_count 123 = .ok (.invokevirtual 50, 3) := by decide +kernel
theorem dX4_count_126 : decode cX4_count 126 = .ok (.ireturn, 1) := by decide +kernel
theorem dX4_count_127 : decode cX4_count 127 = .ok (.aload_n 0, 1) := by decide +kernel
theorem dX4_count_128 : decode cX4_count 128 = .ok (.bipush 33, 2) := by decide +kernel
theorem dX4_count_130 : decode cX4_count 130 = .ok (.invokevirtual 50, 3) := by decide +kernel
theorem dX4_count_133 : decode cX4_count 133 = .ok (.ireturn, 1) := by decide +kernel
theorem dX4_count_134 : decode cX4_count 134 = .ok (.aload_n 0, 1) := by decide +kernel
theorem dX4_count_135 : decode cX4_count 135 = .ok (.bipush 38, 2) := by decide +kernel
theorem dX4_count_137 : decode cX4_count 137 = .ok (.invokevirtual 50, 3) := by decide +kernel
theorem dX4_count_140 : decode cX4_count 140 = .ok (.ireturn, 1) := by decide +kernel
theorem dX4_count_141 : decode cX4_count 141 = .ok (.aload_n 0, 1) := by decide +kernel
theorem dX4_count_142 : decode cX4_count 142 = .ok (.bipush 48, 2) := by decide +kernel
theorem dX4_count_144 : decode cX4_count 144 = .ok (.invokevirtual 50, 3) := by decide +kernel
theorem dX4_count_147 : decode cX4_count 147 = .ok (.ireturn, 1) := by decide +kernel
theorem dX4_count_148 : decode cX4_count 148 = .ok (.aload_n 0, 1) := by decide +kernel
theorem dX4_count_149 : decode cX4_count 149 = .ok (.getfield 117, 3) := by decide +kernel
theorem dX4_count_152 : decode cX4_count 152 = .ok (.ireturn, 1) := by decide +kernel
theorem dX4_count_153 : decode cX4_count 153 = .ok (.aload_n 0, 1) := by decide +kernel
theorem dX4_count_154 : decode cX4_count 154 = .ok (.getfield 40, 3) := by decide +kernel
theorem dX4_count_157 : decode cX4_count 157 = .ok (.ireturn, 1) := by decide +kernel
theorem dX4_count_158 : decode cX4_count 158 = .ok (.ldc 49, 2) := by decide +kernel
theorem dX4_count_160 : decode cX4_count 160 = .ok (.ireturn, 1) := by decide +kernel
set_option maxRecDepth 20000 in
theorem ggX4_prizeOf_X4_isPlayer : GoodIn wsX4_prizeOf wsX4_isPlayer := goodIn_r _ [6, 7, 8, 5, 9] (by decide +kernel) (by decide +kernel)
set_option maxRecDepth 20000 in
theorem gX4_prizeOf_X4_isPlayer : GoodIn wsX4_prizeOf (va_wsS RX4 65 yX4_isPlayer wsX4_isPlayer) := goodIn_app (goodIn_of _ (by decide +kernel)) ggX4_prizeOf_X4_isPlayer
theorem dX4_prizeOf_0 : decode cX4_prizeOf 0 = .ok (.iload_n 1, 1) := by decide +kernel
theorem dX4_prizeOf_1 : decode cX4_prizeOf 1 = .ok (.invokestatic 65, 3) := by decide +kernel
theorem dX4_prizeOf_4 : decode cX4_prizeOf 4 = .ok (.ifCond .eq 15, 3) := by decide +kernel
theorem dX4_prizeOf_7 : decode cX4_prizeOf 7 = .ok (.aload_n 0, 1) := by decide +kernel
theorem dX4_prizeOf_8 : decode cX4_prizeOf 8 = .ok (.getfield 7, 3) := by decide +kernel
theorem dX4_prizeOf_11 : decode cX4_prizeOf 11 = .ok (.bipush 48, 2) := by decide +kernel
theorem dX4_prizeOf_13 : decode cX4_prizeOf 13 = .ok (.iload_n 1, 1) := by decide +kernel
theorem dX4_prizeOf_14 : decode cX4_prizeOf 14 = .ok (.iadd, 1) := by decide +kernel
theorem dX4_prizeOf_15 : decode cX4_prizeOf 15 = .ok (.iaload, 1) := by decide +kernel
theorem dX4_prizeOf_16 : decode cX4_prizeOf 16 = .ok (.goto 5, 3) := by decide +kernel
theorem dX4_prizeOf_19 : decode cX4_prizeOf 19 = .ok (.ldc 69, 2) := by decide +kernel
theorem dX4_prizeOf_21 : decode cX4_prizeOf 21 = .ok (.ireturn, 1) := by decide +kernel
set_option maxRecDepth 20000 in
theorem ggX4_ifFinished_X4_isPlayer : GoodIn wsX4_ifFinished wsX4_isPlayer := goodIn_r _ [8, 9, 10, 7, 11] (by decide +kernel) (by decide +kernel)
set_option maxRecDepth 20000 in
theorem gX4_ifFinished_X4_isPlayer : GoodIn wsX4_ifFinished (va_wsS RX4 65 yX4_isPlayer wsX4_isPlayer) := goodIn_app (goodIn_of _ (by decide +kernel)) ggX4_ifFinished_X4_isPlayer
set_option maxRecDepth 20000 in
theorem ggX4_ifFinished_X4_in : GoodIn wsX4_ifFinished wsX4_in := goodIn_r _ [11] (by decide +kernel) (by decide +kernel)
set_option maxRecDepth 20000 in
theorem gX4_ifFinished_X4_in : GoodIn wsX4_ifFinished (va_wsS RX4 35 yX4_in wsX4_in) := goodIn_app (goodIn_of _ (by decide +kernel)) ggX4_ifFinished_X4_in
set_option maxRecDepth 20000 in
theorem ggX4_ifFinished_X4_copyState : GoodIn wsX4_ifFinished wsX4_copyState := goodIn_r _ [14] (by decide +kernel) (by decide +kernel)
set_option maxRecDepth 20000 in
theorem gX4_ifFinished_X4_copyState : GoodIn wsX4_ifFinished (va_wsS RX4 44 yX4_copyState wsX4_copyState) := goodIn_app (goodIn_of _ (by decide +kernel)) ggX4_ifFinished_X4_copyState
set_option maxRecDepth 20000 in
theorem ggX4_ifFinished_X4_finishNow : GoodIn wsX4_ifFinished wsX4_finishNow := goodIn_r _ [18, 3, 19, 20, 21, 7, 22, 23, 24, 25, 26, 27, 28, 29, 30, 31, 32, 33, 34, 35, 36, 37, 38, 39, 40, 41, 42, 43, 44, 45, 46, 47, 48, 49, 50, 51, 52, 53, 54, 55, 56, 57, 58, 59, 60, 61, 62, 63, 64, 65, 66, 67, 68, 69, 70, 71, 72, 73, 74, 75, 76, 77, 78, 79, 80, 81, 82] (by decide +kernel) (by decide +kernel)
set_option maxRecDepth 20000 in
theorem gX4_ifFinished_X4_finishNow : GoodIn wsX4_ifFinished (wsV RX4 112 RX4 yX4_finishNow wsX4_finishNow) := goodIn_app (goodIn_of _ (by decide +kernel)) ggX4_ifFinished_X4_finishNow
theorem dX4_ifFinished_0 : decode cX4_ifFinished 0 = .ok (.iload_n 1, 1) := by decide +kernel
theorem dX4_ifFinished_1 : decode cX4_ifFinished 1 = .ok (.invokestatic 65, 3) := by decide +kernel
theorem dX4_ifFinished_4 : decode cX4_ifFinished 4 = .ok (.ifCond .ne 6, 3) := by decide +kernel
theorem dX4_ifFinished_7 : decode cX4_ifFinished 7 = .ok (.ldc 69, 2) := by decide +kernel
theorem dX4_ifFinished_9 : decode cX4_ifFinished 9 = .ok (.ireturn, 1) := by decide +kernel
theorem dX4_ifFinished_10 : decode cX4_ifFinished 10 = .ok (.iload_n 2, 1) := by decide +kernel
theorem dX4_ifFinished_11 : decode cX4_ifFinished 11 = .ok (.iconst 0, 1) := by decide +kernel
theorem dX4_ifFinished_12 : decode cX4_ifFinished 12 = .ok (.iconst 3, 1) := by decide +kernel
theorem dX4_ifFinished_13 : decode cX4_ifFinished 13 = .ok (.invokestatic 35, 3) := by decide +kernel
theorem dX4_ifFinished_16 : decode cX4_ifFinished 16 = .ok (.ifCond .ne 6, 3) := by decide +kernel
theorem dX4_ifFinished_19 : decode cX4_ifFinished 19 = .ok (.ldc 49, 2) := by decide +kernel
theorem dX4_ifFinished_21 : decode cX4_ifFinished 21 = .ok (.ireturn, 1) := by decide +kernel
theorem dX4_ifFinished_22 : decode cX4_ifFinished 22 = .ok (.aload_n 0, 1) := by decide +kernel
theorem dX4_ifFinished_23 : decode cX4_ifFinished 23 = .ok (.getfield 7, 3) := by decide +kernel
theorem dX4_ifFinished_26 : decode cX4_ifFinished 26 = .ok (.iconst 0, 1) := by decide +kernel
theorem dX4_ifFinished_27 : decode cX4_ifFinished 27 = .ok (.aload_n 0, 1) := by decide +kernel
theorem dX4_ifFinished_28 : decode cX4_ifFinished 28 = .ok (.getfield 13, 3) := by decide +kernel
theorem dX4_ifFinished_31 : decode cX4_ifFinished 31 = .ok (.iconst 0, 1) := by decide +kernel
theorem dX4_ifFinished_32 : decode cX4_ifFinished 32 = .ok (.invokestatic 44, 3) := by decide +kernel
theorem dX4_ifFinished_35 : decode cX4_ifFinished 35 = .ok (.aload_n 0, 1) := by decide +kernel
theorem dX4_ifFinished_36 : decode cX4_ifFinished 36 = .ok (.invokevirtual 112, 3) := by decide +kernel
theorem dX4_ifFinished_39 : decode cX4_ifFinished 39 = .ok (.pop, 1) := by decide +kernel
theorem dX4_ifFinished_40 : decode cX4_ifFinished 40 = .ok (.iload_n 2, 1) := by decide +kernel
theorem dX4_ifFinished_41 : decode cX4_ifFinished 41 = .ok (.iconst 1, 1) := by decide +kernel
theorem dX4_ifFinished_42 : decode cX4_ifFinished 42 = .ok (.if_icmp .ne 8, 3) := by decide +kernel
theorem dX4_ifFinished_45 : decode cX4_ifFinished 45 = .ok (.bipush 33, 2) := by decide +kernel
theorem dX4_ifFinished_47 : decode cX4_ifFinished 47 = .ok (.goto 15, 3) := by decide +kernel
theorem dX4_ifFinished_50 : decode cX4_ifFinished 50 = .ok (.iload_n 2, 1) := by decide +kernel
theorem dX4_ifFinished_51 : decode cX4_ifFinished 51 = .ok (.iconst 2, 1) := by decide +kernel
theorem dX4_ifFinished_52 : decode cX4_ifFinished 52 = .ok (.if_icmp .ne 8, 3) := by decide +kernel
theorem dX4_ifFinished_55 : decode cX4_ifFinished 55 = .ok (.bipush 38, 2) := by decide +kernel
theorem dX4_ifFinished_57 : decode cX4_ifFinished 57 = .ok (.goto 5, 3) := by decide +kernel
theorem dX4_ifFinished_60 : decode cX4_ifFinished 60 = .ok (.bipush 8, 2) := by decide +kernel
theorem dX4_ifFinished_62 : decode cX4_ifFinished 62 = .ok (.istore_n 3, 1) := by decide +kernel
theorem dX4_ifFinished_63 : decode cX4_ifFinished 63 = .ok (.aload_n 0, 1) := by decide +kernel
theorem dX4_ifFinished_64 : decode cX4_ifFinished 64 = .ok (.getfield 7, 3) := by decide +kernel
theorem dX4_ifFinished_67 : decode cX4_ifFinished 67 = .ok (.iload_n 3, 1) := by decide +kernel
theorem dX4_ifFinished_68 : decode cX4_ifFinished 68 = .ok (.iload_n 1, 1) := by decide +kernel
theorem dX4_ifFinished_69 : decode cX4_ifFinished 69 = .ok (.iadd, 1) := by decide +kernel
theorem dX4_ifFinished_70 : decode cX4_ifFinished 70 = .ok (.iaload, 1) := by decide +kernel
theorem dX4_ifFinished_71 : decode cX4_ifFinished 71 = .ok (.aload_n 0, 1) := by decide +kernel
theorem dX4_ifFinished_72 : decode cX4_ifFinished 72 = .ok (.getfield 13, 3) := by decide +kernel
theorem dX4_ifFinished_75 : decode cX4_ifFinished 75 = .ok (.iload_n 3, 1) := by decide +kernel
theorem dX4_ifFinished_76 : decode cX4_ifFinished 76 = .ok (.iload_n 1, 1) := by decide +kernel
theorem dX4_ifFinished_77 : decode cX4_ifFinished 77 = .ok (.iadd, 1) := by decide +kernel
theorem dX4_ifFinished_78 : decode cX4_ifFinished 78 = .ok (.iaload, 1) := by decide +kernel
theorem dX4_ifFinished_79 : decode cX4_ifFinished 79 = .ok (.isub, 1) := by decide +kernel
theorem dX4_ifFinished_80 : decode cX4_ifFinished 80 = .ok (.istore 4, 2) := by decide +kernel
theorem dX4_ifFinished_82 : decode cX4_ifFinished 82 = .ok (.aload_n 0, 1) := by decide +kernel
theorem dX4_ifFinished_83 : decode cX4_ifFinished 83 = .ok (.getfield 7, 3) := by decide +kernel
theorem dX4_ifFinished_86 : decode cX4_ifFinished 86 = .ok (.bipush 18, 2) := by decide +kernel
theorem dX4_ifFinished_88 : decode cX4_ifFinished 88 = .ok (.iload_n 1, 1) := by decide +kernel
theorem dX4_ifFinished_89 : decode cX4_ifFinished 89 = .ok (.iadd, 1) := by decide +kernel
theorem dX4_ifFinished_90 : decode cX4_ifFinished 90 = .ok (.iaload, 1) := by decide +kernel
theorem dX4_ifFinished_91 : decode cX4_ifFinished 91 = .ok (.istore 5, 2) := by decide +kernel
theorem dX4_ifFinished_93 : decode cX4_ifFinished 93 = .ok (.aload_n 0, 1) := by decide +kernel
theorem dX4_ifFinished_94 : decode cX4_ifFinished 94 = .ok (.getfield 13, 3) := by decide +kernel
theorem dX4_ifFinished_97 : decode cX4_ifFinished 97 = .ok (.iconst 0, 1) := by decide +kernel
theorem dX4_ifFinished_98 : decode cX4_ifFinished 98 = .ok (.aload_n 0, 1) := by decide +kernel
theorem dX4_ifFinished_99 : decode cX4_ifFinished 99 = .ok (.getfield 7, 3) := by decide +kernel
theorem dX4_ifFinished_102 : decode cX4_ifFinished 102 = .ok (.iconst 0, 1) := by decide +kernel
theorem dX4_ifFinished_103 : decode cX4_ifFinished 103 = .ok (.invokestatic 44, 3) := by decide +kernel
theorem dX4_ifFinished_106 : decode cX4_ifFinished 106 = .ok (.iload_n 2, 1) := by decide +kernel
theorem dX4_ifFinished_107 : decode cX4_ifFinished 107 = .ok (.ifCond .ne 8, 3) := by decide +kernel
theorem dX4_ifFinished_110 : decode cX4_ifFinished 110 = .ok (.iload 5, 2) := by decide +kernel
theorem dX4_ifFinished_112 : decode cX4_ifFinished 112 = .ok (.goto 5, 3) := by decide +kernel
theorem dX4_ifFinished_115 : decode cX4_ifFinished 115 = .ok (.iload 4, 2) := by decide +kernel
theorem dX4_ifFinished_117 : decode cX4_ifFinished 117 = .ok (.ireturn, 1) := by decide +kernel
set_option maxRecDepth 20000 in
theorem ggX4_bestLimit_X4_isPlayer : GoodIn wsX4_bestLimit wsX4_isPlayer := goodIn_r _ [9, 10, 11, 8, 12] (by decide +kernel) (by decide +kernel)
set_option maxRecDepth 20000 in
theorem gX4_bestLimit_X4_isPlayer : GoodIn wsX4_bestLimit (va_wsS RX4 65 yX4_isPlayer wsX4_isPlayer) := goodIn_app (goodIn_of _ (by decide +kernel)) ggX4_bestLimit_X4_isPlayer
set_option maxRecDepth 20000 in
theorem ggX4_bestLimit_X4_in : GoodIn wsX4_bestLimit wsX4_in := goodIn_r _ [12] (by decide +kernel) (by decide +kernel)
set_option maxRecDepth 20000 in
theorem gX4_bestLimit_X4_in : GoodIn wsX4_bestLimit (va_wsS RX4 35 yX4_in wsX4_in) := goodIn_app (goodIn_of _ (by decide +kernel)) ggX4_bestLimit_X4_in
set_option maxRecDepth 20000 in
theorem ggX4_bestLimit_X4_copyState : GoodIn wsX4_bestLimit wsX4_copyState := goodIn_r _ [15] (by decide +kernel) (by decide +kernel)
set_option maxRecDepth 20000 in
theorem gX4_bestLimit_X4_copyState : GoodIn wsX4_bestLimit (va_wsS RX4 44 yX4_copyState wsX4_copyState) := goodIn_app (goodIn_of _ (by decide +kernel)) ggX4_bestLimit_X4_copyState
set_option maxRecDepth 20000 in
theorem ggX4_bestLimit_X4_finishNow : GoodIn wsX4_bestLimit wsX4_finishNow := goodIn_r _ [19, 4, 20, 21, 22, 8, 23, 24, 25, 26, 27, 3, 28, 29, 30, 31, 32, 33, 34, 35, 36, 37, 38, 39, 40, 41, 42, 43, 44, 45, 46, 47, 48, 49, 50, 51, 52, 53, 54, 55, 56, 57, 58, 59, 60, 61, 62, 63, 64, 65, 66, 67, 68, 69, 70, 71, 72, 73, 74, 75, 76, 77, 78, 79, 80, 81, 82] (by decide +kernel) (by decide +kernel)
set_option maxRecDepth 20000 in
theorem gX4_bestLimit_X4_finishNow : GoodIn wsX4_bestLimit (wsV RX4 112 RX4 yX4_finishNow wsX4_finishNow) := goodIn_app (goodIn_of _ (by decide +kernel)) ggX4_bestLimit_X4_finishNow
theorem dX4_bestLimit_0 : decode cX4_bestLimit 0 = .ok (.iload_n 1, 1) := by decide +kernel
theorem dX4_bestLimit_1 : decode cX4_bestLimit 1 = .ok (.invokestatic 65, 3) := by decide +kernel
theorem dX4_bestLimit_4 : decode cX4_bestLimit 4 = .ok (.ifCond .ne 6, 3) := by decide +kernel
theorem dX4_bestLimit_7 : decode cX4_bestLimit 7 = .ok (.ldc 69, 2) := by decide +kernel
theorem dX4_bestLimit_9 : decode cX4_bestLimit 9 = .ok (.ireturn, 1) := by decide +kernel
theorem dX4_bestLimit_10 : decode cX4_bestLimit 10 = .ok (.iload_n 2, 1) := by decide +kernel
theorem dX4_bestLimit_11 : decode cX4_bestLimit 11 = .ok (.iconst 0, 1) := by decide +kernel
theorem dX4_bestLimit_12 : decode cX4_bestLimit 12 = .ok (.iconst 1, 1) := by decide +kernel
theorem dX4_bestLimit_13 : decode cX4_bestLimit 13 = .ok (.invokestatic 35, 3) := by decide +kernel
theorem dX4_bestLimit_16 : decode cX4_bestLimit 16 = .ok (.ifCond .ne 6, 3) := by decide +kernel
theorem dX4_bestLimit_19 : decode cX4_bestLimit 19 = .ok (.ldc 49, 2) := by decide +kernel
theorem dX4_bestLimit_21 : decode cX4_bestLimit 21 = .ok (.ireturn, 1) := by decide +kernel
theorem dX4_bestLimit_22 : decode cX4_bestLimit 22 = .ok (.ldc 39, 2) := by decide +kernel
theorem dX4_bestLimit_24 : decode cX4_bestLimit 24 = .ok (.istore_n 3, 1) := by decide +kernel
theorem dX4_bestLimit_25 : decode cX4_bestLimit 25 = .ok (.iconst 0, 1) := by decide +kernel
theorem dX4_bestLimit_26 : decode cX4_bestLimit 26 = .ok (.istore 4, 2) := by decide +kernel
theorem dX4_bestLimit_28 : decode cX4_bestLimit 28 = .ok (.iconst 0, 1) := by decide +kernel
theorem dX4_bestLimit_29 : decode cX4_bestLimit 29 = .ok (.istore 5, 2) := by decide +kernel
theorem dX4_bestLimit_31 : decode cX4_bestLimit 31 = .ok (.iload 5, 2) := by decide +kernel
theorem dX4_bestLimit_33 : decode cX4_bestLimit 33 = .ok (.bipush 100, 2) := by decide +kernel
theorem dX4_bestLimit_35 : decode cX4_bestLimit 35 = .ok (.if_icmp .ge 118, 3) := by decide +kernel
theorem dX4_bestLimit_38 : decode cX4_bestLimit 38 = .ok (.aload_n 0, 1) := by decide +kernel
theorem dX4_bestLimit_39 : decode cX4_bestLimit 39 = .ok (.getfield 7, 3) := by decide +kernel
theorem dX4_bestLimit_42 : decode cX4_bestLimit 42 = .ok (.iconst 0, 1) := by decide +kernel
theorem dX4_bestLimit_43 : decode cX4_bestLimit 43 = .ok (.aload_n 0, 1) := by decide +kernel
theorem dX4_bestLimit_44 : decode cX4_bestLimit 44 = .ok (.getfield 13, 3) := by decide +kernel
theorem dX4_bestLimit_47 : decode cX4_bestLimit 47 = .ok (.iconst 0, 1) := by decide +kernel
theorem dX4_bestLimit_48 : decode cX4_bestLimit 48 = .ok (.invokestatic 44, 3) := by decide +kernel
theorem dX4_bestLimit_51 : decode cX4_bestLimit 51 = .ok (.aload_n 0, 1) := by decide +kernel
theorem dX4_bestLimit_52 : decode cX4_bestLimit 52 = .ok (.getfield 7, 3) := by decide +kernel
theorem dX4_bestLimit_55 : decode cX4_bestLimit 55 = .ok (.bipush 13, 2) := by decide +kernel
theorem dX4_bestLimit_57 : decode cX4_bestLimit 57 = .ok (.iload_n 1, 1) := by decide +kernel
theorem dX4_bestLimit_58 : decode cX4_bestLimit 58 = .ok (.iadd, 1) := by decide +kernel
theorem dX4_bestLimit_59 : decode cX4_bestLimit 59 = .ok (.iload 5, 2) := by decide +kernel
theorem dX4_bestLimit_61 : decode cX4_bestLimit 61 = .ok (.iastore, 1) := by decide +kernel
theorem dX4_bestLimit_62 : decode cX4_bestLimit 62 = .ok (.aload_n 0, 1) := by decide +kernel
theorem dX4_bestLimit_63 : decode cX4_bestLimit 63 = .ok (.invokevirtual 112, 3) := by decide +kernel
theorem dX4_bestLimit_66 : decode cX4_bestLimit 66 = .ok (.pop, 1) := by decide +kernel
theorem dX4_bestLimit_67 : decode cX4_bestLimit 67 = .ok (.aload_n 0, 1) := by decide +kernel
theorem dX4_bestLimit_68 : decode cX4_bestLimit 68 = .ok (.getfield 7, 3) := by decide +kernel
theorem dX4_bestLimit_71 : decode cX4_bestLimit 71 = .ok (.bipush 8, 2) := by decide +kernel
theorem dX4_bestLimit_73 : decode cX4_bestLimit 73 = .ok (.iload_n 1, 1) := by decide +kernel
theorem dX4_bestLimit_74 : decode cX4_bestLimit 74 = .ok (.iadd, 1) := by decide +kernel
theorem dX4_bestLimit_75 : decode cX4_bestLimit 75 = .ok (.iaload, 1) := by decide +kernel
theorem dX4_bestLimit_76 : decode cX4_bestLimit 76 = .ok (.aload_n 0, 1) := by decide +kernel
theorem dX4_bestLimit_77 : decode cX4_bestLimit 77 = .ok (.getfield 13, 3) := by decide +kernel
theorem dX4_bestLimit_80 : decode cX4_bestLimit 80 = .ok (.bipush 8, 2) := by decide +kernel
theorem dX4_bestLimit_82 : decode cX4_bestLimit 82 = .ok (.iload_n 1, 1) := by decide +kernel
theorem dX4_bestLimit_83 : decode cX4_bestLimit 83 = .ok (.iadd, 1) := by decide +kernel
theorem dX4_bestLimit_84 : decode cX4_bestLimit 84 = .ok (.iaload, 1) := by decide +kernel
theorem dX4_bestLimit_85 : decode cX4_bestLimit 85 = .ok (.isub, 1) := by decide +kernel
theorem dX4_bestLimit_86 : decode cX4_bestLimit 86 = .ok (.istore 6, 2) := by decide +kernel
theorem dX4_bestLimit_88 : decode cX4_bestLimit 88 = .ok (.aload_n 0, 1) := by decide +kernel
theorem dX4_bestLimit_89 : decode cX4_bestLimit 89 = .ok (.getfield 13, 3) := by decide +kernel
theorem dX4_bestLimit_92 : decode cX4_bestLimit 92 = .ok (.iconst 0, 1) := by decide +kernel
theorem dX4_bestLimit_93 : decode cX4_bestLimit 93 = .ok (.aload_n 0, 1) := by decide +kernel
theorem dX4_bestLimit_94 : decode cX4_bestLimit 94 = .ok (.getfield 7, 3) := by decide +kernel
theorem dX4_bestLimit_97 : decode cX4_bestLimit 97 = .ok (.iconst 0, 1) := by decide +kernel
theorem dX4_bestLimit_98 : decode cX4_bestLimit 98 = .ok (.invokestatic 44, 3) := by decide +kernel
theorem dX4_bestLimit_101 : decode cX4_bestLimit 101 = .ok (.iload_n 3, 1) := by decide +kernel
theorem dX4_bestLimit_102 : decode cX4_bestLimit 102 = .ok (.ldc 39, 2) := by decide +kernel
theorem dX4_bestLimit_104 : decode cX4_bestLimit 104 = .ok (.if_icmp .eq 10, 3) := by decide +kernel
theorem dX4_bestLimit_107 : decode cX4_bestLimit 107 = .ok (.iload 6, 2) := by decide +kernel
theorem dX4_bestLimit_109 : decode cX4_bestLimit 109 = .ok (.iload 4, 2) := by decide +kernel
theorem dX4_bestLimit_111 : decode cX4_bestLimit 111 = .ok (.if_icmp .le 7, 3) := by decide +kernel
theorem dX4_bestLimit_114 : decode cX4_bestLimit 114 = .ok (.iconst 1, 1) := by decide +kernel
theorem dX4_bestLimit_115 : decode cX4_bestLimit 115 = .ok (.goto 4, 3) := by decide +kernel
theorem dX4_bestLimit_118 : decode cX4_bestLimit 118 = .ok (.iconst 0, 1) := by decide +kernel
theorem dX4_bestLimit_119 : decode cX4_bestLimit 119 = .ok (.istore 7, 2) := by decide +kernel
theorem dX4_bestLimit_121 : decode cX4_bestLimit 121 = .ok (.iload 7, 2) := by decide +kernel
theorem dX4_bestLimit_123 : decode cX4_bestLimit 123 = .ok (.ifCond .eq 8, 3) := by decide +kernel
theorem dX4_bestLimit_126 : decode cX4_bestLimit 126 = .ok (.iload 5, 2) := by decide +kernel
theorem dX4_bestLimit_128 : decode cX4_bestLimit 128 = .ok (.goto 4, 3) := by decide +kernel
theorem dX4_bestLimit_131 : decode cX4_bestLimit 131 = .ok (.iload_n 3, 1) := by decide +kernel
theorem dX4_bestLimit_132 : decode cX4_bestLimit 132 = .ok (.istore_n 3, 1) := by decide +kernel
theorem dX4_bestLimit_133 : decode cX4_bestLimit 133 = .ok (.iload 7, 2) := by decide +kernel
theorem dX4_bestLimit_135 : decode cX4_bestLimit 135 = .ok (.ifCond .eq 8, 3) := by decide +kernel
theorem dX4_bestLimit_138 : decode cX4_bestLimit 138 = .ok (.iload 6, 2) := by decide +kernel
theorem dX4_bestLimit_140 : decode cX4_bestLimit 140 = .ok (.goto 5, 3) := by decide +kernel
theorem dX4_bestLimit_143 : decode cX4_bestLimit 143 = .ok (.iload 4, 2) := by decide +kernel
theorem dX4_bestLimit_145 : decode cX4_bestLimit 145 = .ok (.istore 4, 2) := by decide +kernel
theorem dX4_bestLimit_147 : decode cX4_bestLimit 147 = .ok (.iinc 5 1, 3) := by decide +kernel
theorem dX4_bestLimit_150 : decode cX4_bestLimit 150 = .ok (.goto (-119), 3) := by decide +kernel
theorem dX4_bestLimit_153 : decode cX4_bestLimit 153 = .ok (.iload_n 2, 1) := by decide +kernel
theorem dX4_bestLimit_154 : decode cX4_bestLimit 154 = .ok (.ifCond .ne 7, 3) := by decide +kernel
theorem dX4_bestLimit_157 : decode cX4_bestLimit 157 = .ok (.iload_n 3, 1) := by decide +kernel
theorem dX4_bestLimit_158 : decode cX4_bestLimit 158 = .ok (.goto 5, 3) := by decide +kernel
theorem dX4_bestLimit_161 : decode cX4_bestLimit 161 = .ok (.iload 4, 2) := by decide +kernel
theorem dX4_bestLimit_163 : decode cX4_bestLimit 163 = .ok (.ireturn, 1) := by decide +kernel
set_option maxRecDepth 20000 in
theorem ggX4_play_X4_copyState : GoodIn wsX4_play wsX4_copyState := goodIn_r _ [6] (by decide +kernel) (by decide +kernel)
set_option maxRecDepth 20000 in
theorem gX4_play_X4_copyState : GoodIn wsX4_play (va_wsS RX4 44 yX4_copyState wsX4_copyState) := goodIn_app (goodIn_of _ (by decide +kernel)) ggX4_play_X4_copyState
set_option maxRecDepth 20000 in
theorem ggX4_play_X4_finishNow : GoodIn wsX4_play wsX4_finishNow := goodIn_r _ [10, 1, 11, 12, 13, 5, 14, 15, 16, 17, 18, 19, 20, 21, 22, 23, 24, 25, 26, 27, 28, 29, 30, 31, 32, 33, 34, 35, 36, 37, 38, 39, 40, 41, 42, 43, 44, 45, 46, 47, 48, 49, 50, 51, 52, 53, 54, 55, 56, 57, 58, 59, 60, 61, 62, 63, 64, 65, 66, 67, 68, 69, 70, 71, 72, 73, 74] (by decide +kernel) (by decide +kernel)
set_option maxRecDepth 20000 in
theorem gX4_play_X4_finishNow : GoodIn wsX4_play (wsV RX4 112 RX4 yX4_finishNow wsX4_finishNow) := goodIn_app (goodIn_of _ (by decide +kernel)) ggX4_play_X4_finishNow
theorem dX4_play_0 : decode cX4_play 0 = .ok (.aload_n 0, 1) := by decide +kernel
theorem dX4_play_1 : decode cX4_play 1 = .ok (.getfield 7, 3) := by decide +kernel
theorem dX4_play_4 : decode cX4_play 4 = .ok (.iconst 0, 1) := by decide +kernel
theorem dX4_play_5 : decode cX4_play 5 = .ok (.aload_n 0, 1) := by decide +kernel
theorem dX4_play_6 : decode cX4_play 6 = .ok (.getfield 13, 3) := by decide +kernel
theorem dX4_play_9 : decode cX4_play 9 = .ok (.iconst 0, 1) := by decide +kernel
theorem dX4_play_10 : decode cX4_play 10 = .ok (.invokestatic 44, 3) := by decide +kernel
theorem dX4_play_13 : decode cX4_play 13 = .ok (.iconst 0, 1) := by decide +kernel
theorem dX4_play_14 : decode cX4_play 14 = .ok (.istore_n 2, 1) := by decide +kernel
theorem dX4_play_15 : decode cX4_play 15 = .ok (.iload_n 2, 1) := by decide +kernel
theorem dX4_play_16 : decode cX4_play 16 = .ok (.iload_n 1, 1) := by decide +kernel
theorem dX4_play_17 : decode cX4_play 17 = .ok (.if_icmp .ge 14, 3) := by decide +kernel
theorem dX4_play_20 : decode cX4_play 20 = .ok (.aload_n 0, 1) := by decide +kernel
theorem dX4_play_21 : decode cX4_play 21 = .ok (.invokevirtual 112, 3) := by decide +kernel
theorem dX4_play_24 : decode cX4_play 24 = .ok (.pop, 1) := by decide +kernel
theorem dX4_play_25 : decode cX4_play 25 = .ok (.iinc 2 1, 3) := by decide +kernel
theorem dX4_play_28 : decode cX4_play 28 = .ok (.goto (-13), 3) := by decide +kernel
theorem dX4_play_31 : decode cX4_play 31 = .ok (.return_, 1) := by decide +kernel
set_option maxRecDepth 20000 in
theorem ggX4_coinsBehind_X4_isPlayer : GoodIn wsX4_coinsBehind wsX4_isPlayer := goodIn_r _ [8, 9, 10, 7, 11] (by decide +kernel) (by decide +kernel)
set_option maxRecDepth 20000 in
theorem gX4_coinsBehind_X4_isPlayer : GoodIn wsX4_coinsBehind (va_wsS RX4 65 yX4_isPlayer wsX4_isPlayer) := goodIn_app (goodIn_of _ (by decide +kernel)) ggX4_coinsBehind_X4_isPlayer
set_option maxRecDepth 20000 in
theorem ggX4_coinsBehind_X4_in : GoodIn wsX4_coinsBehind wsX4_in := goodIn_r _ [11] (by decide +kernel) (by decide +kernel)
set_option maxRecDepth 20000 in
theorem gX4_coinsBehind_X4_in : GoodIn wsX4_coinsBehind (va_wsS RX4 35 yX4_in wsX4_in) := goodIn_app (goodIn_of _ (by decide +kernel)) ggX4_coinsBehind_X4_in
set_option maxRecDepth 20000 in
theorem ggX4_coinsBehind_X4_play : GoodIn wsX4_coinsBehind wsX4_play := goodIn_r _ [15, 3, 4, 16, 17, 7, 18, 19, 20, 21, 22, 23, 24, 25, 26, 27, 28, 29, 30, 31, 32, 33, 34, 35, 36, 37, 38, 39, 40, 41, 42, 43, 44, 45, 46, 47, 48, 49, 50, 51, 52, 53, 54, 55, 56, 57, 58, 59, 60, 61, 62, 63, 64, 65, 66, 67, 68, 69, 70, 71, 72, 73, 74, 75, 76, 77, 78, 79, 80, 81, 82, 83, 84, 85, 86] (by decide +kernel) (by decide +kernel)
set_option maxRecDepth 20000 in
theorem gX4_coinsBehind_X4_play : GoodIn wsX4_coinsBehind (wsV RX4 150 RX4 yX4_play wsX4_play) := goodIn_app (goodIn_of _ (by decide +kernel)) ggX4_coinsBehind_X4_play
set_option maxRecDepth 20000 in
theorem ggX4_coinsBehind_X4_copyState : GoodIn wsX4_coinsBehind wsX4_copyState := goodIn_r _ [18] (by decide +kernel) (by decide +kernel)
set_option maxRecDepth 20000 in
theorem gX4_coinsBehind_X4_copyState : GoodIn wsX4_coinsBehind (va_wsS RX4 44 yX4_copyState wsX4_copyState) := goodIn_app (goodIn_of _ (by decide +kernel)) ggX4_coinsBehind_X4_copyState
theorem dX4_coinsBehind_0 : decode cX4_coinsBehind 0 = .ok (.iload_n 1, 1) := by decide +kernel
theorem dX4_coinsBehind_1 : decode cX4_coinsBehind 1 = .ok (.invokestatic 65, 3) := by decide +kernel
theorem dX4_coinsBehind_4 : decode cX4_coinsBehind 4 = .ok (.ifCond .ne 6, 3) := by decide +kernel
theorem dX4_coinsBehind_7 : decode cX4_coinsBehind 7 = .ok (.ldc 69, 2) := by decide +kernel
theorem dX4_coinsBehind_9 : decode cX4_coinsBehind 9 = .ok (.ireturn, 1) := by decide +kernel
theorem dX4_coinsBehind_10 : decode cX4_coinsBehind 10 = .ok (.iload_n 2, 1) := by decide +kernel
theorem dX4_coinsBehind_11 : decode cX4_coinsBehind 11 = .ok (.iconst 1, 1) := by decide +kernel
theorem dX4_coinsBehind_12 : decode cX4_coinsBehind 12 = .ok (.bipush 100, 2) := by decide +kernel
theorem dX4_coinsBehind_14 : decode cX4_coinsBehind 14 = .ok (.invokestatic 35, 3) := by decide +kernel
theorem dX4_coinsBehind_17 : decode cX4_coinsBehind 17 = .ok (.ifCond .ne 6, 3) := by decide +kernel
theorem dX4_coinsBehind_20 : decode cX4_coinsBehind 20 = .ok (.ldc 49, 2) := by decide +kernel
theorem dX4_coinsBehind_22 : decode cX4_coinsBehind 22 = .ok (.ireturn, 1) := by decide +kernel
theorem dX4_coinsBehind_23 : decode cX4_coinsBehind 23 = .ok (.aload_n 0, 1) := by decide +kernel
theorem dX4_coinsBehind_24 : decode cX4_coinsBehind 24 = .ok (.iload_n 2, 1) := by decide +kernel
theorem dX4_coinsBehind_25 : decode cX4_coinsBehind 25 = .ok (.invokevirtual 150, 3) := by decide +kernel
theorem dX4_coinsBehind_28 : decode cX4_coinsBehind 28 = .ok (.aload_n 0, 1) := by decide +kernel
theorem dX4_coinsBehind_29 : decode cX4_coinsBehind 29 = .ok (.getfield 7, 3) := by decide +kernel
theorem dX4_coinsBehind_32 : decode cX4_coinsBehind 32 = .ok (.bipush 8, 2) := by decide +kernel
theorem dX4_coinsBehind_34 : decode cX4_coinsBehind 34 = .ok (.iload_n 1, 1) := by decide +kernel
theorem dX4_coinsBehind_35 : decode cX4_coinsBehind 35 = .ok (.iadd, 1) := by decide +kernel
theorem dX4_coinsBehind_36 : decode cX4_coinsBehind 36 = .ok (.iaload, 1) := by decide +kernel
theorem dX4_coinsBehind_37 : decode cX4_coinsBehind 37 = .ok (.istore_n 3, 1) := by decide +kernel
theorem dX4_coinsBehind_38 : decode cX4_coinsBehind 38 = .ok (.aload_n 0, 1) := by decide +kernel
theorem dX4_coinsBehind_39 : decode cX4_coinsBehind 39 = .ok (.getfield 13, 3) := by decide +kernel
theorem dX4_coinsBehind_42 : decode cX4_coinsBehind 42 = .ok (.iconst 0, 1) := by decide +kernel
theorem dX4_coinsBehind_43 : decode cX4_coinsBehind 43 = .ok (.aload_n 0, 1) := by decide +kernel
theorem dX4_coinsBehind_44 : decode cX4_coinsBehind 44 = .ok (.getfield 7, 3) := by decide +kernel
theorem dX4_coinsBehind_47 : decode cX4_coinsBehind 47 = .ok (.iconst 0, 1) := by decide +kernel
theorem dX4_coinsBehind_48 : decode cX4_coinsBehind 48 = .ok (.invokestatic 44, 3) := by decide +kernel
theorem dX4_coinsBehind_51 : decode cX4_coinsBehind 51 = .ok (.iload_n 3, 1) := by decide +kernel
theorem dX4_coinsBehind_52 : decode cX4_coinsBehind 52 = .ok (.ireturn, 1) := by decide +kernel
set_option maxRecDepth 20000 in
theorem ggX4_richest_X4_in : GoodIn wsX4_richest wsX4_in := goodIn_r _ [7] (by decide +kernel) (by decide +kernel)
set_option maxRecDepth 20000 in
theorem gX4_richest_X4_in : GoodIn wsX4_richest (va_wsS RX4 35 yX4_in wsX4_in) := goodIn_app (goodIn_of _ (by decide +kernel)) ggX4_richest_X4_in
set_option maxRecDepth 20000 in
theorem ggX4_richest_X4_play : GoodIn wsX4_richest wsX4_play := goodIn_r _ [11, 2, 3, 12, 13, 6, 14, 15, 16, 17, 18, 19, 20, 21, 22, 23, 24, 25, 26, 27, 28, 29, 30, 31, 32, 33, 34, 35, 36, 37, 38, 39, 40, 41, 42, 43, 44, 45, 46, 47, 48, 49, 50, 51, 52, 53, 54, 55, 56, 57, 58, 59, 60, 61, 62, 63, 64, 65, 66, 67, 68, 69, 70, 71, 72, 73, 74, 75, 76, 77, 78, 79, 80, 81, 82] (by decide +kernel) (by decide +kernel)
set_option maxRecDepth 20000 in
theorem gX4_richest_X4_play : GoodIn wsX4_richest (wsV RX4 150 RX4 yX4_play wsX4_play) := goodIn_app (goodIn_of _ (by decide +kernel)) ggX4_richest_X4_play
set_option maxRecDepth 20000 in
theorem ggX4_richest_X4_playerAt : GoodIn wsX4_richest wsX4_playerAt := goodIn_r _ [31, 27, 2, 72, 73, 74, 75, 76, 77, 78, 79, 80, 81, 82] (by decide +kernel) (by decide +kernel)
set_option maxRecDepth 20000 in
theorem gX4_richest_X4_playerAt : GoodIn wsX4_richest (wsV RX4 70 RX4 yX4_playerAt wsX4_playerAt) := goodIn_app (goodIn_of _ (by decide +kernel)) ggX4_richest_X4_playerAt
set_option maxRecDepth 20000 in
theorem ggX4_richest_X4_copyState : GoodIn wsX4_richest wsX4_copyState := goodIn_r _ [14] (by decide +kernel) (by decide +kernel)
set_option maxRecDepth 20000 in
theorem gX4_richest_X4_copyState : GoodIn wsX4_richest (va_wsS RX4 44 yX4_copyState wsX4_copyState) := goodIn_app (goodIn_of _ (by decide +kernel)) ggX4_richest_X4_copyState
theorem dX4_richest_0 : decode cX4_richest 0 = .ok (.iload_n 1, 1) := by decide +kernel
theorem dX4_richest_1 : decode cX4_richest 1 = .ok (.iconst 1, 1) := by decide +kernel
theorem dX4_richest_2 : decode cX4_richest 2 = .ok (.bipush 100, 2) := by decide +kernel
theorem dX4_richest_4 : decode cX4_richest 4 = .ok (.invokestatic 35, 3) := by decide +kernel
theorem dX4_richest_7 : decode cX4_richest 7 = .ok (.ifCond .ne 6, 3) := by decide +kernel
theorem dX4_richest_10 : decode cX4_richest 10 = .ok (.ldc 49, 2) := by decide +kernel
theorem dX4_richest_12 : decode cX4_richest 12 = .ok (.ireturn, 1) := by decide +kernel
theorem dX4_richest_13 : decode cX4_richest 13 = .ok (.aload_n 0, 1) := by decide +kernel
theorem dX4_richest_14 : decode cX4_richest 14 = .ok (.iload_n 1, 1) := by decide +kernel
theorem dX4_richest_15 : decode cX4_richest 15 = .ok (.invokevirtual 150, 3) := by decide +kernel
theorem dX4_richest_18 : decode cX4_richest 18 = .ok (.aload_n 0, 1) := by decide +kernel
theorem dX4_richest_19 : decode cX4_richest 19 = .ok (.iconst 0, 1) := by decide +kernel
theorem dX4_richest_20 : decode cX4_richest 20 = .ok (.invokevirtual 70, 3) := by decide +kernel
theorem dX4_richest_23 : decode cX4_richest 23 = .ok (.istore_n 2, 1) := by decide +kernel
theorem dX4_richest_24 : decode cX4_richest 24 = .ok (.iconst 1, 1) := by decide +kernel
theorem dX4_richest_25 : decode cX4_richest 25 = .ok (.istore_n 3, 1) := by decide +kernel
theorem dX4_richest_26 : decode cX4_richest 26 = .ok (.iload_n 3, 1) := by decide +kernel
theorem dX4_richest_27 : decode cX4_richest 27 = .ok (.iconst 5, 1) := by decide +kernel
theorem dX4_richest_28 : decode cX4_richest 28 = .ok (.if_icmp .ge 45, 3) := by decide +kernel
theorem dX4_richest_31 : decode cX4_richest 31 = .ok (.aload_n 0, 1) := by decide +kernel
theorem dX4_richest_32 : decode cX4_richest 32 = .ok (.iload_n 3, 1) := by decide +kernel
theorem dX4_richest_33 : decode cX4_richest 33 = .ok (.invokevirtual 70, 3) := by decide +kernel
theorem dX4_richest_36 : decode cX4_richest 36 = .ok (.istore 4, 2) := by decide +kernel
theorem dX4_richest_38 : decode cX4_richest 38 = .ok (.aload_n 0, 1) := by decide +kernel
theorem dX4_richest_39 : decode cX4_richest 39 = .ok (.getfield 7, 3) := by decide +kernel
theorem dX4_richest_42 : decode cX4_richest 42 = .ok (.bipush 8, 2) := by decide +kernel
theorem dX4_richest_44 : decode cX4_richest 44 = .ok (.iload 4, 2) := by decide +kernel
theorem dX4_richest_46 : decode cX4_richest 46 = .ok (.iadd, 1) := by decide +kernel
theorem dX4_richest_47 : decode cX4_richest 47 = .ok (.iaload, 1) := by decide +kernel
theorem dX4_richest_48 : decode cX4_richest 48 = .ok (.aload_n 0, 1) := by decide +kernel
theorem dX4_richest_49 : decode cX4_richest 49 = .ok (.getfield 7, 3) := by decide +kernel
theorem dX4_richest_52 : decode cX4_richest 52 = .ok (.bipush 8, 2) := by decide +kernel
theorem dX4_richest_54 : decode cX4_richest 54 = .ok (.iload_n 2, 1) := by decide +kernel
theorem dX4_richest_55 : decode cX4_richest 55 = .ok (.iadd, 1) := by decide +kernel
theorem dX4_richest_56 : decode cX4_richest 56 = .ok (.iaload, 1) := by decide +kernel
theorem dX4_richest_57 : decode cX4_richest 57 = .ok (.if_icmp .le 8, 3) := by decide +kernel
theorem dX4_richest_60 : decode cX4_richest 60 = .ok (.iload 4, 2) := by decide +kernel
theorem dX4_richest_62 : decode cX4_richest 62 = .ok (.goto 4, 3) := by decide +kernel
theorem dX4_richest_65 : decode cX4_richest 65 = .ok (.iload_n 2, 1) := by decide +kernel
theorem dX4_richest_66 : decode cX4_richest 66 = .ok (.istore_n 2, 1) := by decide +kernel
theorem dX4_richest_67 : decode cX4_richest 67 = .ok (.iinc 3 1, 3) := by decide +kernel
theorem dX4_richest_70 : decode cX4_richest 70 = .ok (.goto (-44), 3) := by decide +kernel
theorem dX4_richest_73 : decode cX4_richest 73 = .ok (.aload_n 0, 1) := by decide +kernel
theorem dX4_richest_74 : decode cX4_richest 74 = .ok (.getfield 13, 3) := by decide +kernel
theorem dX4_richest_77 : decode cX4_richest 77 = .ok (.iconst 0, 1) := by decide +kernel
theorem dX4_richest_78 : decode cX4_richest 78 = .ok (.aload_n 0, 1) := by decide +kernel
theorem dX4_richest_79 : decode cX4_richest 79 = .ok (.getfield 7, 3) := by decide +kernel
theorem dX4_richest_82 : decode cX4_richest 82 = .ok (.iconst 0, 1) := by decide +kernel
theorem dX4_richest_83 : decode cX4_richest 83 = .ok (.invokestatic 44, 3) := by decide +kernel
theorem dX4_richest_86 : decode cX4_richest 86 = .ok (.iload_n 2, 1) := by decide +kernel
theorem dX4_richest_87 : decode cX4_richest 87 = .ok (.ireturn, 1) := by decide +kernel
set_option maxRecDepth 20000 in
theorem ggX4_movesLeft_X4_copyState : GoodIn wsX4_movesLeft wsX4_copyState := goodIn_r _ [7] (by decide +kernel) (by decide +kernel)
set_option maxRecDepth 20000 in
theorem gX4_movesLeft_X4_copyState : GoodIn wsX4_movesLeft (va_wsS RX4 44 yX4_copyState wsX4_copyState) := goodIn_app (goodIn_of _ (by decide +kernel)) ggX4_movesLeft_X4_copyState
set_option maxRecDepth 20000 in
theorem ggX4_movesLeft_X4_finishNow : GoodIn wsX4_movesLeft wsX4_finishNow := goodIn_r _ [11, 1, 12, 13, 14, 6, 15, 16, 17, 18, 19, 20, 21, 22, 23, 24, 25, 26, 27, 28, 29, 30, 31, 32, 33, 34, 35, 36, 37, 38, 39, 40, 41, 42, 43, 44, 45, 46, 47, 48, 49, 50, 51, 52, 53, 54, 55, 56, 57, 58, 59, 60, 61, 62, 63, 64, 65, 66, 67, 68, 69, 70, 71, 72, 73, 74, 75] (by decide +kernel) (by decide +kernel)
set_option maxRecDepth 20000 in
theorem gX4_movesLeft_X4_finishNow : GoodIn wsX4_movesLeft (wsV RX4 112 RX4 yX4_finishNow wsX4_finishNow) := goodIn_app (goodIn_of _ (by decide +kernel)) ggX4_movesLeft_X4_finishNow
theorem dX4_movesLeft_0 : decode cX4_movesLeft 0 = .ok (.aload_n 0, 1) := by decide +kernel
theorem dX4_movesLeft_1 : decode cX4_movesLeft 1 = .ok (.getfield 7, 3) := by decide +kernel
theorem dX4_movesLeft_4 : decode cX4_movesLeft 4 = .ok (.iconst 4, 1) := by decide +kernel
theorem dX4_movesLeft_5 : decode cX4_movesLeft 5 = .ok (.iaload, 1) := by decide +kernel
theorem dX4_movesLeft_6 : decode cX4_movesLeft 6 = .ok (.ifCond .ne 6, 3) := by decide +kernel
theorem dX4_movesLeft_9 : decode cX4_movesLeft 9 = .ok (.ldc 48, 2) := by decide +kernel
theorem dX4_movesLeft_11 : decode cX4_movesLeft 11 = .ok (.ireturn, 1) := by decide +kernel
theorem dX4_movesLeft_12 : decode cX4_movesLeft 12 = .ok (.aload_n 0, 1) := by decide +kernel
theorem dX4_movesLeft_13 : decode cX4_movesLeft 13 = .ok (.getfield 7, 3) := by decide +kernel
theorem dX4_movesLeft_16 : decode cX4_movesLeft 16 = .ok (.iconst 0, 1) := by decide +kernel
theorem dX4_movesLeft_17 : decode cX4_movesLeft 17 = .ok (.aload_n 0, 1) := by decide +kernel
theorem dX4_movesLeft_18 : decode cX4_movesLeft 18 = .ok (.getfield 13, 3) := by decide +kernel
theorem dX4_movesLeft_21 : decode cX4_movesLeft 21 = .ok (.iconst 0, 1) := by decide +kernel
theorem dX4_movesLeft_22 : decode cX4_movesLeft 22 = .ok (.invokestatic 44, 3) := by decide +kernel
theorem dX4_movesLeft_25 : decode cX4_movesLeft 25 = .ok (.aload_n 0, 1) := by decide +kernel
theorem dX4_movesLeft_26 : decode cX4_movesLeft 26 = .ok (.invokevirtual 112, 3) := by decide +kernel
theorem dX4_movesLeft_29 : decode cX4_movesLeft 29 = .ok (.istore_n 1, 1) := by decide +kernel
theorem dX4_movesLeft_30 : decode cX4_movesLeft 30 = .ok (.aload_n 0, 1) := by decide +kernel
theorem dX4_movesLeft_31 : decode cX4_movesLeft 31 = .ok (.getfield 13, 3) := by decide +kernel
theorem dX4_movesLeft_34 : decode cX4_movesLeft 34 = .ok (.iconst 0, 1) := by decide +kernel
theorem dX4_movesLeft_35 : decode cX4_movesLeft 35 = .ok (.aload_n 0, 1) := by decide +kernel
theorem dX4_movesLeft_36 : decode cX4_movesLeft 36 = .ok (.getfield 7, 3) := by decide +kernel
theorem dX4_movesLeft_39 : decode cX4_movesLeft 39 = .ok (.iconst 0, 1) := by decide +kernel
theorem dX4_movesLeft_40 : decode cX4_movesLeft 40 = .ok (.invokestatic 44, 3) := by decide +kernel
theorem dX4_movesLeft_43 : decode cX4_movesLeft 43 = .ok (.iload_n 1, 1) := by decide +kernel
theorem dX4_movesLeft_44 : decode cX4_movesLeft 44 = .ok (.ireturn, 1) := by decide +kernel
theorem dJ6_bitCount_0f7a4_0 : decode cJ6_bitCount_0f7a4 0 = .ok (.iload_n 0, 1) := by decide +kernel
theorem dJ6_bitCount_0f7a4_1 : decode cJ6_bitCount_0f7a4 1 = .ok (.iload_n 0, 1) := by decide +kernel
theorem dJ6_bitCount_0f7a4_2 : decode cJ6_bitCount_0f7a4 2 = .ok (.iconst 1, 1) := by decide +kernel
theorem dJ6_bitCount_0f7a4_3 : decode cJ6_bitCount_0f7a4 3 = .ok (.iushr, 1) := by decide +kernel
theorem dJ6_bitCount_0f7a4_4 : decode cJ6_bitCount_0f7a4 4 = .ok (.ldc_w 265, 3) := by decide +kernel
theorem dJ6_bitCount_0f7a4_7 : decode cJ6_bitCount_0f7a4 7 = .ok (.iand, 1) := by decide +kernel
theorem dJ6_bitCount_0f7a4_8 : decode cJ6_bitCount_0f7a4 8 = .ok (.isub, 1) := by decide +kernel
theorem dJ6_bitCount_0f7a4_9 : decode cJ6_bitCount_0f7a4 9 = .ok (.istore_n 0, 1) := by decide +kernel
theorem dJ6_bitCount_0f7a4_10 : decode cJ6_bitCount_0f7a4 10 = .ok (.iload_n 0, 1) := by decide +kernel
theorem dJ6_bitCount_0f7a4_11 : decode cJ6_bitCount_0f7a4 11 = .ok (.ldc_w 266, 3) := by decide +kernel
theorem dJ6_bitCount_0f7a4_14 : decode cJ6_bitCount_0f7a4 14 = .ok (.iand, 1) := by decide +kernel
theorem dJ6_bitCount_0f7a4_15 : decode cJ6_bitCount_0f7a4 15 = .ok (.iload_n 0, 1) := by decide +kernel
theorem dJ6_bitCount_0f7a4_16 : decode cJ6_bitCount_0f7a4 16 = .ok (.iconst 2, 1) := by decide +kernel
theorem dJ6_bitCount_0f7a4_17 : decode cJ6_bitCount_0f7a4 17 = .ok (.iushr, 1) := by decide +kernel
theorem dJ6_bitCount_0f7a4_18 : decode cJ6_bitCount_0f7a4 18 = .ok (.ldc_w 266, 3) := by decide +kernel
theorem dJ6_bitCount_0f7a4_21 : decode cJ6_bitCount_0f7a4 21 = .ok (.iand, 1) := by decide +kernel
theorem dJ6_bitCount_0f7a4_22 : decode cJ6_bitCount_0f7a4 22 = .ok (.iadd, 1) := by decide +kernel
theorem dJ6_bitCount_0f7a4_23 : decode cJ6_bitCount_0f7a4 23 = .ok (.istore_n 0, 1) := by decide +kernel
theorem dJ6_bitCount_0f7a4_24 : decode cJ6_bitCount_0f7a4 24 = .ok (.iload_n 0, 1) := by decide +kernel
theorem dJ6_bitCount_0f7a4_25 : decode cJ6_bitCount_0f7a4 25 = .ok (.iload_n 0, 1) := by decide +kernel
theorem dJ6_bitCount_0f7a4_26 : decode cJ6_bitCount_0f7a4 26 = .ok (.iconst 4, 1) := by decide +kernel
theorem dJ6_bitCount_0f7a4_27 : decode cJ6_bitCount_0f7a4 27 = .ok (.iushr, 1) := by decide +kernel
theorem dJ6_bitCount_0f7a4_28 : decode cJ6_bitCount_0f7a4 28 = .ok (.iadd, 1) := by decide +kernel
theorem dJ6_bitCount_0f7a4_29 : decode cJ6_bitCount_0f7a4 29 = .ok (.ldc_w 267, 3) := by decide +kernel
theorem dJ6_bitCount_0f7a4_32 : decode cJ6_bitCount_0f7a4 32 = .ok (.iand, 1) := by decide +kernel
theorem dJ6_bitCount_0f7a4_33 : decode cJ6_bitCount_0f7a4 33 = .ok (.istore_n 0, 1) := by decide +kernel
theorem dJ6_bitCount_0f7a4_34 : decode cJ6_bitCount_0f7a4 34 = .ok (.iload_n 0, 1) := by decide +kernel
theorem dJ6_bitCount_0f7a4_35 : decode cJ6_bitCount_0f7a4 35 = .ok (.iload_n 0, 1) := by decide +kernel
theorem dJ6_bitCount_0f7a4_36 : decode cJ6_bitCount_0f7a4 36 = .ok (.bipush 8, 2) := by decide +kernel
theorem dJ6_bitCount_0f7a4_38 : decode cJ6_bitCount_0f7a4 38 = .ok (.iushr, 1) := by decide +kernel
theorem dJ6_bitCount_0f7a4_39 : decode cJ6_bitCount_0f7a4 39 = .ok (.iadd, 1) := by decide +kernel
theorem dJ6_bitCount_0f7a4_40 : decode cJ6_bitCount_0f7a4 40 = .ok (.istore_n 0, 1) := by decide +kernel
theorem dJ6_bitCount_0f7a4_41 : decode cJ6_bitCount_0f7a4 41 = .ok (.iload_n 0, 1) := by decide +kernel
theorem dJ6_bitCount_0f7a4_42 : decode cJ6_bitCount_0f7a4 42 = .ok (.iload_n 0, 1) := by decide +kernel
theorem dJ6_bitCount_0f7a4_43 : decode cJ6_bitCount_0f7a4 43 = .ok (.bipush 16, 2) := by decide +kernel
theorem dJ6_bitCount_0f7a4_45 : decode cJ6_bitCount_0f7a4 45 = .ok (.iushr, 1) := by decide +kernel
theorem dJ6_bitCount_0f7a4_46 : decode cJ6_bitCount_0f7a4 46 = .ok (.iadd, 1) := by decide +kernel
theorem dJ6_bitCount_0f7a4_47 : decode cJ6_bitCount_0f7a4 47 = .ok (.istore_n 0, 1) := by decide +kernel
theorem dJ6_bitCount_0f7a4_48 : decode cJ6_bitCount_0f7a4 48 = .ok (.iload_n 0, 1) := by decide +kernel
theorem dJ6_bitCount_0f7a4_49 : decode cJ6_bitCount_0f7a4 49 = .ok (.bipush 63, 2) := by decide +kernel
theorem dJ6_bitCount_0f7a4_51 : decode cJ6_bitCount_0f7a4 51 = .ok (.iand, 1) := by decide +kernel
theorem dJ6_bitCount_0f7a4_52 : decode cJ6_bitCount_0f7a4 52 = .ok (.ireturn, 1) := by decide +kernel
theorem dJ9_floorMod_7cf53_0 : decode cJ9_floorMod_7cf53 0 = .ok (.iload_n 0, 1) := by decide +kernel
theorem dJ9_floorMod_7cf53_1 : decode cJ9_floorMod_7cf53 1 = .ok (.iload_n 1, 1) := by decide +kernel
theorem dJ9_floorMod_7cf53_2 : decode cJ9_floorMod_7cf53 2 = .ok (.irem, 1) := by decide +kernel
theorem dJ9_floorMod_7cf53_3 : decode cJ9_floorMod_7cf53 3 = .ok (.istore_n 2, 1) := by decide +kernel
theorem dJ9_floorMod_7cf53_4 : decode cJ9_floorMod_7cf53 4 = .ok (.iload_n 0, 1) := by decide +kernel
theorem dJ9_floorMod_7cf53_5 : decode cJ9_floorMod_7cf53 5 = .ok (.iload_n 1, 1) := by decide +kernel
theorem dJ9_floorMod_7cf53_6 : decode cJ9_floorMod_7cf53 6 = .ok (.ixor, 1) := by decide +kernel
theorem dJ9_floorMod_7cf53_7 : decode cJ9_floorMod_7cf53 7 = .ok (.ifCond .ge 11, 3) := by decide +kernel
theorem dJ9_floorMod_7cf53_10 : decode cJ9_floorMod_7cf53 10 = .ok (.iload_n 2, 1) := by decide +kernel
theorem dJ9_floorMod_7cf53_11 : decode cJ9_floorMod_7cf53 11 = .ok (.ifCond .eq 7, 3) := by decide +kernel
theorem dJ9_floorMod_7cf53_14 : decode cJ9_floorMod_7cf53 14 = .ok (.iload_n 2, 1) := by decide +kernel
theorem dJ9_floorMod_7cf53_15 : decode cJ9_floorMod_7cf53 15 = .ok (.iload_n 1, 1) := by decide +kernel
theorem dJ9_floorMod_7cf53_16 : decode cJ9_floorMod_7cf53 16 = .ok (.iadd, 1) := by decide +kernel
theorem dJ9_floorMod_7cf53_17 : decode cJ9_floorMod_7cf53 17 = .ok (.ireturn, 1) := by decide +kernel
theorem dJ9_floorMod_7cf53_18 : decode cJ9_floorMod_7cf53 18 = .ok (.iload_n 2, 1) := by decide +kernel
theorem dJ9_floorMod_7cf53_19 : decode cJ9_floorMod_7cf53 19 = .ok (.ireturn, 1) := by decide +kernel
theorem dJ9_max_7cf53_0 : decode cJ9_max_7cf53 0 = .ok (.iload_n 0, 1) := by decide +kernel
theorem dJ9_max_7cf53_1 : decode cJ9_max_7cf53 1 = .ok (.iload_n 1, 1) := by decide +kernel
theorem dJ9_max_7cf53_2 : decode cJ9_max_7cf53 2 = .ok (.if_icmp .lt 7, 3) := by decide +kernel
theorem dJ9_max_7cf53_5 : decode cJ9_max_7cf53 5 = .ok (.iload_n 0, 1) := by decide +kernel
theorem dJ9_max_7cf53_6 : decode cJ9_max_7cf53 6 = .ok (.goto 4, 3) := by decide +kernel
theorem dJ9_max_7cf53_9 : decode cJ9_max_7cf53 9 = .ok (.iload_n 1, 1) := by decide +kernel
theorem dJ9_max_7cf53_10 : decode cJ9_max_7cf53 10 = .ok (.ireturn, 1) := by decide +kernel
theorem dJ9_min_7cf53_0 : decode cJ9_min_7cf53 0 = .ok (.iload_n 0, 1) := by decide +kernel
theorem dJ9_min_7cf53_1 : decode cJ9_min_7cf53 1 = .ok (.iload_n 1, 1) := by decide +kernel
theorem dJ9_min_7cf53_2 : decode cJ9_min_7cf53 2 = .ok (.if_icmp .gt 7, 3) := by decide +kernel
theorem dJ9_min_7cf53_5 : decode cJ9_min_7cf53 5 = .ok (.iload_n 0, 1) := by decide +kernel
theorem dJ9_min_7cf53_6 : decode cJ9_min_7cf53 6 = .ok (.goto 4, 3) := by decide +kernel
theorem dJ9_min_7cf53_9 : decode cJ9_min_7cf53 9 = .ok (.iload_n 1, 1) := by decide +kernel
theorem dJ9_min_7cf53_10 : decode cJ9_min_7cf53 10 = .ok (.ireturn, 1) := by decide +kernel
end
section
abbrev vwCl : List vw_C := [(RX0, TX0, 3), (RX1, TX1, 2), (RX2, TX2, 13), (RX3, TX3, 5), (RX4, TX4, 11)]
/-! THE BASE: worlds of this claim, contracts in short, heads, calls and ends -/
-- G: the objects' classes and slots, and the classes of int[], char[], boolean[], Table[]
abbrev qG : Type := va_G × ClassId × ClassId × ClassId × ClassId
abbrev gI (G : qG) : ClassId := G.2.1
abbrev gC (G : qG) : ClassId := G.2.2.1
abbrev gZ (G : qG) : ClassId := G.2.2.2.1
abbrev gR (G : qG) : ClassId := G.2.2.2.2
def gT (G : qG) : List (ClassId × FieldType) := [(gI G, .int), (gC G, .char), (gZ G, .boolean), (gR G, .object RX2)]
def qNest (U : State) : Prop := va_Nw (.methodLinkNest RX2 64 yX3_isPlayer RX3) U ∧ va_Nw (.methodLinkNest RX0 30 yX2_init RX3) U ∧ va_Nw (.methodLinkNest RX3 9 yX2_init RX3) U ∧ va_Nw (.methodLinkNest RX3 21 yX0_init RX3) U ∧ va_Nw (.methodLinkNest RX3 32 yX1_init RX3) U
theorem qNest.warm {s U : State} (h : qNest s) (hW : s.WarmedH U.vm) : qNest U := ⟨va_Nw.warmM hW h.1, va_Nw.warmM hW h.2.1, va_Nw.warmM hW h.2.2.1, va_Nw.warmM hW h.2.2.2.1, va_Nw.warmM hW h.2.2.2.2⟩
theorem qNest.same {u U : State} (h : qNest u) (e : u.vm = U.vm) : qNest U := ⟨va_Nw.same rfl e h.1, va_Nw.same rfl e h.2.1, va_Nw.same rfl e h.2.2.1, va_Nw.same rfl e h.2.2.2.1, va_Nw.same rfl e h.2.2.2.2⟩
/-- what the tables say, of a state -/
def KK (G : qG) (U : State) : Prop := va_K G.1 vwCl (gT G) U ∧ qNest U ∧ va_AO RX2 U
theorem KK.warm {G : qG} {s U : State} (h : KK G s) (hW : s.WarmedH U.vm) : KK G U := ⟨va_K.moved hW.alike h.1, h.2.1.warm hW, va_AO.moved hW.alike h.2.2⟩
theorem KK.call {G : qG} {U : State} {g : JFrame} {mk : MethodId} {a : Array Value} (h : KK G U) : KK G (U.calling g mk a) := ⟨va_K.moved (u := U) (U := U.calling g mk a) (Vm.Alike.refl U.vm) h.1, h.2.1.same rfl, va_AO.moved (u := U) (U := U.calling g mk a) (Vm.Alike.refl U.vm) h.2.2⟩
/-- a reading method's start: the cells w -/
def PP (G : qG) (av : List Value) (w : va_W) : Array Value → State → Prop := va_Pc av (fun U => va_P G.1 vwCl w U.heap ∧ KK G U)
/-- a writing method's start: the cells w, apart; the heap has sz cells -/
def PW (G : qG) (sz : Nat) (av : List Value) (w : va_W) : Array Value → State → Prop := va_Pc av (fun U => U.heap.size = sz ∧ va_P G.1 vwCl w U.heap ∧ KK G U ∧ va_D (fun _ => True) w)
theorem PP.blind {G : qG} {av : List Value} {w : va_W} : FrameBlind (PP G av w) := fun _ _ _ _ q => ⟨q.1, q.2.1, q.2.2.call⟩
theorem PW.blind {G : qG} {sz : Nat} {av : List Value} {w : va_W} : FrameBlind (PW G sz av w) := fun _ _ _ _ q => ⟨q.1, q.2.1, q.2.2.1, q.2.2.2.1.call, q.2.2.2.2⟩
/-- a writing method's end: an answer v of an int kind, the cells w' -/
abbrev QI {S : Type} (G : qG) (sz : Nat) (w : va_W) (post : Int32 → S → Prop) (w' : S → va_W) : Array Value → State → Outcome → State → Prop := va_Qi post (fun u t => va_P G.1 vwCl (w' u) t.heap ∧ va_D (va_A w sz) (w' u)) (va_A w sz)
abbrev QV {S : Type} (G : qG) (sz : Nat) (w : va_W) (post : S → Prop) (w' : S → va_W) : Array Value → State → Outcome → State → Prop := va_Qv post (fun u t => va_P G.1 vwCl (w' u) t.heap ∧ va_D (va_A w sz) (w' u)) (va_A w sz)
/-- a reading method that answers v -/
abbrev MP (l : Launch) (y : MethodName) (ws : List Cond) (fr lo : Nat) (G : qG) (av : List Value) (w : va_W) (v : Int32) : Prop := Met l y ws { frames := fr, cells := 0, slots := 0, locals := lo } (PP G av w) (vp_Si (fun r => r = v)) 0 0 (fun _ => False)
/-- a writing method that makes nothing, answers v and leaves the cells w' -/
abbrev MI (l : Launch) (y : MethodName) (ws : List Cond) (fr lo : Nat) (G : qG) (sz : Nat) (av : List Value) (w : va_W) (v : Int32) (w' : va_W) : Prop := Met l y ws { frames := fr, cells := 0, slots := 0, locals := lo } (PW G sz av w) (QI (S := Unit) G sz w (fun r _ => r = v) (fun _ => w')) 0 0 (va_A w sz)
abbrev MV (l : Launch) (y : MethodName) (ws : List Cond) (fr lo : Nat) (G : qG) (sz : Nat) (av : List Value) (w : va_W) (w' : va_W) : Prop := Met l y ws { frames := fr, cells := 0, slots := 0, locals := lo } (PW G sz av w) (QV (S := Unit) G sz w (fun _ => True) (fun _ => w')) 0 0 (va_A w sz)
theorem lv_start {m : MethodId} (vs : List Value) {n : Nat} (h : (lg_sl vs).length ≤ n) : ∃ ls : Array Slot, entryFrame m vs.toArray n = F0 m 0 ls [] ∧ lv_has ls n (lv_args 0 vs) := ⟨_, lg_entry_eq m vs n, lv_entry vs h⟩
section HEADS
variable {l : Launch} {y : MethodName} {ws ws' : List Cond} {fr lo mc ms : Nat} {G : qG} {av : List Value} {w : va_W} {cc : ByteArray} {maxL sz : Nat}
/-- THE HEAD of a reading method that answers an int (or a boolean, a char: ty) -/
theorem MP.of {v : Int32} {ty : FieldType} (hy : plainName y.cls = true) (hw : ws = Cond.code y cc maxL (some ty) :: ws') (hav : (lg_sl av).length ≤ maxL) (hn : narrow ty (.int v) = .int v)
    (body : ∀ (p : Program) (e : Env) (s : State) (m : MethodId) (below : List Frame) (meth : Method) (c : Code), p.tables.exec = Jvm.exec → c.code = cc → c.maxLocals = maxL → s.vm.findClass y.cls = some m.cls → (∀ x ∈ ws, x.before av.toArray s = true) → KK G s → va_P G.1 vwCl w s.heap →
      ∀ Q : State → Prop, (∀ (pc : Nat) (ls : Array Slot) (r : Int32), r = v → decode cc pc = .ok (.ireturn, 1) → W p l e { frames := fr, cells := 0, slots := 0, locals := lo } s m av.toArray below meth c s.heap [] 0 0 Q (F0 m pc ls [.int r])) →
      ∀ ls : Array Slot, lv_has ls maxL (lv_args 0 av) → W p l e { frames := fr, cells := 0, slots := 0, locals := lo } s m av.toArray below meth c s.heap [] 0 0 Q (F0 m 0 ls [])) : MP l y ws fr lo G av w v := by
  refine Met.ofW (cc := cc) (maxL := maxL) (ret := some ty) hy hw ?_
  intro p e s m args below meth c s₁ B hml hv
  obtain ⟨rfl, hP, hK⟩ := hv
  have hts := atoms_spec (ws := ws) B.pre
  obtain ⟨ls, he, hl⟩ := lv_start (m := m) av hav
  rw [he]
  refine body p e s m below meth c B.exec B.bytes hml (findClass_of_methodNamed B.named) hts hK hP _ ?_ ls hl
  intro pc ls r hr hd
  subst hr
  exact W.zret B.exec B.bytes B.returns hn (fun t ht _ => ⟨_, rfl, rfl, ht⟩) (fun q h => by cases h) hd B.notSynchronized
/-- THE HEAD of a writing method that answers an int -/
theorem MI.of' {S : Type} {post : Int32 → S → Prop} {w' : S → va_W} {rm : Room} (hy : plainName y.cls = true) (hw : ws = Cond.code y cc maxL (some .int) :: ws') (hav : (lg_sl av).length ≤ maxL)
    (body : ∀ (p : Program) (e : Env) (s : State) (m : MethodId) (below : List Frame) (meth : Method) (c : Code), p.tables.exec = Jvm.exec → c.code = cc → c.maxLocals = maxL → s.vm.findClass y.cls = some m.cls → (∀ x ∈ ws, x.before av.toArray s = true) → KK G s → s.heap.size = sz → va_P G.1 vwCl w s.heap →
      ∀ A : Nat → Prop, A = va_A w sz → (∀ q : Nat, s.heap.size ≤ q → A q) → va_D A w → va_S A s.heap s.heap [] →
      ∀ Q : State → Prop, (∀ (H : Heap) (locs : List Loc) (pc : Nat) (ls : Array Slot) (r : Int32) (u : S), post r u → va_P G.1 vwCl (w' u) H → va_D A (w' u) → va_S A s.heap H locs → decode cc pc = .ok (.ireturn, 1) → W p l e rm s m av.toArray below meth c H locs mc ms Q (F0 m pc ls [.int r])) →
      ∀ ls : Array Slot, lv_has ls maxL (lv_args 0 av) → W p l e rm s m av.toArray below meth c s.heap [] 0 0 Q (F0 m 0 ls [])) :
    Met l y ws rm (PW G sz av w) (QI G sz w post w') mc ms (va_A w sz) := by
  refine Met.ofW (cc := cc) (maxL := maxL) (ret := some .int) hy hw ?_
  intro p e s m args below meth c s₁ B hml hv
  obtain ⟨rfl, hsz, hP, hK, hD⟩ := hv
  have hts := atoms_spec (ws := ws) B.pre
  obtain ⟨ls, he, hl⟩ := lv_start (m := m) av hav
  rw [he]
  subst hsz
  refine body p e s m below meth c B.exec B.bytes hml (findClass_of_methodNamed B.named) hts hK rfl hP _ rfl (fun q h => Or.inr h) hD.self va_S.rf _ ?_ ls hl
  intro H locs pc ls r u hp hP1 hD1 hS hd
  exact W.iret B.exec B.bytes B.returns (fun t ht _ => ⟨⟨r, u, rfl, hp, by rw [ht]; exact hP1, hD1⟩, hS.F ht⟩) hS.2.2 hd B.notSynchronized
theorem MV.of' {S : Type} {post : S → Prop} {w' : S → va_W} {rm : Room} (hy : plainName y.cls = true) (hw : ws = Cond.code y cc maxL none :: ws') (hav : (lg_sl av).length ≤ maxL)
    (body : ∀ (p : Program) (e : Env) (s : State) (m : MethodId) (below : List Frame) (meth : Method) (c : Code), p.tables.exec = Jvm.exec → c.code = cc → c.maxLocals = maxL → s.vm.findClass y.cls = some m.cls → (∀ x ∈ ws, x.before av.toArray s = true) → KK G s → s.heap.size = sz → va_P G.1 vwCl w s.heap →
      ∀ A : Nat → Prop, A = va_A w sz → (∀ q : Nat, s.heap.size ≤ q → A q) → va_D A w → va_S A s.heap s.heap [] → meth.name = y.name →
      ∀ Q : State → Prop, (∀ (H : Heap) (locs : List Loc) (pc : Nat) (ls : Array Slot) (u : S), post u → va_P G.1 vwCl (w' u) H → va_D A (w' u) → va_S A s.heap H locs → decode cc pc = .ok (.return_, 1) → W p l e rm s m av.toArray below meth c H locs mc ms Q (F0 m pc ls [])) →
      ∀ ls : Array Slot, lv_has ls maxL (lv_args 0 av) → W p l e rm s m av.toArray below meth c s.heap [] 0 0 Q (F0 m 0 ls [])) :
    Met l y ws rm (PW G sz av w) (QV G sz w post w') mc ms (va_A w sz) := by
  refine Met.ofW (cc := cc) (maxL := maxL) (ret := none) hy hw ?_
  intro p e s m args below meth c s₁ B hml hv
  obtain ⟨rfl, hsz, hP, hK, hD⟩ := hv
  have hts := atoms_spec (ws := ws) B.pre
  obtain ⟨ls, he, hl⟩ := lv_start (m := m) av hav
  rw [he]
  subst hsz
  refine body p e s m below meth c B.exec B.bytes hml (findClass_of_methodNamed B.named) hts hK rfl hP _ rfl (fun q h => Or.inr h) hD.self va_S.rf (name_of_methodNamed B.named B.method).1 _ ?_ ls hl
  intro H locs pc ls u hp hP1 hD1 hS hd
  exact W.vret B.exec B.bytes B.returns (fun t ht _ => ⟨⟨u, rfl, hp, by rw [ht]; exact hP1, hD1⟩, hS.F ht⟩) hS.2.2 hd B.notSynchronized
end HEADS
section CALLS
variable {p : Program} {l : Launch} {e : Env} {R : Room} {s : State} {m : MethodId} {args : Array Value} {below : List Frame} {meth : Method} {c : Code} {H H0 : Heap} {locs : List Loc} {cells slots : Nat} {Q : State → Prop}
variable {y : MethodName} {bytes cc : ByteArray} {maxL nL mc ms n index pc : Nat} {ret : Option FieldType} {ws : List Cond} {rm : Room} {Ts : List Cond} {own C host : String} {b : Addr} {As rest st : List Value} {ls : Array Slot} {G : qG} {wc w : va_W} {A : Nat → Prop}
/-- a reading call of an object's method -/
theorem cPV {v : Int32} (S : CallFix p m c cc nL s args Ts own) (hM : Met l y ws rm (PP G (.ref b :: As) wc) (vp_Si (fun r => r = v)) 0 0 (fun _ => False)) (cw : CallW R s args own C index y bytes maxL ret ws rm 0 0 n) (hK : KK G s) (hP : va_P G.1 vwCl wc H) (q0 : Nat) {ci : Nat} {q : vw_C} {fs : List Value} (hc : vwCl[ci]? = some q) (hq : q.1 = C) (he : wc[q0]? = some (b, .inr (ci, fs)))
    (hst : st = As.reverse ++ .ref b :: rest) (hn : As.length = n) (hsize : ls.size = nL) (hr : (rest.map fun v => v.category).sum ≤ 8) (hdg : decode cc pc = .ok (.invokevirtual index, 3)) (hf : cells + 0 ≤ R.cells ∧ slots + 0 ≤ R.slots)
    (kk : W p l e R s m args below meth c H locs cells slots Q (F0 m (pc + 3) ls (.int v :: rest))) : W p l e R s m args below meth c H locs cells slots Q (F0 m pc ls st) := by
  subst hq
  exact vp_callSi (W.runV (g := F0 m pc ls st) S hM cw ⟨PP.blind, va_recv hK.1 hP hc he, fun U hU hW => ⟨rfl, by rw [hU]; exact hP, hK.warm hW⟩⟩ rfl hn hsize hst (lv_room hr) hdg hf) (fun r hr => by rw [hr]; exact kk)
/-- a reading call of a static method of the own class -/
theorem cPS {v : Int32} (S : CallFix p m c cc nL s args Ts own) (hM : Met l y ws rm (PP G As wc) (vp_Si (fun r => r = v)) 0 0 (fun _ => False)) (cw : CallB R s args own index y bytes maxL ret ws rm 0 0 n ∧ (Cond.static y).before args s = true) (hK : KK G s) (hP : va_P G.1 vwCl wc H)
    (hst : st = As.reverse ++ rest) (hn : As.length = n) (hsize : ls.size = nL) (hr : (rest.map fun v => v.category).sum ≤ 8) (hdg : decode cc pc = .ok (.invokestatic index, 3)) (hf : cells + 0 ≤ R.cells ∧ slots + 0 ≤ R.slots)
    (kk : W p l e R s m args below meth c H locs cells slots Q (F0 m (pc + 3) ls (.int v :: rest))) : W p l e R s m args below meth c H locs cells slots Q (F0 m pc ls st) :=
  vp_callSi (W.runS (g := F0 m pc ls st) S hM cw ⟨PP.blind, fun U hU hW => ⟨rfl, by rw [hU]; exact hP, hK.warm hW⟩⟩ rfl hn hsize hst (lv_room hr) hdg hf) (fun r hr => by rw [hr]; exact kk)
theorem va_Run.toCallRun {Qa : State → Outcome → State → Prop} {free : Addr → Prop} {g : JFrame} (h : va_Run p l e R s m args below meth c H locs cells slots mc ms g rest Qa free) : CallRun p l e R s m args below meth c H locs cells slots mc ms g rest Qa free := fun T hT X => by
  obtain ⟨v, st₀, t, T', L, h0, X', hL, e1, -, hq, st⟩ := h T hT X
  exact ⟨v, st₀, t, T', L, h0, X', hL, e1, hq, st⟩
/-- .. of a nest mate's private static method -/
theorem cPN {v : Int32} (S : CallFix p m c cc nL s args Ts own) (hM : Met l y ws rm (PP G As wc) (vp_Si (fun r => r = v)) 0 0 (fun _ => False)) (cw : va_CN R s args own index y host bytes maxL ret ws rm 0 0 n ∧ (Cond.static y).before args s = true ∧ True) (hK : KK G s) (hP : va_P G.1 vwCl wc H)
    (hst : st = As.reverse ++ rest) (hn : As.length = n) (hsize : ls.size = nL) (hr : (rest.map fun v => v.category).sum ≤ 8) (hdg : decode cc pc = .ok (.invokestatic index, 3)) (hf : cells + 0 ≤ R.cells ∧ slots + 0 ≤ R.slots)
    (kk : W p l e R s m args below meth c H locs cells slots Q (F0 m (pc + 3) ls (.int v :: rest))) : W p l e R s m args below meth c H locs cells slots Q (F0 m pc ls st) :=
  vp_callSi (va_runSN (g := F0 m pc ls st) S hM cw ⟨PP.blind, fun U hU hW => ⟨rfl, by rw [hU]; exact hP, hK.warm hW⟩⟩ rfl hn hsize hst (lv_room hr) hdg hf).toCallRun (fun r hr => by rw [hr]; exact kk)
/-- what a writing call gives back: any way of running it -/
theorem cRI {S : Type} {post : Int32 → S → Prop} {w' : S → va_W} {a : Array Value} (hr : va_Run p l e R s m args below meth c H locs cells slots mc ms (F0 m pc ls st) rest (QI G H.size wc post w' a) (va_A wc H.size)) (hS : va_S A H0 H locs) (hF : ∀ q, va_A wc H.size q → A q)
    (kk : ∀ (r : Int32) (u : S) (H1 : Heap) (locs1 : List Loc), post r u → va_P G.1 vwCl (w' u) H1 → va_D (va_A wc H.size) (w' u) → (∀ q : Nat, q < H.size → ¬ va_A wc H.size q → H1[q]? = H[q]?) → va_S A H0 H1 locs1 → W p l e R s m args below meth c H1 locs1 (cells + mc) (slots + ms) Q (F0 m (pc + 3) ls (.int r :: rest))) : W p l e R s m args below meth c H locs cells slots Q (F0 m pc ls st) :=
  va_calli hr hS (fun q _ h => hF q h) hF (fun r u t H1 locs1 ht _ hp hB _ hk hS1 => kk r u H1 locs1 hp (by rw [← ht]; exact hB.1) hB.2 hk hS1)
theorem cRV {S : Type} {post : S → Prop} {w' : S → va_W} {a : Array Value} (hr : va_Run p l e R s m args below meth c H locs cells slots mc ms (F0 m pc ls st) rest (QV G H.size wc post w' a) (va_A wc H.size)) (hS : va_S A H0 H locs) (hF : ∀ q, va_A wc H.size q → A q)
    (kk : ∀ (u : S) (H1 : Heap) (locs1 : List Loc), post u → va_P G.1 vwCl (w' u) H1 → va_D (va_A wc H.size) (w' u) → (∀ q : Nat, q < H.size → ¬ va_A wc H.size q → H1[q]? = H[q]?) → va_S A H0 H1 locs1 → W p l e R s m args below meth c H1 locs1 (cells + mc) (slots + ms) Q (F0 m (pc + 3) ls rest)) : W p l e R s m args below meth c H locs cells slots Q (F0 m pc ls st) :=
  va_callv hr hS (fun q _ h => hF q h) hF (fun u t H1 locs1 ht _ hp hB _ hk hS1 => kk u H1 locs1 hp (by rw [← ht]; exact hB.1) hB.2 hk hS1)
theorem free_all {w : va_W} (hD : va_D A w) (hS : va_S A H0 H locs) (hA : ∀ q, H0.size ≤ q → A q) : ∀ q, va_A w H.size q → A q := by
  intro q h
  rcases h with ⟨k, e, h⟩ | h
  · exact hD.2 k (q, e) h
  · exact hA q (Nat.le_trans hS.1 h)
/-- a writing call that has the whole world: an object's method, an int -/
theorem cAI {S : Type} {post : Int32 → S → Prop} {w' : S → va_W} (X : CallFix p m c cc nL s args Ts own) (hM : Met l y ws rm (PW G H.size (.ref b :: As) w) (QI G H.size w post w') mc ms (va_A w H.size)) (cw : CallW R s args own C index y bytes maxL ret ws rm mc ms n) (hK : KK G s) (hP : va_P G.1 vwCl w H) (hD : va_D A w) (hS : va_S A H0 H locs) (hA : ∀ q, H0.size ≤ q → A q) (q0 : Nat) {ci : Nat} {q : vw_C} {fs : List Value} (hc : vwCl[ci]? = some q) (hq : q.1 = C) (he : w[q0]? = some (b, .inr (ci, fs)))
    (hst : st = As.reverse ++ .ref b :: rest) (hn : As.length = n) (hsize : ls.size = nL) (hr : (rest.map fun v => v.category).sum ≤ 8) (hdg : decode cc pc = .ok (.invokevirtual index, 3)) (hf : cells + mc ≤ R.cells ∧ slots + ms ≤ R.slots)
    (kk : ∀ (r : Int32) (u : S) (H1 : Heap) (locs1 : List Loc), post r u → va_P G.1 vwCl (w' u) H1 → va_D A (w' u) → va_S A H0 H1 locs1 → W p l e R s m args below meth c H1 locs1 (cells + mc) (slots + ms) Q (F0 m (pc + 3) ls (.int r :: rest))) : W p l e R s m args below meth c H locs cells slots Q (F0 m pc ls st) := by
  subst hq
  have hF := free_all hD hS hA
  exact cRI (va_runV (g := F0 m pc ls st) X hM cw ⟨PW.blind, va_recv hK.1 hP hc he, fun U hU hW => ⟨rfl, by rw [hU], by rw [hU]; exact hP, hK.warm hW, hD.weaken (fun _ _ _ _ => trivial)⟩⟩ rfl hn hsize hst (lv_room hr) hdg hf) hS hF (fun r u H1 locs1 hp hP1 hD1 _ hS1 => kk r u H1 locs1 hp hP1 (hD1.weaken (fun _ q _ h => hF q.1 h)) hS1)
theorem cAV {S : Type} {post : S → Prop} {w' : S → va_W} (X : CallFix p m c cc nL s args Ts own) (hM : Met l y ws rm (PW G H.size (.ref b :: As) w) (QV G H.size w post w') mc ms (va_A w H.size)) (cw : CallW R s args own C index y bytes maxL ret ws rm mc ms n) (hK : KK G s) (hP : va_P G.1 vwCl w H) (hD : va_D A w) (hS : va_S A H0 H locs) (hA : ∀ q, H0.size ≤ q → A q) (q0 : Nat) {ci : Nat} {q : vw_C} {fs : List Value} (hc : vwCl[ci]? = some q) (hq : q.1 = C) (he : w[q0]? = some (b, .inr (ci, fs)))
    (hst : st = As.reverse ++ .ref b :: rest) (hn : As.length = n) (hsize : ls.size = nL) (hr : (rest.map fun v => v.category).sum ≤ 8) (hdg : decode cc pc = .ok (.invokevirtual index, 3)) (hf : cells + mc ≤ R.cells ∧ slots + ms ≤ R.slots)
    (kk : ∀ (u : S) (H1 : Heap) (locs1 : List Loc), post u → va_P G.1 vwCl (w' u) H1 → va_D A (w' u) → va_S A H0 H1 locs1 → W p l e R s m args below meth c H1 locs1 (cells + mc) (slots + ms) Q (F0 m (pc + 3) ls rest)) : W p l e R s m args below meth c H locs cells slots Q (F0 m pc ls st) := by
  subst hq
  have hF := free_all hD hS hA
  exact cRV (va_runV (g := F0 m pc ls st) X hM cw ⟨PW.blind, va_recv hK.1 hP hc he, fun U hU hW => ⟨rfl, by rw [hU], by rw [hU]; exact hP, hK.warm hW, hD.weaken (fun _ _ _ _ => trivial)⟩⟩ rfl hn hsize hst (lv_room hr) hdg hf) hS hF (fun u H1 locs1 hp hP1 hD1 _ hS1 => kk u H1 locs1 hp hP1 (hD1.weaken (fun _ q _ h => hF q.1 h)) hS1)
end CALLS
/-! records: T k i is the place i of the row k -/
abbrev Tb : Type := Nat → Nat → Int32
def tup (T : Tb) (k i : Nat) (x : Int32) : Tb := fun a => if a = k then upd (T k) i x else T a
/-- the cells of a Table: rows 0 settings, 1 prizes, 2 coins, 3 limits, 4 places, 5 bids, 6 placesGot, 7 paid, 8 taken, 9 won; row 10: underWay, turn, rounds -/
def tw (G : qG) (a : Nat → Nat) (T : Tb) : va_W := [(a 0, .inr (2, [.ref (a 1), .ref (a 2), .ref (a 3), .ref (a 4), .ref (a 5), .ref (a 6), .ref (a 7), .ref (a 8), .ref (a 9), .ref (a 10), .int (T 10 0), .int (T 10 1), .int (T 10 2)])),
  (a 1, .inl (gI G, 4, .inl (T 0))), (a 2, .inl (gI G, 5, .inl (T 1))), (a 3, .inl (gI G, 5, .inl (T 2))), (a 4, .inl (gI G, 5, .inl (T 3))), (a 5, .inl (gI G, 5, .inl (T 4))), (a 6, .inl (gI G, 5, .inl (T 5))), (a 7, .inl (gI G, 5, .inl (T 6))), (a 8, .inl (gI G, 5, .inl (T 7))), (a 9, .inl (gI G, 5, .inl (T 8))), (a 10, .inl (gI G, 5, .inl (T 9)))]
/-- the cells of a TurnBidsModel: z, spare, past, slots, isSaved, pad, told; states, typed, spot, toldMany -/
def mw (G : qG) (a : Nat → Nat) (z sp pa st sv pd tl : Nat → Int32) (ns ty spt tm : Int32) : va_W := [(a 0, .inr (4, [.ref (a 1), .ref (a 2), .ref (a 3), .int ns, .ref (a 4), .ref (a 5), .ref (a 6), .int ty, .int spt, .ref (a 7), .int tm])),
  (a 1, .inl (gI G, 53, .inl z)), (a 2, .inl (gI G, 53, .inl sp)), (a 3, .inl (gI G, 318, .inl pa)), (a 4, .inl (gI G, 106, .inl st)), (a 5, .inl (gZ G, 2, .inl sv)), (a 6, .inl (gI G, 60, .inl pd)), (a 7, .inl (gI G, 31, .inl tl))]
/-- the cells of a Pad: signs, length -/
def pw (G : qG) (a : Nat → Nat) (ps : Nat → Int32) (ln : Int32) : va_W := [(a 0, .inr (1, [.ref (a 1), .int ln])), (a 1, .inl (gC G, 60, .inl ps))]
abbrev NOSUCH : Int32 := -100001
abbrev BADVAL : Int32 := -100002
abbrev BADTEXT : Int32 := -100003
abbrev TOOMANY : Int32 := -100004
abbrev NOTPOS : Int32 := -100005
abbrev NONE : Int32 := -100006
abbrev ix (x : Int32) : Nat := x.toNatClampNeg
section ROWS
variable {p : Program} {l : Launch} {e : Env} {R : Room} {s : State} {m : MethodId} {args : Array Value} {below : List Frame} {meth : Method} {c : Code} {H H0 : Heap} {locs : List Loc} {cells slots : Nat} {Q : State → Prop}
variable {D : va_G} {cl : List vw_C} {ws : va_W} {tys : List (ClassId × FieldType)} {a : Nat} {cc : ByteArray} {pc : Nat} {ls : Array Slot} {rest : List Value} {A : Nat → Prop}
theorem qtop {x y : Int32} (h : x = y) (k : W p l e R s m args below meth c H locs cells slots Q (F0 m pc ls (.int y :: rest))) : W p l e R s m args below meth c H locs cells slots Q (F0 m pc ls (.int x :: rest)) := by rw [h]; exact k
theorem qild (hexec : p.tables.exec = Jvm.exec) (hb : c.code = cc) (hK : va_K D cl tys s) (hP : va_P D cl ws H) (q0 t0 : Nat) {cA : ClassId} {n : Nat} {f : Nat → Int32} (ha : ws[q0]? = some (a, .inl (cA, n, .inl f))) (ht : tys[t0]? = some (cA, .int)) {i : Int32} {k : Nat} (hk : i.toNatClampNeg = k) (hin : vp_in i n) (hdg : decode cc pc = .ok (.iaload, 1))
    (kk : W p l e R s m args below meth c H locs cells slots Q (F0 m (pc + 1) ls (.int (f k) :: rest))) : W p l e R s m args below meth c H locs cells slots Q (F0 m pc ls (.int i :: .ref a :: rest)) := by
  subst hk; exact va_iald hexec hb hK hP q0 t0 ha ht hin hdg kk
theorem qzld (hexec : p.tables.exec = Jvm.exec) (hb : c.code = cc) (hK : va_K D cl tys s) (hP : va_P D cl ws H) (q0 t0 : Nat) {cA : ClassId} {n : Nat} {f : Nat → Int32} (ha : ws[q0]? = some (a, .inl (cA, n, .inl f))) (ht : tys[t0]? = some (cA, .boolean)) {i : Int32} {k : Nat} (hk : i.toNatClampNeg = k) (hin : vp_in i n) (hdg : decode cc pc = .ok (.baload, 1))
    (kk : W p l e R s m args below meth c H locs cells slots Q (F0 m (pc + 1) ls (.int (f k) :: rest))) : W p l e R s m args below meth c H locs cells slots Q (F0 m pc ls (.int i :: .ref a :: rest)) := by
  subst hk; exact va_zald hexec hb hK hP q0 t0 ha ht hin hdg kk
theorem qcld (hexec : p.tables.exec = Jvm.exec) (hb : c.code = cc) (hK : va_K D cl tys s) (hP : va_P D cl ws H) (q0 t0 : Nat) {cA : ClassId} {n : Nat} {f : Nat → Int32} (ha : ws[q0]? = some (a, .inl (cA, n, .inl f))) (ht : tys[t0]? = some (cA, .char)) {i : Int32} {k : Nat} (hk : i.toNatClampNeg = k) (hin : vp_in i n) (hdg : decode cc pc = .ok (.caload, 1))
    (kk : W p l e R s m args below meth c H locs cells slots Q (F0 m (pc + 1) ls (.int (f k) :: rest))) : W p l e R s m args below meth c H locs cells slots Q (F0 m pc ls (.int i :: .ref a :: rest)) := by
  subst hk; exact va_cald hexec hb hK hP q0 t0 ha ht hin hdg kk
theorem qist (hexec : p.tables.exec = Jvm.exec) (hb : c.code = cc) (hK : va_K D cl tys s) (hP : va_P D cl ws H) (hD : va_D A ws) (hS : va_S A H0 H locs) (q0 t0 : Nat) {cA : ClassId} {n : Nat} {f : Nat → Int32} (ha : ws[q0]? = some (a, .inl (cA, n, .inl f))) (ht : tys[t0]? = some (cA, .int)) {i : Int32} {x : Int32} {k : Nat} (hk : i.toNatClampNeg = k) (hin : vp_in i n) (hdg : decode cc pc = .ok (.iastore, 1))
    (kk : ∀ (H1 : Heap) (locs1 : List Loc), va_P D cl (ws.set q0 (a, .inl (cA, n, .inl (upd f k x)))) H1 → va_D A (ws.set q0 (a, .inl (cA, n, .inl (upd f k x)))) → va_S A H0 H1 locs1 → W p l e R s m args below meth c H1 locs1 cells slots Q (F0 m (pc + 1) ls rest)) : W p l e R s m args below meth c H locs cells slots Q (F0 m pc ls (.int x :: .int i :: .ref a :: rest)) := by
  subst hk; exact va_iast hexec hb hK hP hD hS q0 t0 ha ht hin hdg kk
theorem qzst (hexec : p.tables.exec = Jvm.exec) (hb : c.code = cc) (hK : va_K D cl tys s) (hP : va_P D cl ws H) (hD : va_D A ws) (hS : va_S A H0 H locs) (q0 t0 : Nat) {cA : ClassId} {n : Nat} {f : Nat → Int32} (ha : ws[q0]? = some (a, .inl (cA, n, .inl f))) (ht : tys[t0]? = some (cA, .boolean)) {i : Int32} {x : Int32} {k : Nat} (hk : i.toNatClampNeg = k) (hin : vp_in i n) (hx : vp_nar .boolean x = x) (hdg : decode cc pc = .ok (.bastore, 1))
    (kk : ∀ (H1 : Heap) (locs1 : List Loc), va_P D cl (ws.set q0 (a, .inl (cA, n, .inl (upd f k x)))) H1 → va_D A (ws.set q0 (a, .inl (cA, n, .inl (upd f k x)))) → va_S A H0 H1 locs1 → W p l e R s m args below meth c H1 locs1 cells slots Q (F0 m (pc + 1) ls rest)) : W p l e R s m args below meth c H locs cells slots Q (F0 m pc ls (.int x :: .int i :: .ref a :: rest)) := by
  subst hk; exact va_zast hexec hb hK hP hD hS q0 t0 ha ht hin hdg (by rw [hx]; exact kk)
theorem qcst (hexec : p.tables.exec = Jvm.exec) (hb : c.code = cc) (hK : va_K D cl tys s) (hP : va_P D cl ws H) (hD : va_D A ws) (hS : va_S A H0 H locs) (q0 t0 : Nat) {cA : ClassId} {n : Nat} {f : Nat → Int32} (ha : ws[q0]? = some (a, .inl (cA, n, .inl f))) (ht : tys[t0]? = some (cA, .char)) {i : Int32} {x : Int32} {k : Nat} (hk : i.toNatClampNeg = k) (hin : vp_in i n) (hx : vp_nar .char x = x) (hdg : decode cc pc = .ok (.castore, 1))
    (kk : ∀ (H1 : Heap) (locs1 : List Loc), va_P D cl (ws.set q0 (a, .inl (cA, n, .inl (upd f k x)))) H1 → va_D A (ws.set q0 (a, .inl (cA, n, .inl (upd f k x)))) → va_S A H0 H1 locs1 → W p l e R s m args below meth c H1 locs1 cells slots Q (F0 m (pc + 1) ls rest)) : W p l e R s m args below meth c H locs cells slots Q (F0 m pc ls (.int x :: .int i :: .ref a :: rest)) := by
  subst hk; exact va_cast hexec hb hK hP hD hS q0 t0 ha ht hin hdg (by rw [hx]; exact kk)
theorem arr_congr {cA : ClassId} {N : Nat} {f g : Nat → Int32} (h : ∀ j, j < N → f j = g j) : vp_cell cA (N, .inl f) = vp_cell cA (N, .inl g) := by
  rw [vp_cell_i, vp_cell_i]
  have e : (Array.ofFn (n := N) fun j => Value.int (f j.val)) = (Array.ofFn (n := N) fun j => Value.int (g j.val)) := by
    congr 1
    funext j
    rw [h j.val j.isLt]
  unfold arrV
  rw [e]
theorem va_P.cell {H : Heap} {p a : Nat} {e e2 : va_E} (h : va_P D cl (ws.set p (a, e)) H) (he : va_at D cl (a, e) H → va_at D cl (a, e2) H) : va_P D cl (ws.set p (a, e2)) H := by
  intro k q hk
  by_cases hp : p = k
  · subst hp
    by_cases hl : p < ws.length
    · rw [List.getElem?_set_self hl] at hk
      cases hk
      exact he (h p (a, e) (by rw [List.getElem?_set_self hl]))
    · rw [List.getElem?_eq_none (by rw [List.length_set]; omega)] at hk
      cases hk
  · rw [List.getElem?_set_ne hp] at hk
    exact h k q (by rw [List.getElem?_set_ne hp]; exact hk)
/-- System.arraycopy of a whole row of ints onto another -/
theorem qcopy (hexec : p.tables.exec = Jvm.exec) (hb : c.code = cc) (hml : c.maxLocals = ls.size) {own : String} {index : Nat} (hown : s.vm.findClass own = some m.cls) (hlink : (Cond.methodLink own index arraycopyName).before args s = true) (hnat : (Cond.native arraycopyName).before args s = true) (hstat : (Cond.static arraycopyName).before args s = true) (hini : (Cond.initialized "java/lang/System").before args s = true)
    (hK : va_K D cl tys s) (hP : va_P D cl ws H) (hD : va_D A ws) (hS : va_S A H0 H locs) (q0 q1 t0 : Nat) {a0 : Nat} {cA : ClassId} {N : Nat} {f g : Nat → Int32} (ha0 : ws[q0]? = some (a0, .inl (cA, N, .inl f))) (ha1 : ws[q1]? = some (a, .inl (cA, N, .inl g))) (ht : tys[t0]? = some (cA, .int)) {n : Int32} (hn : n.toNatClampNeg = N) (h3 : ¬ n < 0)
    (hframes : 1 ≤ R.frames) (hlocals : (rest.map fun v => v.category).sum + (nativeFrameWords "java/lang/System" "arraycopy" 5 + 11) ≤ R.locals) (hdg : decode cc pc = .ok (.invokestatic index, 3))
    (kk : ∀ (H1 : Heap) (locs1 : List Loc), va_P D cl (ws.set q1 (a, .inl (cA, N, .inl f))) H1 → va_D A (ws.set q1 (a, .inl (cA, N, .inl f))) → va_S A H0 H1 locs1 → W p l e R s m args below meth c H1 locs1 cells slots Q (F0 m (pc + 3) ls rest)) : W p l e R s m args below meth c H locs cells slots Q (F0 m pc ls (.int n :: .int 0 :: .ref a :: .int 0 :: .ref a0 :: rest)) := by
  have z0 : (0 : Int32).toNatClampNeg = 0 := by decide +kernel
  refine va_copyi (ty := .int) (n0 := N) (n1 := N) (c0 := cA) (c1 := cA) hexec hb hml hown hlink hnat hstat hini hK hP hD hS q0 q1 t0 t0 ha0 ha1 ht ht rfl (by decide) (by decide) h3 (by rw [z0]; omega) (by rw [z0]; omega) (fun _ _ => rfl) hframes hlocals hdg (fun H1 locs1 hP1 _ hS1 => kk H1 locs1 (hP1.cell fun h => ?_) (hD.set ha1) hS1)
  have h : H1[a]? = some (vp_cell cA (N, .inl _)) := h
  show H1[a]? = some (vp_cell cA (N, .inl f))
  rw [h, arr_congr (fun j hj => ?_)]
  rw [z0, hn, pk_cpy_in (Nat.zero_le j) (by omega)]
  simp
end ROWS
/-- a written place and a small one -/
theorem ixa {c m n : Nat} {x d : Int32} (hd : d = nI c) (hx : vp_in x m) (hcm : c + m ≤ n) (hn : n < 2 ^ 31) : (d + x).toNatClampNeg = c + x.toNatClampNeg ∧ vp_in (d + x) n := by
  obtain ⟨j, hj, rfl⟩ := vp_in_of hx (by omega)
  subst hd
  rw [nI_add, nI_clamp (by omega), nI_clamp (by omega)]
  exact ⟨rfl, vp_in_nI (by omega) hn⟩
/-- whether it is a player's number, as the class says it -/
def isPb (x : Int32) : Int32 := if x < 0 then 0 else if 5 ≤ x then 0 else 1
theorem isPb_in {x : Int32} (h : ¬ isPb x = 0) : vp_in x 5 := by
  unfold isPb at h
  split at h
  · exact absurd rfl h
  · split at h
    · exact absurd rfl h
    · rename_i h1 h2
      rcases pk_ix x (n := 5) (by decide) with h3 | h3 | ⟨j, hj, rfl⟩
      · exact absurd h3 h1
      · exact absurd h3 h2
      · exact vp_in_nI hj (by decide)
theorem isPb_nar (x : Int32) : narrow .boolean (.int (isPb x)) = .int (isPb x) := by
  unfold isPb
  split
  · rfl
  · split <;> rfl
def ush (x n : Int32) : Int32 := (x.toUInt32 >>> (n.toUInt32 &&& Int32.toUInt32 31)).toInt32
end
section
/-! THE MEANING of the class's Table: each method as a function of its rows, loop for loop as the code has it -/
def pAtL (pl : Nat → Int32) (x : Int32) : Nat → Nat → Int32
  | 0, _ => (-100006)
  | f + 1, i => if pl i = x then nI i else pAtL pl x f (i + 1)
def pAt (pl : Nat → Int32) (x : Int32) : Int32 := pAtL pl x 5 0
def plL (g : Nat → Int32) : Nat → Nat → Int32 → Int32
  | 0, _, k => k
  | f + 1, i, k => plL g f (i + 1) (if g i = (-100006) then k ||| ((1 : Int32) <<< (nI i &&& 31)) else k)
def plB (T : Tb) : Int32 := if T 10 0 = 0 then 0 else plL (T 6) 5 0 0
def hbL (b : Nat → Int32) : Nat → Nat → Int32 → Int32
  | 0, _, h => h
  | f + 1, i, h => hbL b f (i + 1) (if b i ≤ h then h else b i)
def hiB (T : Tb) : Int32 := hbL (T 5) 5 0 (-100006)
def leB (T : Tb) : Int32 := if T 10 0 = 0 then (-100006) else if hiB T = (-100006) then T 0 1 else hiB T + T 0 0
def covB (T : Tb) (x : Int32) : Int32 := if isPb x = 0 then 0 else if T 6 (ix x) = (-100006) then (if (0 : Int32) < T 5 (ix x) then T 5 (ix x) else 0) else 0
def mayB (T : Tb) (x : Int32) : Int32 := if T 10 0 = 0 then 0 else if isPb (T 10 1) = 0 then 0 else if x < leB T then 0 else if T 2 (ix (T 10 1)) < x then 0 else 1
theorem mayB_nar (T : Tb) (x : Int32) : narrow .boolean (.int (mayB T x)) = .int (mayB T x) := by
  unfold mayB
  repeat' split
  all_goals rfl
def staT (T : Tb) : Tb := tup (tup T 10 0 1) 10 1 (pAt (tup T 10 0 1 4) 0)
def paL (T : Tb) (pl : Int32) : Nat → Nat → Tb
  | 0, _ => T
  | f + 1, i => if isPb (pAt (T 4) ((pl + nI i) - (pl + nI i) / 5 * 5)) = 0 then paL T pl f (i + 1) else if T 6 (ix (pAt (T 4) ((pl + nI i) - (pl + nI i) / 5 * 5))) = (-100006) then tup T 10 1 (pAt (T 4) ((pl + nI i) - (pl + nI i) / 5 * 5)) else paL T pl f (i + 1)
def pasT (T : Tb) : Tb := if isPb (T 10 1) = 0 then T else paL T (T 4 (ix (T 10 1))) 4 1
def takT (T : Tb) (x : Int32) : Tb := if isPb (T 10 1) = 0 then pasT T else pasT (tup T 5 (ix (T 10 1)) x)
def payT (T : Tb) (x h k : Int32) : Tb := if isPb x = 0 then T else if T 5 (ix x) = (-100006) then T else tup (tup T 2 (ix x) (T 2 (ix x) - (T 5 (ix x) * h + k) / 100)) 7 (ix x) (tup T 2 (ix x) (T 2 (ix x) - (T 5 (ix x) * h + k) / 100) 7 (ix x) + (T 5 (ix x) * h + k) / 100)
def ahL (pr : Nat → Int32) (i : Nat) : Nat → Nat → Int32 → Int32
  | 0, _, n => n
  | f + 1, j, n => ahL pr i f (j + 1) (if pr i < pr j then n + 1 else if pr j = pr i then (if nI i ≤ nI j then n else n + 1) else n)
def pfL (pr : Nat → Int32) (x : Int32) : Nat → Nat → Int32
  | 0, _ => 0
  | f + 1, i => if ahL pr i 5 0 0 = x then pr i else pfL pr x f (i + 1)
def pfB (T : Tb) (x : Int32) : Int32 := pfL (T 1) x 5 0
def enB (T : Tb) (i : Nat) : Tb := tup (tup T 6 i 0) 9 i (tup T 6 i 0 9 i + 1)
def enA (T : Tb) (i : Nat) : Tb := if T 6 i = (-100006) then payT (enB T i) (nI i) (enB T i 0 2) 99 else T
def en1 (T : Tb) (i : Nat) : Tb := tup T 4 i (T 6 i)
def en2 (T : Tb) (i : Nat) (pz : Int32) : Tb := tup T 2 i (if (9999 : Int32) < T 2 i + pz then 9999 else T 2 i + pz)
def en3 (T : Tb) (i : Nat) (pz : Int32) : Tb := tup T 8 i (T 8 i + pz)
def enS (T : Tb) (i : Nat) : Tb := tup (tup (en3 (en2 (en1 T i) i (pfB (en1 T i) (en1 T i 4 i))) i (pfB (en1 T i) (en1 T i 4 i))) 6 i (-100006)) 5 i (-100006)
def enL : Nat → Nat → Tb → Tb
  | 0, _, T => T
  | f + 1, i, T => enL f (i + 1) (enS (enA T i) i)
def enZ (T : Tb) : Tb := tup (tup (tup T 10 0 0) 10 1 (-100006)) 10 2 (tup (tup T 10 0 0) 10 1 (-100006) 10 2 + 1)
def endT (T : Tb) : Tb := enZ (enL 5 0 T)
def bitC (x : Int32) : Int32 :=
  let a := x - (ush x 1 &&& 1431655765)
  let b := (a &&& 858993459) + (ush a 2 &&& 858993459)
  let d := (b + ush b 4) &&& 252645135
  let g := d + ush d 8
  (g + ush g 16) &&& 63
def fmB (x y : Int32) : Int32 := if 0 ≤ x ^^^ y then x - x / y * y else if x - x / y * y = 0 then x - x / y * y else x - x / y * y + y
def lfB (T : Tb) : Int32 := bitC (plB T) - 1
def drA (T : Tb) : Tb := tup T 6 (ix (T 10 1)) (lfB T)
def drB (T : Tb) : Tb := payT (drA T) (drA T 10 1) (drA T 0 3) 0
def drT (T : Tb) : Tb := if isPb (T 10 1) = 0 then T else if bitC (plB T) - 1 = 1 then endT (drB T) else pasT (drB T)
def drV (T : Tb) : Int32 := if isPb (T 10 1) = 0 then (-100006) else drT T 10 1
def acT (T : Tb) : Tb := if isPb (T 10 1) = 0 then drT T else if T 3 (ix (T 10 1)) < leB T then drT T else if mayB T (leB T) = 0 then drT T else takT T (leB T)
def acV (T : Tb) : Int32 := if isPb (T 10 1) = 0 then drV T else if T 3 (ix (T 10 1)) < leB T then drV T else if mayB T (leB T) = 0 then drV T else takT T (leB T) 10 1
def prL : Nat → Nat → Tb → Tb × Nat
  | 0, n, T => (T, n)
  | f + 1, n, T => if T 10 0 = 0 then (T, n) else prL f (n + 1) (acT T)
def prR (T : Tb) : Tb × Nat := prL 10000 0 (if T 10 0 = 0 then staT T else T)
end
section
/-! CONTRACTS of the class's Table, and of what it calls (laid by wip/whole/gen/tab.py) -/
set_option maxHeartbeats 4000000 in
set_option maxRecDepth 100000 in
theorem c_X3_isPlayer (l : Launch) (G : qG) (x : Int32) : MP l yX3_isPlayer wsX3_isPlayer 0 0 G [.int x] ([]) (isPb x) := by
  refine MP.of (ty := .boolean) (by decide) rfl (Nat.le_of_ble_eq_true rfl) (isPb_nar x) ?_
  intro p e s m below meth c hx hb hml hown hts hK hP Q hret ls hl
  have hown : s.vm.findClass RX3 = some m.cls := hown
  have hl : lv_has ls 1 [(0, .int x)] := hl
  refine lv_iload_n hx hb dX3_isPlayer_0 rfl (lv_at hl 0 rfl) ?_
  refine lv_if_lt (tgt := 13) hx hb dX3_isPlayer_1 (by decide) (fun c_1_1 => ?_) (fun c_1_1 => ?_)
  · refine lv_iconst (v := 0) hx hb dX3_isPlayer_13 (by decide) ?_
    exact hret _ _ _ (by simp only [isPb, if_pos c_1_1]) dX3_isPlayer_14
  · refine lv_iload_n hx hb dX3_isPlayer_4 rfl (lv_at hl 0 rfl) ?_
    refine lv_iconst (v := 5) hx hb dX3_isPlayer_5 (by decide) ?_
    refine lv_icmp_ge (tgt := 13) hx hb dX3_isPlayer_6 (by decide) (fun c_6_2 => ?_) (fun c_6_2 => ?_)
    · refine lv_iconst (v := 0) hx hb dX3_isPlayer_13 (by decide) ?_
      exact hret _ _ _ (by simp only [isPb, if_neg c_1_1, if_pos c_6_2]) dX3_isPlayer_14
    · refine lv_iconst (v := 1) hx hb dX3_isPlayer_9 (by decide) ?_
      refine lv_goto (tgt := 14) hx hb dX3_isPlayer_10 (by decide) ?_
      exact hret _ _ _ (by simp only [isPb, if_neg c_1_1, if_neg c_6_2]) dX3_isPlayer_14
set_option maxHeartbeats 4000000 in
set_option maxRecDepth 100000 in
theorem c_X3_isPrize (l : Launch) (G : qG) (x : Int32) : MP l yX3_isPrize wsX3_isPrize 0 0 G [.int x] ([]) (isPb x) := by
  refine MP.of (ty := .boolean) (by decide) rfl (Nat.le_of_ble_eq_true rfl) (isPb_nar x) ?_
  intro p e s m below meth c hx hb hml hown hts hK hP Q hret ls hl
  have hown : s.vm.findClass RX3 = some m.cls := hown
  have hl : lv_has ls 1 [(0, .int x)] := hl
  refine lv_iload_n hx hb dX3_isPrize_0 rfl (lv_at hl 0 rfl) ?_
  refine lv_if_lt (tgt := 13) hx hb dX3_isPrize_1 (by decide) (fun c_1_1 => ?_) (fun c_1_1 => ?_)
  · refine lv_iconst (v := 0) hx hb dX3_isPrize_13 (by decide) ?_
    exact hret _ _ _ (by simp only [isPb, if_pos c_1_1]) dX3_isPrize_14
  · refine lv_iload_n hx hb dX3_isPrize_4 rfl (lv_at hl 0 rfl) ?_
    refine lv_iconst (v := 5) hx hb dX3_isPrize_5 (by decide) ?_
    refine lv_icmp_ge (tgt := 13) hx hb dX3_isPrize_6 (by decide) (fun c_6_2 => ?_) (fun c_6_2 => ?_)
    · refine lv_iconst (v := 0) hx hb dX3_isPrize_13 (by decide) ?_
      exact hret _ _ _ (by simp only [isPb, if_neg c_1_1, if_pos c_6_2]) dX3_isPrize_14
    · refine lv_iconst (v := 1) hx hb dX3_isPrize_9 (by decide) ?_
      refine lv_goto (tgt := 14) hx hb dX3_isPrize_10 (by decide) ?_
      exact hret _ _ _ (by simp only [isPb, if_neg c_1_1, if_neg c_6_2]) dX3_isPrize_14
set_option maxHeartbeats 4000000 in
set_option maxRecDepth 100000 in
theorem c_J6_bitCount_0f7a4 (l : Launch) (G : qG) (x : Int32) : MP l yJ6_bitCount_0f7a4 wsJ6_bitCount_0f7a4 0 0 G [.int x] ([]) (bitC x) := by
  refine MP.of (ty := .int) (by decide) rfl (Nat.le_of_ble_eq_true rfl) rfl ?_
  intro p e s m below meth c hx hb hml hown hts hK hP Q hret ls hl
  have hown : s.vm.findClass RJ6 = some m.cls := hown
  have hl : lv_has ls 1 [(0, .int x)] := hl
  have wk1 := hts (Cond.constant RJ6 265 (1431655765)) (List.mem_of_getElem? (i := 1) rfl)
  have wk2 := hts (Cond.constant RJ6 266 (858993459)) (List.mem_of_getElem? (i := 2) rfl)
  have wk3 := hts (Cond.constant RJ6 267 (252645135)) (List.mem_of_getElem? (i := 3) rfl)
  refine lv_iload_n hx hb dJ6_bitCount_0f7a4_0 rfl (lv_at hl 0 rfl) ?_
  refine lv_iload_n hx hb dJ6_bitCount_0f7a4_1 rfl (lv_at hl 0 rfl) ?_
  refine lv_iconst (v := 1) hx hb dJ6_bitCount_0f7a4_2 (by decide) ?_
  refine lv_iushr (v := ush x 1) hx hb dJ6_bitCount_0f7a4_3 rfl ?_
  refine lv_ldcw (v := 1431655765) hx hb hown wk1 dJ6_bitCount_0f7a4_4 ?_
  refine lv_iand hx hb dJ6_bitCount_0f7a4_7 ?_
  refine lv_isub hx hb dJ6_bitCount_0f7a4_8 ?_
  refine lv_istore_n (lv' := [(0, .int (x - ((ush x 1) &&& 1431655765)))]) hx hb dJ6_bitCount_0f7a4_9 rfl hl (by decide) rfl (fun ls hl => ?_)
  refine lv_iload_n hx hb dJ6_bitCount_0f7a4_10 rfl (lv_at hl 0 rfl) ?_
  refine lv_ldcw (v := 858993459) hx hb hown wk2 dJ6_bitCount_0f7a4_11 ?_
  refine lv_iand hx hb dJ6_bitCount_0f7a4_14 ?_
  refine lv_iload_n hx hb dJ6_bitCount_0f7a4_15 rfl (lv_at hl 0 rfl) ?_
  refine lv_iconst (v := 2) hx hb dJ6_bitCount_0f7a4_16 (by decide) ?_
  refine lv_iushr (v := ush (x - ((ush x 1) &&& 1431655765)) 2) hx hb dJ6_bitCount_0f7a4_17 rfl ?_
  refine lv_ldcw (v := 858993459) hx hb hown wk2 dJ6_bitCount_0f7a4_18 ?_
  refine lv_iand hx hb dJ6_bitCount_0f7a4_21 ?_
  refine lv_iadd hx hb dJ6_bitCount_0f7a4_22 ?_
  refine lv_istore_n (lv' := [(0, .int (((x - ((ush x 1) &&& 1431655765)) &&& 858993459) + ((ush (x - ((ush x 1) &&& 1431655765)) 2) &&& 858993459)))]) hx hb dJ6_bitCount_0f7a4_23 rfl hl (by decide) rfl (fun ls hl => ?_)
  refine lv_iload_n hx hb dJ6_bitCount_0f7a4_24 rfl (lv_at hl 0 rfl) ?_
  refine lv_iload_n hx hb dJ6_bitCount_0f7a4_25 rfl (lv_at hl 0 rfl) ?_
  refine lv_iconst (v := 4) hx hb dJ6_bitCount_0f7a4_26 (by decide) ?_
  refine lv_iushr (v := ush (((x - ((ush x 1) &&& 1431655765)) &&& 858993459) + ((ush (x - ((ush x 1) &&& 1431655765)) 2) &&& 858993459)) 4) hx hb dJ6_bitCount_0f7a4_27 rfl ?_
  refine lv_iadd hx hb dJ6_bitCount_0f7a4_28 ?_
  refine lv_ldcw (v := 252645135) hx hb hown wk3 dJ6_bitCount_0f7a4_29 ?_
  refine lv_iand hx hb dJ6_bitCount_0f7a4_32 ?_
  refine lv_istore_n (lv' := [(0, .int (((((x - ((ush x 1) &&& 1431655765)) &&& 858993459) + ((ush (x - ((ush x 1) &&& 1431655765)) 2) &&& 858993459)) + (ush (((x - ((ush x 1) &&& 1431655765)) &&& 858993459) + ((ush (x - ((ush x 1) &&& 1431655765)) 2) &&& 858993459)) 4)) &&& 252645135))]) hx hb dJ6_bitCount_0f7a4_33 rfl hl (by decide) rfl (fun ls hl => ?_)
  refine lv_iload_n hx hb dJ6_bitCount_0f7a4_34 rfl (lv_at hl 0 rfl) ?_
  refine lv_iload_n hx hb dJ6_bitCount_0f7a4_35 rfl (lv_at hl 0 rfl) ?_
  refine lv_bipush (v := 8) hx hb dJ6_bitCount_0f7a4_36 (by decide) ?_
  refine lv_iushr (v := ush (((((x - ((ush x 1) &&& 1431655765)) &&& 858993459) + ((ush (x - ((ush x 1) &&& 1431655765)) 2) &&& 858993459)) + (ush (((x - ((ush x 1) &&& 1431655765)) &&& 858993459) + ((ush (x - ((ush x 1) &&& 1431655765)) 2) &&& 858993459)) 4)) &&& 252645135) 8) hx hb dJ6_bitCount_0f7a4_38 rfl ?_
  refine lv_iadd hx hb dJ6_bitCount_0f7a4_39 ?_
  refine lv_istore_n (lv' := [(0, .int ((((((x - ((ush x 1) &&& 1431655765)) &&& 858993459) + ((ush (x - ((ush x 1) &&& 1431655765)) 2) &&& 858993459)) + (ush (((x - ((ush x 1) &&& 1431655765)) &&& 858993459) + ((ush (x - ((ush x 1) &&& 1431655765)) 2) &&& 858993459)) 4)) &&& 252645135) + (ush (((((x - ((ush x 1) &&& 1431655765)) &&& 858993459) + ((ush (x - ((ush x 1) &&& 1431655765)) 2) &&& 858993459)) + (ush (((x - ((ush x 1) &&& 1431655765)) &&& 858993459) + ((ush (x - ((ush x 1) &&& 1431655765)) 2) &&& 858993459)) 4)) &&& 252645135) 8)))]) hx hb dJ6_bitCount_0f7a4_40 rfl hl (by decide) rfl (fun ls hl => ?_)
  refine lv_iload_n hx hb dJ6_bitCount_0f7a4_41 rfl (lv_at hl 0 rfl) ?_
  refine lv_iload_n hx hb dJ6_bitCount_0f7a4_42 rfl (lv_at hl 0 rfl) ?_
  refine lv_bipush (v := 16) hx hb dJ6_bitCount_0f7a4_43 (by decide) ?_
  refine lv_iushr (v := ush ((((((x - ((ush x 1) &&& 1431655765)) &&& 858993459) + ((ush (x - ((ush x 1) &&& 1431655765)) 2) &&& 858993459)) + (ush (((x - ((ush x 1) &&& 1431655765)) &&& 858993459) + ((ush (x - ((ush x 1) &&& 1431655765)) 2) &&& 858993459)) 4)) &&& 252645135) + (ush (((((x - ((ush x 1) &&& 1431655765)) &&& 858993459) + ((ush (x - ((ush x 1) &&& 1431655765)) 2) &&& 858993459)) + (ush (((x - ((ush x 1) &&& 1431655765)) &&& 858993459) + ((ush (x - ((ush x 1) &&& 1431655765)) 2) &&& 858993459)) 4)) &&& 252645135) 8)) 16) hx hb dJ6_bitCount_0f7a4_45 rfl ?_
  refine lv_iadd hx hb dJ6_bitCount_0f7a4_46 ?_
  refine lv_istore_n (lv' := [(0, .int (((((((x - ((ush x 1) &&& 1431655765)) &&& 858993459) + ((ush (x - ((ush x 1) &&& 1431655765)) 2) &&& 858993459)) + (ush (((x - ((ush x 1) &&& 1431655765)) &&& 858993459) + ((ush (x - ((ush x 1) &&& 1431655765)) 2) &&& 858993459)) 4)) &&& 252645135) + (ush (((((x - ((ush x 1) &&& 1431655765)) &&& 858993459) + ((ush (x - ((ush x 1) &&& 1431655765)) 2) &&& 858993459)) + (ush (((x - ((ush x 1) &&& 1431655765)) &&& 858993459) + ((ush (x - ((ush x 1) &&& 1431655765)) 2) &&& 858993459)) 4)) &&& 252645135) 8)) + (ush ((((((x - ((ush x 1) &&& 1431655765)) &&& 858993459) + ((ush (x - ((ush x 1) &&& 1431655765)) 2) &&& 858993459)) + (ush (((x - ((ush x 1) &&& 1431655765)) &&& 858993459) + ((ush (x - ((ush x 1) &&& 1431655765)) 2) &&& 858993459)) 4)) &&& 252645135) + (ush (((((x - ((ush x 1) &&& 1431655765)) &&& 858993459) + ((ush (x - ((ush x 1) &&& 1431655765)) 2) &&& 858993459)) + (ush (((x - ((ush x 1) &&& 1431655765)) &&& 858993459) + ((ush (x - ((ush x 1) &&& 1431655765)) 2) &&& 858993459)) 4)) &&& 252645135) 8)) 16)))]) hx hb dJ6_bitCount_0f7a4_47 rfl hl (by decide) rfl (fun ls hl => ?_)
  refine lv_iload_n hx hb dJ6_bitCount_0f7a4_48 rfl (lv_at hl 0 rfl) ?_
  refine lv_bipush (v := 63) hx hb dJ6_bitCount_0f7a4_49 (by decide) ?_
  refine lv_iand hx hb dJ6_bitCount_0f7a4_51 ?_
  exact hret _ _ _ (by rfl) dJ6_bitCount_0f7a4_52
set_option maxHeartbeats 4000000 in
set_option maxRecDepth 100000 in
theorem c_X2_playerAt (l : Launch) (G : qG) (a : Nat → Nat) (T : Tb) (x : Int32) : MP l yX2_playerAt wsX2_playerAt 0 0 G [.ref (a 0), .int x] (tw G a T) (pAt (T 4) x) := by
  refine MP.of (ty := .int) (by decide) rfl (Nat.le_of_ble_eq_true rfl) rfl ?_
  intro p e s m below meth c hx hb hml hown hts hK hP Q hret ls hl
  have hown : s.vm.findClass RX2 = some m.cls := hown
  have hl : lv_has ls 3 [(0, .ref (a 0)), (1, .int x)] := hl
  have wk1 := hts (Cond.fieldLink RX2 24 "TurnBids$Table" "places" "[I") (List.mem_of_getElem? (i := 1) rfl)
  have wk2 := hts (Cond.constant RX2 27 (-100006)) (List.mem_of_getElem? (i := 2) rfl)
  have hinX2 : ∀ w ∈ wsX20, w ∈ wsX2_playerAt := fun _ h => (List.mem_cons_of_mem _ (List.mem_append_right _ h))
  refine lv_iconst (v := 0) hx hb dX2_playerAt_0 (by decide) ?_
  refine lv_istore_n (lv' := [(2, .int 0), (0, .ref (a 0)), (1, .int x)]) hx hb dX2_playerAt_1 rfl hl (by decide) rfl (fun ls hl => ?_)
  have L2 : ∀ (f i : Nat), i + f = 5 → pAtL (T 4) x f i = pAt (T 4) x → ∀ ls : Array Slot, lv_has ls 3 [(2, .int (nI i)), (0, .ref (a 0)), (1, .int x)] → W p l e { frames := 0, cells := 0, slots := 0, locals := 0 } s m ([.ref (a 0), .int x] : List Value).toArray below meth c s.heap [] 0 0 Q (F0 m 2 ls []) := by
    intro f
    induction f with
    | zero =>
      intro i  hi hv2 ls hl
      obtain rfl : i = 5 := by omega
      refine lv_iload_n hx hb dX2_playerAt_2 rfl (lv_at hl 0 rfl) ?_
      refine lv_iconst (v := 5) hx hb dX2_playerAt_3 (by decide) ?_
      refine lv_icmp_ge (tgt := 25) hx hb dX2_playerAt_4 (by decide) (fun _ => ?_) (fun c_9 => absurd (by decide +kernel) c_9)
      refine lv_ldc (v := (-100006)) hx hb hown wk2 dX2_playerAt_25 ?_
      exact hret _ _ _ (by rw [← hv2]; simp only [pAt, pAtL]) dX2_playerAt_27
    | succ f ih =>
      intro i  hi hv2 ls hl
      have hlt : i < 5 := by omega
      refine lv_iload_n hx hb dX2_playerAt_2 rfl (lv_at hl 0 rfl) ?_
      refine lv_iconst (v := 5) hx hb dX2_playerAt_3 (by decide) ?_
      refine lv_icmp_ge (tgt := 25) hx hb dX2_playerAt_4 (by decide) (fun c_9 => absurd c_9 (nI_ge (b := 5) hlt (by decide))) (fun _ => ?_)
      refine lv_aload_n hx hb dX2_playerAt_7 rfl (lv_at hl 1 rfl) ?_
      refine va_get (D := G.1) (ci := 2) (v := .ref (a 5)) (C := RX2) (T := TX2) (N := 13) hx hb hts hinX2 hown hK.1 hP 0 rfl rfl 4 (by decide) wk1 (fun _ h9 => h9) rfl dX2_playerAt_8 ?_
      refine lv_iload_n hx hb dX2_playerAt_11 rfl (lv_at hl 0 rfl) ?_
      refine qild hx hb hK.1 hP 5 0 rfl rfl (k := i) (nI_clamp (by omega)) (vp_in_nI (by omega) (by decide)) dX2_playerAt_12 ?_
      refine lv_iload_n hx hb dX2_playerAt_13 rfl (lv_at hl 2 rfl) ?_
      refine lv_icmp_ne (tgt := 19) hx hb dX2_playerAt_14 (by decide) (fun c_14_1 => ?_) (fun c_14_1 => ?_)
      · refine lv_iinc (v := nI (i + 1)) (lv' := [(2, .int (nI (i + 1))), (0, .ref (a 0)), (1, .int x)]) hx hb dX2_playerAt_19 hl (k := 0) rfl (nI_1 _) (by decide) rfl (fun ls hl => ?_)
        refine lv_goto (tgt := 2) hx hb dX2_playerAt_22 (by decide) ?_
        exact ih (i + 1)  (by omega) (by rw [← hv2]; simp only [pAt, pAtL, if_neg c_14_1]) ls (lv_sub hl [0, 1, 2] rfl)
      · refine lv_iload_n hx hb dX2_playerAt_17 rfl (lv_at hl 0 rfl) ?_
        exact hret _ _ _ (by rw [← hv2]; simp only [pAt, pAtL, if_pos c_14_1]) dX2_playerAt_18
  exact L2 5 0  rfl (by simp only [pAt]) ls (lv_sub hl [0, 1, 2] rfl)
set_option maxHeartbeats 4000000 in
set_option maxRecDepth 100000 in
theorem c_X2_playersLeft (l : Launch) (G : qG) (a : Nat → Nat) (T : Tb)  : MP l yX2_playersLeft wsX2_playersLeft 0 0 G [.ref (a 0)] (tw G a T) (plB T) := by
  refine MP.of (ty := .int) (by decide) rfl (Nat.le_of_ble_eq_true rfl) rfl ?_
  intro p e s m below meth c hx hb hml hown hts hK hP Q hret ls hl
  have hown : s.vm.findClass RX2 = some m.cls := hown
  have hl : lv_has ls 3 [(0, .ref (a 0))] := hl
  have wk1 := hts (Cond.fieldLink RX2 43 "TurnBids$Table" "underWay" "Z") (List.mem_of_getElem? (i := 1) rfl)
  have wk2 := hts (Cond.fieldLink RX2 31 "TurnBids$Table" "placesGot" "[I") (List.mem_of_getElem? (i := 2) rfl)
  have wk3 := hts (Cond.constant RX2 27 (-100006)) (List.mem_of_getElem? (i := 3) rfl)
  have hinX2 : ∀ w ∈ wsX20, w ∈ wsX2_playersLeft := fun _ h => (List.mem_cons_of_mem _ (List.mem_append_right _ h))
  refine lv_aload_n hx hb dX2_playersLeft_0 rfl (lv_at hl 0 rfl) ?_
  refine va_get (D := G.1) (ci := 2) (v := .int (T 10 0)) (C := RX2) (T := TX2) (N := 13) hx hb hts hinX2 hown hK.1 hP 0 rfl rfl 10 (by decide) wk1 (fun _ h9 => h9) rfl dX2_playersLeft_1 ?_
  refine lv_if_ne (tgt := 9) hx hb dX2_playersLeft_4 (by decide) (fun c_4_1 => ?_) (fun c_4_1 => ?_)
  · refine lv_iconst (v := 0) hx hb dX2_playersLeft_9 (by decide) ?_
    refine lv_istore_n (lv' := [(1, .int 0), (0, .ref (a 0))]) hx hb dX2_playersLeft_10 rfl hl (by decide) rfl (fun ls hl => ?_)
    refine lv_iconst (v := 0) hx hb dX2_playersLeft_11 (by decide) ?_
    refine lv_istore_n (lv' := [(2, .int 0), (1, .int 0), (0, .ref (a 0))]) hx hb dX2_playersLeft_12 rfl hl (by decide) rfl (fun ls hl => ?_)
    have L13 : ∀ (f i : Nat) (k : Int32), i + f = 5 → plL (T 6) f i k = plB T → ∀ ls : Array Slot, lv_has ls 3 [(2, .int (nI i)), (1, .int k), (0, .ref (a 0))] → W p l e { frames := 0, cells := 0, slots := 0, locals := 0 } s m ([.ref (a 0)] : List Value).toArray below meth c s.heap [] 0 0 Q (F0 m 13 ls []) := by
      intro f
      induction f with
      | zero =>
        intro i k hi hv13 ls hl
        obtain rfl : i = 5 := by omega
        refine lv_iload_n hx hb dX2_playersLeft_13 rfl (lv_at hl 0 rfl) ?_
        refine lv_iconst (v := 5) hx hb dX2_playersLeft_14 (by decide) ?_
        refine lv_icmp_ge (tgt := 41) hx hb dX2_playersLeft_15 (by decide) (fun _ => ?_) (fun c_9 => absurd (by decide +kernel) c_9)
        refine lv_iload_n hx hb dX2_playersLeft_41 rfl (lv_at hl 1 rfl) ?_
        exact hret _ _ _ (by rw [← hv13]; simp only [plB, plL, if_neg c_4_1]) dX2_playersLeft_42
      | succ f ih =>
        intro i k hi hv13 ls hl
        have hlt : i < 5 := by omega
        refine lv_iload_n hx hb dX2_playersLeft_13 rfl (lv_at hl 0 rfl) ?_
        refine lv_iconst (v := 5) hx hb dX2_playersLeft_14 (by decide) ?_
        refine lv_icmp_ge (tgt := 41) hx hb dX2_playersLeft_15 (by decide) (fun c_9 => absurd c_9 (nI_ge (b := 5) hlt (by decide))) (fun _ => ?_)
        refine lv_aload_n hx hb dX2_playersLeft_18 rfl (lv_at hl 2 rfl) ?_
        refine va_get (D := G.1) (ci := 2) (v := .ref (a 7)) (C := RX2) (T := TX2) (N := 13) hx hb hts hinX2 hown hK.1 hP 0 rfl rfl 6 (by decide) wk2 (fun _ h9 => h9) rfl dX2_playersLeft_19 ?_
        refine lv_iload_n hx hb dX2_playersLeft_22 rfl (lv_at hl 0 rfl) ?_
        refine qild hx hb hK.1 hP 7 0 rfl rfl (k := i) (nI_clamp (by omega)) (vp_in_nI (by omega) (by decide)) dX2_playersLeft_23 ?_
        refine lv_ldc (v := (-100006)) hx hb hown wk3 dX2_playersLeft_24 ?_
        refine lv_icmp_ne (tgt := 35) hx hb dX2_playersLeft_26 (by decide) (fun c_26_2 => ?_) (fun c_26_2 => ?_)
        · refine lv_iinc (v := nI (i + 1)) (lv' := [(2, .int (nI (i + 1))), (1, .int k), (0, .ref (a 0))]) hx hb dX2_playersLeft_35 hl (k := 0) rfl (nI_1 _) (by decide) rfl (fun ls hl => ?_)
          refine lv_goto (tgt := 13) hx hb dX2_playersLeft_38 (by decide) ?_
          exact ih (i + 1) k (by omega) (by rw [← hv13]; simp only [plB, plL, if_neg c_4_1, if_neg c_26_2]) ls (lv_sub hl [0, 1, 2] rfl)
        · refine lv_iload_n hx hb dX2_playersLeft_29 rfl (lv_at hl 1 rfl) ?_
          refine lv_iconst (v := 1) hx hb dX2_playersLeft_30 (by decide) ?_
          refine lv_iload_n hx hb dX2_playersLeft_31 rfl (lv_at hl 0 rfl) ?_
          refine lv_ishl hx hb dX2_playersLeft_32 ?_
          refine lv_ior hx hb dX2_playersLeft_33 ?_
          refine lv_istore_n (lv' := [(1, .int (k ||| (1 <<< ((nI i) &&& 31)))), (2, .int (nI i)), (0, .ref (a 0))]) hx hb dX2_playersLeft_34 rfl hl (by decide) rfl (fun ls hl => ?_)
          refine lv_iinc (v := nI (i + 1)) (lv' := [(2, .int (nI (i + 1))), (1, .int (k ||| (1 <<< ((nI i) &&& 31)))), (0, .ref (a 0))]) hx hb dX2_playersLeft_35 hl (k := 1) rfl (nI_1 _) (by decide) rfl (fun ls hl => ?_)
          refine lv_goto (tgt := 13) hx hb dX2_playersLeft_38 (by decide) ?_
          exact ih (i + 1) (k ||| (1 <<< ((nI i) &&& 31))) (by omega) (by rw [← hv13]; simp only [plB, plL, if_neg c_4_1, if_pos c_26_2]) ls (lv_sub hl [0, 1, 2] rfl)
    exact L13 5 0 0 rfl (by simp only [plB, if_neg c_4_1]) ls (lv_sub hl [0, 1, 2] rfl)
  · refine lv_iconst (v := 0) hx hb dX2_playersLeft_7 (by decide) ?_
    exact hret _ _ _ (by simp only [plB, if_pos c_4_1]) dX2_playersLeft_8
set_option maxHeartbeats 4000000 in
set_option maxRecDepth 100000 in
theorem c_X2_highestBid (l : Launch) (G : qG) (a : Nat → Nat) (T : Tb)  : MP l yX2_highestBid wsX2_highestBid 0 0 G [.ref (a 0)] (tw G a T) (hiB T) := by
  refine MP.of (ty := .int) (by decide) rfl (Nat.le_of_ble_eq_true rfl) rfl ?_
  intro p e s m below meth c hx hb hml hown hts hK hP Q hret ls hl
  have hown : s.vm.findClass RX2 = some m.cls := hown
  have hl : lv_has ls 6 [(0, .ref (a 0))] := hl
  have wk1 := hts (Cond.constant RX2 27 (-100006)) (List.mem_of_getElem? (i := 1) rfl)
  have wk2 := hts (Cond.fieldLink RX2 28 "TurnBids$Table" "bids" "[I") (List.mem_of_getElem? (i := 2) rfl)
  have hinX2 : ∀ w ∈ wsX20, w ∈ wsX2_highestBid := fun _ h => (List.mem_cons_of_mem _ (List.mem_append_right _ h))
  refine lv_ldc (v := (-100006)) hx hb hown wk1 dX2_highestBid_0 ?_
  refine lv_istore_n (lv' := [(1, .int (-100006)), (0, .ref (a 0))]) hx hb dX2_highestBid_2 rfl hl (by decide) rfl (fun ls hl => ?_)
  refine lv_aload_n hx hb dX2_highestBid_3 rfl (lv_at hl 1 rfl) ?_
  refine va_get (D := G.1) (ci := 2) (v := .ref (a 6)) (C := RX2) (T := TX2) (N := 13) hx hb hts hinX2 hown hK.1 hP 0 rfl rfl 5 (by decide) wk2 (fun _ h9 => h9) rfl dX2_highestBid_4 ?_
  refine lv_astore_n (lv' := [(2, .ref (a 6)), (1, .int (-100006)), (0, .ref (a 0))]) hx hb dX2_highestBid_7 rfl hl (by decide) rfl (fun ls hl => ?_)
  refine lv_aload_n hx hb dX2_highestBid_8 rfl (lv_at hl 0 rfl) ?_
  refine va_alen (v := 5) hx hb hK.1 hP 6 0 rfl rfl rfl dX2_highestBid_9 ?_
  refine lv_istore_n (lv' := [(3, .int 5), (2, .ref (a 6)), (1, .int (-100006)), (0, .ref (a 0))]) hx hb dX2_highestBid_10 rfl hl (by decide) rfl (fun ls hl => ?_)
  refine lv_iconst (v := 0) hx hb dX2_highestBid_11 (by decide) ?_
  refine lv_istore (lv' := [(4, .int 0), (3, .int 5), (2, .ref (a 6)), (1, .int (-100006)), (0, .ref (a 0))]) hx hb dX2_highestBid_12 hl (by decide) rfl (fun ls hl => ?_)
  have L14 : ∀ (f i : Nat) (k : Int32), i + f = 5 → hbL (T 5) f i k = hiB T → ∀ ls : Array Slot, lv_has ls 6 [(4, .int (nI i)), (3, .int 5), (2, .ref (a 6)), (1, .int k), (0, .ref (a 0))] → W p l e { frames := 0, cells := 0, slots := 0, locals := 0 } s m ([.ref (a 0)] : List Value).toArray below meth c s.heap [] 0 0 Q (F0 m 14 ls []) := by
    intro f
    induction f with
    | zero =>
      intro i k hi hv14 ls hl
      obtain rfl : i = 5 := by omega
      refine lv_iload hx hb dX2_highestBid_14 (lv_at hl 0 rfl) ?_
      refine lv_iload_n hx hb dX2_highestBid_16 rfl (lv_at hl 1 rfl) ?_
      refine lv_icmp_ge (tgt := 41) hx hb dX2_highestBid_17 (by decide) (fun _ => ?_) (fun c_9 => absurd (by decide +kernel) c_9)
      refine lv_iload_n hx hb dX2_highestBid_41 rfl (lv_at hl 3 rfl) ?_
      exact hret _ _ _ (by rw [← hv14]; simp only [hiB, hbL]) dX2_highestBid_42
    | succ f ih =>
      intro i k hi hv14 ls hl
      have hlt : i < 5 := by omega
      refine lv_iload hx hb dX2_highestBid_14 (lv_at hl 0 rfl) ?_
      refine lv_iload_n hx hb dX2_highestBid_16 rfl (lv_at hl 1 rfl) ?_
      refine lv_icmp_ge (tgt := 41) hx hb dX2_highestBid_17 (by decide) (fun c_9 => absurd c_9 (nI_ge (b := 5) hlt (by decide))) (fun _ => ?_)
      refine lv_aload_n hx hb dX2_highestBid_20 rfl (lv_at hl 2 rfl) ?_
      refine lv_iload hx hb dX2_highestBid_21 (lv_at hl 0 rfl) ?_
      refine qild hx hb hK.1 hP 6 0 rfl rfl (k := i) (nI_clamp (by omega)) (vp_in_nI (by omega) (by decide)) dX2_highestBid_23 ?_
      refine lv_istore (lv' := [(5, .int (T 5 i)), (4, .int (nI i)), (3, .int 5), (2, .ref (a 6)), (1, .int k), (0, .ref (a 0))]) hx hb dX2_highestBid_24 hl (by decide) rfl (fun ls hl => ?_)
      refine lv_iload hx hb dX2_highestBid_26 (lv_at hl 0 rfl) ?_
      refine lv_iload_n hx hb dX2_highestBid_28 rfl (lv_at hl 4 rfl) ?_
      refine lv_icmp_le (tgt := 35) hx hb dX2_highestBid_29 (by decide) (fun c_29_1 => ?_) (fun c_29_1 => ?_)
      · refine lv_iinc (v := nI (i + 1)) (lv' := [(4, .int (nI (i + 1))), (5, .int (T 5 i)), (3, .int 5), (2, .ref (a 6)), (1, .int k), (0, .ref (a 0))]) hx hb dX2_highestBid_35 hl (k := 1) rfl (nI_1 _) (by decide) rfl (fun ls hl => ?_)
        refine lv_goto (tgt := 14) hx hb dX2_highestBid_38 (by decide) ?_
        exact ih (i + 1) k (by omega) (by rw [← hv14]; simp only [hiB, hbL, if_pos c_29_1]) ls (lv_sub hl [0, 2, 3, 4, 5] rfl)
      · refine lv_iload hx hb dX2_highestBid_32 (lv_at hl 0 rfl) ?_
        refine lv_istore_n (lv' := [(1, .int (T 5 i)), (5, .int (T 5 i)), (4, .int (nI i)), (3, .int 5), (2, .ref (a 6)), (0, .ref (a 0))]) hx hb dX2_highestBid_34 rfl hl (by decide) rfl (fun ls hl => ?_)
        refine lv_iinc (v := nI (i + 1)) (lv' := [(4, .int (nI (i + 1))), (1, .int (T 5 i)), (5, .int (T 5 i)), (3, .int 5), (2, .ref (a 6)), (0, .ref (a 0))]) hx hb dX2_highestBid_35 hl (k := 2) rfl (nI_1 _) (by decide) rfl (fun ls hl => ?_)
        refine lv_goto (tgt := 14) hx hb dX2_highestBid_38 (by decide) ?_
        exact ih (i + 1) (T 5 i) (by omega) (by rw [← hv14]; simp only [hiB, hbL, if_neg c_29_1]) ls (lv_sub hl [0, 3, 4, 1, 5] rfl)
  exact L14 5 0 (-100006) rfl (by simp only [hiB]) ls (lv_sub hl [0, 1, 2, 3, 4] rfl)
set_option maxHeartbeats 4000000 in
set_option maxRecDepth 100000 in
theorem c_X2_leastBid (l : Launch) (G : qG) (a : Nat → Nat) (T : Tb)  : MP l yX2_leastBid wsX2_leastBid 1 25 G [.ref (a 0)] (tw G a T) (leB T) := by
  refine MP.of (ty := .int) (by decide) rfl (Nat.le_of_ble_eq_true rfl) rfl ?_
  intro p e s m below meth c hx hb hml hown hts hK hP Q hret ls hl
  have hown : s.vm.findClass RX2 = some m.cls := hown
  have hl : lv_has ls 2 [(0, .ref (a 0))] := hl
  have wk1 := hts (Cond.fieldLink RX2 43 "TurnBids$Table" "underWay" "Z") (List.mem_of_getElem? (i := 1) rfl)
  have wk2 := hts (Cond.constant RX2 27 (-100006)) (List.mem_of_getElem? (i := 2) rfl)
  have wk3 := hts (Cond.fieldLink RX2 9 "TurnBids$Table" "settings" "[I") (List.mem_of_getElem? (i := 3) rfl)
  have wk4 := hts (Cond.methodLink RX2 60 yX2_highestBid) (List.mem_of_getElem? (i := 4) rfl)
  have hinX2 : ∀ w ∈ wsX20, w ∈ wsX2_leastBid := fun _ h => (List.mem_cons_of_mem _ (List.mem_append_right _ h))
  refine lv_aload_n hx hb dX2_leastBid_0 rfl (lv_at hl 0 rfl) ?_
  refine va_get (D := G.1) (ci := 2) (v := .int (T 10 0)) (C := RX2) (T := TX2) (N := 13) hx hb hts hinX2 hown hK.1 hP 0 rfl rfl 10 (by decide) wk1 (fun _ h9 => h9) rfl dX2_leastBid_1 ?_
  refine lv_if_ne (tgt := 10) hx hb dX2_leastBid_4 (by decide) (fun c_4_1 => ?_) (fun c_4_1 => ?_)
  · refine lv_aload_n hx hb dX2_leastBid_10 rfl (lv_at hl 0 rfl) ?_
    refine cPV (As := []) (rest := []) ⟨hx, hb, hml, hown, hts⟩ (c_X2_highestBid l G a T) (cwV 0 hts gX2_leastBid_X2_highestBid rfl rfl rfl (by decide +kernel) ⟨Nat.le_of_ble_eq_true rfl, Nat.le_of_ble_eq_true rfl⟩) hK hP 0 (ci := 2) rfl rfl rfl rfl rfl hl.1 (Nat.le_of_ble_eq_true rfl) dX2_leastBid_11 ⟨Nat.le_of_ble_eq_true rfl, Nat.le_of_ble_eq_true rfl⟩ ?_
    refine lv_istore_n (lv' := [(1, .int (hiB T)), (0, .ref (a 0))]) hx hb dX2_leastBid_14 rfl hl (by decide) rfl (fun ls hl => ?_)
    refine lv_iload_n hx hb dX2_leastBid_15 rfl (lv_at hl 0 rfl) ?_
    refine lv_ldc (v := (-100006)) hx hb hown wk2 dX2_leastBid_16 ?_
    refine lv_icmp_ne (tgt := 30) hx hb dX2_leastBid_18 (by decide) (fun c_18_2 => ?_) (fun c_18_2 => ?_)
    · refine lv_iload_n hx hb dX2_leastBid_30 rfl (lv_at hl 0 rfl) ?_
      refine lv_aload_n hx hb dX2_leastBid_31 rfl (lv_at hl 1 rfl) ?_
      refine va_get (D := G.1) (ci := 2) (v := .ref (a 1)) (C := RX2) (T := TX2) (N := 13) hx hb hts hinX2 hown hK.1 hP 0 rfl rfl 0 (by decide) wk3 (fun _ h9 => h9) rfl dX2_leastBid_32 ?_
      refine lv_iconst (v := 0) hx hb dX2_leastBid_35 (by decide) ?_
      refine qild hx hb hK.1 hP 1 0 rfl rfl (k := 0) rfl (vp_in_nI (n := 0) (by decide) (by decide)) dX2_leastBid_36 ?_
      refine lv_iadd hx hb dX2_leastBid_37 ?_
      exact hret _ _ _ (by simp only [leB, if_neg c_4_1, if_neg c_18_2]) dX2_leastBid_38
    · refine lv_aload_n hx hb dX2_leastBid_21 rfl (lv_at hl 1 rfl) ?_
      refine va_get (D := G.1) (ci := 2) (v := .ref (a 1)) (C := RX2) (T := TX2) (N := 13) hx hb hts hinX2 hown hK.1 hP 0 rfl rfl 0 (by decide) wk3 (fun _ h9 => h9) rfl dX2_leastBid_22 ?_
      refine lv_iconst (v := 1) hx hb dX2_leastBid_25 (by decide) ?_
      refine qild hx hb hK.1 hP 1 0 rfl rfl (k := 1) rfl (vp_in_nI (n := 1) (by decide) (by decide)) dX2_leastBid_26 ?_
      refine lv_goto (tgt := 38) hx hb dX2_leastBid_27 (by decide) ?_
      exact hret _ _ _ (by simp only [leB, if_neg c_4_1, if_pos c_18_2]) dX2_leastBid_38
  · refine lv_ldc (v := (-100006)) hx hb hown wk2 dX2_leastBid_7 ?_
    exact hret _ _ _ (by simp only [leB, if_pos c_4_1]) dX2_leastBid_9
set_option maxHeartbeats 4000000 in
set_option maxRecDepth 100000 in
theorem c_X2_hasToCover (l : Launch) (G : qG) (a : Nat → Nat) (T : Tb) (x : Int32) : MP l yX2_hasToCover wsX2_hasToCover 1 21 G [.ref (a 0), .int x] (tw G a T) (covB T x) := by
  refine MP.of (ty := .int) (by decide) rfl (Nat.le_of_ble_eq_true rfl) rfl ?_
  intro p e s m below meth c hx hb hml hown hts hK hP Q hret ls hl
  have hown : s.vm.findClass RX2 = some m.cls := hown
  have hl : lv_has ls 2 [(0, .ref (a 0)), (1, .int x)] := hl
  have wk1 := hts (Cond.fieldLink RX2 31 "TurnBids$Table" "placesGot" "[I") (List.mem_of_getElem? (i := 1) rfl)
  have wk2 := hts (Cond.constant RX2 27 (-100006)) (List.mem_of_getElem? (i := 2) rfl)
  have wk3 := hts (Cond.fieldLink RX2 28 "TurnBids$Table" "bids" "[I") (List.mem_of_getElem? (i := 3) rfl)
  have wk4 := hts (Cond.methodLink RX2 68 Lib.Math.max.name) (List.mem_of_getElem? (i := 4) rfl)
  have wk5 := hts (Cond.static Lib.Math.max.name) (List.mem_of_getElem? (i := 5) rfl)
  have wk6 := hts (Cond.initialized "java/lang/Math") (List.mem_of_getElem? (i := 6) rfl)
  have wk7 := hts (Cond.code Lib.Math.max.name Lib.Math.max.code 2 (some .int)) (List.mem_of_getElem? (i := 7) rfl)
  have wk8 := hts (Cond.static yX3_isPlayer) (List.mem_of_getElem? (i := 8) rfl)
  have wk9 := hts (Cond.initialized RX3) (List.mem_of_getElem? (i := 9) rfl)
  have hinX2 : ∀ w ∈ wsX20, w ∈ wsX2_hasToCover := fun _ h => (List.mem_cons_of_mem _ (List.mem_append_right _ h))
  refine lv_iload_n hx hb dX2_hasToCover_0 rfl (lv_at hl 1 rfl) ?_
  refine cPN (As := [.int x]) (rest := []) ⟨hx, hb, hml, hown, hts⟩ (c_X3_isPlayer l G x) ⟨va_cnB (host := RX3) 1 hts gX2_hasToCover_X3_isPlayer_n64 rfl rfl rfl hK.2.1.1 wk9 (by decide +kernel) ⟨Nat.le_of_ble_eq_true rfl, Nat.le_of_ble_eq_true rfl⟩, wk8, trivial⟩ hK (fun k q h => by simp at h) rfl rfl hl.1 (Nat.le_of_ble_eq_true rfl) dX2_hasToCover_1 ⟨Nat.le_of_ble_eq_true rfl, Nat.le_of_ble_eq_true rfl⟩ ?_
  refine lv_if_eq (tgt := 18) hx hb dX2_hasToCover_4 (by decide) (fun c_4_1 => ?_) (fun c_4_1 => ?_)
  · refine lv_iconst (v := 0) hx hb dX2_hasToCover_18 (by decide) ?_
    exact hret _ _ _ (by simp only [covB, if_pos c_4_1]) dX2_hasToCover_19
  · have hin_2 := isPb_in c_4_1
    refine lv_aload_n hx hb dX2_hasToCover_7 rfl (lv_at hl 0 rfl) ?_
    refine va_get (D := G.1) (ci := 2) (v := .ref (a 7)) (C := RX2) (T := TX2) (N := 13) hx hb hts hinX2 hown hK.1 hP 0 rfl rfl 6 (by decide) wk1 (fun _ h9 => h9) rfl dX2_hasToCover_8 ?_
    refine lv_iload_n hx hb dX2_hasToCover_11 rfl (lv_at hl 1 rfl) ?_
    refine qild hx hb hK.1 hP 7 0 rfl rfl (k := ix x) rfl (by assumption) dX2_hasToCover_12 ?_
    refine lv_ldc (v := (-100006)) hx hb hown wk2 dX2_hasToCover_13 ?_
    refine lv_icmp_eq (tgt := 20) hx hb dX2_hasToCover_15 (by decide) (fun c_15_3 => ?_) (fun c_15_3 => ?_)
    · refine lv_iconst (v := 0) hx hb dX2_hasToCover_20 (by decide) ?_
      refine lv_aload_n hx hb dX2_hasToCover_21 rfl (lv_at hl 0 rfl) ?_
      refine va_get (D := G.1) (ci := 2) (v := .ref (a 6)) (C := RX2) (T := TX2) (N := 13) hx hb hts hinX2 hown hK.1 hP 0 rfl rfl 5 (by decide) wk3 (fun _ h9 => h9) rfl dX2_hasToCover_22 ?_
      refine lv_iload_n hx hb dX2_hasToCover_25 rfl (lv_at hl 1 rfl) ?_
      refine qild hx hb hK.1 hP 6 0 rfl rfl (k := ix x) rfl (by assumption) dX2_hasToCover_26 ?_
      refine va_mmax hx hb (hml.trans hl.1.symm) hown wk4 wk5 wk6 wk7 (Nat.le_of_ble_eq_true rfl) (Nat.le_of_ble_eq_true rfl) (Nat.le_of_ble_eq_true rfl) (Nat.le_of_ble_eq_true rfl) dX2_hasToCover_27 ?_
      exact hret _ _ _ (by simp only [covB, if_neg c_4_1, if_pos c_15_3]) dX2_hasToCover_30
    · refine lv_iconst (v := 0) hx hb dX2_hasToCover_18 (by decide) ?_
      exact hret _ _ _ (by simp only [covB, if_neg c_4_1, if_neg c_15_3]) dX2_hasToCover_19
set_option maxHeartbeats 4000000 in
set_option maxRecDepth 100000 in
theorem c_X2_mayBid (l : Launch) (G : qG) (a : Nat → Nat) (T : Tb) (x : Int32) : MP l yX2_mayBid wsX2_mayBid 2 46 G [.ref (a 0), .int x] (tw G a T) (mayB T x) := by
  refine MP.of (ty := .boolean) (by decide) rfl (Nat.le_of_ble_eq_true rfl) (mayB_nar T x) ?_
  intro p e s m below meth c hx hb hml hown hts hK hP Q hret ls hl
  have hown : s.vm.findClass RX2 = some m.cls := hown
  have hl : lv_has ls 2 [(0, .ref (a 0)), (1, .int x)] := hl
  have wk1 := hts (Cond.fieldLink RX2 43 "TurnBids$Table" "underWay" "Z") (List.mem_of_getElem? (i := 1) rfl)
  have wk2 := hts (Cond.fieldLink RX2 47 "TurnBids$Table" "turn" "I") (List.mem_of_getElem? (i := 2) rfl)
  have wk3 := hts (Cond.fieldLink RX2 18 "TurnBids$Table" "coins" "[I") (List.mem_of_getElem? (i := 3) rfl)
  have wk4 := hts (Cond.static yX3_isPlayer) (List.mem_of_getElem? (i := 4) rfl)
  have wk5 := hts (Cond.initialized RX3) (List.mem_of_getElem? (i := 5) rfl)
  have wk7 := hts (Cond.methodLink RX2 74 yX2_leastBid) (List.mem_of_getElem? (i := 7) rfl)
  have hinX2 : ∀ w ∈ wsX20, w ∈ wsX2_mayBid := fun _ h => (List.mem_cons_of_mem _ (List.mem_append_right _ h))
  refine lv_aload_n hx hb dX2_mayBid_0 rfl (lv_at hl 0 rfl) ?_
  refine va_get (D := G.1) (ci := 2) (v := .int (T 10 0)) (C := RX2) (T := TX2) (N := 13) hx hb hts hinX2 hown hK.1 hP 0 rfl rfl 10 (by decide) wk1 (fun _ h9 => h9) rfl dX2_mayBid_1 ?_
  refine lv_if_eq (tgt := 42) hx hb dX2_mayBid_4 (by decide) (fun c_4_1 => ?_) (fun c_4_1 => ?_)
  · refine lv_iconst (v := 0) hx hb dX2_mayBid_42 (by decide) ?_
    exact hret _ _ _ (by simp only [mayB, if_pos c_4_1]) dX2_mayBid_43
  · refine lv_aload_n hx hb dX2_mayBid_7 rfl (lv_at hl 0 rfl) ?_
    refine va_get (D := G.1) (ci := 2) (v := .int (T 10 1)) (C := RX2) (T := TX2) (N := 13) hx hb hts hinX2 hown hK.1 hP 0 rfl rfl 11 (by decide) wk2 (fun _ h9 => h9) rfl dX2_mayBid_8 ?_
    refine cPN (As := [.int (T 10 1)]) (rest := []) ⟨hx, hb, hml, hown, hts⟩ (c_X3_isPlayer l G (T 10 1)) ⟨va_cnB (host := RX3) 1 hts gX2_mayBid_X3_isPlayer_n64 rfl rfl rfl hK.2.1.1 wk5 (by decide +kernel) ⟨Nat.le_of_ble_eq_true rfl, Nat.le_of_ble_eq_true rfl⟩, wk4, trivial⟩ hK (fun k q h => by simp at h) rfl rfl hl.1 (Nat.le_of_ble_eq_true rfl) dX2_mayBid_11 ⟨Nat.le_of_ble_eq_true rfl, Nat.le_of_ble_eq_true rfl⟩ ?_
    refine lv_if_eq (tgt := 42) hx hb dX2_mayBid_14 (by decide) (fun c_14_2 => ?_) (fun c_14_2 => ?_)
    · refine lv_iconst (v := 0) hx hb dX2_mayBid_42 (by decide) ?_
      exact hret _ _ _ (by simp only [mayB, if_neg c_4_1, if_pos c_14_2]) dX2_mayBid_43
    · have hin_3 := isPb_in c_14_2
      refine lv_iload_n hx hb dX2_mayBid_17 rfl (lv_at hl 1 rfl) ?_
      refine lv_aload_n hx hb dX2_mayBid_18 rfl (lv_at hl 0 rfl) ?_
      refine cPV (As := []) (rest := [.int x]) ⟨hx, hb, hml, hown, hts⟩ (c_X2_leastBid l G a T) (cwV 0 hts gX2_mayBid_X2_leastBid rfl rfl rfl (by decide +kernel) ⟨Nat.le_of_ble_eq_true rfl, Nat.le_of_ble_eq_true rfl⟩) hK hP 0 (ci := 2) rfl rfl rfl rfl rfl hl.1 (Nat.le_of_ble_eq_true rfl) dX2_mayBid_19 ⟨Nat.le_of_ble_eq_true rfl, Nat.le_of_ble_eq_true rfl⟩ ?_
      refine lv_icmp_lt (tgt := 42) hx hb dX2_mayBid_22 (by decide) (fun c_22_4 => ?_) (fun c_22_4 => ?_)
      · refine lv_iconst (v := 0) hx hb dX2_mayBid_42 (by decide) ?_
        exact hret _ _ _ (by simp only [mayB, if_neg c_4_1, if_neg c_14_2, if_pos c_22_4]) dX2_mayBid_43
      · refine lv_iload_n hx hb dX2_mayBid_25 rfl (lv_at hl 1 rfl) ?_
        refine lv_aload_n hx hb dX2_mayBid_26 rfl (lv_at hl 0 rfl) ?_
        refine va_get (D := G.1) (ci := 2) (v := .ref (a 3)) (C := RX2) (T := TX2) (N := 13) hx hb hts hinX2 hown hK.1 hP 0 rfl rfl 2 (by decide) wk3 (fun _ h9 => h9) rfl dX2_mayBid_27 ?_
        refine lv_aload_n hx hb dX2_mayBid_30 rfl (lv_at hl 0 rfl) ?_
        refine va_get (D := G.1) (ci := 2) (v := .int (T 10 1)) (C := RX2) (T := TX2) (N := 13) hx hb hts hinX2 hown hK.1 hP 0 rfl rfl 11 (by decide) wk2 (fun _ h9 => h9) rfl dX2_mayBid_31 ?_
        refine qild hx hb hK.1 hP 3 0 rfl rfl (k := ix (T 10 1)) rfl (by assumption) dX2_mayBid_34 ?_
        refine lv_icmp_gt (tgt := 42) hx hb dX2_mayBid_35 (by decide) (fun c_35_5 => ?_) (fun c_35_5 => ?_)
        · refine lv_iconst (v := 0) hx hb dX2_mayBid_42 (by decide) ?_
          exact hret _ _ _ (by simp only [mayB, if_neg c_4_1, if_neg c_14_2, if_neg c_22_4, if_pos c_35_5]) dX2_mayBid_43
        · refine lv_iconst (v := 1) hx hb dX2_mayBid_38 (by decide) ?_
          refine lv_goto (tgt := 43) hx hb dX2_mayBid_39 (by decide) ?_
          exact hret _ _ _ (by simp only [mayB, if_neg c_4_1, if_neg c_14_2, if_neg c_22_4, if_neg c_35_5]) dX2_mayBid_43
set_option maxHeartbeats 4000000 in
set_option maxRecDepth 100000 in
theorem c_X2_start (l : Launch) (G : qG) (a : Nat → Nat) (T : Tb)  (sz : Nat) : MI l yX2_start wsX2_start 1 22 G sz [.ref (a 0)] (tw G a T) (staT T 10 1) (tw G a (staT T)) := by
  refine MI.of' (by decide) rfl (Nat.le_of_ble_eq_true rfl) ?_
  intro p e s m below meth c hx hb hml hown hts hK hsz hP A hAe hA hD hS Q hret ls hl
  have hown : s.vm.findClass RX2 = some m.cls := hown
  have hl : lv_has ls 1 [(0, .ref (a 0))] := hl
  have wk1 := hts (Cond.fieldLink RX2 43 "TurnBids$Table" "underWay" "Z") (List.mem_of_getElem? (i := 1) rfl)
  have wk2 := hts (Cond.fieldLink RX2 47 "TurnBids$Table" "turn" "I") (List.mem_of_getElem? (i := 2) rfl)
  have wk3 := hts (Cond.methodLink RX2 77 yX2_playerAt) (List.mem_of_getElem? (i := 3) rfl)
  have hinX2 : ∀ w ∈ wsX20, w ∈ wsX2_start := fun _ h => (List.mem_cons_of_mem _ (List.mem_append_right _ h))
  refine lv_aload_n hx hb dX2_start_0 rfl (lv_at hl 0 rfl) ?_
  refine lv_iconst (v := 1) hx hb dX2_start_1 (by decide) ?_
  refine va_put (D := G.1) (ci := 2) (v := .int 1) (ty := .boolean) (C := RX2) (T := TX2) (N := 13) hx hb hts hinX2 tyX2 tyX2_ok nmX2 hown hK.1 hP hD hS 0 rfl rfl 10 (by decide) wk1 (fun _ h9 => h9) rfl (by decide +kernel) rfl rfl (Nat.le_of_ble_eq_true rfl) dX2_start_2 (fun H locs hP hD hS => ?_)
  have hP : va_P G.1 vwCl (tw G a (tup T 10 0 1)) H := hP
  have hD : va_D A (tw G a (tup T 10 0 1)) := hD
  refine lv_aload_n hx hb dX2_start_5 rfl (lv_at hl 0 rfl) ?_
  refine lv_aload_n hx hb dX2_start_6 rfl (lv_at hl 0 rfl) ?_
  refine lv_iconst (v := 0) hx hb dX2_start_7 (by decide) ?_
  refine cPV (As := [.int 0]) (rest := [.ref (a 0)]) ⟨hx, hb, hml, hown, hts⟩ (c_X2_playerAt l G a (tup T 10 0 1) 0) (cwV 1 hts gX2_start_X2_playerAt rfl rfl rfl (by decide +kernel) ⟨Nat.le_of_ble_eq_true rfl, Nat.le_of_ble_eq_true rfl⟩) hK hP 0 (ci := 2) rfl rfl rfl rfl rfl hl.1 (Nat.le_of_ble_eq_true rfl) dX2_start_8 ⟨Nat.le_of_ble_eq_true rfl, Nat.le_of_ble_eq_true rfl⟩ ?_
  refine va_put (D := G.1) (ci := 2) (v := .int (pAt ((tup T 10 0 1) 4) 0)) (ty := .int) (C := RX2) (T := TX2) (N := 13) hx hb hts hinX2 tyX2 tyX2_ok nmX2 hown hK.1 hP hD hS 0 rfl rfl 11 (by decide) wk2 (fun _ h9 => h9) rfl (by decide +kernel) rfl rfl (Nat.le_of_ble_eq_true rfl) dX2_start_11 (fun H locs hP hD hS => ?_)
  have hP : va_P G.1 vwCl (tw G a (tup (tup T 10 0 1) 10 1 (pAt ((tup T 10 0 1) 4) 0))) H := hP
  have hD : va_D A (tw G a (tup (tup T 10 0 1) 10 1 (pAt ((tup T 10 0 1) 4) 0))) := hD
  refine lv_aload_n hx hb dX2_start_14 rfl (lv_at hl 0 rfl) ?_
  refine va_get (D := G.1) (ci := 2) (v := .int ((tup (tup T 10 0 1) 10 1 (pAt ((tup T 10 0 1) 4) 0)) 10 1)) (C := RX2) (T := TX2) (N := 13) hx hb hts hinX2 hown hK.1 hP 0 rfl rfl 11 (by decide) wk2 (fun _ h9 => h9) rfl dX2_start_15 ?_
  have hf0 : tup (tup T 10 0 1) 10 1 (pAt ((tup T 10 0 1) 4) 0) = staT T := (by simp only [staT])
  rw [hf0] at hP hD
  exact hret _ _ _ _ _ () (by simp only [staT]) hP hD hS dX2_start_18
set_option maxHeartbeats 4000000 in
set_option maxRecDepth 100000 in
theorem c_X2_passTurn (l : Launch) (G : qG) (a : Nat → Nat) (T : Tb)  (sz : Nat) : MV l yX2_passTurn wsX2_passTurn 1 22 G sz [.ref (a 0)] (tw G a T) (tw G a (pasT T)) := by
  refine MV.of' (by decide) rfl (Nat.le_of_ble_eq_true rfl) ?_
  intro p e s m below meth c hx hb hml hown hts hK hsz hP A hAe hA hD hS hmn Q hret ls hl
  have hown : s.vm.findClass RX2 = some m.cls := hown
  have hl : lv_has ls 4 [(0, .ref (a 0))] := hl
  have wk1 := hts (Cond.fieldLink RX2 47 "TurnBids$Table" "turn" "I") (List.mem_of_getElem? (i := 1) rfl)
  have wk2 := hts (Cond.fieldLink RX2 24 "TurnBids$Table" "places" "[I") (List.mem_of_getElem? (i := 2) rfl)
  have wk3 := hts (Cond.fieldLink RX2 31 "TurnBids$Table" "placesGot" "[I") (List.mem_of_getElem? (i := 3) rfl)
  have wk4 := hts (Cond.constant RX2 27 (-100006)) (List.mem_of_getElem? (i := 4) rfl)
  have wk5 := hts (Cond.static yX3_isPlayer) (List.mem_of_getElem? (i := 5) rfl)
  have wk6 := hts (Cond.initialized RX3) (List.mem_of_getElem? (i := 6) rfl)
  have wk8 := hts (Cond.methodLink RX2 77 yX2_playerAt) (List.mem_of_getElem? (i := 8) rfl)
  have hinX2 : ∀ w ∈ wsX20, w ∈ wsX2_passTurn := fun _ h => (List.mem_cons_of_mem _ (List.mem_append_right _ h))
  refine lv_aload_n hx hb dX2_passTurn_0 rfl (lv_at hl 0 rfl) ?_
  refine va_get (D := G.1) (ci := 2) (v := .int (T 10 1)) (C := RX2) (T := TX2) (N := 13) hx hb hts hinX2 hown hK.1 hP 0 rfl rfl 11 (by decide) wk1 (fun _ h9 => h9) rfl dX2_passTurn_1 ?_
  refine cPN (As := [.int (T 10 1)]) (rest := []) ⟨hx, hb, hml, hown, hts⟩ (c_X3_isPlayer l G (T 10 1)) ⟨va_cnB (host := RX3) 1 hts gX2_passTurn_X3_isPlayer_n64 rfl rfl rfl hK.2.1.1 wk6 (by decide +kernel) ⟨Nat.le_of_ble_eq_true rfl, Nat.le_of_ble_eq_true rfl⟩, wk5, trivial⟩ hK (fun k q h => by simp at h) rfl rfl hl.1 (Nat.le_of_ble_eq_true rfl) dX2_passTurn_4 ⟨Nat.le_of_ble_eq_true rfl, Nat.le_of_ble_eq_true rfl⟩ ?_
  refine lv_if_ne (tgt := 11) hx hb dX2_passTurn_7 (by decide) (fun c_7_1 => ?_) (fun c_7_1 => ?_)
  · have hin_2 := isPb_in c_7_1
    refine lv_aload_n hx hb dX2_passTurn_11 rfl (lv_at hl 0 rfl) ?_
    refine va_get (D := G.1) (ci := 2) (v := .ref (a 5)) (C := RX2) (T := TX2) (N := 13) hx hb hts hinX2 hown hK.1 hP 0 rfl rfl 4 (by decide) wk2 (fun _ h9 => h9) rfl dX2_passTurn_12 ?_
    refine lv_aload_n hx hb dX2_passTurn_15 rfl (lv_at hl 0 rfl) ?_
    refine va_get (D := G.1) (ci := 2) (v := .int (T 10 1)) (C := RX2) (T := TX2) (N := 13) hx hb hts hinX2 hown hK.1 hP 0 rfl rfl 11 (by decide) wk1 (fun _ h9 => h9) rfl dX2_passTurn_16 ?_
    refine qild hx hb hK.1 hP 5 0 rfl rfl (k := ix (T 10 1)) rfl (by assumption) dX2_passTurn_19 ?_
    refine lv_istore_n (lv' := [(1, .int (T 4 (ix (T 10 1)))), (0, .ref (a 0))]) hx hb dX2_passTurn_20 rfl hl (by decide) rfl (fun ls hl => ?_)
    refine lv_iconst (v := 1) hx hb dX2_passTurn_21 (by decide) ?_
    refine lv_istore_n (lv' := [(2, .int 1), (1, .int (T 4 (ix (T 10 1)))), (0, .ref (a 0))]) hx hb dX2_passTurn_22 rfl hl (by decide) rfl (fun ls hl => ?_)
    have L23 : ∀ (f i : Nat), i + f = 5 → paL T (T 4 (ix (T 10 1))) f i = pasT T → ∀ ls : Array Slot, lv_has ls 4 [(2, .int (nI i)), (1, .int (T 4 (ix (T 10 1)))), (0, .ref (a 0))] → W p l e { frames := 1, cells := 0, slots := 0, locals := 22 } s m ([.ref (a 0)] : List Value).toArray below meth c s.heap [] 0 0 Q (F0 m 23 ls []) := by
      intro f
      induction f with
      | zero =>
        intro i  hi hv23 ls hl
        obtain rfl : i = 5 := by omega
        refine lv_iload_n hx hb dX2_passTurn_23 rfl (lv_at hl 0 rfl) ?_
        refine lv_iconst (v := 5) hx hb dX2_passTurn_24 (by decide) ?_
        refine lv_icmp_ge (tgt := 68) hx hb dX2_passTurn_25 (by decide) (fun _ => ?_) (fun c_9 => absurd (by decide +kernel) c_9)
        have hf0 : T = pasT T := (by rw [← hv23]; simp only [pasT, paL, if_neg c_7_1])
        rw [hf0] at hP hD
        exact hret _ _ _ _ () trivial hP hD hS dX2_passTurn_68
      | succ f ih =>
        intro i  hi hv23 ls hl
        have hlt : i < 5 := by omega
        refine lv_iload_n hx hb dX2_passTurn_23 rfl (lv_at hl 0 rfl) ?_
        refine lv_iconst (v := 5) hx hb dX2_passTurn_24 (by decide) ?_
        refine lv_icmp_ge (tgt := 68) hx hb dX2_passTurn_25 (by decide) (fun c_9 => absurd c_9 (nI_ge (b := 5) hlt (by decide))) (fun _ => ?_)
        refine lv_aload_n hx hb dX2_passTurn_28 rfl (lv_at hl 2 rfl) ?_
        refine lv_iload_n hx hb dX2_passTurn_29 rfl (lv_at hl 1 rfl) ?_
        refine lv_iload_n hx hb dX2_passTurn_30 rfl (lv_at hl 0 rfl) ?_
        refine lv_iadd hx hb dX2_passTurn_31 ?_
        refine lv_iconst (v := 5) hx hb dX2_passTurn_32 (by decide) ?_
        refine lv_irem hx hb dX2_passTurn_33 (by decide) ?_
        refine lv_topi (fun x_3 hx_3 => ?_)
        refine cPV (As := [.int x_3]) (rest := []) ⟨hx, hb, hml, hown, hts⟩ (c_X2_playerAt l G a T x_3) (cwV 1 hts gX2_passTurn_X2_playerAt rfl rfl rfl (by decide +kernel) ⟨Nat.le_of_ble_eq_true rfl, Nat.le_of_ble_eq_true rfl⟩) hK hP 0 (ci := 2) rfl rfl rfl rfl rfl hl.1 (Nat.le_of_ble_eq_true rfl) dX2_passTurn_34 ⟨Nat.le_of_ble_eq_true rfl, Nat.le_of_ble_eq_true rfl⟩ ?_
        refine lv_istore_n (lv' := [(3, .int (pAt (T 4) x_3)), (2, .int (nI i)), (1, .int (T 4 (ix (T 10 1)))), (0, .ref (a 0))]) hx hb dX2_passTurn_37 rfl hl (by decide) rfl (fun ls hl => ?_)
        refine lv_iload_n hx hb dX2_passTurn_38 rfl (lv_at hl 0 rfl) ?_
        refine cPN (As := [.int (pAt (T 4) x_3)]) (rest := []) ⟨hx, hb, hml, hown, hts⟩ (c_X3_isPlayer l G (pAt (T 4) x_3)) ⟨va_cnB (host := RX3) 1 hts gX2_passTurn_X3_isPlayer_n64 rfl rfl rfl hK.2.1.1 wk6 (by decide +kernel) ⟨Nat.le_of_ble_eq_true rfl, Nat.le_of_ble_eq_true rfl⟩, wk5, trivial⟩ hK (fun k q h => by simp at h) rfl rfl hl.1 (Nat.le_of_ble_eq_true rfl) dX2_passTurn_39 ⟨Nat.le_of_ble_eq_true rfl, Nat.le_of_ble_eq_true rfl⟩ ?_
        refine lv_if_eq (tgt := 62) hx hb dX2_passTurn_42 (by decide) (fun c_42_4 => ?_) (fun c_42_4 => ?_)
        · refine lv_iinc (v := nI (i + 1)) (lv' := [(2, .int (nI (i + 1))), (3, .int (pAt (T 4) x_3)), (1, .int (T 4 (ix (T 10 1)))), (0, .ref (a 0))]) hx hb dX2_passTurn_62 hl (k := 1) rfl (nI_1 _) (by decide) rfl (fun ls hl => ?_)
          refine lv_goto (tgt := 23) hx hb dX2_passTurn_65 (by decide) ?_
          exact ih (i + 1)  (by omega) (by subst hx_3; rw [← hv23]; simp only [pasT, paL, if_neg c_7_1, if_pos c_42_4]) ls (lv_sub hl [0, 2, 3] rfl)
        · have hin_5 := isPb_in c_42_4
          refine lv_aload_n hx hb dX2_passTurn_45 rfl (lv_at hl 3 rfl) ?_
          refine va_get (D := G.1) (ci := 2) (v := .ref (a 7)) (C := RX2) (T := TX2) (N := 13) hx hb hts hinX2 hown hK.1 hP 0 rfl rfl 6 (by decide) wk3 (fun _ h9 => h9) rfl dX2_passTurn_46 ?_
          refine lv_iload_n hx hb dX2_passTurn_49 rfl (lv_at hl 0 rfl) ?_
          refine qild hx hb hK.1 hP 7 0 rfl rfl (k := ix (pAt (T 4) x_3)) rfl (by assumption) dX2_passTurn_50 ?_
          refine lv_ldc (v := (-100006)) hx hb hown wk4 dX2_passTurn_51 ?_
          refine lv_icmp_ne (tgt := 62) hx hb dX2_passTurn_53 (by decide) (fun c_53_6 => ?_) (fun c_53_6 => ?_)
          · refine lv_iinc (v := nI (i + 1)) (lv' := [(2, .int (nI (i + 1))), (3, .int (pAt (T 4) x_3)), (1, .int (T 4 (ix (T 10 1)))), (0, .ref (a 0))]) hx hb dX2_passTurn_62 hl (k := 1) rfl (nI_1 _) (by decide) rfl (fun ls hl => ?_)
            refine lv_goto (tgt := 23) hx hb dX2_passTurn_65 (by decide) ?_
            exact ih (i + 1)  (by omega) (by subst hx_3; rw [← hv23]; simp only [pasT, paL, if_neg c_7_1, if_neg c_42_4, if_neg c_53_6]) ls (lv_sub hl [0, 2, 3] rfl)
          · refine lv_aload_n hx hb dX2_passTurn_56 rfl (lv_at hl 3 rfl) ?_
            refine lv_iload_n hx hb dX2_passTurn_57 rfl (lv_at hl 0 rfl) ?_
            refine va_put (D := G.1) (ci := 2) (v := .int (pAt (T 4) x_3)) (ty := .int) (C := RX2) (T := TX2) (N := 13) hx hb hts hinX2 tyX2 tyX2_ok nmX2 hown hK.1 hP hD hS 0 rfl rfl 11 (by decide) wk1 (fun _ h9 => h9) rfl (by decide +kernel) rfl rfl (Nat.le_of_ble_eq_true rfl) dX2_passTurn_58 (fun H locs hP hD hS => ?_)
            have hP : va_P G.1 vwCl (tw G a (tup T 10 1 (pAt (T 4) x_3))) H := hP
            have hD : va_D A (tw G a (tup T 10 1 (pAt (T 4) x_3))) := hD
            have hf0 : tup T 10 1 (pAt (T 4) x_3) = pasT T := (by subst hx_3; rw [← hv23]; simp only [pasT, paL, if_neg c_7_1, if_neg c_42_4, if_pos c_53_6])
            rw [hf0] at hP hD
            exact hret _ _ _ _ () trivial hP hD hS dX2_passTurn_61
    exact L23 4 1  rfl (by simp only [pasT, if_neg c_7_1]) ls (lv_sub hl [0, 1, 2] rfl)
  · have hf0 : T = pasT T := (by simp only [pasT, if_pos c_7_1])
    rw [hf0] at hP hD
    exact hret _ _ _ _ () trivial hP hD hS dX2_passTurn_10
set_option maxHeartbeats 4000000 in
set_option maxRecDepth 100000 in
theorem c_X2_takeBid (l : Launch) (G : qG) (a : Nat → Nat) (T : Tb) (x : Int32) (sz : Nat) : MI l yX2_takeBid wsX2_takeBid 2 45 G sz [.ref (a 0), .int x] (tw G a T) (takT T x 10 1) (tw G a (takT T x)) := by
  refine MI.of' (by decide) rfl (Nat.le_of_ble_eq_true rfl) ?_
  intro p e s m below meth c hx hb hml hown hts hK hsz hP A hAe hA hD hS Q hret ls hl
  have hown : s.vm.findClass RX2 = some m.cls := hown
  have hl : lv_has ls 2 [(0, .ref (a 0)), (1, .int x)] := hl
  have wk1 := hts (Cond.fieldLink RX2 47 "TurnBids$Table" "turn" "I") (List.mem_of_getElem? (i := 1) rfl)
  have wk2 := hts (Cond.fieldLink RX2 28 "TurnBids$Table" "bids" "[I") (List.mem_of_getElem? (i := 2) rfl)
  have wk3 := hts (Cond.static yX3_isPlayer) (List.mem_of_getElem? (i := 3) rfl)
  have wk4 := hts (Cond.initialized RX3) (List.mem_of_getElem? (i := 4) rfl)
  have wk6 := hts (Cond.methodLink RX2 81 yX2_passTurn) (List.mem_of_getElem? (i := 6) rfl)
  have hinX2 : ∀ w ∈ wsX20, w ∈ wsX2_takeBid := fun _ h => (List.mem_cons_of_mem _ (List.mem_append_right _ h))
  refine lv_aload_n hx hb dX2_takeBid_0 rfl (lv_at hl 0 rfl) ?_
  refine va_get (D := G.1) (ci := 2) (v := .int (T 10 1)) (C := RX2) (T := TX2) (N := 13) hx hb hts hinX2 hown hK.1 hP 0 rfl rfl 11 (by decide) wk1 (fun _ h9 => h9) rfl dX2_takeBid_1 ?_
  refine cPN (As := [.int (T 10 1)]) (rest := []) ⟨hx, hb, hml, hown, hts⟩ (c_X3_isPlayer l G (T 10 1)) ⟨va_cnB (host := RX3) 1 hts gX2_takeBid_X3_isPlayer_n64 rfl rfl rfl hK.2.1.1 wk4 (by decide +kernel) ⟨Nat.le_of_ble_eq_true rfl, Nat.le_of_ble_eq_true rfl⟩, wk3, trivial⟩ hK (fun k q h => by simp at h) rfl rfl hl.1 (Nat.le_of_ble_eq_true rfl) dX2_takeBid_4 ⟨Nat.le_of_ble_eq_true rfl, Nat.le_of_ble_eq_true rfl⟩ ?_
  refine lv_if_eq (tgt := 20) hx hb dX2_takeBid_7 (by decide) (fun c_7_1 => ?_) (fun c_7_1 => ?_)
  · refine lv_aload_n hx hb dX2_takeBid_20 rfl (lv_at hl 0 rfl) ?_
    refine cAV (As := []) (rest := []) ⟨hx, hb, hml, hown, hts⟩ (c_X2_passTurn l G a T _) (cwV 0 hts gX2_takeBid_X2_passTurn rfl rfl rfl (by decide +kernel) ⟨Nat.le_of_ble_eq_true rfl, Nat.le_of_ble_eq_true rfl⟩) hK hP hD hS hA 0 (ci := 2) rfl rfl rfl rfl rfl hl.1 (Nat.le_of_ble_eq_true rfl) dX2_takeBid_21 ⟨Nat.le_of_ble_eq_true rfl, Nat.le_of_ble_eq_true rfl⟩ (fun u_2 H locs hr_2 hP hD hS => ?_)
    have hP : va_P G.1 vwCl (tw G a (pasT T)) H := hP
    have hD : va_D A (tw G a (pasT T)) := hD
    refine lv_aload_n hx hb dX2_takeBid_24 rfl (lv_at hl 0 rfl) ?_
    refine va_get (D := G.1) (ci := 2) (v := .int ((pasT T) 10 1)) (C := RX2) (T := TX2) (N := 13) hx hb hts hinX2 hown hK.1 hP 0 rfl rfl 11 (by decide) wk1 (fun _ h9 => h9) rfl dX2_takeBid_25 ?_
    have hf0 : pasT T = takT T x := (by simp only [takT, if_pos c_7_1])
    rw [hf0] at hP hD
    exact hret _ _ _ _ _ () (by simp only [takT, if_pos c_7_1]) hP hD hS dX2_takeBid_28
  · have hin_3 := isPb_in c_7_1
    refine lv_aload_n hx hb dX2_takeBid_10 rfl (lv_at hl 0 rfl) ?_
    refine va_get (D := G.1) (ci := 2) (v := .ref (a 6)) (C := RX2) (T := TX2) (N := 13) hx hb hts hinX2 hown hK.1 hP 0 rfl rfl 5 (by decide) wk2 (fun _ h9 => h9) rfl dX2_takeBid_11 ?_
    refine lv_aload_n hx hb dX2_takeBid_14 rfl (lv_at hl 0 rfl) ?_
    refine va_get (D := G.1) (ci := 2) (v := .int (T 10 1)) (C := RX2) (T := TX2) (N := 13) hx hb hts hinX2 hown hK.1 hP 0 rfl rfl 11 (by decide) wk1 (fun _ h9 => h9) rfl dX2_takeBid_15 ?_
    refine lv_iload_n hx hb dX2_takeBid_18 rfl (lv_at hl 1 rfl) ?_
    refine qist hx hb hK.1 hP hD hS 6 0 rfl rfl (k := ix (T 10 1)) rfl (by assumption) dX2_takeBid_19 (fun H locs hP hD hS => ?_)
    have hP : va_P G.1 vwCl (tw G a (tup T 5 (ix (T 10 1)) x)) H := hP
    have hD : va_D A (tw G a (tup T 5 (ix (T 10 1)) x)) := hD
    refine lv_aload_n hx hb dX2_takeBid_20 rfl (lv_at hl 0 rfl) ?_
    refine cAV (As := []) (rest := []) ⟨hx, hb, hml, hown, hts⟩ (c_X2_passTurn l G a (tup T 5 (ix (T 10 1)) x) _) (cwV 0 hts gX2_takeBid_X2_passTurn rfl rfl rfl (by decide +kernel) ⟨Nat.le_of_ble_eq_true rfl, Nat.le_of_ble_eq_true rfl⟩) hK hP hD hS hA 0 (ci := 2) rfl rfl rfl rfl rfl hl.1 (Nat.le_of_ble_eq_true rfl) dX2_takeBid_21 ⟨Nat.le_of_ble_eq_true rfl, Nat.le_of_ble_eq_true rfl⟩ (fun u_4 H locs hr_4 hP hD hS => ?_)
    have hP : va_P G.1 vwCl (tw G a (pasT (tup T 5 (ix (T 10 1)) x))) H := hP
    have hD : va_D A (tw G a (pasT (tup T 5 (ix (T 10 1)) x))) := hD
    refine lv_aload_n hx hb dX2_takeBid_24 rfl (lv_at hl 0 rfl) ?_
    refine va_get (D := G.1) (ci := 2) (v := .int ((pasT (tup T 5 (ix (T 10 1)) x)) 10 1)) (C := RX2) (T := TX2) (N := 13) hx hb hts hinX2 hown hK.1 hP 0 rfl rfl 11 (by decide) wk1 (fun _ h9 => h9) rfl dX2_takeBid_25 ?_
    have hf0 : pasT (tup T 5 (ix (T 10 1)) x) = takT T x := (by simp only [takT, if_neg c_7_1])
    rw [hf0] at hP hD
    exact hret _ _ _ _ _ () (by simp only [takT, if_neg c_7_1]) hP hD hS dX2_takeBid_28
set_option maxHeartbeats 4000000 in
set_option maxRecDepth 100000 in
theorem c_X2_pay (l : Launch) (G : qG) (a : Nat → Nat) (T : Tb) (x h k : Int32) (sz : Nat) : MV l yX2_pay wsX2_pay 1 20 G sz [.ref (a 0), .int x, .int h, .int k] (tw G a T) (tw G a (payT T x h k)) := by
  refine MV.of' (by decide) rfl (Nat.le_of_ble_eq_true rfl) ?_
  intro p e s m below meth c hx hb hml hown hts hK hsz hP A hAe hA hD hS hmn Q hret ls hl
  have hown : s.vm.findClass RX2 = some m.cls := hown
  have hl : lv_has ls 5 [(0, .ref (a 0)), (1, .int x), (2, .int h), (3, .int k)] := hl
  have wk1 := hts (Cond.fieldLink RX2 28 "TurnBids$Table" "bids" "[I") (List.mem_of_getElem? (i := 1) rfl)
  have wk2 := hts (Cond.constant RX2 27 (-100006)) (List.mem_of_getElem? (i := 2) rfl)
  have wk3 := hts (Cond.fieldLink RX2 18 "TurnBids$Table" "coins" "[I") (List.mem_of_getElem? (i := 3) rfl)
  have wk4 := hts (Cond.fieldLink RX2 34 "TurnBids$Table" "paid" "[I") (List.mem_of_getElem? (i := 4) rfl)
  have wk5 := hts (Cond.static yX3_isPlayer) (List.mem_of_getElem? (i := 5) rfl)
  have wk6 := hts (Cond.initialized RX3) (List.mem_of_getElem? (i := 6) rfl)
  have hinX2 : ∀ w ∈ wsX20, w ∈ wsX2_pay := fun _ h => (List.mem_cons_of_mem _ (List.mem_append_right _ h))
  refine lv_iload_n hx hb dX2_pay_0 rfl (lv_at hl 1 rfl) ?_
  refine cPN (As := [.int x]) (rest := []) ⟨hx, hb, hml, hown, hts⟩ (c_X3_isPlayer l G x) ⟨va_cnB (host := RX3) 1 hts gX2_pay_X3_isPlayer_n64 rfl rfl rfl hK.2.1.1 wk6 (by decide +kernel) ⟨Nat.le_of_ble_eq_true rfl, Nat.le_of_ble_eq_true rfl⟩, wk5, trivial⟩ hK (fun k q h => by simp at h) rfl rfl hl.1 (Nat.le_of_ble_eq_true rfl) dX2_pay_1 ⟨Nat.le_of_ble_eq_true rfl, Nat.le_of_ble_eq_true rfl⟩ ?_
  refine lv_if_eq (tgt := 18) hx hb dX2_pay_4 (by decide) (fun c_4_1 => ?_) (fun c_4_1 => ?_)
  · have hf0 : T = payT T x h k := (by simp only [payT, if_pos c_4_1])
    rw [hf0] at hP hD
    exact hret _ _ _ _ () trivial hP hD hS dX2_pay_18
  · have hin_2 := isPb_in c_4_1
    refine lv_aload_n hx hb dX2_pay_7 rfl (lv_at hl 0 rfl) ?_
    refine va_get (D := G.1) (ci := 2) (v := .ref (a 6)) (C := RX2) (T := TX2) (N := 13) hx hb hts hinX2 hown hK.1 hP 0 rfl rfl 5 (by decide) wk1 (fun _ h9 => h9) rfl dX2_pay_8 ?_
    refine lv_iload_n hx hb dX2_pay_11 rfl (lv_at hl 1 rfl) ?_
    refine qild hx hb hK.1 hP 6 0 rfl rfl (k := ix x) rfl (by assumption) dX2_pay_12 ?_
    refine lv_ldc (v := (-100006)) hx hb hown wk2 dX2_pay_13 ?_
    refine lv_icmp_ne (tgt := 19) hx hb dX2_pay_15 (by decide) (fun c_15_3 => ?_) (fun c_15_3 => ?_)
    · refine lv_aload_n hx hb dX2_pay_19 rfl (lv_at hl 0 rfl) ?_
      refine va_get (D := G.1) (ci := 2) (v := .ref (a 6)) (C := RX2) (T := TX2) (N := 13) hx hb hts hinX2 hown hK.1 hP 0 rfl rfl 5 (by decide) wk1 (fun _ h9 => h9) rfl dX2_pay_20 ?_
      refine lv_iload_n hx hb dX2_pay_23 rfl (lv_at hl 1 rfl) ?_
      refine qild hx hb hK.1 hP 6 0 rfl rfl (k := ix x) rfl (by assumption) dX2_pay_24 ?_
      refine lv_iload_n hx hb dX2_pay_25 rfl (lv_at hl 2 rfl) ?_
      refine lv_imul hx hb dX2_pay_26 ?_
      refine lv_iload_n hx hb dX2_pay_27 rfl (lv_at hl 3 rfl) ?_
      refine lv_iadd hx hb dX2_pay_28 ?_
      refine lv_bipush (v := 100) hx hb dX2_pay_29 (by decide) ?_
      refine lv_idiv hx hb dX2_pay_31 (by decide) ?_
      refine lv_istore (lv' := [(4, .int ((((T 5 (ix x)) * h) + k) / 100)), (0, .ref (a 0)), (1, .int x), (2, .int h), (3, .int k)]) hx hb dX2_pay_32 hl (by decide) rfl (fun ls hl => ?_)
      refine lv_aload_n hx hb dX2_pay_34 rfl (lv_at hl 1 rfl) ?_
      refine va_get (D := G.1) (ci := 2) (v := .ref (a 3)) (C := RX2) (T := TX2) (N := 13) hx hb hts hinX2 hown hK.1 hP 0 rfl rfl 2 (by decide) wk3 (fun _ h9 => h9) rfl dX2_pay_35 ?_
      refine lv_iload_n hx hb dX2_pay_38 rfl (lv_at hl 2 rfl) ?_
      refine lv_dup2_11 hx hb dX2_pay_39 rfl rfl ?_
      refine qild hx hb hK.1 hP 3 0 rfl rfl (k := ix x) rfl (by assumption) dX2_pay_40 ?_
      refine lv_iload hx hb dX2_pay_41 (lv_at hl 0 rfl) ?_
      refine lv_isub hx hb dX2_pay_43 ?_
      refine qist hx hb hK.1 hP hD hS 3 0 rfl rfl (k := ix x) rfl (by assumption) dX2_pay_44 (fun H locs hP hD hS => ?_)
      have hP : va_P G.1 vwCl (tw G a (tup T 2 (ix x) ((T 2 (ix x)) - ((((T 5 (ix x)) * h) + k) / 100)))) H := hP
      have hD : va_D A (tw G a (tup T 2 (ix x) ((T 2 (ix x)) - ((((T 5 (ix x)) * h) + k) / 100)))) := hD
      refine lv_aload_n hx hb dX2_pay_45 rfl (lv_at hl 1 rfl) ?_
      refine va_get (D := G.1) (ci := 2) (v := .ref (a 8)) (C := RX2) (T := TX2) (N := 13) hx hb hts hinX2 hown hK.1 hP 0 rfl rfl 7 (by decide) wk4 (fun _ h9 => h9) rfl dX2_pay_46 ?_
      refine lv_iload_n hx hb dX2_pay_49 rfl (lv_at hl 2 rfl) ?_
      refine lv_dup2_11 hx hb dX2_pay_50 rfl rfl ?_
      refine qild hx hb hK.1 hP 8 0 rfl rfl (k := ix x) rfl (by assumption) dX2_pay_51 ?_
      refine lv_iload hx hb dX2_pay_52 (lv_at hl 0 rfl) ?_
      refine lv_iadd hx hb dX2_pay_54 ?_
      refine qist hx hb hK.1 hP hD hS 8 0 rfl rfl (k := ix x) rfl (by assumption) dX2_pay_55 (fun H locs hP hD hS => ?_)
      have hP : va_P G.1 vwCl (tw G a (tup (tup T 2 (ix x) ((T 2 (ix x)) - ((((T 5 (ix x)) * h) + k) / 100))) 7 (ix x) ((((tup T 2 (ix x) ((T 2 (ix x)) - ((((T 5 (ix x)) * h) + k) / 100))) 7) (ix x)) + ((((T 5 (ix x)) * h) + k) / 100)))) H := hP
      have hD : va_D A (tw G a (tup (tup T 2 (ix x) ((T 2 (ix x)) - ((((T 5 (ix x)) * h) + k) / 100))) 7 (ix x) ((((tup T 2 (ix x) ((T 2 (ix x)) - ((((T 5 (ix x)) * h) + k) / 100))) 7) (ix x)) + ((((T 5 (ix x)) * h) + k) / 100)))) := hD
      have hf0 : tup (tup T 2 (ix x) ((T 2 (ix x)) - ((((T 5 (ix x)) * h) + k) / 100))) 7 (ix x) ((((tup T 2 (ix x) ((T 2 (ix x)) - ((((T 5 (ix x)) * h) + k) / 100))) 7) (ix x)) + ((((T 5 (ix x)) * h) + k) / 100)) = payT T x h k := (by simp only [payT, if_neg c_4_1, if_neg c_15_3])
      rw [hf0] at hP hD
      exact hret _ _ _ _ () trivial hP hD hS dX2_pay_56
    · have hf0 : T = payT T x h k := (by simp only [payT, if_neg c_4_1, if_pos c_15_3])
      rw [hf0] at hP hD
      exact hret _ _ _ _ () trivial hP hD hS dX2_pay_18
set_option maxHeartbeats 4000000 in
set_option maxRecDepth 100000 in
theorem c_X2_prizeFor (l : Launch) (G : qG) (a : Nat → Nat) (T : Tb) (x : Int32) : MP l yX2_prizeFor wsX2_prizeFor 0 0 G [.ref (a 0), .int x] (tw G a T) (pfB T x) := by
  refine MP.of (ty := .int) (by decide) rfl (Nat.le_of_ble_eq_true rfl) rfl ?_
  intro p e s m below meth c hx hb hml hown hts hK hP Q hret ls hl
  have hown : s.vm.findClass RX2 = some m.cls := hown
  have hl : lv_has ls 5 [(0, .ref (a 0)), (1, .int x)] := hl
  have wk1 := hts (Cond.fieldLink RX2 15 "TurnBids$Table" "prizes" "[I") (List.mem_of_getElem? (i := 1) rfl)
  have hinX2 : ∀ w ∈ wsX20, w ∈ wsX2_prizeFor := fun _ h => (List.mem_cons_of_mem _ (List.mem_append_right _ h))
  refine lv_iconst (v := 0) hx hb dX2_prizeFor_0 (by decide) ?_
  refine lv_istore_n (lv' := [(2, .int 0), (0, .ref (a 0)), (1, .int x)]) hx hb dX2_prizeFor_1 rfl hl (by decide) rfl (fun ls hl => ?_)
  have L2 : ∀ (f i : Nat), i + f = 5 → pfL (T 1) x f i = pfB T x → ∀ ls : Array Slot, lv_has ls 5 [(2, .int (nI i)), (0, .ref (a 0)), (1, .int x)] → W p l e { frames := 0, cells := 0, slots := 0, locals := 0 } s m ([.ref (a 0), .int x] : List Value).toArray below meth c s.heap [] 0 0 Q (F0 m 2 ls []) := by
    intro f
    induction f with
    | zero =>
      intro i  hi hv2 ls hl
      obtain rfl : i = 5 := by omega
      refine lv_iload_n hx hb dX2_prizeFor_2 rfl (lv_at hl 0 rfl) ?_
      refine lv_iconst (v := 5) hx hb dX2_prizeFor_3 (by decide) ?_
      refine lv_icmp_ge (tgt := 83) hx hb dX2_prizeFor_4 (by decide) (fun _ => ?_) (fun c_9 => absurd (by decide +kernel) c_9)
      refine lv_iconst (v := 0) hx hb dX2_prizeFor_83 (by decide) ?_
      exact hret _ _ _ (by rw [← hv2]; simp only [pfB, pfL]) dX2_prizeFor_84
    | succ f ih =>
      intro i  hi hv2 ls hl
      have hlt : i < 5 := by omega
      refine lv_iload_n hx hb dX2_prizeFor_2 rfl (lv_at hl 0 rfl) ?_
      refine lv_iconst (v := 5) hx hb dX2_prizeFor_3 (by decide) ?_
      refine lv_icmp_ge (tgt := 83) hx hb dX2_prizeFor_4 (by decide) (fun c_9 => absurd c_9 (nI_ge (b := 5) hlt (by decide))) (fun _ => ?_)
      refine lv_iconst (v := 0) hx hb dX2_prizeFor_7 (by decide) ?_
      refine lv_istore_n (lv' := [(3, .int 0), (2, .int (nI i)), (0, .ref (a 0)), (1, .int x)]) hx hb dX2_prizeFor_8 rfl hl (by decide) rfl (fun ls hl => ?_)
      refine lv_iconst (v := 0) hx hb dX2_prizeFor_9 (by decide) ?_
      refine lv_istore (lv' := [(4, .int 0), (3, .int 0), (2, .int (nI i)), (0, .ref (a 0)), (1, .int x)]) hx hb dX2_prizeFor_10 hl (by decide) rfl (fun ls hl => ?_)
      have L12 : ∀ (f j : Nat) (v : Int32) (n : Int32), j + f = 5 → ahL (T 1) i f j n = v → (∀ ls : Array Slot, lv_has ls 5 [(4, .int (nI 5)), (3, .int v), (2, .int (nI i)), (0, .ref (a 0)), (1, .int x)] → W p l e { frames := 0, cells := 0, slots := 0, locals := 0 } s m ([.ref (a 0), .int x] : List Value).toArray below meth c s.heap [] 0 0 Q (F0 m 65 ls [])) → ∀ ls : Array Slot, lv_has ls 5 [(4, .int (nI j)), (3, .int n), (2, .int (nI i)), (0, .ref (a 0)), (1, .int x)] → W p l e { frames := 0, cells := 0, slots := 0, locals := 0 } s m ([.ref (a 0), .int x] : List Value).toArray below meth c s.heap [] 0 0 Q (F0 m 12 ls []) := by
        intro f
        induction f with
        | zero =>
          intro j v n hi hv12 kk ls hl
          obtain rfl : j = 5 := by omega
          refine lv_iload hx hb dX2_prizeFor_12 (lv_at hl 0 rfl) ?_
          refine lv_iconst (v := 5) hx hb dX2_prizeFor_14 (by decide) ?_
          refine lv_icmp_ge (tgt := 65) hx hb dX2_prizeFor_15 (by decide) (fun _ => ?_) (fun c_9 => absurd (by decide +kernel) c_9)
          have ho0 : n = v := (by rw [← hv12]; simp only [pfB, ahL])
          rw [ho0] at hl
          exact kk ls (lv_sub hl [0, 1, 2, 3, 4] rfl)
        | succ f ih =>
          intro j v n hi hv12 kk ls hl
          have hlt : j < 5 := by omega
          refine lv_iload hx hb dX2_prizeFor_12 (lv_at hl 0 rfl) ?_
          refine lv_iconst (v := 5) hx hb dX2_prizeFor_14 (by decide) ?_
          refine lv_icmp_ge (tgt := 65) hx hb dX2_prizeFor_15 (by decide) (fun c_9 => absurd c_9 (nI_ge (b := 5) hlt (by decide))) (fun _ => ?_)
          refine lv_aload_n hx hb dX2_prizeFor_18 rfl (lv_at hl 3 rfl) ?_
          refine va_get (D := G.1) (ci := 2) (v := .ref (a 2)) (C := RX2) (T := TX2) (N := 13) hx hb hts hinX2 hown hK.1 hP 0 rfl rfl 1 (by decide) wk1 (fun _ h9 => h9) rfl dX2_prizeFor_19 ?_
          refine lv_iload hx hb dX2_prizeFor_22 (lv_at hl 0 rfl) ?_
          refine qild hx hb hK.1 hP 2 0 rfl rfl (k := j) (nI_clamp (by omega)) (vp_in_nI (by omega) (by decide)) dX2_prizeFor_24 ?_
          refine lv_aload_n hx hb dX2_prizeFor_25 rfl (lv_at hl 3 rfl) ?_
          refine va_get (D := G.1) (ci := 2) (v := .ref (a 2)) (C := RX2) (T := TX2) (N := 13) hx hb hts hinX2 hown hK.1 hP 0 rfl rfl 1 (by decide) wk1 (fun _ h9 => h9) rfl dX2_prizeFor_26 ?_
          refine lv_iload_n hx hb dX2_prizeFor_29 rfl (lv_at hl 2 rfl) ?_
          refine qild hx hb hK.1 hP 2 0 rfl rfl (k := i) (nI_clamp (by omega)) (vp_in_nI (by omega) (by decide)) dX2_prizeFor_30 ?_
          refine lv_icmp_gt (tgt := 56) hx hb dX2_prizeFor_31 (by decide) (fun c_31_1 => ?_) (fun c_31_1 => ?_)
          · refine lv_iinc (v := n + 1) (lv' := [(3, .int (n + 1)), (4, .int (nI j)), (2, .int (nI i)), (0, .ref (a 0)), (1, .int x)]) hx hb dX2_prizeFor_56 hl (k := 1) rfl rfl (by decide) rfl (fun ls hl => ?_)
            refine lv_iinc (v := nI (j + 1)) (lv' := [(4, .int (nI (j + 1))), (3, .int (n + 1)), (2, .int (nI i)), (0, .ref (a 0)), (1, .int x)]) hx hb dX2_prizeFor_59 hl (k := 1) rfl (nI_1 _) (by decide) rfl (fun ls hl => ?_)
            refine lv_goto (tgt := 12) hx hb dX2_prizeFor_62 (by decide) ?_
            exact ih (j + 1) v (n + 1) (by omega) (by rw [← hv12]; simp only [pfB, ahL, if_pos c_31_1]) kk ls (lv_sub hl [0, 1, 2, 3, 4] rfl)
          · refine lv_aload_n hx hb dX2_prizeFor_34 rfl (lv_at hl 3 rfl) ?_
            refine va_get (D := G.1) (ci := 2) (v := .ref (a 2)) (C := RX2) (T := TX2) (N := 13) hx hb hts hinX2 hown hK.1 hP 0 rfl rfl 1 (by decide) wk1 (fun _ h9 => h9) rfl dX2_prizeFor_35 ?_
            refine lv_iload hx hb dX2_prizeFor_38 (lv_at hl 0 rfl) ?_
            refine qild hx hb hK.1 hP 2 0 rfl rfl (k := j) (nI_clamp (by omega)) (vp_in_nI (by omega) (by decide)) dX2_prizeFor_40 ?_
            refine lv_aload_n hx hb dX2_prizeFor_41 rfl (lv_at hl 3 rfl) ?_
            refine va_get (D := G.1) (ci := 2) (v := .ref (a 2)) (C := RX2) (T := TX2) (N := 13) hx hb hts hinX2 hown hK.1 hP 0 rfl rfl 1 (by decide) wk1 (fun _ h9 => h9) rfl dX2_prizeFor_42 ?_
            refine lv_iload_n hx hb dX2_prizeFor_45 rfl (lv_at hl 2 rfl) ?_
            refine qild hx hb hK.1 hP 2 0 rfl rfl (k := i) (nI_clamp (by omega)) (vp_in_nI (by omega) (by decide)) dX2_prizeFor_46 ?_
            refine lv_icmp_ne (tgt := 59) hx hb dX2_prizeFor_47 (by decide) (fun c_47_2 => ?_) (fun c_47_2 => ?_)
            · refine lv_iinc (v := nI (j + 1)) (lv' := [(4, .int (nI (j + 1))), (3, .int n), (2, .int (nI i)), (0, .ref (a 0)), (1, .int x)]) hx hb dX2_prizeFor_59 hl (k := 0) rfl (nI_1 _) (by decide) rfl (fun ls hl => ?_)
              refine lv_goto (tgt := 12) hx hb dX2_prizeFor_62 (by decide) ?_
              exact ih (j + 1) v n (by omega) (by rw [← hv12]; simp only [pfB, ahL, if_neg c_31_1, if_neg c_47_2]) kk ls (lv_sub hl [0, 1, 2, 3, 4] rfl)
            · refine lv_iload hx hb dX2_prizeFor_50 (lv_at hl 0 rfl) ?_
              refine lv_iload_n hx hb dX2_prizeFor_52 rfl (lv_at hl 2 rfl) ?_
              refine lv_icmp_ge (tgt := 59) hx hb dX2_prizeFor_53 (by decide) (fun c_53_3 => ?_) (fun c_53_3 => ?_)
              · refine lv_iinc (v := nI (j + 1)) (lv' := [(4, .int (nI (j + 1))), (3, .int n), (2, .int (nI i)), (0, .ref (a 0)), (1, .int x)]) hx hb dX2_prizeFor_59 hl (k := 0) rfl (nI_1 _) (by decide) rfl (fun ls hl => ?_)
                refine lv_goto (tgt := 12) hx hb dX2_prizeFor_62 (by decide) ?_
                exact ih (j + 1) v n (by omega) (by rw [← hv12]; simp only [pfB, ahL, if_neg c_31_1, if_pos c_47_2, if_pos c_53_3]) kk ls (lv_sub hl [0, 1, 2, 3, 4] rfl)
              · refine lv_iinc (v := n + 1) (lv' := [(3, .int (n + 1)), (4, .int (nI j)), (2, .int (nI i)), (0, .ref (a 0)), (1, .int x)]) hx hb dX2_prizeFor_56 hl (k := 1) rfl rfl (by decide) rfl (fun ls hl => ?_)
                refine lv_iinc (v := nI (j + 1)) (lv' := [(4, .int (nI (j + 1))), (3, .int (n + 1)), (2, .int (nI i)), (0, .ref (a 0)), (1, .int x)]) hx hb dX2_prizeFor_59 hl (k := 1) rfl (nI_1 _) (by decide) rfl (fun ls hl => ?_)
                refine lv_goto (tgt := 12) hx hb dX2_prizeFor_62 (by decide) ?_
                exact ih (j + 1) v (n + 1) (by omega) (by rw [← hv12]; simp only [pfB, ahL, if_neg c_31_1, if_pos c_47_2, if_neg c_53_3]) kk ls (lv_sub hl [0, 1, 2, 3, 4] rfl)
      refine L12 5 0 _ 0 rfl rfl (fun ls hl => ?_) ls (lv_sub hl [0, 1, 2, 3, 4] rfl)
      refine lv_iload_n hx hb dX2_prizeFor_65 rfl (lv_at hl 1 rfl) ?_
      refine lv_iload_n hx hb dX2_prizeFor_66 rfl (lv_at hl 4 rfl) ?_
      refine lv_icmp_ne (tgt := 77) hx hb dX2_prizeFor_67 (by decide) (fun c_67_4 => ?_) (fun c_67_4 => ?_)
      · refine lv_iinc (v := nI (i + 1)) (lv' := [(2, .int (nI (i + 1))), (4, .int (nI 5)), (3, .int (ahL (T 1) i 5 0 0)), (0, .ref (a 0)), (1, .int x)]) hx hb dX2_prizeFor_77 hl (k := 2) rfl (nI_1 _) (by decide) rfl (fun ls hl => ?_)
        refine lv_goto (tgt := 2) hx hb dX2_prizeFor_80 (by decide) ?_
        exact ih (i + 1)  (by omega) (by rw [← hv2]; simp only [pfB, pfL, if_neg c_67_4]) ls (lv_sub hl [0, 3, 4] rfl)
      · refine lv_aload_n hx hb dX2_prizeFor_70 rfl (lv_at hl 3 rfl) ?_
        refine va_get (D := G.1) (ci := 2) (v := .ref (a 2)) (C := RX2) (T := TX2) (N := 13) hx hb hts hinX2 hown hK.1 hP 0 rfl rfl 1 (by decide) wk1 (fun _ h9 => h9) rfl dX2_prizeFor_71 ?_
        refine lv_iload_n hx hb dX2_prizeFor_74 rfl (lv_at hl 2 rfl) ?_
        refine qild hx hb hK.1 hP 2 0 rfl rfl (k := i) (nI_clamp (by omega)) (vp_in_nI (by omega) (by decide)) dX2_prizeFor_75 ?_
        exact hret _ _ _ (by rw [← hv2]; simp only [pfB, pfL, if_pos c_67_4]) dX2_prizeFor_76
  exact L2 5 0  rfl (by simp only [pfB]) ls (lv_sub hl [0, 1, 2] rfl)
set_option maxHeartbeats 4000000 in
set_option maxRecDepth 100000 in
theorem c_X2_endAuction (l : Launch) (G : qG) (a : Nat → Nat) (T : Tb)  (sz : Nat) : MV l yX2_endAuction wsX2_endAuction 2 44 G sz [.ref (a 0)] (tw G a T) (tw G a (endT T)) := by
  refine MV.of' (by decide) rfl (Nat.le_of_ble_eq_true rfl) ?_
  intro p e s m below meth c hx hb hml hown hts hK hsz hP A hAe hA hD hS hmn Q hret ls hl
  have hown : s.vm.findClass RX2 = some m.cls := hown
  have hl : lv_has ls 3 [(0, .ref (a 0))] := hl
  have wk1 := hts (Cond.fieldLink RX2 31 "TurnBids$Table" "placesGot" "[I") (List.mem_of_getElem? (i := 1) rfl)
  have wk2 := hts (Cond.constant RX2 27 (-100006)) (List.mem_of_getElem? (i := 2) rfl)
  have wk3 := hts (Cond.fieldLink RX2 40 "TurnBids$Table" "won" "[I") (List.mem_of_getElem? (i := 3) rfl)
  have wk4 := hts (Cond.fieldLink RX2 9 "TurnBids$Table" "settings" "[I") (List.mem_of_getElem? (i := 4) rfl)
  have wk5 := hts (Cond.fieldLink RX2 24 "TurnBids$Table" "places" "[I") (List.mem_of_getElem? (i := 5) rfl)
  have wk6 := hts (Cond.fieldLink RX2 18 "TurnBids$Table" "coins" "[I") (List.mem_of_getElem? (i := 6) rfl)
  have wk7 := hts (Cond.methodLink RX2 117 Lib.Math.min.name) (List.mem_of_getElem? (i := 7) rfl)
  have wk8 := hts (Cond.static Lib.Math.min.name) (List.mem_of_getElem? (i := 8) rfl)
  have wk9 := hts (Cond.initialized "java/lang/Math") (List.mem_of_getElem? (i := 9) rfl)
  have wk10 := hts (Cond.code Lib.Math.min.name Lib.Math.min.code 2 (some .int)) (List.mem_of_getElem? (i := 10) rfl)
  have wk11 := hts (Cond.fieldLink RX2 37 "TurnBids$Table" "taken" "[I") (List.mem_of_getElem? (i := 11) rfl)
  have wk12 := hts (Cond.fieldLink RX2 28 "TurnBids$Table" "bids" "[I") (List.mem_of_getElem? (i := 12) rfl)
  have wk13 := hts (Cond.fieldLink RX2 43 "TurnBids$Table" "underWay" "Z") (List.mem_of_getElem? (i := 13) rfl)
  have wk14 := hts (Cond.fieldLink RX2 47 "TurnBids$Table" "turn" "I") (List.mem_of_getElem? (i := 14) rfl)
  have wk15 := hts (Cond.fieldLink RX2 51 "TurnBids$Table" "rounds" "I") (List.mem_of_getElem? (i := 15) rfl)
  have wk16 := hts (Cond.methodLink RX2 92 yX2_pay) (List.mem_of_getElem? (i := 16) rfl)
  have wk25 := hts (Cond.methodLink RX2 114 yX2_prizeFor) (List.mem_of_getElem? (i := 25) rfl)
  have hinX2 : ∀ w ∈ wsX20, w ∈ wsX2_endAuction := fun _ h => (List.mem_cons_of_mem _ (List.mem_append_right _ h))
  refine lv_iconst (v := 0) hx hb dX2_endAuction_0 (by decide) ?_
  refine lv_istore_n (lv' := [(1, .int 0), (0, .ref (a 0))]) hx hb dX2_endAuction_1 rfl hl (by decide) rfl (fun ls hl => ?_)
  have L2 : ∀ (f i : Nat)  (U : Tb), i + f = 5 → enZ (enL f i U) = endT T → ∀ (H : Heap) (locs : List Loc), va_P G.1 vwCl (tw G a U) H → va_D A (tw G a U) → va_S A s.heap H locs → ∀ ls : Array Slot, lv_has ls 3 [(1, .int (nI i)), (0, .ref (a 0))] → W p l e { frames := 2, cells := 0, slots := 0, locals := 44 } s m ([.ref (a 0)] : List Value).toArray below meth c H locs 0 0 Q (F0 m 2 ls []) := by
    intro f
    induction f with
    | zero =>
      intro i U hi hv2 H locs hP hD hS ls hl
      obtain rfl : i = 5 := by omega
      refine lv_iload_n hx hb dX2_endAuction_2 rfl (lv_at hl 0 rfl) ?_
      refine lv_iconst (v := 5) hx hb dX2_endAuction_3 (by decide) ?_
      refine lv_icmp_ge (tgt := 123) hx hb dX2_endAuction_4 (by decide) (fun _ => ?_) (fun c_9 => absurd (by decide +kernel) c_9)
      refine lv_aload_n hx hb dX2_endAuction_123 rfl (lv_at hl 1 rfl) ?_
      refine lv_iconst (v := 0) hx hb dX2_endAuction_124 (by decide) ?_
      refine va_put (D := G.1) (ci := 2) (v := .int 0) (ty := .boolean) (C := RX2) (T := TX2) (N := 13) hx hb hts hinX2 tyX2 tyX2_ok nmX2 hown hK.1 hP hD hS 0 rfl rfl 10 (by decide) wk13 (fun _ h9 => h9) rfl (by decide +kernel) rfl rfl (Nat.le_of_ble_eq_true rfl) dX2_endAuction_125 (fun H locs hP hD hS => ?_)
      have hP : va_P G.1 vwCl (tw G a (tup U 10 0 0)) H := hP
      have hD : va_D A (tw G a (tup U 10 0 0)) := hD
      refine lv_aload_n hx hb dX2_endAuction_128 rfl (lv_at hl 1 rfl) ?_
      refine lv_ldc (v := (-100006)) hx hb hown wk2 dX2_endAuction_129 ?_
      refine va_put (D := G.1) (ci := 2) (v := .int (-100006)) (ty := .int) (C := RX2) (T := TX2) (N := 13) hx hb hts hinX2 tyX2 tyX2_ok nmX2 hown hK.1 hP hD hS 0 rfl rfl 11 (by decide) wk14 (fun _ h9 => h9) rfl (by decide +kernel) rfl rfl (Nat.le_of_ble_eq_true rfl) dX2_endAuction_131 (fun H locs hP hD hS => ?_)
      have hP : va_P G.1 vwCl (tw G a (tup (tup U 10 0 0) 10 1 (-100006))) H := hP
      have hD : va_D A (tw G a (tup (tup U 10 0 0) 10 1 (-100006))) := hD
      refine lv_aload_n hx hb dX2_endAuction_134 rfl (lv_at hl 1 rfl) ?_
      refine lv_dup hx hb dX2_endAuction_135 rfl ?_
      refine va_get (D := G.1) (ci := 2) (v := .int ((tup (tup U 10 0 0) 10 1 (-100006)) 10 2)) (C := RX2) (T := TX2) (N := 13) hx hb hts hinX2 hown hK.1 hP 0 rfl rfl 12 (by decide) wk15 (fun _ h9 => h9) rfl dX2_endAuction_136 ?_
      refine lv_iconst (v := 1) hx hb dX2_endAuction_139 (by decide) ?_
      refine lv_iadd hx hb dX2_endAuction_140 ?_
      refine va_put (D := G.1) (ci := 2) (v := .int (((tup (tup U 10 0 0) 10 1 (-100006)) 10 2) + 1)) (ty := .int) (C := RX2) (T := TX2) (N := 13) hx hb hts hinX2 tyX2 tyX2_ok nmX2 hown hK.1 hP hD hS 0 rfl rfl 12 (by decide) wk15 (fun _ h9 => h9) rfl (by decide +kernel) rfl rfl (Nat.le_of_ble_eq_true rfl) dX2_endAuction_141 (fun H locs hP hD hS => ?_)
      have hP : va_P G.1 vwCl (tw G a (tup (tup (tup U 10 0 0) 10 1 (-100006)) 10 2 (((tup (tup U 10 0 0) 10 1 (-100006)) 10 2) + 1))) H := hP
      have hD : va_D A (tw G a (tup (tup (tup U 10 0 0) 10 1 (-100006)) 10 2 (((tup (tup U 10 0 0) 10 1 (-100006)) 10 2) + 1))) := hD
      obtain ⟨T_1, hT_1⟩ : ∃ x : Tb, x = tup (tup (tup U 10 0 0) 10 1 (-100006)) 10 2 (((tup (tup U 10 0 0) 10 1 (-100006)) 10 2) + 1) := ⟨_, rfl⟩
      have hP : va_P G.1 vwCl (tw G a T_1) H := by rw [hT_1]; exact hP
      have hD : va_D A (tw G a T_1) := by rw [hT_1]; exact hD
      have hf0 : T_1 = endT T := (by subst hT_1; rw [← hv2]; simp only [endT, enZ, enS, en1, en2, en3, enA, enB, enL])
      rw [hf0] at hP hD
      exact hret _ _ _ _ () trivial hP hD hS dX2_endAuction_144
    | succ f ih =>
      intro i U hi hv2 H locs hP hD hS ls hl
      have hlt : i < 5 := by omega
      refine lv_iload_n hx hb dX2_endAuction_2 rfl (lv_at hl 0 rfl) ?_
      refine lv_iconst (v := 5) hx hb dX2_endAuction_3 (by decide) ?_
      refine lv_icmp_ge (tgt := 123) hx hb dX2_endAuction_4 (by decide) (fun c_9 => absurd c_9 (nI_ge (b := 5) hlt (by decide))) (fun _ => ?_)
      refine lv_aload_n hx hb dX2_endAuction_7 rfl (lv_at hl 1 rfl) ?_
      refine va_get (D := G.1) (ci := 2) (v := .ref (a 7)) (C := RX2) (T := TX2) (N := 13) hx hb hts hinX2 hown hK.1 hP 0 rfl rfl 6 (by decide) wk1 (fun _ h9 => h9) rfl dX2_endAuction_8 ?_
      refine lv_iload_n hx hb dX2_endAuction_11 rfl (lv_at hl 0 rfl) ?_
      refine qild hx hb hK.1 hP 7 0 rfl rfl (k := i) (nI_clamp (by omega)) (vp_in_nI (by omega) (by decide)) dX2_endAuction_12 ?_
      refine lv_ldc (v := (-100006)) hx hb hown wk2 dX2_endAuction_13 ?_
      refine lv_icmp_ne (tgt := 48) hx hb dX2_endAuction_15 (by decide) (fun c_15_2 => ?_) (fun c_15_2 => ?_)
      · refine lv_aload_n hx hb dX2_endAuction_48 rfl (lv_at hl 1 rfl) ?_
        refine va_get (D := G.1) (ci := 2) (v := .ref (a 5)) (C := RX2) (T := TX2) (N := 13) hx hb hts hinX2 hown hK.1 hP 0 rfl rfl 4 (by decide) wk5 (fun _ h9 => h9) rfl dX2_endAuction_49 ?_
        refine lv_iload_n hx hb dX2_endAuction_52 rfl (lv_at hl 0 rfl) ?_
        refine lv_aload_n hx hb dX2_endAuction_53 rfl (lv_at hl 1 rfl) ?_
        refine va_get (D := G.1) (ci := 2) (v := .ref (a 7)) (C := RX2) (T := TX2) (N := 13) hx hb hts hinX2 hown hK.1 hP 0 rfl rfl 6 (by decide) wk1 (fun _ h9 => h9) rfl dX2_endAuction_54 ?_
        refine lv_iload_n hx hb dX2_endAuction_57 rfl (lv_at hl 0 rfl) ?_
        refine qild hx hb hK.1 hP 7 0 rfl rfl (k := i) (nI_clamp (by omega)) (vp_in_nI (by omega) (by decide)) dX2_endAuction_58 ?_
        refine qist hx hb hK.1 hP hD hS 5 0 rfl rfl (k := i) (nI_clamp (by omega)) (vp_in_nI (by omega) (by decide)) dX2_endAuction_59 (fun H locs hP hD hS => ?_)
        have hP : va_P G.1 vwCl (tw G a (tup U 4 i (U 6 i))) H := hP
        have hD : va_D A (tw G a (tup U 4 i (U 6 i))) := hD
        refine lv_aload_n hx hb dX2_endAuction_60 rfl (lv_at hl 1 rfl) ?_
        refine lv_aload_n hx hb dX2_endAuction_61 rfl (lv_at hl 1 rfl) ?_
        refine va_get (D := G.1) (ci := 2) (v := .ref (a 5)) (C := RX2) (T := TX2) (N := 13) hx hb hts hinX2 hown hK.1 hP 0 rfl rfl 4 (by decide) wk5 (fun _ h9 => h9) rfl dX2_endAuction_62 ?_
        refine lv_iload_n hx hb dX2_endAuction_65 rfl (lv_at hl 0 rfl) ?_
        refine qild hx hb hK.1 hP 5 0 rfl rfl (k := i) (nI_clamp (by omega)) (vp_in_nI (by omega) (by decide)) dX2_endAuction_66 ?_
        refine cPV (As := [.int (((tup U 4 i (U 6 i)) 4) i)]) (rest := []) ⟨hx, hb, hml, hown, hts⟩ (c_X2_prizeFor l G a (tup U 4 i (U 6 i)) (((tup U 4 i (U 6 i)) 4) i)) (cwV 1 hts gX2_endAuction_X2_prizeFor rfl rfl rfl (by decide +kernel) ⟨Nat.le_of_ble_eq_true rfl, Nat.le_of_ble_eq_true rfl⟩) hK hP 0 (ci := 2) rfl rfl rfl rfl rfl hl.1 (Nat.le_of_ble_eq_true rfl) dX2_endAuction_67 ⟨Nat.le_of_ble_eq_true rfl, Nat.le_of_ble_eq_true rfl⟩ ?_
        refine lv_istore_n (lv' := [(2, .int (pfB (tup U 4 i (U 6 i)) (((tup U 4 i (U 6 i)) 4) i))), (1, .int (nI i)), (0, .ref (a 0))]) hx hb dX2_endAuction_70 rfl hl (by decide) rfl (fun ls hl => ?_)
        refine lv_aload_n hx hb dX2_endAuction_71 rfl (lv_at hl 2 rfl) ?_
        refine va_get (D := G.1) (ci := 2) (v := .ref (a 3)) (C := RX2) (T := TX2) (N := 13) hx hb hts hinX2 hown hK.1 hP 0 rfl rfl 2 (by decide) wk6 (fun _ h9 => h9) rfl dX2_endAuction_72 ?_
        refine lv_iload_n hx hb dX2_endAuction_75 rfl (lv_at hl 1 rfl) ?_
        refine lv_aload_n hx hb dX2_endAuction_76 rfl (lv_at hl 2 rfl) ?_
        refine va_get (D := G.1) (ci := 2) (v := .ref (a 3)) (C := RX2) (T := TX2) (N := 13) hx hb hts hinX2 hown hK.1 hP 0 rfl rfl 2 (by decide) wk6 (fun _ h9 => h9) rfl dX2_endAuction_77 ?_
        refine lv_iload_n hx hb dX2_endAuction_80 rfl (lv_at hl 1 rfl) ?_
        refine qild hx hb hK.1 hP 3 0 rfl rfl (k := i) (nI_clamp (by omega)) (vp_in_nI (by omega) (by decide)) dX2_endAuction_81 ?_
        refine lv_iload_n hx hb dX2_endAuction_82 rfl (lv_at hl 0 rfl) ?_
        refine lv_iadd hx hb dX2_endAuction_83 ?_
        refine lv_topi (fun x_3 hx_3 => ?_)
        refine lv_sipush (v := 9999) hx hb dX2_endAuction_84 (by decide) ?_
        refine va_mmin hx hb (hml.trans hl.1.symm) hown wk7 wk8 wk9 wk10 (Nat.le_of_ble_eq_true rfl) (Nat.le_of_ble_eq_true rfl) (Nat.le_of_ble_eq_true rfl) (Nat.le_of_ble_eq_true rfl) dX2_endAuction_87 ?_
        refine qist hx hb hK.1 hP hD hS 3 0 rfl rfl (k := i) (nI_clamp (by omega)) (vp_in_nI (by omega) (by decide)) dX2_endAuction_90 (fun H locs hP hD hS => ?_)
        have hP : va_P G.1 vwCl (tw G a (tup (tup U 4 i (U 6 i)) 2 i (if (9999 : Int32) < x_3 then 9999 else x_3))) H := hP
        have hD : va_D A (tw G a (tup (tup U 4 i (U 6 i)) 2 i (if (9999 : Int32) < x_3 then 9999 else x_3))) := hD
        refine lv_aload_n hx hb dX2_endAuction_91 rfl (lv_at hl 2 rfl) ?_
        refine va_get (D := G.1) (ci := 2) (v := .ref (a 9)) (C := RX2) (T := TX2) (N := 13) hx hb hts hinX2 hown hK.1 hP 0 rfl rfl 8 (by decide) wk11 (fun _ h9 => h9) rfl dX2_endAuction_92 ?_
        refine lv_iload_n hx hb dX2_endAuction_95 rfl (lv_at hl 1 rfl) ?_
        refine lv_dup2_11 hx hb dX2_endAuction_96 rfl rfl ?_
        refine qild hx hb hK.1 hP 9 0 rfl rfl (k := i) (nI_clamp (by omega)) (vp_in_nI (by omega) (by decide)) dX2_endAuction_97 ?_
        refine lv_iload_n hx hb dX2_endAuction_98 rfl (lv_at hl 0 rfl) ?_
        refine lv_iadd hx hb dX2_endAuction_99 ?_
        refine lv_topi (fun x_4 hx_4 => ?_)
        refine qist hx hb hK.1 hP hD hS 9 0 rfl rfl (k := i) (nI_clamp (by omega)) (vp_in_nI (by omega) (by decide)) dX2_endAuction_100 (fun H locs hP hD hS => ?_)
        have hP : va_P G.1 vwCl (tw G a (tup (tup (tup U 4 i (U 6 i)) 2 i (if (9999 : Int32) < x_3 then 9999 else x_3)) 8 i x_4)) H := hP
        have hD : va_D A (tw G a (tup (tup (tup U 4 i (U 6 i)) 2 i (if (9999 : Int32) < x_3 then 9999 else x_3)) 8 i x_4)) := hD
        refine lv_aload_n hx hb dX2_endAuction_101 rfl (lv_at hl 2 rfl) ?_
        refine va_get (D := G.1) (ci := 2) (v := .ref (a 7)) (C := RX2) (T := TX2) (N := 13) hx hb hts hinX2 hown hK.1 hP 0 rfl rfl 6 (by decide) wk1 (fun _ h9 => h9) rfl dX2_endAuction_102 ?_
        refine lv_iload_n hx hb dX2_endAuction_105 rfl (lv_at hl 1 rfl) ?_
        refine lv_ldc (v := (-100006)) hx hb hown wk2 dX2_endAuction_106 ?_
        refine qist hx hb hK.1 hP hD hS 7 0 rfl rfl (k := i) (nI_clamp (by omega)) (vp_in_nI (by omega) (by decide)) dX2_endAuction_108 (fun H locs hP hD hS => ?_)
        have hP : va_P G.1 vwCl (tw G a (tup (tup (tup (tup U 4 i (U 6 i)) 2 i (if (9999 : Int32) < x_3 then 9999 else x_3)) 8 i x_4) 6 i (-100006))) H := hP
        have hD : va_D A (tw G a (tup (tup (tup (tup U 4 i (U 6 i)) 2 i (if (9999 : Int32) < x_3 then 9999 else x_3)) 8 i x_4) 6 i (-100006))) := hD
        obtain ⟨T_5, hT_5⟩ : ∃ x : Tb, x = tup (tup (tup (tup U 4 i (U 6 i)) 2 i (if (9999 : Int32) < x_3 then 9999 else x_3)) 8 i x_4) 6 i (-100006) := ⟨_, rfl⟩
        have hP : va_P G.1 vwCl (tw G a T_5) H := by rw [hT_5]; exact hP
        have hD : va_D A (tw G a T_5) := by rw [hT_5]; exact hD
        refine lv_aload_n hx hb dX2_endAuction_109 rfl (lv_at hl 2 rfl) ?_
        refine va_get (D := G.1) (ci := 2) (v := .ref (a 6)) (C := RX2) (T := TX2) (N := 13) hx hb hts hinX2 hown hK.1 hP 0 rfl rfl 5 (by decide) wk12 (fun _ h9 => h9) rfl dX2_endAuction_110 ?_
        refine lv_iload_n hx hb dX2_endAuction_113 rfl (lv_at hl 1 rfl) ?_
        refine lv_ldc (v := (-100006)) hx hb hown wk2 dX2_endAuction_114 ?_
        refine qist hx hb hK.1 hP hD hS 6 0 rfl rfl (k := i) (nI_clamp (by omega)) (vp_in_nI (by omega) (by decide)) dX2_endAuction_116 (fun H locs hP hD hS => ?_)
        have hP : va_P G.1 vwCl (tw G a (tup T_5 5 i (-100006))) H := hP
        have hD : va_D A (tw G a (tup T_5 5 i (-100006))) := hD
        refine lv_iinc (v := nI (i + 1)) (lv' := [(1, .int (nI (i + 1))), (2, .int (pfB (tup U 4 i (U 6 i)) (((tup U 4 i (U 6 i)) 4) i))), (0, .ref (a 0))]) hx hb dX2_endAuction_117 hl (k := 1) rfl (nI_1 _) (by decide) rfl (fun ls hl => ?_)
        refine lv_goto (tgt := 2) hx hb dX2_endAuction_120 (by decide) ?_
        exact ih (i + 1)  (tup T_5 5 i (-100006)) (by omega) (by subst hx_3 hx_4 hT_5; rw [← hv2]; simp only [endT, enZ, enS, en1, en2, en3, enA, enB, enL, if_neg c_15_2]) _ _ hP hD hS ls (lv_sub hl [0, 2] rfl)
      · refine lv_aload_n hx hb dX2_endAuction_18 rfl (lv_at hl 1 rfl) ?_
        refine va_get (D := G.1) (ci := 2) (v := .ref (a 7)) (C := RX2) (T := TX2) (N := 13) hx hb hts hinX2 hown hK.1 hP 0 rfl rfl 6 (by decide) wk1 (fun _ h9 => h9) rfl dX2_endAuction_19 ?_
        refine lv_iload_n hx hb dX2_endAuction_22 rfl (lv_at hl 0 rfl) ?_
        refine lv_iconst (v := 0) hx hb dX2_endAuction_23 (by decide) ?_
        refine qist hx hb hK.1 hP hD hS 7 0 rfl rfl (k := i) (nI_clamp (by omega)) (vp_in_nI (by omega) (by decide)) dX2_endAuction_24 (fun H locs hP hD hS => ?_)
        have hP : va_P G.1 vwCl (tw G a (tup U 6 i 0)) H := hP
        have hD : va_D A (tw G a (tup U 6 i 0)) := hD
        refine lv_aload_n hx hb dX2_endAuction_25 rfl (lv_at hl 1 rfl) ?_
        refine va_get (D := G.1) (ci := 2) (v := .ref (a 10)) (C := RX2) (T := TX2) (N := 13) hx hb hts hinX2 hown hK.1 hP 0 rfl rfl 9 (by decide) wk3 (fun _ h9 => h9) rfl dX2_endAuction_26 ?_
        refine lv_iload_n hx hb dX2_endAuction_29 rfl (lv_at hl 0 rfl) ?_
        refine lv_dup2_11 hx hb dX2_endAuction_30 rfl rfl ?_
        refine qild hx hb hK.1 hP 10 0 rfl rfl (k := i) (nI_clamp (by omega)) (vp_in_nI (by omega) (by decide)) dX2_endAuction_31 ?_
        refine lv_iconst (v := 1) hx hb dX2_endAuction_32 (by decide) ?_
        refine lv_iadd hx hb dX2_endAuction_33 ?_
        refine qist hx hb hK.1 hP hD hS 10 0 rfl rfl (k := i) (nI_clamp (by omega)) (vp_in_nI (by omega) (by decide)) dX2_endAuction_34 (fun H locs hP hD hS => ?_)
        have hP : va_P G.1 vwCl (tw G a (tup (tup U 6 i 0) 9 i ((((tup U 6 i 0) 9) i) + 1))) H := hP
        have hD : va_D A (tw G a (tup (tup U 6 i 0) 9 i ((((tup U 6 i 0) 9) i) + 1))) := hD
        refine lv_aload_n hx hb dX2_endAuction_35 rfl (lv_at hl 1 rfl) ?_
        refine lv_iload_n hx hb dX2_endAuction_36 rfl (lv_at hl 0 rfl) ?_
        refine lv_aload_n hx hb dX2_endAuction_37 rfl (lv_at hl 1 rfl) ?_
        refine va_get (D := G.1) (ci := 2) (v := .ref (a 1)) (C := RX2) (T := TX2) (N := 13) hx hb hts hinX2 hown hK.1 hP 0 rfl rfl 0 (by decide) wk4 (fun _ h9 => h9) rfl dX2_endAuction_38 ?_
        refine lv_iconst (v := 2) hx hb dX2_endAuction_41 (by decide) ?_
        refine qild hx hb hK.1 hP 1 0 rfl rfl (k := 2) rfl (vp_in_nI (n := 2) (by decide) (by decide)) dX2_endAuction_42 ?_
        refine lv_bipush (v := 99) hx hb dX2_endAuction_43 (by decide) ?_
        refine cAV (As := [.int (nI i), .int (((tup (tup U 6 i 0) 9 i ((((tup U 6 i 0) 9) i) + 1)) 0) 2), .int 99]) (rest := []) ⟨hx, hb, hml, hown, hts⟩ (c_X2_pay l G a (tup (tup U 6 i 0) 9 i ((((tup U 6 i 0) 9) i) + 1)) (nI i) (((tup (tup U 6 i 0) 9 i ((((tup U 6 i 0) 9) i) + 1)) 0) 2) 99 _) (cwV 3 hts gX2_endAuction_X2_pay rfl rfl rfl (by decide +kernel) ⟨Nat.le_of_ble_eq_true rfl, Nat.le_of_ble_eq_true rfl⟩) hK hP hD hS hA 0 (ci := 2) rfl rfl rfl rfl rfl hl.1 (Nat.le_of_ble_eq_true rfl) dX2_endAuction_45 ⟨Nat.le_of_ble_eq_true rfl, Nat.le_of_ble_eq_true rfl⟩ (fun u_6 H locs hr_6 hP hD hS => ?_)
        have hP : va_P G.1 vwCl (tw G a (payT (tup (tup U 6 i 0) 9 i ((((tup U 6 i 0) 9) i) + 1)) (nI i) (((tup (tup U 6 i 0) 9 i ((((tup U 6 i 0) 9) i) + 1)) 0) 2) 99)) H := hP
        have hD : va_D A (tw G a (payT (tup (tup U 6 i 0) 9 i ((((tup U 6 i 0) 9) i) + 1)) (nI i) (((tup (tup U 6 i 0) 9 i ((((tup U 6 i 0) 9) i) + 1)) 0) 2) 99)) := hD
        obtain ⟨T_7, hT_7⟩ : ∃ x : Tb, x = payT (tup (tup U 6 i 0) 9 i ((((tup U 6 i 0) 9) i) + 1)) (nI i) (((tup (tup U 6 i 0) 9 i ((((tup U 6 i 0) 9) i) + 1)) 0) 2) 99 := ⟨_, rfl⟩
        have hP : va_P G.1 vwCl (tw G a T_7) H := by rw [hT_7]; exact hP
        have hD : va_D A (tw G a T_7) := by rw [hT_7]; exact hD
        refine lv_aload_n hx hb dX2_endAuction_48 rfl (lv_at hl 1 rfl) ?_
        refine va_get (D := G.1) (ci := 2) (v := .ref (a 5)) (C := RX2) (T := TX2) (N := 13) hx hb hts hinX2 hown hK.1 hP 0 rfl rfl 4 (by decide) wk5 (fun _ h9 => h9) rfl dX2_endAuction_49 ?_
        refine lv_iload_n hx hb dX2_endAuction_52 rfl (lv_at hl 0 rfl) ?_
        refine lv_aload_n hx hb dX2_endAuction_53 rfl (lv_at hl 1 rfl) ?_
        refine va_get (D := G.1) (ci := 2) (v := .ref (a 7)) (C := RX2) (T := TX2) (N := 13) hx hb hts hinX2 hown hK.1 hP 0 rfl rfl 6 (by decide) wk1 (fun _ h9 => h9) rfl dX2_endAuction_54 ?_
        refine lv_iload_n hx hb dX2_endAuction_57 rfl (lv_at hl 0 rfl) ?_
        refine qild hx hb hK.1 hP 7 0 rfl rfl (k := i) (nI_clamp (by omega)) (vp_in_nI (by omega) (by decide)) dX2_endAuction_58 ?_
        refine qist hx hb hK.1 hP hD hS 5 0 rfl rfl (k := i) (nI_clamp (by omega)) (vp_in_nI (by omega) (by decide)) dX2_endAuction_59 (fun H locs hP hD hS => ?_)
        have hP : va_P G.1 vwCl (tw G a (tup T_7 4 i (T_7 6 i))) H := hP
        have hD : va_D A (tw G a (tup T_7 4 i (T_7 6 i))) := hD
        refine lv_aload_n hx hb dX2_endAuction_60 rfl (lv_at hl 1 rfl) ?_
        refine lv_aload_n hx hb dX2_endAuction_61 rfl (lv_at hl 1 rfl) ?_
        refine va_get (D := G.1) (ci := 2) (v := .ref (a 5)) (C := RX2) (T := TX2) (N := 13) hx hb hts hinX2 hown hK.1 hP 0 rfl rfl 4 (by decide) wk5 (fun _ h9 => h9) rfl dX2_endAuction_62 ?_
        refine lv_iload_n hx hb dX2_endAuction_65 rfl (lv_at hl 0 rfl) ?_
        refine qild hx hb hK.1 hP 5 0 rfl rfl (k := i) (nI_clamp (by omega)) (vp_in_nI (by omega) (by decide)) dX2_endAuction_66 ?_
        refine cPV (As := [.int (((tup T_7 4 i (T_7 6 i)) 4) i)]) (rest := []) ⟨hx, hb, hml, hown, hts⟩ (c_X2_prizeFor l G a (tup T_7 4 i (T_7 6 i)) (((tup T_7 4 i (T_7 6 i)) 4) i)) (cwV 1 hts gX2_endAuction_X2_prizeFor rfl rfl rfl (by decide +kernel) ⟨Nat.le_of_ble_eq_true rfl, Nat.le_of_ble_eq_true rfl⟩) hK hP 0 (ci := 2) rfl rfl rfl rfl rfl hl.1 (Nat.le_of_ble_eq_true rfl) dX2_endAuction_67 ⟨Nat.le_of_ble_eq_true rfl, Nat.le_of_ble_eq_true rfl⟩ ?_
        refine lv_istore_n (lv' := [(2, .int (pfB (tup T_7 4 i (T_7 6 i)) (((tup T_7 4 i (T_7 6 i)) 4) i))), (1, .int (nI i)), (0, .ref (a 0))]) hx hb dX2_endAuction_70 rfl hl (by decide) rfl (fun ls hl => ?_)
        refine lv_aload_n hx hb dX2_endAuction_71 rfl (lv_at hl 2 rfl) ?_
        refine va_get (D := G.1) (ci := 2) (v := .ref (a 3)) (C := RX2) (T := TX2) (N := 13) hx hb hts hinX2 hown hK.1 hP 0 rfl rfl 2 (by decide) wk6 (fun _ h9 => h9) rfl dX2_endAuction_72 ?_
        refine lv_iload_n hx hb dX2_endAuction_75 rfl (lv_at hl 1 rfl) ?_
        refine lv_aload_n hx hb dX2_endAuction_76 rfl (lv_at hl 2 rfl) ?_
        refine va_get (D := G.1) (ci := 2) (v := .ref (a 3)) (C := RX2) (T := TX2) (N := 13) hx hb hts hinX2 hown hK.1 hP 0 rfl rfl 2 (by decide) wk6 (fun _ h9 => h9) rfl dX2_endAuction_77 ?_
        refine lv_iload_n hx hb dX2_endAuction_80 rfl (lv_at hl 1 rfl) ?_
        refine qild hx hb hK.1 hP 3 0 rfl rfl (k := i) (nI_clamp (by omega)) (vp_in_nI (by omega) (by decide)) dX2_endAuction_81 ?_
        refine lv_iload_n hx hb dX2_endAuction_82 rfl (lv_at hl 0 rfl) ?_
        refine lv_iadd hx hb dX2_endAuction_83 ?_
        refine lv_topi (fun x_8 hx_8 => ?_)
        refine lv_sipush (v := 9999) hx hb dX2_endAuction_84 (by decide) ?_
        refine va_mmin hx hb (hml.trans hl.1.symm) hown wk7 wk8 wk9 wk10 (Nat.le_of_ble_eq_true rfl) (Nat.le_of_ble_eq_true rfl) (Nat.le_of_ble_eq_true rfl) (Nat.le_of_ble_eq_true rfl) dX2_endAuction_87 ?_
        refine qist hx hb hK.1 hP hD hS 3 0 rfl rfl (k := i) (nI_clamp (by omega)) (vp_in_nI (by omega) (by decide)) dX2_endAuction_90 (fun H locs hP hD hS => ?_)
        have hP : va_P G.1 vwCl (tw G a (tup (tup T_7 4 i (T_7 6 i)) 2 i (if (9999 : Int32) < x_8 then 9999 else x_8))) H := hP
        have hD : va_D A (tw G a (tup (tup T_7 4 i (T_7 6 i)) 2 i (if (9999 : Int32) < x_8 then 9999 else x_8))) := hD
        refine lv_aload_n hx hb dX2_endAuction_91 rfl (lv_at hl 2 rfl) ?_
        refine va_get (D := G.1) (ci := 2) (v := .ref (a 9)) (C := RX2) (T := TX2) (N := 13) hx hb hts hinX2 hown hK.1 hP 0 rfl rfl 8 (by decide) wk11 (fun _ h9 => h9) rfl dX2_endAuction_92 ?_
        refine lv_iload_n hx hb dX2_endAuction_95 rfl (lv_at hl 1 rfl) ?_
        refine lv_dup2_11 hx hb dX2_endAuction_96 rfl rfl ?_
        refine qild hx hb hK.1 hP 9 0 rfl rfl (k := i) (nI_clamp (by omega)) (vp_in_nI (by omega) (by decide)) dX2_endAuction_97 ?_
        refine lv_iload_n hx hb dX2_endAuction_98 rfl (lv_at hl 0 rfl) ?_
        refine lv_iadd hx hb dX2_endAuction_99 ?_
        refine lv_topi (fun x_9 hx_9 => ?_)
        refine qist hx hb hK.1 hP hD hS 9 0 rfl rfl (k := i) (nI_clamp (by omega)) (vp_in_nI (by omega) (by decide)) dX2_endAuction_100 (fun H locs hP hD hS => ?_)
        have hP : va_P G.1 vwCl (tw G a (tup (tup (tup T_7 4 i (T_7 6 i)) 2 i (if (9999 : Int32) < x_8 then 9999 else x_8)) 8 i x_9)) H := hP
        have hD : va_D A (tw G a (tup (tup (tup T_7 4 i (T_7 6 i)) 2 i (if (9999 : Int32) < x_8 then 9999 else x_8)) 8 i x_9)) := hD
        refine lv_aload_n hx hb dX2_endAuction_101 rfl (lv_at hl 2 rfl) ?_
        refine va_get (D := G.1) (ci := 2) (v := .ref (a 7)) (C := RX2) (T := TX2) (N := 13) hx hb hts hinX2 hown hK.1 hP 0 rfl rfl 6 (by decide) wk1 (fun _ h9 => h9) rfl dX2_endAuction_102 ?_
        refine lv_iload_n hx hb dX2_endAuction_105 rfl (lv_at hl 1 rfl) ?_
        refine lv_ldc (v := (-100006)) hx hb hown wk2 dX2_endAuction_106 ?_
        refine qist hx hb hK.1 hP hD hS 7 0 rfl rfl (k := i) (nI_clamp (by omega)) (vp_in_nI (by omega) (by decide)) dX2_endAuction_108 (fun H locs hP hD hS => ?_)
        have hP : va_P G.1 vwCl (tw G a (tup (tup (tup (tup T_7 4 i (T_7 6 i)) 2 i (if (9999 : Int32) < x_8 then 9999 else x_8)) 8 i x_9) 6 i (-100006))) H := hP
        have hD : va_D A (tw G a (tup (tup (tup (tup T_7 4 i (T_7 6 i)) 2 i (if (9999 : Int32) < x_8 then 9999 else x_8)) 8 i x_9) 6 i (-100006))) := hD
        obtain ⟨T_10, hT_10⟩ : ∃ x : Tb, x = tup (tup (tup (tup T_7 4 i (T_7 6 i)) 2 i (if (9999 : Int32) < x_8 then 9999 else x_8)) 8 i x_9) 6 i (-100006) := ⟨_, rfl⟩
        have hP : va_P G.1 vwCl (tw G a T_10) H := by rw [hT_10]; exact hP
        have hD : va_D A (tw G a T_10) := by rw [hT_10]; exact hD
        refine lv_aload_n hx hb dX2_endAuction_109 rfl (lv_at hl 2 rfl) ?_
        refine va_get (D := G.1) (ci := 2) (v := .ref (a 6)) (C := RX2) (T := TX2) (N := 13) hx hb hts hinX2 hown hK.1 hP 0 rfl rfl 5 (by decide) wk12 (fun _ h9 => h9) rfl dX2_endAuction_110 ?_
        refine lv_iload_n hx hb dX2_endAuction_113 rfl (lv_at hl 1 rfl) ?_
        refine lv_ldc (v := (-100006)) hx hb hown wk2 dX2_endAuction_114 ?_
        refine qist hx hb hK.1 hP hD hS 6 0 rfl rfl (k := i) (nI_clamp (by omega)) (vp_in_nI (by omega) (by decide)) dX2_endAuction_116 (fun H locs hP hD hS => ?_)
        have hP : va_P G.1 vwCl (tw G a (tup T_10 5 i (-100006))) H := hP
        have hD : va_D A (tw G a (tup T_10 5 i (-100006))) := hD
        refine lv_iinc (v := nI (i + 1)) (lv' := [(1, .int (nI (i + 1))), (2, .int (pfB (tup T_7 4 i (T_7 6 i)) (((tup T_7 4 i (T_7 6 i)) 4) i))), (0, .ref (a 0))]) hx hb dX2_endAuction_117 hl (k := 1) rfl (nI_1 _) (by decide) rfl (fun ls hl => ?_)
        refine lv_goto (tgt := 2) hx hb dX2_endAuction_120 (by decide) ?_
        exact ih (i + 1)  (tup T_10 5 i (-100006)) (by omega) (by subst hT_7 hx_8 hx_9 hT_10; rw [← hv2]; simp only [endT, enZ, enS, en1, en2, en3, enA, enB, enL, if_pos c_15_2]) _ _ hP hD hS ls (lv_sub hl [0, 2] rfl)
  exact L2 5 0  T rfl (by simp only [endT, enZ, enS, en1, en2, en3, enA, enB]) _ _ hP hD hS ls (lv_sub hl [0, 1] rfl)
set_option maxHeartbeats 4000000 in
set_option maxRecDepth 100000 in
theorem c_X2_dropOut (l : Launch) (G : qG) (a : Nat → Nat) (T : Tb)  (sz : Nat) : MI l yX2_dropOut wsX2_dropOut 3 66 G sz [.ref (a 0)] (tw G a T) (drV T) (tw G a (drT T)) := by
  refine MI.of' (by decide) rfl (Nat.le_of_ble_eq_true rfl) ?_
  intro p e s m below meth c hx hb hml hown hts hK hsz hP A hAe hA hD hS Q hret ls hl
  have hown : s.vm.findClass RX2 = some m.cls := hown
  have hl : lv_has ls 2 [(0, .ref (a 0))] := hl
  have wk1 := hts (Cond.fieldLink RX2 47 "TurnBids$Table" "turn" "I") (List.mem_of_getElem? (i := 1) rfl)
  have wk2 := hts (Cond.constant RX2 27 (-100006)) (List.mem_of_getElem? (i := 2) rfl)
  have wk3 := hts (Cond.fieldLink RX2 31 "TurnBids$Table" "placesGot" "[I") (List.mem_of_getElem? (i := 3) rfl)
  have wk4 := hts (Cond.fieldLink RX2 9 "TurnBids$Table" "settings" "[I") (List.mem_of_getElem? (i := 4) rfl)
  have wk5 := hts (Cond.static yX3_isPlayer) (List.mem_of_getElem? (i := 5) rfl)
  have wk6 := hts (Cond.initialized RX3) (List.mem_of_getElem? (i := 6) rfl)
  have wk8 := hts (Cond.methodLink RX2 84 yX2_playersLeft) (List.mem_of_getElem? (i := 8) rfl)
  have wk14 := hts (Cond.methodLink RX2 87 yJ6_bitCount_0f7a4) (List.mem_of_getElem? (i := 14) rfl)
  have wk21 := hts (Cond.methodLink RX2 92 yX2_pay) (List.mem_of_getElem? (i := 21) rfl)
  have wk28 := hts (Cond.methodLink RX2 96 yX2_endAuction) (List.mem_of_getElem? (i := 28) rfl)
  have wk45 := hts (Cond.methodLink RX2 81 yX2_passTurn) (List.mem_of_getElem? (i := 45) rfl)
  have hinX2 : ∀ w ∈ wsX20, w ∈ wsX2_dropOut := fun _ h => (List.mem_cons_of_mem _ (List.mem_append_right _ h))
  refine lv_aload_n hx hb dX2_dropOut_0 rfl (lv_at hl 0 rfl) ?_
  refine va_get (D := G.1) (ci := 2) (v := .int (T 10 1)) (C := RX2) (T := TX2) (N := 13) hx hb hts hinX2 hown hK.1 hP 0 rfl rfl 11 (by decide) wk1 (fun _ h9 => h9) rfl dX2_dropOut_1 ?_
  refine cPN (As := [.int (T 10 1)]) (rest := []) ⟨hx, hb, hml, hown, hts⟩ (c_X3_isPlayer l G (T 10 1)) ⟨va_cnB (host := RX3) 1 hts gX2_dropOut_X3_isPlayer_n64 rfl rfl rfl hK.2.1.1 wk6 (by decide +kernel) ⟨Nat.le_of_ble_eq_true rfl, Nat.le_of_ble_eq_true rfl⟩, wk5, trivial⟩ hK (fun k q h => by simp at h) rfl rfl hl.1 (Nat.le_of_ble_eq_true rfl) dX2_dropOut_4 ⟨Nat.le_of_ble_eq_true rfl, Nat.le_of_ble_eq_true rfl⟩ ?_
  refine lv_if_ne (tgt := 13) hx hb dX2_dropOut_7 (by decide) (fun c_7_1 => ?_) (fun c_7_1 => ?_)
  · have hin_2 := isPb_in c_7_1
    refine lv_aload_n hx hb dX2_dropOut_13 rfl (lv_at hl 0 rfl) ?_
    refine cPV (As := []) (rest := []) ⟨hx, hb, hml, hown, hts⟩ (c_X2_playersLeft l G a T) (cwV 0 hts gX2_dropOut_X2_playersLeft rfl rfl rfl (by decide +kernel) ⟨Nat.le_of_ble_eq_true rfl, Nat.le_of_ble_eq_true rfl⟩) hK hP 0 (ci := 2) rfl rfl rfl rfl rfl hl.1 (Nat.le_of_ble_eq_true rfl) dX2_dropOut_14 ⟨Nat.le_of_ble_eq_true rfl, Nat.le_of_ble_eq_true rfl⟩ ?_
    refine cPS (As := [.int (plB T)]) (rest := []) ⟨hx, hb, hml, hown, hts⟩ (c_J6_bitCount_0f7a4 l G (plB T)) (va_cwS 1 hts gX2_dropOut_J6_bitCount_0f7a4 rfl rfl rfl (by decide +kernel) ⟨Nat.le_of_ble_eq_true rfl, Nat.le_of_ble_eq_true rfl⟩) hK (fun k q h => by simp at h) rfl rfl hl.1 (Nat.le_of_ble_eq_true rfl) dX2_dropOut_17 ⟨Nat.le_of_ble_eq_true rfl, Nat.le_of_ble_eq_true rfl⟩ ?_
    refine lv_iconst (v := 1) hx hb dX2_dropOut_20 (by decide) ?_
    refine lv_isub hx hb dX2_dropOut_21 ?_
    refine lv_istore_n (lv' := [(1, .int ((bitC (plB T)) - 1)), (0, .ref (a 0))]) hx hb dX2_dropOut_22 rfl hl (by decide) rfl (fun ls hl => ?_)
    refine lv_aload_n hx hb dX2_dropOut_23 rfl (lv_at hl 1 rfl) ?_
    refine va_get (D := G.1) (ci := 2) (v := .ref (a 7)) (C := RX2) (T := TX2) (N := 13) hx hb hts hinX2 hown hK.1 hP 0 rfl rfl 6 (by decide) wk3 (fun _ h9 => h9) rfl dX2_dropOut_24 ?_
    refine lv_aload_n hx hb dX2_dropOut_27 rfl (lv_at hl 1 rfl) ?_
    refine va_get (D := G.1) (ci := 2) (v := .int (T 10 1)) (C := RX2) (T := TX2) (N := 13) hx hb hts hinX2 hown hK.1 hP 0 rfl rfl 11 (by decide) wk1 (fun _ h9 => h9) rfl dX2_dropOut_28 ?_
    refine lv_iload_n hx hb dX2_dropOut_31 rfl (lv_at hl 0 rfl) ?_
    refine qist hx hb hK.1 hP hD hS 7 0 rfl rfl (k := ix (T 10 1)) rfl (by assumption) dX2_dropOut_32 (fun H locs hP hD hS => ?_)
    have hP : va_P G.1 vwCl (tw G a (tup T 6 (ix (T 10 1)) ((bitC (plB T)) - 1))) H := hP
    have hD : va_D A (tw G a (tup T 6 (ix (T 10 1)) ((bitC (plB T)) - 1))) := hD
    refine lv_aload_n hx hb dX2_dropOut_33 rfl (lv_at hl 1 rfl) ?_
    refine lv_aload_n hx hb dX2_dropOut_34 rfl (lv_at hl 1 rfl) ?_
    refine va_get (D := G.1) (ci := 2) (v := .int ((tup T 6 (ix (T 10 1)) ((bitC (plB T)) - 1)) 10 1)) (C := RX2) (T := TX2) (N := 13) hx hb hts hinX2 hown hK.1 hP 0 rfl rfl 11 (by decide) wk1 (fun _ h9 => h9) rfl dX2_dropOut_35 ?_
    refine lv_aload_n hx hb dX2_dropOut_38 rfl (lv_at hl 1 rfl) ?_
    refine va_get (D := G.1) (ci := 2) (v := .ref (a 1)) (C := RX2) (T := TX2) (N := 13) hx hb hts hinX2 hown hK.1 hP 0 rfl rfl 0 (by decide) wk4 (fun _ h9 => h9) rfl dX2_dropOut_39 ?_
    refine lv_iconst (v := 3) hx hb dX2_dropOut_42 (by decide) ?_
    refine qild hx hb hK.1 hP 1 0 rfl rfl (k := 3) rfl (vp_in_nI (n := 3) (by decide) (by decide)) dX2_dropOut_43 ?_
    refine lv_iconst (v := 0) hx hb dX2_dropOut_44 (by decide) ?_
    refine cAV (As := [.int ((tup T 6 (ix (T 10 1)) ((bitC (plB T)) - 1)) 10 1), .int (((tup T 6 (ix (T 10 1)) ((bitC (plB T)) - 1)) 0) 3), .int 0]) (rest := []) ⟨hx, hb, hml, hown, hts⟩ (c_X2_pay l G a (tup T 6 (ix (T 10 1)) ((bitC (plB T)) - 1)) ((tup T 6 (ix (T 10 1)) ((bitC (plB T)) - 1)) 10 1) (((tup T 6 (ix (T 10 1)) ((bitC (plB T)) - 1)) 0) 3) 0 _) (cwV 3 hts gX2_dropOut_X2_pay rfl rfl rfl (by decide +kernel) ⟨Nat.le_of_ble_eq_true rfl, Nat.le_of_ble_eq_true rfl⟩) hK hP hD hS hA 0 (ci := 2) rfl rfl rfl rfl rfl hl.1 (Nat.le_of_ble_eq_true rfl) dX2_dropOut_45 ⟨Nat.le_of_ble_eq_true rfl, Nat.le_of_ble_eq_true rfl⟩ (fun u_3 H locs hr_3 hP hD hS => ?_)
    have hP : va_P G.1 vwCl (tw G a (payT (tup T 6 (ix (T 10 1)) ((bitC (plB T)) - 1)) ((tup T 6 (ix (T 10 1)) ((bitC (plB T)) - 1)) 10 1) (((tup T 6 (ix (T 10 1)) ((bitC (plB T)) - 1)) 0) 3) 0)) H := hP
    have hD : va_D A (tw G a (payT (tup T 6 (ix (T 10 1)) ((bitC (plB T)) - 1)) ((tup T 6 (ix (T 10 1)) ((bitC (plB T)) - 1)) 10 1) (((tup T 6 (ix (T 10 1)) ((bitC (plB T)) - 1)) 0) 3) 0)) := hD
    refine lv_iload_n hx hb dX2_dropOut_48 rfl (lv_at hl 0 rfl) ?_
    refine lv_iconst (v := 1) hx hb dX2_dropOut_49 (by decide) ?_
    refine lv_icmp_ne (tgt := 60) hx hb dX2_dropOut_50 (by decide) (fun c_50_4 => ?_) (fun c_50_4 => ?_)
    · refine lv_aload_n hx hb dX2_dropOut_60 rfl (lv_at hl 1 rfl) ?_
      refine cAV (As := []) (rest := []) ⟨hx, hb, hml, hown, hts⟩ (c_X2_passTurn l G a (payT (tup T 6 (ix (T 10 1)) ((bitC (plB T)) - 1)) ((tup T 6 (ix (T 10 1)) ((bitC (plB T)) - 1)) 10 1) (((tup T 6 (ix (T 10 1)) ((bitC (plB T)) - 1)) 0) 3) 0) _) (cwV 0 hts gX2_dropOut_X2_passTurn rfl rfl rfl (by decide +kernel) ⟨Nat.le_of_ble_eq_true rfl, Nat.le_of_ble_eq_true rfl⟩) hK hP hD hS hA 0 (ci := 2) rfl rfl rfl rfl rfl hl.1 (Nat.le_of_ble_eq_true rfl) dX2_dropOut_61 ⟨Nat.le_of_ble_eq_true rfl, Nat.le_of_ble_eq_true rfl⟩ (fun u_5 H locs hr_5 hP hD hS => ?_)
      have hP : va_P G.1 vwCl (tw G a (pasT (payT (tup T 6 (ix (T 10 1)) ((bitC (plB T)) - 1)) ((tup T 6 (ix (T 10 1)) ((bitC (plB T)) - 1)) 10 1) (((tup T 6 (ix (T 10 1)) ((bitC (plB T)) - 1)) 0) 3) 0))) H := hP
      have hD : va_D A (tw G a (pasT (payT (tup T 6 (ix (T 10 1)) ((bitC (plB T)) - 1)) ((tup T 6 (ix (T 10 1)) ((bitC (plB T)) - 1)) 10 1) (((tup T 6 (ix (T 10 1)) ((bitC (plB T)) - 1)) 0) 3) 0))) := hD
      refine lv_aload_n hx hb dX2_dropOut_64 rfl (lv_at hl 1 rfl) ?_
      refine va_get (D := G.1) (ci := 2) (v := .int ((pasT (payT (tup T 6 (ix (T 10 1)) ((bitC (plB T)) - 1)) ((tup T 6 (ix (T 10 1)) ((bitC (plB T)) - 1)) 10 1) (((tup T 6 (ix (T 10 1)) ((bitC (plB T)) - 1)) 0) 3) 0)) 10 1)) (C := RX2) (T := TX2) (N := 13) hx hb hts hinX2 hown hK.1 hP 0 rfl rfl 11 (by decide) wk1 (fun _ h9 => h9) rfl dX2_dropOut_65 ?_
      have hf0 : pasT (payT (tup T 6 (ix (T 10 1)) ((bitC (plB T)) - 1)) ((tup T 6 (ix (T 10 1)) ((bitC (plB T)) - 1)) 10 1) (((tup T 6 (ix (T 10 1)) ((bitC (plB T)) - 1)) 0) 3) 0) = drT T := (by simp only [drV, drT, drB, drA, lfB, if_neg c_7_1, if_neg c_50_4])
      rw [hf0] at hP hD
      exact hret _ _ _ _ _ () (by simp only [drV, drT, drB, drA, lfB, if_neg c_7_1, if_neg c_50_4]) hP hD hS dX2_dropOut_68
    · refine lv_aload_n hx hb dX2_dropOut_53 rfl (lv_at hl 1 rfl) ?_
      refine cAV (As := []) (rest := []) ⟨hx, hb, hml, hown, hts⟩ (c_X2_endAuction l G a (payT (tup T 6 (ix (T 10 1)) ((bitC (plB T)) - 1)) ((tup T 6 (ix (T 10 1)) ((bitC (plB T)) - 1)) 10 1) (((tup T 6 (ix (T 10 1)) ((bitC (plB T)) - 1)) 0) 3) 0) _) (cwV 0 hts gX2_dropOut_X2_endAuction rfl rfl rfl (by decide +kernel) ⟨Nat.le_of_ble_eq_true rfl, Nat.le_of_ble_eq_true rfl⟩) hK hP hD hS hA 0 (ci := 2) rfl rfl rfl rfl rfl hl.1 (Nat.le_of_ble_eq_true rfl) dX2_dropOut_54 ⟨Nat.le_of_ble_eq_true rfl, Nat.le_of_ble_eq_true rfl⟩ (fun u_6 H locs hr_6 hP hD hS => ?_)
      have hP : va_P G.1 vwCl (tw G a (endT (payT (tup T 6 (ix (T 10 1)) ((bitC (plB T)) - 1)) ((tup T 6 (ix (T 10 1)) ((bitC (plB T)) - 1)) 10 1) (((tup T 6 (ix (T 10 1)) ((bitC (plB T)) - 1)) 0) 3) 0))) H := hP
      have hD : va_D A (tw G a (endT (payT (tup T 6 (ix (T 10 1)) ((bitC (plB T)) - 1)) ((tup T 6 (ix (T 10 1)) ((bitC (plB T)) - 1)) 10 1) (((tup T 6 (ix (T 10 1)) ((bitC (plB T)) - 1)) 0) 3) 0))) := hD
      refine lv_goto (tgt := 64) hx hb dX2_dropOut_57 (by decide) ?_
      refine lv_aload_n hx hb dX2_dropOut_64 rfl (lv_at hl 1 rfl) ?_
      refine va_get (D := G.1) (ci := 2) (v := .int ((endT (payT (tup T 6 (ix (T 10 1)) ((bitC (plB T)) - 1)) ((tup T 6 (ix (T 10 1)) ((bitC (plB T)) - 1)) 10 1) (((tup T 6 (ix (T 10 1)) ((bitC (plB T)) - 1)) 0) 3) 0)) 10 1)) (C := RX2) (T := TX2) (N := 13) hx hb hts hinX2 hown hK.1 hP 0 rfl rfl 11 (by decide) wk1 (fun _ h9 => h9) rfl dX2_dropOut_65 ?_
      have hf0 : endT (payT (tup T 6 (ix (T 10 1)) ((bitC (plB T)) - 1)) ((tup T 6 (ix (T 10 1)) ((bitC (plB T)) - 1)) 10 1) (((tup T 6 (ix (T 10 1)) ((bitC (plB T)) - 1)) 0) 3) 0) = drT T := (by simp only [drV, drT, drB, drA, lfB, if_neg c_7_1, if_pos c_50_4])
      rw [hf0] at hP hD
      exact hret _ _ _ _ _ () (by simp only [drV, drT, drB, drA, lfB, if_neg c_7_1, if_pos c_50_4]) hP hD hS dX2_dropOut_68
  · refine lv_ldc (v := (-100006)) hx hb hown wk2 dX2_dropOut_10 ?_
    have hf0 : T = drT T := (by simp only [drV, drT, drB, drA, lfB, if_pos c_7_1])
    rw [hf0] at hP hD
    exact hret _ _ _ _ _ () (by simp only [drV, drT, drB, drA, lfB, if_pos c_7_1]) hP hD hS dX2_dropOut_12
set_option maxHeartbeats 4000000 in
set_option maxRecDepth 100000 in
theorem c_X2_actByLimit (l : Launch) (G : qG) (a : Nat → Nat) (T : Tb)  (sz : Nat) : MI l yX2_actByLimit wsX2_actByLimit 4 87 G sz [.ref (a 0)] (tw G a T) (acV T) (tw G a (acT T)) := by
  refine MI.of' (by decide) rfl (Nat.le_of_ble_eq_true rfl) ?_
  intro p e s m below meth c hx hb hml hown hts hK hsz hP A hAe hA hD hS Q hret ls hl
  have hown : s.vm.findClass RX2 = some m.cls := hown
  have hl : lv_has ls 2 [(0, .ref (a 0))] := hl
  have wk1 := hts (Cond.fieldLink RX2 47 "TurnBids$Table" "turn" "I") (List.mem_of_getElem? (i := 1) rfl)
  have wk2 := hts (Cond.fieldLink RX2 21 "TurnBids$Table" "limits" "[I") (List.mem_of_getElem? (i := 2) rfl)
  have wk3 := hts (Cond.methodLink RX2 74 yX2_leastBid) (List.mem_of_getElem? (i := 3) rfl)
  have wk16 := hts (Cond.static yX3_isPlayer) (List.mem_of_getElem? (i := 16) rfl)
  have wk17 := hts (Cond.initialized RX3) (List.mem_of_getElem? (i := 17) rfl)
  have wk19 := hts (Cond.methodLink RX2 99 yX2_mayBid) (List.mem_of_getElem? (i := 19) rfl)
  have wk24 := hts (Cond.methodLink RX2 102 yX2_takeBid) (List.mem_of_getElem? (i := 24) rfl)
  have wk38 := hts (Cond.methodLink RX2 105 yX2_dropOut) (List.mem_of_getElem? (i := 38) rfl)
  have hinX2 : ∀ w ∈ wsX20, w ∈ wsX2_actByLimit := fun _ h => (List.mem_cons_of_mem _ (List.mem_append_right _ h))
  refine lv_aload_n hx hb dX2_actByLimit_0 rfl (lv_at hl 0 rfl) ?_
  refine cPV (As := []) (rest := []) ⟨hx, hb, hml, hown, hts⟩ (c_X2_leastBid l G a T) (cwV 0 hts gX2_actByLimit_X2_leastBid rfl rfl rfl (by decide +kernel) ⟨Nat.le_of_ble_eq_true rfl, Nat.le_of_ble_eq_true rfl⟩) hK hP 0 (ci := 2) rfl rfl rfl rfl rfl hl.1 (Nat.le_of_ble_eq_true rfl) dX2_actByLimit_1 ⟨Nat.le_of_ble_eq_true rfl, Nat.le_of_ble_eq_true rfl⟩ ?_
  refine lv_istore_n (lv' := [(1, .int (leB T)), (0, .ref (a 0))]) hx hb dX2_actByLimit_4 rfl hl (by decide) rfl (fun ls hl => ?_)
  refine lv_aload_n hx hb dX2_actByLimit_5 rfl (lv_at hl 1 rfl) ?_
  refine va_get (D := G.1) (ci := 2) (v := .int (T 10 1)) (C := RX2) (T := TX2) (N := 13) hx hb hts hinX2 hown hK.1 hP 0 rfl rfl 11 (by decide) wk1 (fun _ h9 => h9) rfl dX2_actByLimit_6 ?_
  refine cPN (As := [.int (T 10 1)]) (rest := []) ⟨hx, hb, hml, hown, hts⟩ (c_X3_isPlayer l G (T 10 1)) ⟨va_cnB (host := RX3) 1 hts gX2_actByLimit_X3_isPlayer_n64 rfl rfl rfl hK.2.1.1 wk17 (by decide +kernel) ⟨Nat.le_of_ble_eq_true rfl, Nat.le_of_ble_eq_true rfl⟩, wk16, trivial⟩ hK (fun k q h => by simp at h) rfl rfl hl.1 (Nat.le_of_ble_eq_true rfl) dX2_actByLimit_9 ⟨Nat.le_of_ble_eq_true rfl, Nat.le_of_ble_eq_true rfl⟩ ?_
  refine lv_if_eq (tgt := 42) hx hb dX2_actByLimit_12 (by decide) (fun c_12_1 => ?_) (fun c_12_1 => ?_)
  · refine lv_aload_n hx hb dX2_actByLimit_42 rfl (lv_at hl 1 rfl) ?_
    refine cAI (As := []) (rest := []) ⟨hx, hb, hml, hown, hts⟩ (c_X2_dropOut l G a T _) (cwV 0 hts gX2_actByLimit_X2_dropOut rfl rfl rfl (by decide +kernel) ⟨Nat.le_of_ble_eq_true rfl, Nat.le_of_ble_eq_true rfl⟩) hK hP hD hS hA 0 (ci := 2) rfl rfl rfl rfl rfl hl.1 (Nat.le_of_ble_eq_true rfl) dX2_actByLimit_43 ⟨Nat.le_of_ble_eq_true rfl, Nat.le_of_ble_eq_true rfl⟩ (fun r_2 u_2 H locs hr_2 hP hD hS => ?_)
    have hr_2 : r_2 = drV T := hr_2
    subst hr_2
    have hP : va_P G.1 vwCl (tw G a (drT T)) H := hP
    have hD : va_D A (tw G a (drT T)) := hD
    have hf0 : drT T = acT T := (by simp only [acV, acT, if_pos c_12_1])
    rw [hf0] at hP hD
    exact hret _ _ _ _ _ () (by simp only [acV, acT, if_pos c_12_1]) hP hD hS dX2_actByLimit_46
  · have hin_3 := isPb_in c_12_1
    refine lv_iload_n hx hb dX2_actByLimit_15 rfl (lv_at hl 0 rfl) ?_
    refine lv_aload_n hx hb dX2_actByLimit_16 rfl (lv_at hl 1 rfl) ?_
    refine va_get (D := G.1) (ci := 2) (v := .ref (a 4)) (C := RX2) (T := TX2) (N := 13) hx hb hts hinX2 hown hK.1 hP 0 rfl rfl 3 (by decide) wk2 (fun _ h9 => h9) rfl dX2_actByLimit_17 ?_
    refine lv_aload_n hx hb dX2_actByLimit_20 rfl (lv_at hl 1 rfl) ?_
    refine va_get (D := G.1) (ci := 2) (v := .int (T 10 1)) (C := RX2) (T := TX2) (N := 13) hx hb hts hinX2 hown hK.1 hP 0 rfl rfl 11 (by decide) wk1 (fun _ h9 => h9) rfl dX2_actByLimit_21 ?_
    refine qild hx hb hK.1 hP 4 0 rfl rfl (k := ix (T 10 1)) rfl (by assumption) dX2_actByLimit_24 ?_
    refine lv_icmp_gt (tgt := 42) hx hb dX2_actByLimit_25 (by decide) (fun c_25_4 => ?_) (fun c_25_4 => ?_)
    · refine lv_aload_n hx hb dX2_actByLimit_42 rfl (lv_at hl 1 rfl) ?_
      refine cAI (As := []) (rest := []) ⟨hx, hb, hml, hown, hts⟩ (c_X2_dropOut l G a T _) (cwV 0 hts gX2_actByLimit_X2_dropOut rfl rfl rfl (by decide +kernel) ⟨Nat.le_of_ble_eq_true rfl, Nat.le_of_ble_eq_true rfl⟩) hK hP hD hS hA 0 (ci := 2) rfl rfl rfl rfl rfl hl.1 (Nat.le_of_ble_eq_true rfl) dX2_actByLimit_43 ⟨Nat.le_of_ble_eq_true rfl, Nat.le_of_ble_eq_true rfl⟩ (fun r_5 u_5 H locs hr_5 hP hD hS => ?_)
      have hr_5 : r_5 = drV T := hr_5
      subst hr_5
      have hP : va_P G.1 vwCl (tw G a (drT T)) H := hP
      have hD : va_D A (tw G a (drT T)) := hD
      have hf0 : drT T = acT T := (by simp only [acV, acT, if_neg c_12_1, if_pos c_25_4])
      rw [hf0] at hP hD
      exact hret _ _ _ _ _ () (by simp only [acV, acT, if_neg c_12_1, if_pos c_25_4]) hP hD hS dX2_actByLimit_46
    · refine lv_aload_n hx hb dX2_actByLimit_28 rfl (lv_at hl 1 rfl) ?_
      refine lv_iload_n hx hb dX2_actByLimit_29 rfl (lv_at hl 0 rfl) ?_
      refine cPV (As := [.int (leB T)]) (rest := []) ⟨hx, hb, hml, hown, hts⟩ (c_X2_mayBid l G a T (leB T)) (cwV 1 hts gX2_actByLimit_X2_mayBid rfl rfl rfl (by decide +kernel) ⟨Nat.le_of_ble_eq_true rfl, Nat.le_of_ble_eq_true rfl⟩) hK hP 0 (ci := 2) rfl rfl rfl rfl rfl hl.1 (Nat.le_of_ble_eq_true rfl) dX2_actByLimit_30 ⟨Nat.le_of_ble_eq_true rfl, Nat.le_of_ble_eq_true rfl⟩ ?_
      refine lv_if_eq (tgt := 42) hx hb dX2_actByLimit_33 (by decide) (fun c_33_6 => ?_) (fun c_33_6 => ?_)
      · refine lv_aload_n hx hb dX2_actByLimit_42 rfl (lv_at hl 1 rfl) ?_
        refine cAI (As := []) (rest := []) ⟨hx, hb, hml, hown, hts⟩ (c_X2_dropOut l G a T _) (cwV 0 hts gX2_actByLimit_X2_dropOut rfl rfl rfl (by decide +kernel) ⟨Nat.le_of_ble_eq_true rfl, Nat.le_of_ble_eq_true rfl⟩) hK hP hD hS hA 0 (ci := 2) rfl rfl rfl rfl rfl hl.1 (Nat.le_of_ble_eq_true rfl) dX2_actByLimit_43 ⟨Nat.le_of_ble_eq_true rfl, Nat.le_of_ble_eq_true rfl⟩ (fun r_7 u_7 H locs hr_7 hP hD hS => ?_)
        have hr_7 : r_7 = drV T := hr_7
        subst hr_7
        have hP : va_P G.1 vwCl (tw G a (drT T)) H := hP
        have hD : va_D A (tw G a (drT T)) := hD
        have hf0 : drT T = acT T := (by simp only [acV, acT, if_neg c_12_1, if_neg c_25_4, if_pos c_33_6])
        rw [hf0] at hP hD
        exact hret _ _ _ _ _ () (by simp only [acV, acT, if_neg c_12_1, if_neg c_25_4, if_pos c_33_6]) hP hD hS dX2_actByLimit_46
      · refine lv_aload_n hx hb dX2_actByLimit_36 rfl (lv_at hl 1 rfl) ?_
        refine lv_iload_n hx hb dX2_actByLimit_37 rfl (lv_at hl 0 rfl) ?_
        refine cAI (As := [.int (leB T)]) (rest := []) ⟨hx, hb, hml, hown, hts⟩ (c_X2_takeBid l G a T (leB T) _) (cwV 1 hts gX2_actByLimit_X2_takeBid rfl rfl rfl (by decide +kernel) ⟨Nat.le_of_ble_eq_true rfl, Nat.le_of_ble_eq_true rfl⟩) hK hP hD hS hA 0 (ci := 2) rfl rfl rfl rfl rfl hl.1 (Nat.le_of_ble_eq_true rfl) dX2_actByLimit_38 ⟨Nat.le_of_ble_eq_true rfl, Nat.le_of_ble_eq_true rfl⟩ (fun r_8 u_8 H locs hr_8 hP hD hS => ?_)
        have hr_8 : r_8 = takT T (leB T) 10 1 := hr_8
        subst hr_8
        have hP : va_P G.1 vwCl (tw G a (takT T (leB T))) H := hP
        have hD : va_D A (tw G a (takT T (leB T))) := hD
        have hf0 : takT T (leB T) = acT T := (by simp only [acV, acT, if_neg c_12_1, if_neg c_25_4, if_neg c_33_6])
        rw [hf0] at hP hD
        exact hret _ _ _ _ _ () (by simp only [acV, acT, if_neg c_12_1, if_neg c_25_4, if_neg c_33_6]) hP hD hS dX2_actByLimit_41
set_option maxHeartbeats 4000000 in
set_option maxRecDepth 100000 in
theorem c_X2_playRound (l : Launch) (G : qG) (a : Nat → Nat) (T : Tb)  (sz : Nat) : MI l yX2_playRound wsX2_playRound 5 108 G sz [.ref (a 0)] (tw G a T) (nI (prR T).2) (tw G a ((prR T).1)) := by
  refine MI.of' (by decide) rfl (Nat.le_of_ble_eq_true rfl) ?_
  intro p e s m below meth c hx hb hml hown hts hK hsz hP A hAe hA hD hS Q hret ls hl
  have hown : s.vm.findClass RX2 = some m.cls := hown
  have hl : lv_has ls 2 [(0, .ref (a 0))] := hl
  have wk1 := hts (Cond.fieldLink RX2 43 "TurnBids$Table" "underWay" "Z") (List.mem_of_getElem? (i := 1) rfl)
  have wk2 := hts (Cond.methodLink RX2 108 yX2_start) (List.mem_of_getElem? (i := 2) rfl)
  have wk14 := hts (Cond.methodLink RX2 111 yX2_actByLimit) (List.mem_of_getElem? (i := 14) rfl)
  have hinX2 : ∀ w ∈ wsX20, w ∈ wsX2_playRound := fun _ h => (List.mem_cons_of_mem _ (List.mem_append_right _ h))
  have L14 : ∀ (f n : Nat)  (U : Tb), n + f = 10000 → prL f n U = prR T → ∀ (H : Heap) (locs : List Loc), va_P G.1 vwCl (tw G a U) H → va_D A (tw G a U) → va_S A s.heap H locs → ∀ ls : Array Slot, lv_has ls 2 [(1, .int (nI n)), (0, .ref (a 0))] → W p l e { frames := 5, cells := 0, slots := 0, locals := 108 } s m ([.ref (a 0)] : List Value).toArray below meth c H locs 0 0 Q (F0 m 14 ls []) := by
    intro f
    induction f with
    | zero =>
      intro n U hi hv14 H locs hP hD hS ls hl
      obtain rfl : n = 10000 := by omega
      refine lv_aload_n hx hb dX2_playRound_14 rfl (lv_at hl 1 rfl) ?_
      refine va_get (D := G.1) (ci := 2) (v := .int (U 10 0)) (C := RX2) (T := TX2) (N := 13) hx hb hts hinX2 hown hK.1 hP 0 rfl rfl 10 (by decide) wk1 (fun _ h9 => h9) rfl dX2_playRound_15 ?_
      refine lv_if_eq (tgt := 39) hx hb dX2_playRound_18 (by decide) (fun c_18_1 => ?_) (fun c_18_1 => ?_)
      · refine lv_iload_n hx hb dX2_playRound_39 rfl (lv_at hl 0 rfl) ?_
        have hf0 : U = (prR T).1 := (by rw [← hv14]; simp only [prR, prL, if_pos c_18_1])
        rw [hf0] at hP hD
        exact hret _ _ _ _ _ () (by rw [← hv14]; simp only [prR, prL, if_pos c_18_1]) hP hD hS dX2_playRound_40
      · refine lv_iload_n hx hb dX2_playRound_21 rfl (lv_at hl 0 rfl) ?_
        refine lv_sipush (v := 10000) hx hb dX2_playRound_22 (by decide) ?_
        refine lv_icmp_ge (tgt := 39) hx hb dX2_playRound_25 (by decide) (fun _ => ?_) (fun c_9 => absurd (by decide +kernel) c_9)
        refine lv_iload_n hx hb dX2_playRound_39 rfl (lv_at hl 0 rfl) ?_
        have hf0 : U = (prR T).1 := (by rw [← hv14]; simp only [prR, prL, if_neg c_18_1])
        rw [hf0] at hP hD
        exact hret _ _ _ _ _ () (by rw [← hv14]; simp only [prR, prL, if_neg c_18_1]) hP hD hS dX2_playRound_40
    | succ f ih =>
      intro n U hi hv14 H locs hP hD hS ls hl
      have hlt : n < 10000 := by omega
      refine lv_aload_n hx hb dX2_playRound_14 rfl (lv_at hl 1 rfl) ?_
      refine va_get (D := G.1) (ci := 2) (v := .int (U 10 0)) (C := RX2) (T := TX2) (N := 13) hx hb hts hinX2 hown hK.1 hP 0 rfl rfl 10 (by decide) wk1 (fun _ h9 => h9) rfl dX2_playRound_15 ?_
      refine lv_if_eq (tgt := 39) hx hb dX2_playRound_18 (by decide) (fun c_18_2 => ?_) (fun c_18_2 => ?_)
      · refine lv_iload_n hx hb dX2_playRound_39 rfl (lv_at hl 0 rfl) ?_
        have hf0 : U = (prR T).1 := (by rw [← hv14]; simp only [prR, prL, if_pos c_18_2])
        rw [hf0] at hP hD
        exact hret _ _ _ _ _ () (by rw [← hv14]; simp only [prR, prL, if_pos c_18_2]) hP hD hS dX2_playRound_40
      · refine lv_iload_n hx hb dX2_playRound_21 rfl (lv_at hl 0 rfl) ?_
        refine lv_sipush (v := 10000) hx hb dX2_playRound_22 (by decide) ?_
        refine lv_icmp_ge (tgt := 39) hx hb dX2_playRound_25 (by decide) (fun c_9 => absurd c_9 (nI_ge (b := 10000) hlt (by decide))) (fun _ => ?_)
        refine lv_aload_n hx hb dX2_playRound_28 rfl (lv_at hl 1 rfl) ?_
        refine cAI (As := []) (rest := []) ⟨hx, hb, hml, hown, hts⟩ (c_X2_actByLimit l G a U _) (cwV 0 hts gX2_playRound_X2_actByLimit rfl rfl rfl (by decide +kernel) ⟨Nat.le_of_ble_eq_true rfl, Nat.le_of_ble_eq_true rfl⟩) hK hP hD hS hA 0 (ci := 2) rfl rfl rfl rfl rfl hl.1 (Nat.le_of_ble_eq_true rfl) dX2_playRound_29 ⟨Nat.le_of_ble_eq_true rfl, Nat.le_of_ble_eq_true rfl⟩ (fun r_3 u_3 H locs hr_3 hP hD hS => ?_)
        have hr_3 : r_3 = acV U := hr_3
        subst hr_3
        have hP : va_P G.1 vwCl (tw G a (acT U)) H := hP
        have hD : va_D A (tw G a (acT U)) := hD
        refine lv_pop hx hb dX2_playRound_32 rfl ?_
        refine lv_iinc (v := nI (n + 1)) (lv' := [(1, .int (nI (n + 1))), (0, .ref (a 0))]) hx hb dX2_playRound_33 hl (k := 0) rfl (nI_1 _) (by decide) rfl (fun ls hl => ?_)
        refine lv_goto (tgt := 14) hx hb dX2_playRound_36 (by decide) ?_
        exact ih (n + 1)  (acT U) (by omega) (by rw [← hv14]; simp only [prR, prL, if_neg c_18_2]) _ _ hP hD hS ls (lv_sub hl [0, 1] rfl)
  refine lv_aload_n hx hb dX2_playRound_0 rfl (lv_at hl 0 rfl) ?_
  refine va_get (D := G.1) (ci := 2) (v := .int (T 10 0)) (C := RX2) (T := TX2) (N := 13) hx hb hts hinX2 hown hK.1 hP 0 rfl rfl 10 (by decide) wk1 (fun _ h9 => h9) rfl dX2_playRound_1 ?_
  refine lv_if_ne (tgt := 12) hx hb dX2_playRound_4 (by decide) (fun c_4_4 => ?_) (fun c_4_4 => ?_)
  · refine lv_iconst (v := 0) hx hb dX2_playRound_12 (by decide) ?_
    refine lv_istore_n (lv' := [(1, .int 0), (0, .ref (a 0))]) hx hb dX2_playRound_13 rfl hl (by decide) rfl (fun ls hl => ?_)
    exact L14 10000 0  T rfl (by simp only [prR, if_neg c_4_4]) _ _ hP hD hS ls (lv_sub hl [0, 1] rfl)
  · refine lv_aload_n hx hb dX2_playRound_7 rfl (lv_at hl 0 rfl) ?_
    refine cAI (As := []) (rest := []) ⟨hx, hb, hml, hown, hts⟩ (c_X2_start l G a T _) (cwV 0 hts gX2_playRound_X2_start rfl rfl rfl (by decide +kernel) ⟨Nat.le_of_ble_eq_true rfl, Nat.le_of_ble_eq_true rfl⟩) hK hP hD hS hA 0 (ci := 2) rfl rfl rfl rfl rfl hl.1 (Nat.le_of_ble_eq_true rfl) dX2_playRound_8 ⟨Nat.le_of_ble_eq_true rfl, Nat.le_of_ble_eq_true rfl⟩ (fun r_5 u_5 H locs hr_5 hP hD hS => ?_)
    have hr_5 : r_5 = staT T 10 1 := hr_5
    subst hr_5
    have hP : va_P G.1 vwCl (tw G a (staT T)) H := hP
    have hD : va_D A (tw G a (staT T)) := hD
    refine lv_pop hx hb dX2_playRound_11 rfl ?_
    refine lv_iconst (v := 0) hx hb dX2_playRound_12 (by decide) ?_
    refine lv_istore_n (lv' := [(1, .int 0), (0, .ref (a 0))]) hx hb dX2_playRound_13 rfl hl (by decide) rfl (fun ls hl => ?_)
    exact L14 10000 0  (staT T) rfl (by simp only [prR, if_pos c_4_4]) _ _ hP hD hS ls (lv_sub hl [0, 1] rfl)
end
section
/-! CALLS WITH A FRAME: the callee has some of the cells (wc, at the places isC), the others (wr, at isR) stay -/
section FRAME
variable {p : Program} {l : Launch} {e : Env} {R : Room} {s : State} {m : MethodId} {args : Array Value} {below : List Frame} {meth : Method} {c : Code} {H H0 : Heap} {locs : List Loc} {cells slots : Nat} {Q : State → Prop}
variable {y : MethodName} {bytes cc : ByteArray} {maxL nL mc ms n index pc : Nat} {ret : Option FieldType} {ws : List Cond} {rm : Room} {Ts : List Cond} {own C host : String} {b : Addr} {As rest st : List Value} {ls : Array Slot} {G : qG} {wc w wr pl : va_W} {A : Nat → Prop}
theorem nodup_D {w wc : va_W} (hD : va_D A w) (isC : List Nat) (hn : va_nd isC = true) (hC : isC.map (fun i => w[i]?) = wc.map some) : va_D (fun _ => True) wc := (hD.sub isC hn hC).weaken (fun _ _ _ _ => trivial)
theorem part_P {H : Heap} {w wc : va_W} (hP : va_P G.1 vwCl w H) (isC : List Nat) (hC : isC.map (fun i => w[i]?) = wc.map some) : va_P G.1 vwCl wc H := by
  refine hP.by (fun k => (isC[k]?).getD 0) (fun k q hk => ?_)
  have h1 : (isC.map (fun i => w[i]?))[k]? = some (some q) := by rw [hC, List.getElem?_map, hk]; rfl
  rw [List.getElem?_map] at h1
  cases hi : isC[k]? with
  | none => rw [hi] at h1; cases h1
  | some i => rw [hi] at h1; exact Option.some.inj h1
theorem cut_app {w pl wc : va_W} (isC : List Nat) (hC : isC.map (fun i => w[i]?) = wc.map some) : isC.map (fun i => (w ++ pl)[i]?) = wc.map some := by
  rw [← hC]
  refine List.map_congr_left (fun i hi => ?_)
  have h : w[i]? ∈ isC.map (fun i => w[i]?) := List.mem_map.mpr ⟨i, hi, rfl⟩
  rw [hC] at h
  obtain ⟨q, -, hq⟩ := List.mem_map.mp h
  rw [List.getElem?_append_left (List.getElem?_eq_some_iff.mp hq.symm).1]
/-- a static writing method without an answer -/
theorem cBV {S : Type} {post : S → Prop} {w' : S → va_W} (X : CallFix p m c cc nL s args Ts own) (hM : Met l y ws rm (PW G H.size As wc) (QV G H.size wc post w') mc ms (va_A wc H.size)) (cw : CallB R s args own index y bytes maxL ret ws rm mc ms n ∧ (Cond.static y).before args s = true) (hK : KK G s) (hP : va_P G.1 vwCl w H) (hD : va_D A w) (hS : va_S A H0 H locs) (hA : ∀ q, H0.size ≤ q → A q)
    (isC isR : List Nat) (hC : isC.map (fun i => w[i]?) = wc.map some) (hR : isR.map (fun i => w[i]?) = wr.map some) (hnC : va_nd isC = true) (hn : va_nd isR = true) (hdis : ∀ i ∈ isR, i ∉ isC)
    (hst : st = As.reverse ++ rest) (hna : As.length = n) (hsize : ls.size = nL) (hr : (rest.map fun v => v.category).sum ≤ 8) (hdg : decode cc pc = .ok (.invokestatic index, 3)) (hf : cells + mc ≤ R.cells ∧ slots + ms ≤ R.slots)
    (kk : ∀ (u : S) (H1 : Heap) (locs1 : List Loc), post u → va_P G.1 vwCl (wr ++ w' u) H1 → va_D A (wr ++ w' u) → va_S A H0 H1 locs1 → W p l e R s m args below meth c H1 locs1 (cells + mc) (slots + ms) Q (F0 m (pc + 3) ls rest)) : W p l e R s m args below meth c H locs cells slots Q (F0 m pc ls st) := by
  have hF := va_free (wc := wc) hD hS hA isC hC
  have hPc := part_P hP isC hC
  have hDc := nodup_D hD isC hnC hC
  refine cRV (va_runS (g := F0 m pc ls st) X hM cw ⟨PW.blind, fun U hU hW => ⟨rfl, by rw [hU], by rw [hU]; exact hPc, hK.warm hW, hDc⟩⟩ rfl hna hsize hst (lv_room hr) hdg hf) hS hF (fun u H1 locs1 hp hP1 hD1 hk hS1 => ?_)
  obtain ⟨h1, h2⟩ := va_join hP hD isC isR hC hR hn hdis hk hF hP1 hD1
  exact kk u H1 locs1 hp h1 h2 hS1
/-- an object's writing method, no pool in the caller's world -/
theorem cFV {S : Type} {post : S → Prop} {w' : S → va_W} (X : CallFix p m c cc nL s args Ts own) (hM : Met l y ws rm (PW G H.size (.ref b :: As) wc) (QV G H.size wc post w') mc ms (va_A wc H.size)) (cw : CallW R s args own C index y bytes maxL ret ws rm mc ms n) (hK : KK G s) (hP : va_P G.1 vwCl w H) (hD : va_D A w) (hS : va_S A H0 H locs) (hA : ∀ q, H0.size ≤ q → A q)
    (isC isR : List Nat) (hC : isC.map (fun i => w[i]?) = wc.map some) (hR : isR.map (fun i => w[i]?) = wr.map some) (hnC : va_nd isC = true) (hn : va_nd isR = true) (hdis : ∀ i ∈ isR, i ∉ isC) (q0 : Nat) {ci : Nat} {q : vw_C} {fs : List Value} (hc : vwCl[ci]? = some q) (hq : q.1 = C) (he : wc[q0]? = some (b, .inr (ci, fs)))
    (hst : st = As.reverse ++ .ref b :: rest) (hna : As.length = n) (hsize : ls.size = nL) (hr : (rest.map fun v => v.category).sum ≤ 8) (hdg : decode cc pc = .ok (.invokevirtual index, 3)) (hf : cells + mc ≤ R.cells ∧ slots + ms ≤ R.slots)
    (kk : ∀ (u : S) (H1 : Heap) (locs1 : List Loc), post u → va_P G.1 vwCl (wr ++ w' u) H1 → va_D A (wr ++ w' u) → va_S A H0 H1 locs1 → W p l e R s m args below meth c H1 locs1 (cells + mc) (slots + ms) Q (F0 m (pc + 3) ls rest)) : W p l e R s m args below meth c H locs cells slots Q (F0 m pc ls st) := by
  subst hq
  have hF := va_free (wc := wc) hD hS hA isC hC
  have hPc := part_P hP isC hC
  have hDc := nodup_D hD isC hnC hC
  refine cRV (va_runV (g := F0 m pc ls st) X hM cw ⟨PW.blind, va_recv hK.1 hPc hc he, fun U hU hW => ⟨rfl, by rw [hU], by rw [hU]; exact hPc, hK.warm hW, hDc⟩⟩ rfl hna hsize hst (lv_room hr) hdg hf) hS hF (fun u H1 locs1 hp hP1 hD1 hk hS1 => ?_)
  obtain ⟨h1, h2⟩ := va_join hP hD isC isR hC hR hn hdis hk hF hP1 hD1
  exact kk u H1 locs1 hp h1 h2 hS1
/-- an object's writing method, a pool pl in the caller's world that the callee has not; no answer, or an int -/
theorem cQV {S : Type} {post : S → Prop} {w' : S → va_W} (X : CallFix p m c cc nL s args Ts own) (hM : Met l y ws rm (PW G H.size (.ref b :: As) wc) (QV G H.size wc post w') mc ms (va_A wc H.size)) (cw : CallW R s args own C index y bytes maxL ret ws rm mc ms n) (hK : KK G s) (hP : va_P G.1 vwCl (w ++ pl) H) (hD : va_D A (w ++ pl)) (hS : va_S A H0 H locs) (hA : ∀ q, H0.size ≤ q → A q)
    (isC isR : List Nat) (hC : isC.map (fun i => w[i]?) = wc.map some) (hR : isR.map (fun i => w[i]?) = wr.map some) (hnC : va_nd isC = true) (hn : va_nd isR = true) (hdis : ∀ i ∈ isR, i ∉ isC) (q0 : Nat) {ci : Nat} {q : vw_C} {fs : List Value} (hc : vwCl[ci]? = some q) (hq : q.1 = C) (he : wc[q0]? = some (b, .inr (ci, fs)))
    (hst : st = As.reverse ++ .ref b :: rest) (hna : As.length = n) (hsize : ls.size = nL) (hr : (rest.map fun v => v.category).sum ≤ 8) (hdg : decode cc pc = .ok (.invokevirtual index, 3)) (hf : cells + mc ≤ R.cells ∧ slots + ms ≤ R.slots)
    (kk : ∀ (u : S) (H1 : Heap) (locs1 : List Loc), post u → va_P G.1 vwCl ((wr ++ w' u) ++ pl) H1 → va_D A ((wr ++ w' u) ++ pl) → va_S A H0 H1 locs1 → W p l e R s m args below meth c H1 locs1 (cells + mc) (slots + ms) Q (F0 m (pc + 3) ls rest)) : W p l e R s m args below meth c H locs cells slots Q (F0 m pc ls st) := by
  subst hq
  have hC2 : isC.map (fun i => (w ++ pl)[i]?) = wc.map some := cut_app isC hC
  have hF := va_free (wc := wc) hD hS hA isC hC2
  have hPc := part_P hP isC hC2
  have hDc := nodup_D hD isC hnC hC2
  refine cRV (va_runV (g := F0 m pc ls st) X hM cw ⟨PW.blind, va_recv hK.1 hPc hc he, fun U hU hW => ⟨rfl, by rw [hU], by rw [hU]; exact hPc, hK.warm hW, hDc⟩⟩ rfl hna hsize hst (lv_room hr) hdg hf) hS hF (fun u H1 locs1 hp hP1 hD1 hk hS1 => ?_)
  obtain ⟨h1, h2⟩ := va_joinQ hP hD isC isR hC hR hn hdis hk hF hP1 hD1
  exact kk u H1 locs1 hp h1 h2 hS1
theorem cQI {S : Type} {post : Int32 → S → Prop} {w' : S → va_W} (X : CallFix p m c cc nL s args Ts own) (hM : Met l y ws rm (PW G H.size (.ref b :: As) wc) (QI G H.size wc post w') mc ms (va_A wc H.size)) (cw : CallW R s args own C index y bytes maxL ret ws rm mc ms n) (hK : KK G s) (hP : va_P G.1 vwCl (w ++ pl) H) (hD : va_D A (w ++ pl)) (hS : va_S A H0 H locs) (hA : ∀ q, H0.size ≤ q → A q)
    (isC isR : List Nat) (hC : isC.map (fun i => w[i]?) = wc.map some) (hR : isR.map (fun i => w[i]?) = wr.map some) (hnC : va_nd isC = true) (hn : va_nd isR = true) (hdis : ∀ i ∈ isR, i ∉ isC) (q0 : Nat) {ci : Nat} {q : vw_C} {fs : List Value} (hc : vwCl[ci]? = some q) (hq : q.1 = C) (he : wc[q0]? = some (b, .inr (ci, fs)))
    (hst : st = As.reverse ++ .ref b :: rest) (hna : As.length = n) (hsize : ls.size = nL) (hr : (rest.map fun v => v.category).sum ≤ 8) (hdg : decode cc pc = .ok (.invokevirtual index, 3)) (hf : cells + mc ≤ R.cells ∧ slots + ms ≤ R.slots)
    (kk : ∀ (r : Int32) (u : S) (H1 : Heap) (locs1 : List Loc), post r u → va_P G.1 vwCl ((wr ++ w' u) ++ pl) H1 → va_D A ((wr ++ w' u) ++ pl) → va_S A H0 H1 locs1 → W p l e R s m args below meth c H1 locs1 (cells + mc) (slots + ms) Q (F0 m (pc + 3) ls (.int r :: rest))) : W p l e R s m args below meth c H locs cells slots Q (F0 m pc ls st) := by
  subst hq
  have hC2 : isC.map (fun i => (w ++ pl)[i]?) = wc.map some := cut_app isC hC
  have hF := va_free (wc := wc) hD hS hA isC hC2
  have hPc := part_P hP isC hC2
  have hDc := nodup_D hD isC hnC hC2
  refine cRI (va_runV (g := F0 m pc ls st) X hM cw ⟨PW.blind, va_recv hK.1 hPc hc he, fun U hU hW => ⟨rfl, by rw [hU], by rw [hU]; exact hPc, hK.warm hW, hDc⟩⟩ rfl hna hsize hst (lv_room hr) hdg hf) hS hF (fun r u H1 locs1 hp hP1 hD1 hk hS1 => ?_)
  obtain ⟨h1, h2⟩ := va_joinQ hP hD isC isR hC hR hn hdis hk hF hP1 hD1
  exact kk r u H1 locs1 hp h1 h2 hS1
/-- .. a pool that the callee has -/
theorem cPoolV {S : Type} {post : S → Prop} {w' : S → va_W} {pl' : S → va_W} (X : CallFix p m c cc nL s args Ts own) (hM : Met l y ws rm (PW G H.size (.ref b :: As) (wc ++ pl)) (QV G H.size (wc ++ pl) post (fun u => w' u ++ pl' u)) mc ms (va_A (wc ++ pl) H.size)) (cw : CallW R s args own C index y bytes maxL ret ws rm mc ms n) (hK : KK G s) (hP : va_P G.1 vwCl (w ++ pl) H) (hD : va_D A (w ++ pl)) (hS : va_S A H0 H locs) (hA : ∀ q, H0.size ≤ q → A q)
    (isC isR : List Nat) (hC : isC.map (fun i => w[i]?) = wc.map some) (hR : isR.map (fun i => w[i]?) = wr.map some) (hnC : va_nd isC = true) (hn : va_nd isR = true) (hdis : ∀ i ∈ isR, i ∉ isC) (q0 : Nat) {ci : Nat} {q : vw_C} {fs : List Value} (hc : vwCl[ci]? = some q) (hq : q.1 = C) (he : wc[q0]? = some (b, .inr (ci, fs)))
    (hst : st = As.reverse ++ .ref b :: rest) (hna : As.length = n) (hsize : ls.size = nL) (hr : (rest.map fun v => v.category).sum ≤ 8) (hdg : decode cc pc = .ok (.invokevirtual index, 3)) (hf : cells + mc ≤ R.cells ∧ slots + ms ≤ R.slots)
    (kk : ∀ (u : S) (H1 : Heap) (locs1 : List Loc), post u → va_P G.1 vwCl ((wr ++ w' u) ++ pl' u) H1 → va_D A ((wr ++ w' u) ++ pl' u) → va_S A H0 H1 locs1 → W p l e R s m args below meth c H1 locs1 (cells + mc) (slots + ms) Q (F0 m (pc + 3) ls rest)) : W p l e R s m args below meth c H locs cells slots Q (F0 m pc ls st) := by
  subst hq
  have hF := va_freeP hD hS hA isC hC
  have hPc := hP.part isC hC
  have hDc : va_D (fun _ => True) (wc ++ pl) := (hD.part isC hnC hC).weaken (fun _ _ _ _ => trivial)
  have he2 : (wc ++ pl)[q0]? = some (b, .inr (ci, fs)) := by rw [List.getElem?_append_left (List.getElem?_eq_some_iff.mp he).1]; exact he
  refine cRV (va_runV (g := F0 m pc ls st) X hM cw ⟨PW.blind, va_recv hK.1 hPc hc he2, fun U hU hW => ⟨rfl, by rw [hU], by rw [hU]; exact hPc, hK.warm hW, hDc⟩⟩ rfl hna hsize hst (lv_room hr) hdg hf) hS hF (fun u H1 locs1 hp hP1 hD1 hk hS1 => ?_)
  obtain ⟨h1, h2⟩ := va_joinP hP hD isC isR hC hR hn hdis hk hF hP1 hD1
  exact kk u H1 locs1 hp h1 h2 hS1
end FRAME
end
section
/-! THE MEANING of the reference's state (the row z), and what each of its steps needs of it -/
def inB (v lo hi : Int32) : Int32 := if v < lo then 0 else if hi < v then 0 else 1
theorem inB_nar (v lo hi : Int32) : narrow .boolean (.int (inB v lo hi)) = .int (inB v lo hi) := by
  unfold inB
  split
  · rfl
  · split <;> rfl
theorem inB5 {x : Int32} (h : ¬ inB x 0 4 = 0) : vp_in x 5 := by
  unfold inB at h
  split at h
  · exact absurd rfl h
  · split at h
    · exact absurd rfl h
    · rename_i h1 h2
      rcases pk_ix x (n := 5) (by decide) with h3 | h3 | ⟨j, hj, rfl⟩
      · exact absurd h3 h1
      · refine absurd (Int32.lt_iff_toInt_lt.mpr ?_) h2
        have h4 := Int32.le_iff_toInt_le.mp h3
        have e5 : (nI 5).toInt = 5 := nI_toInt (by decide)
        have e4 : (4 : Int32).toInt = 4 := by decide
        omega
      · exact vp_in_nI hj (by decide)
def smL (z : Nat → Int32) (w : Nat) : Nat → Nat → Int32 → Int32
  | 0, _, k => k
  | f + 1, i, k => smL z w f (i + 1) (k + z (w + i))
def smB (z : Nat → Int32) (w : Nat) : Int32 := smL z w 5 0 0
def mAtL (z : Nat → Int32) (x : Int32) : Nat → Nat → Int32 → Int32
  | 0, _, r => r
  | f + 1, i, r => mAtL z x f (i + 1) (if z (18 + i) = x then nI i else r)
def mAt (z : Nat → Int32) (x : Int32) : Int32 := mAtL z x 5 0 (-100006)
def clL : Nat → Nat → (Nat → Int32) → (Nat → Int32)
  | 0, _, z => z
  | f + 1, i, z => clL f (i + 1) (upd (upd z (23 + i) (-100006)) (28 + i) (-100006))
def clZ (z : Nat → Int32) : Nat → Int32 := clL 5 0 (upd (upd (upd z 4 0) 5 (-100006)) 6 (-100006))
def lsZ (z : Nat → Int32) : Int32 := if z 6 = (-100006) then z 1 else z 6 + z 0
def bgZ (z : Nat → Int32) : Nat → Int32 := upd (upd (clZ z) 4 1) 5 (mAt (upd (clZ z) 4 1) 0)
def nxt (j : Nat) : Nat := (j + 1) % 5
def npL (z : Nat → Int32) : Nat → Nat → Nat
  | 0, j => nxt j
  | f + 1, j => if z (28 + ix (mAt z (nI (nxt j)))) = (-100006) then nxt j else npL z f (nxt j)
def sdP (z : Nat → Int32) : Nat → Nat → Prop
  | 0, j => z (28 + ix (mAt z (nI (nxt j)))) = (-100006)
  | f + 1, j => z (28 + ix (mAt z (nI (nxt j)))) = (-100006) ∨ sdP z f (nxt j)
def psZ (z : Nat → Int32) : Nat → Int32 := upd z 5 (mAt z (nI (npL z 4 (ix (z (18 + ix (z 5)))))))
/-- the turn can pass -/
def PaOK (z : Nat → Int32) : Prop := vp_in (z 5) 5 ∧ vp_in (z (18 + ix (z 5))) 5 ∧ (∀ j, j < 5 → vp_in (mAt z (nI j)) 5) ∧ sdP z 4 (ix (z (18 + ix (z 5))))
def pyZ (z : Nat → Int32) (x k : Int32) : Nat → Int32 := upd (upd z (8 + ix x) (z (8 + ix x) - k)) (33 + ix x) (upd z (8 + ix x) (z (8 + ix x) - k) (33 + ix x) + k)
def cbZ (z : Nat → Int32) (k : Int32) : Int32 := if k < lsZ z then 0 else if z (8 + ix (z 5)) < k then 0 else 1
theorem cbZ_nar (z : Nat → Int32) (k : Int32) : narrow .boolean (.int (cbZ z k)) = .int (cbZ z k) := by
  unfold cbZ
  split
  · rfl
  · split <;> rfl
def bdA (z : Nat → Int32) (k : Int32) : Nat → Int32 := upd (upd z (23 + ix (z 5)) k) 6 k
def bdZ (z : Nat → Int32) (k : Int32) : Nat → Int32 := psZ (bdA z k)
def BdOK (z : Nat → Int32) (k : Int32) : Prop := vp_in (z 5) 5 ∧ PaOK (bdA z k)
def lfL (z : Nat → Int32) : Nat → Nat → Int32 → Int32
  | 0, _, n => n
  | f + 1, i, n => lfL z f (i + 1) (if z (28 + i) = (-100006) then n + 1 else n + 0)
def lfZ (z : Nat → Int32) : Int32 := lfL z 5 0 0
def mhL (z : Nat → Int32) (k : Nat) : Nat → Nat → Int32 → Int32
  | 0, _, n => n
  | f + 1, j, n => mhL z k f (j + 1) (if z (48 + k) < z (48 + j) then n + 1 else if z (48 + j) = z (48 + k) then (if nI k ≤ nI j then n + 0 else n + 1) else n + 0)
def mpL (z : Nat → Int32) (x : Int32) : Nat → Nat → Int32 → Int32
  | 0, _, r => r
  | f + 1, k, r => mpL z x f (k + 1) (if mhL z k 5 0 0 = x then z (48 + k) else r)
def mpZ (z : Nat → Int32) (x : Int32) : Int32 := mpL z x 5 0 0
def ndA (z : Nat → Int32) (w : Int32) : Nat → Int32 := if z (23 + ix w) = (-100006) then z else pyZ z w ((z (23 + ix w) * z 2 + 99) / 100)
def ndB (z : Nat → Int32) (w : Int32) : Nat → Int32 := upd (upd (ndA z w) (28 + ix w) 0) (43 + ix w) (upd (ndA z w) (28 + ix w) 0 (43 + ix w) + 1)
def nd1 (z : Nat → Int32) (i : Nat) : Nat → Int32 := upd z (18 + i) (z (28 + i))
def nd2 (z : Nat → Int32) (i : Nat) (k : Int32) : Nat → Int32 := upd z (8 + i) (if k ≤ 9999 then k else 9999)
def nd3 (z : Nat → Int32) (i : Nat) (pz : Int32) : Nat → Int32 := upd z (38 + i) (z (38 + i) + pz)
def ndS (z : Nat → Int32) (i : Nat) : Nat → Int32 := nd3 (nd2 (nd1 z i) i (z (8 + i) + mpZ z (z (28 + i)))) i (mpZ z (z (28 + i)))
def ndL : Nat → Nat → (Nat → Int32) → (Nat → Int32)
  | 0, _, z => z
  | f + 1, i, z => ndL f (i + 1) (ndS z i)
def ndE (z : Nat → Int32) : Nat → Int32 := clZ (upd z 7 (z 7 + 1))
def ndZ (z : Nat → Int32) (w : Int32) : Nat → Int32 := ndE (ndL 5 0 (ndB z w))
def doA (z : Nat → Int32) : Nat → Int32 := if z (23 + ix (z 5)) = (-100006) then z else pyZ z (z 5) (z (23 + ix (z 5)) * z 3 / 100)
def doZ (z : Nat → Int32) : Nat → Int32 := if lfZ z - 1 ≤ 1 then ndZ (upd (psZ (doA z)) (28 + ix (z 5)) (lfZ z - 1)) (upd (psZ (doA z)) (28 + ix (z 5)) (lfZ z - 1) 5) else psZ (upd (doA z) (28 + ix (z 5)) (lfZ z - 1))
def DrOK (z : Nat → Int32) : Prop := vp_in (z 5) 5 ∧ (lfZ z - 1 ≤ 1 → PaOK (doA z) ∧ vp_in (upd (psZ (doA z)) (28 + ix (z 5)) (lfZ z - 1) 5) 5) ∧ (¬ lfZ z - 1 ≤ 1 → PaOK (upd (doA z) (28 + ix (z 5)) (lfZ z - 1)))
def acZ (z : Nat → Int32) : Nat → Int32 := if z (13 + ix (z 5)) < lsZ z then doZ z else if cbZ z (lsZ z) = 0 then doZ z else bdZ z (lsZ z)
def AcOK (z : Nat → Int32) : Prop := vp_in (z 5) 5 ∧ DrOK z ∧ (¬ z (13 + ix (z 5)) < lsZ z → ¬ cbZ z (lsZ z) = 0 → BdOK z (lsZ z))
def fiL : Nat → Nat → (Nat → Int32) → (Nat → Int32) × Nat
  | 0, n, z => (z, n)
  | f + 1, n, z => if z 4 = 1 then fiL f (n + 1) (acZ z) else (z, n)
def fiR (z : Nat → Int32) : (Nat → Int32) × Nat := fiL 10000 0 (if z 4 = 0 then bgZ z else z)
def foP : Nat → (Nat → Int32) → Prop
  | 0, z => ¬ z 4 = 1
  | f + 1, z => z 4 = 1 → AcOK z ∧ foP f (acZ z)
def FiOK (z : Nat → Int32) : Prop := foP 10000 (if z 4 = 0 then bgZ z else z)
def mbZ (z : Nat → Int32) (k : Int32) : Int32 := if z 4 = 1 then (if cbZ z k = 0 then 0 else 1) else 0
theorem mbZ_nar (z : Nat → Int32) (k : Int32) : narrow .boolean (.int (mbZ z k)) = .int (mbZ z k) := by
  unfold mbZ
  repeat' split
  all_goals rfl
def lsL (z : Nat → Int32) : Nat → Nat → Int32 → Int32
  | 0, _, n => n
  | f + 1, i, n => if z 4 = 1 then lsL z f (i + 1) (if z (28 + i) = (-100006) then n ||| ((1 : Int32) <<< (nI i &&& 31)) else n ||| 0) else n
def lmZ (z : Nat → Int32) : Int32 := lsL z 5 0 0
def ivB (k v : Int32) : Int32 := if k = 0 then inB v 1 9 else if k = 1 then inB v 0 20 else if k = 2 then inB v 0 100 else if k = 3 then inB v 0 100 else 0
/-- the history: what is recorded of z in pa, with n states there -/
def shA (pa : Nat → Int32) : Nat → Int32 := fun k => if k < 265 then pa (k + 53) else pa k
def rcA (z pa : Nat → Int32) (n : Nat) : Nat → Int32 := if n = 6 then va_cpy z (shA pa) 0 265 53 else va_cpy z pa 0 (53 * n) 53
def rcN (n : Nat) : Nat := if n = 6 then 6 else n + 1
theorem cpy_succ (f g : Nat → Int32) (fa ta i : Nat) : upd (va_cpy f g fa ta i) (ta + i) (f (fa + i)) = va_cpy f g fa ta (i + 1) := by
  funext k
  by_cases h : k = ta + i
  · subst h
    rw [pk_us, pk_cpy_in (by omega) (by omega), Nat.add_sub_cancel_left]
  · rw [pk_un h]
    by_cases h2 : ta ≤ k ∧ k < ta + i
    · rw [pk_cpy_in h2.1 h2.2, pk_cpy_in h2.1 (by omega)]
    · rw [pk_cpy_out (by omega), pk_cpy_out (by omega)]
theorem cpy_0 (f g : Nat → Int32) (fa ta : Nat) : va_cpy f g fa ta 0 = g := by
  funext k
  exact pk_cpy_out (by omega)
/-- a whole row onto a row of 53 -/
theorem cpy_all (f g : Nat → Int32) (fa : Nat) : ∀ k, k < 53 → (fun j => f (fa + j)) k = va_cpy f g fa 0 53 k := fun k hk => by rw [pk_cpy_in (Nat.zero_le k) (by omega)]; simp
theorem cpy_all0 (f g : Nat → Int32) : ∀ k, k < 53 → f k = va_cpy f g 0 0 53 k := fun k hk => by rw [pk_cpy_in (Nat.zero_le k) (by omega)]; simp
end
section
/-! CONTRACTS of the reference: its steps (laid by wip/whole/gen/mod.py) -/
set_option maxHeartbeats 4000000 in
set_option maxRecDepth 100000 in
theorem c_X4_in (l : Launch) (G : qG) (x lo hi : Int32) : MP l yX4_in wsX4_in 0 0 G [.int x, .int lo, .int hi] ([]) (inB x lo hi) := by
  refine MP.of (ty := .boolean) (by decide) rfl (Nat.le_of_ble_eq_true rfl) (inB_nar x lo hi) ?_
  intro p e s m below meth c hx hb hml hown hts hK hP Q hret ls hl
  have hown : s.vm.findClass RX4 = some m.cls := hown
  have hl : lv_has ls 3 [(0, .int x), (1, .int lo), (2, .int hi)] := hl
  refine lv_iload_n hx hb dX4_in_0 rfl (lv_at hl 0 rfl) ?_
  refine lv_iload_n hx hb dX4_in_1 rfl (lv_at hl 1 rfl) ?_
  refine lv_icmp_lt (tgt := 14) hx hb dX4_in_2 (by decide) (fun c_2_1 => ?_) (fun c_2_1 => ?_)
  · refine lv_iconst (v := 0) hx hb dX4_in_14 (by decide) ?_
    exact hret _ _ _ (by simp only [inB, if_pos c_2_1]) dX4_in_15
  · refine lv_iload_n hx hb dX4_in_5 rfl (lv_at hl 0 rfl) ?_
    refine lv_iload_n hx hb dX4_in_6 rfl (lv_at hl 2 rfl) ?_
    refine lv_icmp_gt (tgt := 14) hx hb dX4_in_7 (by decide) (fun c_7_2 => ?_) (fun c_7_2 => ?_)
    · refine lv_iconst (v := 0) hx hb dX4_in_14 (by decide) ?_
      exact hret _ _ _ (by simp only [inB, if_neg c_2_1, if_pos c_7_2]) dX4_in_15
    · refine lv_iconst (v := 1) hx hb dX4_in_10 (by decide) ?_
      refine lv_goto (tgt := 15) hx hb dX4_in_11 (by decide) ?_
      exact hret _ _ _ (by simp only [inB, if_neg c_2_1, if_neg c_7_2]) dX4_in_15
set_option maxHeartbeats 4000000 in
set_option maxRecDepth 100000 in
theorem c_X4_isPlayer (l : Launch) (G : qG) (x : Int32) : MP l yX4_isPlayer wsX4_isPlayer 1 22 G [.int x] ([]) (inB x 0 4) := by
  refine MP.of (ty := .boolean) (by decide) rfl (Nat.le_of_ble_eq_true rfl) (inB_nar x 0 4) ?_
  intro p e s m below meth c hx hb hml hown hts hK hP Q hret ls hl
  have hown : s.vm.findClass RX4 = some m.cls := hown
  have hl : lv_has ls 1 [(0, .int x)] := hl
  have wk1 := hts (Cond.methodLink RX4 35 yX4_in) (List.mem_of_getElem? (i := 1) rfl)
  refine lv_iload_n hx hb dX4_isPlayer_0 rfl (lv_at hl 0 rfl) ?_
  refine lv_iconst (v := 0) hx hb dX4_isPlayer_1 (by decide) ?_
  refine lv_iconst (v := 4) hx hb dX4_isPlayer_2 (by decide) ?_
  refine cPS (As := [.int x, .int 0, .int 4]) (rest := []) ⟨hx, hb, hml, hown, hts⟩ (c_X4_in l G x 0 4) (cwS 3 hts gX4_isPlayer_X4_in rfl rfl rfl (by decide +kernel) ⟨Nat.le_of_ble_eq_true rfl, Nat.le_of_ble_eq_true rfl⟩) hK (fun k q h => by simp at h) rfl rfl hl.1 (Nat.le_of_ble_eq_true rfl) dX4_isPlayer_3 ⟨Nat.le_of_ble_eq_true rfl, Nat.le_of_ble_eq_true rfl⟩ ?_
  exact hret _ _ _ (by rfl) dX4_isPlayer_6
set_option maxHeartbeats 4000000 in
set_option maxRecDepth 100000 in
theorem c_X4_sum (l : Launch) (G : qG) (a : Nat → Nat) (z sp pa st sv pd tl : Nat → Int32) (ns ty spt tm : Int32) (w : Nat) (hw : w + 5 ≤ 53)  : MP l yX4_sum wsX4_sum 0 0 G [.ref (a 0), .int (nI w)] (mw G a z sp pa st sv pd tl ns ty spt tm) (smB z w) := by
  refine MP.of (ty := .int) (by decide) rfl (Nat.le_of_ble_eq_true rfl) rfl ?_
  intro p e s m below meth c hx hb hml hown hts hK hP Q hret ls hl
  have hown : s.vm.findClass RX4 = some m.cls := hown
  have hl : lv_has ls 4 [(0, .ref (a 0)), (1, .int (nI w))] := hl
  have wk1 := hts (Cond.fieldLink RX4 7 "TurnBidsModel" "z" "[I") (List.mem_of_getElem? (i := 1) rfl)
  have hinX4 : ∀ w ∈ wsX40, w ∈ wsX4_sum := fun _ h => (List.mem_cons_of_mem _ (List.mem_append_right _ h))
  refine lv_iconst (v := 0) hx hb dX4_sum_0 (by decide) ?_
  refine lv_istore_n (lv' := [(2, .int 0), (0, .ref (a 0)), (1, .int (nI w))]) hx hb dX4_sum_1 rfl hl (by decide) rfl (fun ls hl => ?_)
  refine lv_iconst (v := 0) hx hb dX4_sum_2 (by decide) ?_
  refine lv_istore_n (lv' := [(3, .int 0), (2, .int 0), (0, .ref (a 0)), (1, .int (nI w))]) hx hb dX4_sum_3 rfl hl (by decide) rfl (fun ls hl => ?_)
  have L4 : ∀ (f i : Nat) (k : Int32), i + f = 5 → smL z w f i k = smB z w → ∀ ls : Array Slot, lv_has ls 4 [(3, .int (nI i)), (2, .int k), (0, .ref (a 0)), (1, .int (nI w))] → W p l e { frames := 0, cells := 0, slots := 0, locals := 0 } s m ([.ref (a 0), .int (nI w)] : List Value).toArray below meth c s.heap [] 0 0 Q (F0 m 4 ls []) := by
    intro f
    induction f with
    | zero =>
      intro i k hi hv4 ls hl
      obtain rfl : i = 5 := by omega
      refine lv_iload_n hx hb dX4_sum_4 rfl (lv_at hl 0 rfl) ?_
      refine lv_iconst (v := 5) hx hb dX4_sum_5 (by decide) ?_
      refine lv_icmp_ge (tgt := 26) hx hb dX4_sum_6 (by decide) (fun _ => ?_) (fun c_9 => absurd (by decide +kernel) c_9)
      refine lv_iload_n hx hb dX4_sum_26 rfl (lv_at hl 1 rfl) ?_
      exact hret _ _ _ (by rw [← hv4]; simp only [smB, smL]) dX4_sum_27
    | succ f ih =>
      intro i k hi hv4 ls hl
      have hlt : i < 5 := by omega
      refine lv_iload_n hx hb dX4_sum_4 rfl (lv_at hl 0 rfl) ?_
      refine lv_iconst (v := 5) hx hb dX4_sum_5 (by decide) ?_
      refine lv_icmp_ge (tgt := 26) hx hb dX4_sum_6 (by decide) (fun c_9 => absurd c_9 (nI_ge (b := 5) hlt (by decide))) (fun _ => ?_)
      refine lv_iload_n hx hb dX4_sum_9 rfl (lv_at hl 1 rfl) ?_
      refine lv_aload_n hx hb dX4_sum_10 rfl (lv_at hl 2 rfl) ?_
      refine va_get (D := G.1) (ci := 4) (v := .ref (a 1)) (C := RX4) (T := TX4) (N := 11) hx hb hts hinX4 hown hK.1 hP 0 rfl rfl 0 (by decide) wk1 (fun _ h9 => h9) rfl dX4_sum_11 ?_
      refine lv_iload_n hx hb dX4_sum_14 rfl (lv_at hl 3 rfl) ?_
      refine lv_iload_n hx hb dX4_sum_15 rfl (lv_at hl 0 rfl) ?_
      refine lv_iadd hx hb dX4_sum_16 ?_
      refine qtop (nI_add w i) ?_
      refine qild hx hb hK.1 hP 1 0 rfl rfl (k := w + i) (nI_clamp (by omega)) (vp_in_nI (by omega) (by decide)) dX4_sum_17 ?_
      refine lv_iadd hx hb dX4_sum_18 ?_
      refine lv_istore_n (lv' := [(2, .int (k + (z (w + i)))), (3, .int (nI i)), (0, .ref (a 0)), (1, .int (nI w))]) hx hb dX4_sum_19 rfl hl (by decide) rfl (fun ls hl => ?_)
      refine lv_iinc (v := nI (i + 1)) (lv' := [(3, .int (nI (i + 1))), (2, .int (k + (z (w + i)))), (0, .ref (a 0)), (1, .int (nI w))]) hx hb dX4_sum_20 hl (k := 1) rfl (nI_1 _) (by decide) rfl (fun ls hl => ?_)
      refine lv_goto (tgt := 4) hx hb dX4_sum_23 (by decide) ?_
      exact ih (i + 1) (k + (z (w + i))) (by omega) (by rw [← hv4]; simp only [smB, smL]) ls (lv_sub hl [0, 1, 2, 3] rfl)
  exact L4 5 0 0 rfl (by simp only [smB]) ls (lv_sub hl [0, 1, 2, 3] rfl)
set_option maxHeartbeats 4000000 in
set_option maxRecDepth 100000 in
theorem c_X4_playerAt (l : Launch) (G : qG) (a : Nat → Nat) (z sp pa st sv pd tl : Nat → Int32) (ns ty spt tm : Int32) (x : Int32) : MP l yX4_playerAt wsX4_playerAt 0 0 G [.ref (a 0), .int x] (mw G a z sp pa st sv pd tl ns ty spt tm) (mAt z x) := by
  refine MP.of (ty := .int) (by decide) rfl (Nat.le_of_ble_eq_true rfl) rfl ?_
  intro p e s m below meth c hx hb hml hown hts hK hP Q hret ls hl
  have hown : s.vm.findClass RX4 = some m.cls := hown
  have hl : lv_has ls 4 [(0, .ref (a 0)), (1, .int x)] := hl
  have wk1 := hts (Cond.constant RX4 39 (-100006)) (List.mem_of_getElem? (i := 1) rfl)
  have wk2 := hts (Cond.fieldLink RX4 7 "TurnBidsModel" "z" "[I") (List.mem_of_getElem? (i := 2) rfl)
  have hinX4 : ∀ w ∈ wsX40, w ∈ wsX4_playerAt := fun _ h => (List.mem_cons_of_mem _ (List.mem_append_right _ h))
  refine lv_ldc (v := (-100006)) hx hb hown wk1 dX4_playerAt_0 ?_
  refine lv_istore_n (lv' := [(2, .int (-100006)), (0, .ref (a 0)), (1, .int x)]) hx hb dX4_playerAt_2 rfl hl (by decide) rfl (fun ls hl => ?_)
  refine lv_iconst (v := 0) hx hb dX4_playerAt_3 (by decide) ?_
  refine lv_istore_n (lv' := [(3, .int 0), (2, .int (-100006)), (0, .ref (a 0)), (1, .int x)]) hx hb dX4_playerAt_4 rfl hl (by decide) rfl (fun ls hl => ?_)
  have L5 : ∀ (f i : Nat) (k : Int32), i + f = 5 → mAtL z x f i k = mAt z x → ∀ ls : Array Slot, lv_has ls 4 [(3, .int (nI i)), (2, .int k), (0, .ref (a 0)), (1, .int x)] → W p l e { frames := 0, cells := 0, slots := 0, locals := 0 } s m ([.ref (a 0), .int x] : List Value).toArray below meth c s.heap [] 0 0 Q (F0 m 5 ls []) := by
    intro f
    induction f with
    | zero =>
      intro i k hi hv5 ls hl
      obtain rfl : i = 5 := by omega
      refine lv_iload_n hx hb dX4_playerAt_5 rfl (lv_at hl 0 rfl) ?_
      refine lv_iconst (v := 5) hx hb dX4_playerAt_6 (by decide) ?_
      refine lv_icmp_ge (tgt := 35) hx hb dX4_playerAt_7 (by decide) (fun _ => ?_) (fun c_9 => absurd (by decide +kernel) c_9)
      refine lv_iload_n hx hb dX4_playerAt_35 rfl (lv_at hl 1 rfl) ?_
      exact hret _ _ _ (by rw [← hv5]; simp only [mAt, mAtL]) dX4_playerAt_36
    | succ f ih =>
      intro i k hi hv5 ls hl
      have hlt : i < 5 := by omega
      refine lv_iload_n hx hb dX4_playerAt_5 rfl (lv_at hl 0 rfl) ?_
      refine lv_iconst (v := 5) hx hb dX4_playerAt_6 (by decide) ?_
      refine lv_icmp_ge (tgt := 35) hx hb dX4_playerAt_7 (by decide) (fun c_9 => absurd c_9 (nI_ge (b := 5) hlt (by decide))) (fun _ => ?_)
      refine lv_aload_n hx hb dX4_playerAt_10 rfl (lv_at hl 2 rfl) ?_
      refine va_get (D := G.1) (ci := 4) (v := .ref (a 1)) (C := RX4) (T := TX4) (N := 11) hx hb hts hinX4 hown hK.1 hP 0 rfl rfl 0 (by decide) wk2 (fun _ h9 => h9) rfl dX4_playerAt_11 ?_
      refine lv_bipush (v := 18) hx hb dX4_playerAt_14 (by decide) ?_
      refine lv_iload_n hx hb dX4_playerAt_16 rfl (lv_at hl 0 rfl) ?_
      refine lv_iadd hx hb dX4_playerAt_17 ?_
      refine qtop (nI_add 18 i) ?_
      refine qild hx hb hK.1 hP 1 0 rfl rfl (k := 18 + i) (nI_clamp (by omega)) (vp_in_nI (by omega) (by decide)) dX4_playerAt_18 ?_
      refine lv_iload_n hx hb dX4_playerAt_19 rfl (lv_at hl 3 rfl) ?_
      refine lv_icmp_ne (tgt := 27) hx hb dX4_playerAt_20 (by decide) (fun c_20_1 => ?_) (fun c_20_1 => ?_)
      · refine lv_iload_n hx hb dX4_playerAt_27 rfl (lv_at hl 1 rfl) ?_
        refine lv_istore_n (lv' := [(2, .int k), (3, .int (nI i)), (0, .ref (a 0)), (1, .int x)]) hx hb dX4_playerAt_28 rfl hl (by decide) rfl (fun ls hl => ?_)
        refine lv_iinc (v := nI (i + 1)) (lv' := [(3, .int (nI (i + 1))), (2, .int k), (0, .ref (a 0)), (1, .int x)]) hx hb dX4_playerAt_29 hl (k := 1) rfl (nI_1 _) (by decide) rfl (fun ls hl => ?_)
        refine lv_goto (tgt := 5) hx hb dX4_playerAt_32 (by decide) ?_
        exact ih (i + 1) k (by omega) (by rw [← hv5]; simp only [mAt, mAtL, if_neg c_20_1]) ls (lv_sub hl [0, 1, 2, 3] rfl)
      · refine lv_iload_n hx hb dX4_playerAt_23 rfl (lv_at hl 0 rfl) ?_
        refine lv_goto (tgt := 28) hx hb dX4_playerAt_24 (by decide) ?_
        refine lv_istore_n (lv' := [(2, .int (nI i)), (3, .int (nI i)), (0, .ref (a 0)), (1, .int x)]) hx hb dX4_playerAt_28 rfl hl (by decide) rfl (fun ls hl => ?_)
        refine lv_iinc (v := nI (i + 1)) (lv' := [(3, .int (nI (i + 1))), (2, .int (nI i)), (0, .ref (a 0)), (1, .int x)]) hx hb dX4_playerAt_29 hl (k := 1) rfl (nI_1 _) (by decide) rfl (fun ls hl => ?_)
        refine lv_goto (tgt := 5) hx hb dX4_playerAt_32 (by decide) ?_
        exact ih (i + 1) (nI i) (by omega) (by rw [← hv5]; simp only [mAt, mAtL, if_pos c_20_1]) ls (lv_sub hl [0, 1, 2, 3] rfl)
  exact L5 5 0 (-100006) rfl (by simp only [mAt]) ls (lv_sub hl [0, 1, 2, 3] rfl)
set_option maxHeartbeats 4000000 in
set_option maxRecDepth 100000 in
theorem c_X4_clearAuction (l : Launch) (G : qG) (a : Nat → Nat) (z sp pa st sv pd tl : Nat → Int32) (ns ty spt tm : Int32)  (sz : Nat) : MV l yX4_clearAuction wsX4_clearAuction 0 0 G sz [.ref (a 0)] (mw G a z sp pa st sv pd tl ns ty spt tm) (mw G a (clZ z) sp pa st sv pd tl ns ty spt tm) := by
  refine MV.of' (by decide) rfl (Nat.le_of_ble_eq_true rfl) ?_
  intro p e s m below meth c hx hb hml hown hts hK hsz hP A hAe hA hD hS hmn Q hret ls hl
  have hown : s.vm.findClass RX4 = some m.cls := hown
  have hl : lv_has ls 2 [(0, .ref (a 0))] := hl
  have wk1 := hts (Cond.fieldLink RX4 7 "TurnBidsModel" "z" "[I") (List.mem_of_getElem? (i := 1) rfl)
  have wk2 := hts (Cond.constant RX4 39 (-100006)) (List.mem_of_getElem? (i := 2) rfl)
  have hinX4 : ∀ w ∈ wsX40, w ∈ wsX4_clearAuction := fun _ h => (List.mem_cons_of_mem _ (List.mem_append_right _ h))
  refine lv_aload_n hx hb dX4_clearAuction_0 rfl (lv_at hl 0 rfl) ?_
  refine va_get (D := G.1) (ci := 4) (v := .ref (a 1)) (C := RX4) (T := TX4) (N := 11) hx hb hts hinX4 hown hK.1 hP 0 rfl rfl 0 (by decide) wk1 (fun _ h9 => h9) rfl dX4_clearAuction_1 ?_
  refine lv_iconst (v := 4) hx hb dX4_clearAuction_4 (by decide) ?_
  refine lv_iconst (v := 0) hx hb dX4_clearAuction_5 (by decide) ?_
  refine qist hx hb hK.1 hP hD hS 1 0 rfl rfl (k := 4) rfl (vp_in_nI (n := 4) (by decide) (by decide)) dX4_clearAuction_6 (fun H locs hP hD hS => ?_)
  have hP : va_P G.1 vwCl (mw G a (upd z 4 0) sp pa st sv pd tl ns ty spt tm) H := hP
  have hD : va_D A (mw G a (upd z 4 0) sp pa st sv pd tl ns ty spt tm) := hD
  refine lv_aload_n hx hb dX4_clearAuction_7 rfl (lv_at hl 0 rfl) ?_
  refine va_get (D := G.1) (ci := 4) (v := .ref (a 1)) (C := RX4) (T := TX4) (N := 11) hx hb hts hinX4 hown hK.1 hP 0 rfl rfl 0 (by decide) wk1 (fun _ h9 => h9) rfl dX4_clearAuction_8 ?_
  refine lv_iconst (v := 5) hx hb dX4_clearAuction_11 (by decide) ?_
  refine lv_ldc (v := (-100006)) hx hb hown wk2 dX4_clearAuction_12 ?_
  refine qist hx hb hK.1 hP hD hS 1 0 rfl rfl (k := 5) rfl (vp_in_nI (n := 5) (by decide) (by decide)) dX4_clearAuction_14 (fun H locs hP hD hS => ?_)
  have hP : va_P G.1 vwCl (mw G a (upd (upd z 4 0) 5 (-100006)) sp pa st sv pd tl ns ty spt tm) H := hP
  have hD : va_D A (mw G a (upd (upd z 4 0) 5 (-100006)) sp pa st sv pd tl ns ty spt tm) := hD
  refine lv_aload_n hx hb dX4_clearAuction_15 rfl (lv_at hl 0 rfl) ?_
  refine va_get (D := G.1) (ci := 4) (v := .ref (a 1)) (C := RX4) (T := TX4) (N := 11) hx hb hts hinX4 hown hK.1 hP 0 rfl rfl 0 (by decide) wk1 (fun _ h9 => h9) rfl dX4_clearAuction_16 ?_
  refine lv_bipush (v := 6) hx hb dX4_clearAuction_19 (by decide) ?_
  refine lv_ldc (v := (-100006)) hx hb hown wk2 dX4_clearAuction_21 ?_
  refine qist hx hb hK.1 hP hD hS 1 0 rfl rfl (k := 6) rfl (vp_in_nI (n := 6) (by decide) (by decide)) dX4_clearAuction_23 (fun H locs hP hD hS => ?_)
  have hP : va_P G.1 vwCl (mw G a (upd (upd (upd z 4 0) 5 (-100006)) 6 (-100006)) sp pa st sv pd tl ns ty spt tm) H := hP
  have hD : va_D A (mw G a (upd (upd (upd z 4 0) 5 (-100006)) 6 (-100006)) sp pa st sv pd tl ns ty spt tm) := hD
  refine lv_iconst (v := 0) hx hb dX4_clearAuction_24 (by decide) ?_
  refine lv_istore_n (lv' := [(1, .int 0), (0, .ref (a 0))]) hx hb dX4_clearAuction_25 rfl hl (by decide) rfl (fun ls hl => ?_)
  have L26 : ∀ (f i : Nat)  (y : Nat → Int32), i + f = 5 → clL f i y = clZ z → ∀ (H : Heap) (locs : List Loc), va_P G.1 vwCl (mw G a y sp pa st sv pd tl ns ty spt tm) H → va_D A (mw G a y sp pa st sv pd tl ns ty spt tm) → va_S A s.heap H locs → ∀ ls : Array Slot, lv_has ls 2 [(1, .int (nI i)), (0, .ref (a 0))] → W p l e { frames := 0, cells := 0, slots := 0, locals := 0 } s m ([.ref (a 0)] : List Value).toArray below meth c H locs 0 0 Q (F0 m 26 ls []) := by
    intro f
    induction f with
    | zero =>
      intro i y hi hv26 H locs hP hD hS ls hl
      obtain rfl : i = 5 := by omega
      refine lv_iload_n hx hb dX4_clearAuction_26 rfl (lv_at hl 0 rfl) ?_
      refine lv_iconst (v := 5) hx hb dX4_clearAuction_27 (by decide) ?_
      refine lv_icmp_ge (tgt := 59) hx hb dX4_clearAuction_28 (by decide) (fun _ => ?_) (fun c_9 => absurd (by decide +kernel) c_9)
      have hf0 : y = clZ z := (by rw [← hv26]; simp only [clZ, clL])
      rw [hf0] at hP hD
      exact hret _ _ _ _ () trivial hP hD hS dX4_clearAuction_59
    | succ f ih =>
      intro i y hi hv26 H locs hP hD hS ls hl
      have hlt : i < 5 := by omega
      refine lv_iload_n hx hb dX4_clearAuction_26 rfl (lv_at hl 0 rfl) ?_
      refine lv_iconst (v := 5) hx hb dX4_clearAuction_27 (by decide) ?_
      refine lv_icmp_ge (tgt := 59) hx hb dX4_clearAuction_28 (by decide) (fun c_9 => absurd c_9 (nI_ge (b := 5) hlt (by decide))) (fun _ => ?_)
      refine lv_aload_n hx hb dX4_clearAuction_31 rfl (lv_at hl 1 rfl) ?_
      refine va_get (D := G.1) (ci := 4) (v := .ref (a 1)) (C := RX4) (T := TX4) (N := 11) hx hb hts hinX4 hown hK.1 hP 0 rfl rfl 0 (by decide) wk1 (fun _ h9 => h9) rfl dX4_clearAuction_32 ?_
      refine lv_bipush (v := 23) hx hb dX4_clearAuction_35 (by decide) ?_
      refine lv_iload_n hx hb dX4_clearAuction_37 rfl (lv_at hl 0 rfl) ?_
      refine lv_iadd hx hb dX4_clearAuction_38 ?_
      refine qtop (nI_add 23 i) ?_
      refine lv_ldc (v := (-100006)) hx hb hown wk2 dX4_clearAuction_39 ?_
      refine qist hx hb hK.1 hP hD hS 1 0 rfl rfl (k := 23 + i) (nI_clamp (by omega)) (vp_in_nI (by omega) (by decide)) dX4_clearAuction_41 (fun H locs hP hD hS => ?_)
      have hP : va_P G.1 vwCl (mw G a (upd y (23 + i) (-100006)) sp pa st sv pd tl ns ty spt tm) H := hP
      have hD : va_D A (mw G a (upd y (23 + i) (-100006)) sp pa st sv pd tl ns ty spt tm) := hD
      refine lv_aload_n hx hb dX4_clearAuction_42 rfl (lv_at hl 1 rfl) ?_
      refine va_get (D := G.1) (ci := 4) (v := .ref (a 1)) (C := RX4) (T := TX4) (N := 11) hx hb hts hinX4 hown hK.1 hP 0 rfl rfl 0 (by decide) wk1 (fun _ h9 => h9) rfl dX4_clearAuction_43 ?_
      refine lv_bipush (v := 28) hx hb dX4_clearAuction_46 (by decide) ?_
      refine lv_iload_n hx hb dX4_clearAuction_48 rfl (lv_at hl 0 rfl) ?_
      refine lv_iadd hx hb dX4_clearAuction_49 ?_
      refine qtop (nI_add 28 i) ?_
      refine lv_ldc (v := (-100006)) hx hb hown wk2 dX4_clearAuction_50 ?_
      refine qist hx hb hK.1 hP hD hS 1 0 rfl rfl (k := 28 + i) (nI_clamp (by omega)) (vp_in_nI (by omega) (by decide)) dX4_clearAuction_52 (fun H locs hP hD hS => ?_)
      have hP : va_P G.1 vwCl (mw G a (upd (upd y (23 + i) (-100006)) (28 + i) (-100006)) sp pa st sv pd tl ns ty spt tm) H := hP
      have hD : va_D A (mw G a (upd (upd y (23 + i) (-100006)) (28 + i) (-100006)) sp pa st sv pd tl ns ty spt tm) := hD
      refine lv_iinc (v := nI (i + 1)) (lv' := [(1, .int (nI (i + 1))), (0, .ref (a 0))]) hx hb dX4_clearAuction_53 hl (k := 0) rfl (nI_1 _) (by decide) rfl (fun ls hl => ?_)
      refine lv_goto (tgt := 26) hx hb dX4_clearAuction_56 (by decide) ?_
      exact ih (i + 1)  (upd (upd y (23 + i) (-100006)) (28 + i) (-100006)) (by omega) (by rw [← hv26]; simp only [clZ, clL]) _ _ hP hD hS ls (lv_sub hl [0, 1] rfl)
  exact L26 5 0  (upd (upd (upd z 4 0) 5 (-100006)) 6 (-100006)) rfl (by simp only [clZ]) _ _ hP hD hS ls (lv_sub hl [0, 1] rfl)
set_option maxHeartbeats 4000000 in
set_option maxRecDepth 100000 in
theorem c_X4_copyState (l : Launch) (G : qG) (p₀ q₀ n1 n2 fa ta : Nat) (u0 u1 u2 : Nat → Int32) (h1 : fa + 53 ≤ n1) (h2 : ta + 53 ≤ n2) (h3 : n1 < 2147483648) (h4 : n2 < 2147483648) (hg : ∀ k, k < n2 → u2 k = va_cpy u0 u1 fa ta 53 k) (sz : Nat) : MV l yX4_copyState wsX4_copyState 0 0 G sz [.ref p₀, .int (nI fa), .ref q₀, .int (nI ta)] ([(p₀, .inl (gI G, n1, .inl u0))] ++ [(q₀, .inl (gI G, n2, .inl u1))]) ([(p₀, .inl (gI G, n1, .inl u0))] ++ [(q₀, .inl (gI G, n2, .inl u2))]) := by
  refine MV.of' (by decide) rfl (Nat.le_of_ble_eq_true rfl) ?_
  intro p e s m below meth c hx hb hml hown hts hK hsz hP A hAe hA hD hS hmn Q hret ls hl
  have hown : s.vm.findClass RX4 = some m.cls := hown
  have hl : lv_has ls 5 [(0, .ref p₀), (1, .int (nI fa)), (2, .ref q₀), (3, .int (nI ta))] := hl
  refine lv_iconst (v := 0) hx hb dX4_copyState_0 (by decide) ?_
  refine lv_istore (lv' := [(4, .int 0), (0, .ref p₀), (1, .int (nI fa)), (2, .ref q₀), (3, .int (nI ta))]) hx hb dX4_copyState_1 hl (by decide) rfl (fun ls hl => ?_)
  have L3 : ∀ (f i : Nat)  (y : Nat → Int32), i + f = 53 → va_cpy u0 u1 fa ta i = y → ∀ (H : Heap) (locs : List Loc), va_P G.1 vwCl ([(p₀, .inl (gI G, n1, .inl u0))] ++ [(q₀, .inl (gI G, n2, .inl y))]) H → va_D A ([(p₀, .inl (gI G, n1, .inl u0))] ++ [(q₀, .inl (gI G, n2, .inl y))]) → va_S A s.heap H locs → ∀ ls : Array Slot, lv_has ls 5 [(4, .int (nI i)), (0, .ref p₀), (1, .int (nI fa)), (2, .ref q₀), (3, .int (nI ta))] → W p l e { frames := 0, cells := 0, slots := 0, locals := 0 } s m ([.ref p₀, .int (nI fa), .ref q₀, .int (nI ta)] : List Value).toArray below meth c H locs 0 0 Q (F0 m 3 ls []) := by
    intro f
    induction f with
    | zero =>
      intro i y hi hv3 H locs hP hD hS ls hl
      obtain rfl : i = 53 := by omega
      refine lv_iload hx hb dX4_copyState_3 (lv_at hl 0 rfl) ?_
      refine lv_bipush (v := 53) hx hb dX4_copyState_5 (by decide) ?_
      refine lv_icmp_ge (tgt := 28) hx hb dX4_copyState_7 (by decide) (fun _ => ?_) (fun c_9 => absurd (by decide +kernel) c_9)
      have hP : va_P G.1 vwCl ([(p₀, .inl (gI G, n1, .inl u0))] ++ [(q₀, .inl (gI G, n2, .inl u2))]) H := hP.cell (p := 1) (e := .inl (gI G, n2, .inl y)) (ws := [(p₀, .inl (gI G, n1, .inl u0)), (q₀, .inl (gI G, n2, .inl u1))]) (fun h => by show H[q₀]? = some (vp_cell (gI G) (n2, .inl u2)); rw [arr_congr hg, hv3]; exact h)
      have hD : va_D A ([(p₀, .inl (gI G, n1, .inl u0))] ++ [(q₀, .inl (gI G, n2, .inl u2))]) := hD.set (p := 1) rfl
      exact hret _ _ _ _ () trivial hP hD hS dX4_copyState_28
    | succ f ih =>
      intro i y hi hv3 H locs hP hD hS ls hl
      have hlt : i < 53 := by omega
      refine lv_iload hx hb dX4_copyState_3 (lv_at hl 0 rfl) ?_
      refine lv_bipush (v := 53) hx hb dX4_copyState_5 (by decide) ?_
      refine lv_icmp_ge (tgt := 28) hx hb dX4_copyState_7 (by decide) (fun c_9 => absurd c_9 (nI_ge (b := 53) hlt (by decide))) (fun _ => ?_)
      refine lv_aload_n hx hb dX4_copyState_10 rfl (lv_at hl 3 rfl) ?_
      refine lv_iload_n hx hb dX4_copyState_11 rfl (lv_at hl 4 rfl) ?_
      refine lv_iload hx hb dX4_copyState_12 (lv_at hl 0 rfl) ?_
      refine lv_iadd hx hb dX4_copyState_14 ?_
      refine qtop (nI_add ta i) ?_
      refine lv_aload_n hx hb dX4_copyState_15 rfl (lv_at hl 1 rfl) ?_
      refine lv_iload_n hx hb dX4_copyState_16 rfl (lv_at hl 2 rfl) ?_
      refine lv_iload hx hb dX4_copyState_17 (lv_at hl 0 rfl) ?_
      refine lv_iadd hx hb dX4_copyState_19 ?_
      refine qtop (nI_add fa i) ?_
      refine qild hx hb hK.1 hP 0 0 rfl rfl (k := fa + i) (nI_clamp (by omega)) (vp_in_nI (by omega) (by omega)) dX4_copyState_20 ?_
      refine qist hx hb hK.1 hP hD hS 1 0 rfl rfl (k := ta + i) (nI_clamp (by omega)) (vp_in_nI (by omega) (by omega)) dX4_copyState_21 (fun H locs hP hD hS => ?_)
      have hP : va_P G.1 vwCl ([(p₀, .inl (gI G, n1, .inl u0))] ++ [(q₀, .inl (gI G, n2, .inl (upd y (ta + i) (u0 (fa + i)))))]) H := hP
      have hD : va_D A ([(p₀, .inl (gI G, n1, .inl u0))] ++ [(q₀, .inl (gI G, n2, .inl (upd y (ta + i) (u0 (fa + i)))))]) := hD
      refine lv_iinc (v := nI (i + 1)) (lv' := [(4, .int (nI (i + 1))), (0, .ref p₀), (1, .int (nI fa)), (2, .ref q₀), (3, .int (nI ta))]) hx hb dX4_copyState_22 hl (k := 0) rfl (nI_1 _) (by decide) rfl (fun ls hl => ?_)
      refine lv_goto (tgt := 3) hx hb dX4_copyState_25 (by decide) ?_
      exact ih (i + 1)  (upd y (ta + i) (u0 (fa + i))) (by omega) (by rw [← hv3]; first | exact cpy_0 _ _ _ _ | rw [cpy_succ]) _ _ hP hD hS ls (lv_sub hl [0, 1, 2, 3, 4] rfl)
  exact L3 53 0  u1 rfl (by first | exact cpy_0 _ _ _ _ | rw [cpy_succ]) _ _ hP hD hS ls (lv_sub hl [0, 1, 2, 3, 4] rfl)
set_option maxHeartbeats 4000000 in
set_option maxRecDepth 100000 in
theorem c_X4_least (l : Launch) (G : qG) (a : Nat → Nat) (z sp pa st sv pd tl : Nat → Int32) (ns ty spt tm : Int32)  : MP l yX4_least wsX4_least 0 0 G [.ref (a 0)] (mw G a z sp pa st sv pd tl ns ty spt tm) (lsZ z) := by
  refine MP.of (ty := .int) (by decide) rfl (Nat.le_of_ble_eq_true rfl) rfl ?_
  intro p e s m below meth c hx hb hml hown hts hK hP Q hret ls hl
  have hown : s.vm.findClass RX4 = some m.cls := hown
  have hl : lv_has ls 1 [(0, .ref (a 0))] := hl
  have wk1 := hts (Cond.fieldLink RX4 7 "TurnBidsModel" "z" "[I") (List.mem_of_getElem? (i := 1) rfl)
  have wk2 := hts (Cond.constant RX4 39 (-100006)) (List.mem_of_getElem? (i := 2) rfl)
  have hinX4 : ∀ w ∈ wsX40, w ∈ wsX4_least := fun _ h => (List.mem_cons_of_mem _ (List.mem_append_right _ h))
  refine lv_aload_n hx hb dX4_least_0 rfl (lv_at hl 0 rfl) ?_
  refine va_get (D := G.1) (ci := 4) (v := .ref (a 1)) (C := RX4) (T := TX4) (N := 11) hx hb hts hinX4 hown hK.1 hP 0 rfl rfl 0 (by decide) wk1 (fun _ h9 => h9) rfl dX4_least_1 ?_
  refine lv_bipush (v := 6) hx hb dX4_least_4 (by decide) ?_
  refine qild hx hb hK.1 hP 1 0 rfl rfl (k := 6) rfl (vp_in_nI (n := 6) (by decide) (by decide)) dX4_least_6 ?_
  refine lv_ldc (v := (-100006)) hx hb hown wk2 dX4_least_7 ?_
  refine lv_icmp_ne (tgt := 21) hx hb dX4_least_9 (by decide) (fun c_9_1 => ?_) (fun c_9_1 => ?_)
  · refine lv_aload_n hx hb dX4_least_21 rfl (lv_at hl 0 rfl) ?_
    refine va_get (D := G.1) (ci := 4) (v := .ref (a 1)) (C := RX4) (T := TX4) (N := 11) hx hb hts hinX4 hown hK.1 hP 0 rfl rfl 0 (by decide) wk1 (fun _ h9 => h9) rfl dX4_least_22 ?_
    refine lv_bipush (v := 6) hx hb dX4_least_25 (by decide) ?_
    refine qild hx hb hK.1 hP 1 0 rfl rfl (k := 6) rfl (vp_in_nI (n := 6) (by decide) (by decide)) dX4_least_27 ?_
    refine lv_aload_n hx hb dX4_least_28 rfl (lv_at hl 0 rfl) ?_
    refine va_get (D := G.1) (ci := 4) (v := .ref (a 1)) (C := RX4) (T := TX4) (N := 11) hx hb hts hinX4 hown hK.1 hP 0 rfl rfl 0 (by decide) wk1 (fun _ h9 => h9) rfl dX4_least_29 ?_
    refine lv_iconst (v := 0) hx hb dX4_least_32 (by decide) ?_
    refine qild hx hb hK.1 hP 1 0 rfl rfl (k := 0) rfl (vp_in_nI (n := 0) (by decide) (by decide)) dX4_least_33 ?_
    refine lv_iadd hx hb dX4_least_34 ?_
    exact hret _ _ _ (by simp only [lsZ, if_neg c_9_1]) dX4_least_35
  · refine lv_aload_n hx hb dX4_least_12 rfl (lv_at hl 0 rfl) ?_
    refine va_get (D := G.1) (ci := 4) (v := .ref (a 1)) (C := RX4) (T := TX4) (N := 11) hx hb hts hinX4 hown hK.1 hP 0 rfl rfl 0 (by decide) wk1 (fun _ h9 => h9) rfl dX4_least_13 ?_
    refine lv_iconst (v := 1) hx hb dX4_least_16 (by decide) ?_
    refine qild hx hb hK.1 hP 1 0 rfl rfl (k := 1) rfl (vp_in_nI (n := 1) (by decide) (by decide)) dX4_least_17 ?_
    refine lv_goto (tgt := 35) hx hb dX4_least_18 (by decide) ?_
    exact hret _ _ _ (by simp only [lsZ, if_pos c_9_1]) dX4_least_35
set_option maxHeartbeats 4000000 in
set_option maxRecDepth 100000 in
theorem c_X4_beginNow (l : Launch) (G : qG) (a : Nat → Nat) (z sp pa st sv pd tl : Nat → Int32) (ns ty spt tm : Int32)  (sz : Nat) : MV l yX4_beginNow wsX4_beginNow 1 23 G sz [.ref (a 0)] (mw G a z sp pa st sv pd tl ns ty spt tm) (mw G a (bgZ z) sp pa st sv pd tl ns ty spt tm) := by
  refine MV.of' (by decide) rfl (Nat.le_of_ble_eq_true rfl) ?_
  intro p e s m below meth c hx hb hml hown hts hK hsz hP A hAe hA hD hS hmn Q hret ls hl
  have hown : s.vm.findClass RX4 = some m.cls := hown
  have hl : lv_has ls 1 [(0, .ref (a 0))] := hl
  have wk1 := hts (Cond.fieldLink RX4 7 "TurnBidsModel" "z" "[I") (List.mem_of_getElem? (i := 1) rfl)
  have wk2 := hts (Cond.methodLink RX4 32 yX4_clearAuction) (List.mem_of_getElem? (i := 2) rfl)
  have wk8 := hts (Cond.methodLink RX4 70 yX4_playerAt) (List.mem_of_getElem? (i := 8) rfl)
  have hinX4 : ∀ w ∈ wsX40, w ∈ wsX4_beginNow := fun _ h => (List.mem_cons_of_mem _ (List.mem_append_right _ h))
  refine lv_aload_n hx hb dX4_beginNow_0 rfl (lv_at hl 0 rfl) ?_
  refine cAV (As := []) (rest := []) ⟨hx, hb, hml, hown, hts⟩ (c_X4_clearAuction l G a z sp pa st sv pd tl ns ty spt tm _) (cwV 0 hts gX4_beginNow_X4_clearAuction rfl rfl rfl (by decide +kernel) ⟨Nat.le_of_ble_eq_true rfl, Nat.le_of_ble_eq_true rfl⟩) hK hP hD hS hA 0 (ci := 4) rfl rfl rfl rfl rfl hl.1 (Nat.le_of_ble_eq_true rfl) dX4_beginNow_1 ⟨Nat.le_of_ble_eq_true rfl, Nat.le_of_ble_eq_true rfl⟩ (fun u_1 H locs hr_1 hP hD hS => ?_)
  have hP : va_P G.1 vwCl (mw G a (clZ z) sp pa st sv pd tl ns ty spt tm) H := hP
  have hD : va_D A (mw G a (clZ z) sp pa st sv pd tl ns ty spt tm) := hD
  refine lv_aload_n hx hb dX4_beginNow_4 rfl (lv_at hl 0 rfl) ?_
  refine va_get (D := G.1) (ci := 4) (v := .ref (a 1)) (C := RX4) (T := TX4) (N := 11) hx hb hts hinX4 hown hK.1 hP 0 rfl rfl 0 (by decide) wk1 (fun _ h9 => h9) rfl dX4_beginNow_5 ?_
  refine lv_iconst (v := 4) hx hb dX4_beginNow_8 (by decide) ?_
  refine lv_iconst (v := 1) hx hb dX4_beginNow_9 (by decide) ?_
  refine qist hx hb hK.1 hP hD hS 1 0 rfl rfl (k := 4) rfl (vp_in_nI (n := 4) (by decide) (by decide)) dX4_beginNow_10 (fun H locs hP hD hS => ?_)
  have hP : va_P G.1 vwCl (mw G a (upd (clZ z) 4 1) sp pa st sv pd tl ns ty spt tm) H := hP
  have hD : va_D A (mw G a (upd (clZ z) 4 1) sp pa st sv pd tl ns ty spt tm) := hD
  refine lv_aload_n hx hb dX4_beginNow_11 rfl (lv_at hl 0 rfl) ?_
  refine va_get (D := G.1) (ci := 4) (v := .ref (a 1)) (C := RX4) (T := TX4) (N := 11) hx hb hts hinX4 hown hK.1 hP 0 rfl rfl 0 (by decide) wk1 (fun _ h9 => h9) rfl dX4_beginNow_12 ?_
  refine lv_iconst (v := 5) hx hb dX4_beginNow_15 (by decide) ?_
  refine lv_aload_n hx hb dX4_beginNow_16 rfl (lv_at hl 0 rfl) ?_
  refine lv_iconst (v := 0) hx hb dX4_beginNow_17 (by decide) ?_
  refine cPV (As := [.int 0]) (rest := [.int 5, .ref (a 1)]) ⟨hx, hb, hml, hown, hts⟩ (c_X4_playerAt l G a (upd (clZ z) 4 1) sp pa st sv pd tl ns ty spt tm 0) (cwV 1 hts gX4_beginNow_X4_playerAt rfl rfl rfl (by decide +kernel) ⟨Nat.le_of_ble_eq_true rfl, Nat.le_of_ble_eq_true rfl⟩) hK hP 0 (ci := 4) rfl rfl rfl rfl rfl hl.1 (Nat.le_of_ble_eq_true rfl) dX4_beginNow_18 ⟨Nat.le_of_ble_eq_true rfl, Nat.le_of_ble_eq_true rfl⟩ ?_
  refine qist hx hb hK.1 hP hD hS 1 0 rfl rfl (k := 5) rfl (vp_in_nI (n := 5) (by decide) (by decide)) dX4_beginNow_21 (fun H locs hP hD hS => ?_)
  have hP : va_P G.1 vwCl (mw G a (upd (upd (clZ z) 4 1) 5 (mAt (upd (clZ z) 4 1) 0)) sp pa st sv pd tl ns ty spt tm) H := hP
  have hD : va_D A (mw G a (upd (upd (clZ z) 4 1) 5 (mAt (upd (clZ z) 4 1) 0)) sp pa st sv pd tl ns ty spt tm) := hD
  have hf0 : upd (upd (clZ z) 4 1) 5 (mAt (upd (clZ z) 4 1) 0) = bgZ z := (by simp only [bgZ])
  rw [hf0] at hP hD
  exact hret _ _ _ _ () trivial hP hD hS dX4_beginNow_22
set_option maxHeartbeats 4000000 in
set_option maxRecDepth 100000 in
theorem c_X4_pay (l : Launch) (G : qG) (a : Nat → Nat) (z sp pa st sv pd tl : Nat → Int32) (ns ty spt tm : Int32) (x k : Int32) (hx5 : vp_in x 5) (sz : Nat) : MV l yX4_pay wsX4_pay 0 0 G sz [.ref (a 0), .int x, .int k] (mw G a z sp pa st sv pd tl ns ty spt tm) (mw G a (pyZ z x k) sp pa st sv pd tl ns ty spt tm) := by
  refine MV.of' (by decide) rfl (Nat.le_of_ble_eq_true rfl) ?_
  intro p e s m below meth c hx hb hml hown hts hK hsz hP A hAe hA hD hS hmn Q hret ls hl
  have hown : s.vm.findClass RX4 = some m.cls := hown
  have hl : lv_has ls 3 [(0, .ref (a 0)), (1, .int x), (2, .int k)] := hl
  have wk1 := hts (Cond.fieldLink RX4 7 "TurnBidsModel" "z" "[I") (List.mem_of_getElem? (i := 1) rfl)
  have hinX4 : ∀ w ∈ wsX40, w ∈ wsX4_pay := fun _ h => (List.mem_cons_of_mem _ (List.mem_append_right _ h))
  refine lv_aload_n hx hb dX4_pay_0 rfl (lv_at hl 0 rfl) ?_
  refine va_get (D := G.1) (ci := 4) (v := .ref (a 1)) (C := RX4) (T := TX4) (N := 11) hx hb hts hinX4 hown hK.1 hP 0 rfl rfl 0 (by decide) wk1 (fun _ h9 => h9) rfl dX4_pay_1 ?_
  refine lv_bipush (v := 8) hx hb dX4_pay_4 (by decide) ?_
  refine lv_iload_n hx hb dX4_pay_6 rfl (lv_at hl 1 rfl) ?_
  refine lv_iadd hx hb dX4_pay_7 ?_
  refine lv_dup2_11 hx hb dX4_pay_8 rfl rfl ?_
  refine qild hx hb hK.1 hP 1 0 rfl rfl (k := 8 + ix x) (ixa (c := 8) (m := 5) (n := 53) rfl (by assumption) (by decide) (by decide)).1 (ixa (c := 8) (m := 5) (n := 53) rfl (by assumption) (by decide) (by decide)).2 dX4_pay_9 ?_
  refine lv_iload_n hx hb dX4_pay_10 rfl (lv_at hl 2 rfl) ?_
  refine lv_isub hx hb dX4_pay_11 ?_
  refine qist hx hb hK.1 hP hD hS 1 0 rfl rfl (k := 8 + ix x) (ixa (c := 8) (m := 5) (n := 53) rfl (by assumption) (by decide) (by decide)).1 (ixa (c := 8) (m := 5) (n := 53) rfl (by assumption) (by decide) (by decide)).2 dX4_pay_12 (fun H locs hP hD hS => ?_)
  have hP : va_P G.1 vwCl (mw G a (upd z (8 + ix x) ((z (8 + ix x)) - k)) sp pa st sv pd tl ns ty spt tm) H := hP
  have hD : va_D A (mw G a (upd z (8 + ix x) ((z (8 + ix x)) - k)) sp pa st sv pd tl ns ty spt tm) := hD
  refine lv_aload_n hx hb dX4_pay_13 rfl (lv_at hl 0 rfl) ?_
  refine va_get (D := G.1) (ci := 4) (v := .ref (a 1)) (C := RX4) (T := TX4) (N := 11) hx hb hts hinX4 hown hK.1 hP 0 rfl rfl 0 (by decide) wk1 (fun _ h9 => h9) rfl dX4_pay_14 ?_
  refine lv_bipush (v := 33) hx hb dX4_pay_17 (by decide) ?_
  refine lv_iload_n hx hb dX4_pay_19 rfl (lv_at hl 1 rfl) ?_
  refine lv_iadd hx hb dX4_pay_20 ?_
  refine lv_dup2_11 hx hb dX4_pay_21 rfl rfl ?_
  refine qild hx hb hK.1 hP 1 0 rfl rfl (k := 33 + ix x) (ixa (c := 33) (m := 5) (n := 53) rfl (by assumption) (by decide) (by decide)).1 (ixa (c := 33) (m := 5) (n := 53) rfl (by assumption) (by decide) (by decide)).2 dX4_pay_22 ?_
  refine lv_iload_n hx hb dX4_pay_23 rfl (lv_at hl 2 rfl) ?_
  refine lv_iadd hx hb dX4_pay_24 ?_
  refine qist hx hb hK.1 hP hD hS 1 0 rfl rfl (k := 33 + ix x) (ixa (c := 33) (m := 5) (n := 53) rfl (by assumption) (by decide) (by decide)).1 (ixa (c := 33) (m := 5) (n := 53) rfl (by assumption) (by decide) (by decide)).2 dX4_pay_25 (fun H locs hP hD hS => ?_)
  have hP : va_P G.1 vwCl (mw G a (upd (upd z (8 + ix x) ((z (8 + ix x)) - k)) (33 + ix x) (((upd z (8 + ix x) ((z (8 + ix x)) - k)) (33 + ix x)) + k)) sp pa st sv pd tl ns ty spt tm) H := hP
  have hD : va_D A (mw G a (upd (upd z (8 + ix x) ((z (8 + ix x)) - k)) (33 + ix x) (((upd z (8 + ix x) ((z (8 + ix x)) - k)) (33 + ix x)) + k)) sp pa st sv pd tl ns ty spt tm) := hD
  obtain ⟨z_1, hT_1⟩ : ∃ w₀ : Nat → Int32, w₀ = upd (upd z (8 + ix x) ((z (8 + ix x)) - k)) (33 + ix x) (((upd z (8 + ix x) ((z (8 + ix x)) - k)) (33 + ix x)) + k) := ⟨_, rfl⟩
  have hP : va_P G.1 vwCl (mw G a z_1 sp pa st sv pd tl ns ty spt tm) H := by rw [hT_1]; exact hP
  have hD : va_D A (mw G a z_1 sp pa st sv pd tl ns ty spt tm) := by rw [hT_1]; exact hD
  have hf0 : z_1 = pyZ z x k := (by subst hT_1; simp only [pyZ])
  rw [hf0] at hP hD
  exact hret _ _ _ _ () trivial hP hD hS dX4_pay_26
set_option maxHeartbeats 4000000 in
set_option maxRecDepth 100000 in
theorem c_X4_canBid (l : Launch) (G : qG) (a : Nat → Nat) (z sp pa st sv pd tl : Nat → Int32) (ns ty spt tm : Int32) (k : Int32) (hz5 : vp_in (z 5) 5) : MP l yX4_canBid wsX4_canBid 1 20 G [.ref (a 0), .int k] (mw G a z sp pa st sv pd tl ns ty spt tm) (cbZ z k) := by
  refine MP.of (ty := .boolean) (by decide) rfl (Nat.le_of_ble_eq_true rfl) (cbZ_nar z k) ?_
  intro p e s m below meth c hx hb hml hown hts hK hP Q hret ls hl
  have hown : s.vm.findClass RX4 = some m.cls := hown
  have hl : lv_has ls 2 [(0, .ref (a 0)), (1, .int k)] := hl
  have wk1 := hts (Cond.fieldLink RX4 7 "TurnBidsModel" "z" "[I") (List.mem_of_getElem? (i := 1) rfl)
  have wk2 := hts (Cond.methodLink RX4 73 yX4_least) (List.mem_of_getElem? (i := 2) rfl)
  have hinX4 : ∀ w ∈ wsX40, w ∈ wsX4_canBid := fun _ h => (List.mem_cons_of_mem _ (List.mem_append_right _ h))
  refine lv_iload_n hx hb dX4_canBid_0 rfl (lv_at hl 1 rfl) ?_
  refine lv_aload_n hx hb dX4_canBid_1 rfl (lv_at hl 0 rfl) ?_
  refine cPV (As := []) (rest := [.int k]) ⟨hx, hb, hml, hown, hts⟩ (c_X4_least l G a z sp pa st sv pd tl ns ty spt tm) (cwV 0 hts gX4_canBid_X4_least rfl rfl rfl (by decide +kernel) ⟨Nat.le_of_ble_eq_true rfl, Nat.le_of_ble_eq_true rfl⟩) hK hP 0 (ci := 4) rfl rfl rfl rfl rfl hl.1 (Nat.le_of_ble_eq_true rfl) dX4_canBid_2 ⟨Nat.le_of_ble_eq_true rfl, Nat.le_of_ble_eq_true rfl⟩ ?_
  refine lv_icmp_lt (tgt := 30) hx hb dX4_canBid_5 (by decide) (fun c_5_1 => ?_) (fun c_5_1 => ?_)
  · refine lv_iconst (v := 0) hx hb dX4_canBid_30 (by decide) ?_
    exact hret _ _ _ (by simp only [cbZ, if_pos c_5_1]) dX4_canBid_31
  · refine lv_iload_n hx hb dX4_canBid_8 rfl (lv_at hl 1 rfl) ?_
    refine lv_aload_n hx hb dX4_canBid_9 rfl (lv_at hl 0 rfl) ?_
    refine va_get (D := G.1) (ci := 4) (v := .ref (a 1)) (C := RX4) (T := TX4) (N := 11) hx hb hts hinX4 hown hK.1 hP 0 rfl rfl 0 (by decide) wk1 (fun _ h9 => h9) rfl dX4_canBid_10 ?_
    refine lv_bipush (v := 8) hx hb dX4_canBid_13 (by decide) ?_
    refine lv_aload_n hx hb dX4_canBid_15 rfl (lv_at hl 0 rfl) ?_
    refine va_get (D := G.1) (ci := 4) (v := .ref (a 1)) (C := RX4) (T := TX4) (N := 11) hx hb hts hinX4 hown hK.1 hP 0 rfl rfl 0 (by decide) wk1 (fun _ h9 => h9) rfl dX4_canBid_16 ?_
    refine lv_iconst (v := 5) hx hb dX4_canBid_19 (by decide) ?_
    refine qild hx hb hK.1 hP 1 0 rfl rfl (k := 5) rfl (vp_in_nI (n := 5) (by decide) (by decide)) dX4_canBid_20 ?_
    refine lv_iadd hx hb dX4_canBid_21 ?_
    refine qild hx hb hK.1 hP 1 0 rfl rfl (k := 8 + ix (z 5)) (ixa (c := 8) (m := 5) (n := 53) rfl (by assumption) (by decide) (by decide)).1 (ixa (c := 8) (m := 5) (n := 53) rfl (by assumption) (by decide) (by decide)).2 dX4_canBid_22 ?_
    refine lv_icmp_gt (tgt := 30) hx hb dX4_canBid_23 (by decide) (fun c_23_2 => ?_) (fun c_23_2 => ?_)
    · refine lv_iconst (v := 0) hx hb dX4_canBid_30 (by decide) ?_
      exact hret _ _ _ (by simp only [cbZ, if_neg c_5_1, if_pos c_23_2]) dX4_canBid_31
    · refine lv_iconst (v := 1) hx hb dX4_canBid_26 (by decide) ?_
      refine lv_goto (tgt := 31) hx hb dX4_canBid_27 (by decide) ?_
      exact hret _ _ _ (by simp only [cbZ, if_neg c_5_1, if_neg c_23_2]) dX4_canBid_31
set_option maxHeartbeats 4000000 in
set_option maxRecDepth 100000 in
theorem c_X4_left (l : Launch) (G : qG) (a : Nat → Nat) (z sp pa st sv pd tl : Nat → Int32) (ns ty spt tm : Int32)  : MP l yX4_left wsX4_left 0 0 G [.ref (a 0)] (mw G a z sp pa st sv pd tl ns ty spt tm) (lfZ z) := by
  refine MP.of (ty := .int) (by decide) rfl (Nat.le_of_ble_eq_true rfl) rfl ?_
  intro p e s m below meth c hx hb hml hown hts hK hP Q hret ls hl
  have hown : s.vm.findClass RX4 = some m.cls := hown
  have hl : lv_has ls 3 [(0, .ref (a 0))] := hl
  have wk1 := hts (Cond.fieldLink RX4 7 "TurnBidsModel" "z" "[I") (List.mem_of_getElem? (i := 1) rfl)
  have wk2 := hts (Cond.constant RX4 39 (-100006)) (List.mem_of_getElem? (i := 2) rfl)
  have hinX4 : ∀ w ∈ wsX40, w ∈ wsX4_left := fun _ h => (List.mem_cons_of_mem _ (List.mem_append_right _ h))
  refine lv_iconst (v := 0) hx hb dX4_left_0 (by decide) ?_
  refine lv_istore_n (lv' := [(1, .int 0), (0, .ref (a 0))]) hx hb dX4_left_1 rfl hl (by decide) rfl (fun ls hl => ?_)
  refine lv_iconst (v := 0) hx hb dX4_left_2 (by decide) ?_
  refine lv_istore_n (lv' := [(2, .int 0), (1, .int 0), (0, .ref (a 0))]) hx hb dX4_left_3 rfl hl (by decide) rfl (fun ls hl => ?_)
  have L4 : ∀ (f i : Nat) (k : Int32), i + f = 5 → lfL z f i k = lfZ z → ∀ ls : Array Slot, lv_has ls 3 [(2, .int (nI i)), (1, .int k), (0, .ref (a 0))] → W p l e { frames := 0, cells := 0, slots := 0, locals := 0 } s m ([.ref (a 0)] : List Value).toArray below meth c s.heap [] 0 0 Q (F0 m 4 ls []) := by
    intro f
    induction f with
    | zero =>
      intro i k hi hv4 ls hl
      obtain rfl : i = 5 := by omega
      refine lv_iload_n hx hb dX4_left_4 rfl (lv_at hl 0 rfl) ?_
      refine lv_iconst (v := 5) hx hb dX4_left_5 (by decide) ?_
      refine lv_icmp_ge (tgt := 37) hx hb dX4_left_6 (by decide) (fun _ => ?_) (fun c_9 => absurd (by decide +kernel) c_9)
      refine lv_iload_n hx hb dX4_left_37 rfl (lv_at hl 1 rfl) ?_
      exact hret _ _ _ (by rw [← hv4]; simp only [lfZ, lfL]) dX4_left_38
    | succ f ih =>
      intro i k hi hv4 ls hl
      have hlt : i < 5 := by omega
      refine lv_iload_n hx hb dX4_left_4 rfl (lv_at hl 0 rfl) ?_
      refine lv_iconst (v := 5) hx hb dX4_left_5 (by decide) ?_
      refine lv_icmp_ge (tgt := 37) hx hb dX4_left_6 (by decide) (fun c_9 => absurd c_9 (nI_ge (b := 5) hlt (by decide))) (fun _ => ?_)
      refine lv_iload_n hx hb dX4_left_9 rfl (lv_at hl 1 rfl) ?_
      refine lv_aload_n hx hb dX4_left_10 rfl (lv_at hl 2 rfl) ?_
      refine va_get (D := G.1) (ci := 4) (v := .ref (a 1)) (C := RX4) (T := TX4) (N := 11) hx hb hts hinX4 hown hK.1 hP 0 rfl rfl 0 (by decide) wk1 (fun _ h9 => h9) rfl dX4_left_11 ?_
      refine lv_bipush (v := 28) hx hb dX4_left_14 (by decide) ?_
      refine lv_iload_n hx hb dX4_left_16 rfl (lv_at hl 0 rfl) ?_
      refine lv_iadd hx hb dX4_left_17 ?_
      refine qtop (nI_add 28 i) ?_
      refine qild hx hb hK.1 hP 1 0 rfl rfl (k := 28 + i) (nI_clamp (by omega)) (vp_in_nI (by omega) (by decide)) dX4_left_18 ?_
      refine lv_ldc (v := (-100006)) hx hb hown wk2 dX4_left_19 ?_
      refine lv_icmp_ne (tgt := 28) hx hb dX4_left_21 (by decide) (fun c_21_1 => ?_) (fun c_21_1 => ?_)
      · refine lv_iconst (v := 0) hx hb dX4_left_28 (by decide) ?_
        refine lv_iadd hx hb dX4_left_29 ?_
        refine lv_istore_n (lv' := [(1, .int (k + 0)), (2, .int (nI i)), (0, .ref (a 0))]) hx hb dX4_left_30 rfl hl (by decide) rfl (fun ls hl => ?_)
        refine lv_iinc (v := nI (i + 1)) (lv' := [(2, .int (nI (i + 1))), (1, .int (k + 0)), (0, .ref (a 0))]) hx hb dX4_left_31 hl (k := 1) rfl (nI_1 _) (by decide) rfl (fun ls hl => ?_)
        refine lv_goto (tgt := 4) hx hb dX4_left_34 (by decide) ?_
        exact ih (i + 1) (k + 0) (by omega) (by rw [← hv4]; simp only [lfZ, lfL, if_neg c_21_1]) ls (lv_sub hl [0, 1, 2] rfl)
      · refine lv_iconst (v := 1) hx hb dX4_left_24 (by decide) ?_
        refine lv_goto (tgt := 29) hx hb dX4_left_25 (by decide) ?_
        refine lv_iadd hx hb dX4_left_29 ?_
        refine lv_istore_n (lv' := [(1, .int (k + 1)), (2, .int (nI i)), (0, .ref (a 0))]) hx hb dX4_left_30 rfl hl (by decide) rfl (fun ls hl => ?_)
        refine lv_iinc (v := nI (i + 1)) (lv' := [(2, .int (nI (i + 1))), (1, .int (k + 1)), (0, .ref (a 0))]) hx hb dX4_left_31 hl (k := 1) rfl (nI_1 _) (by decide) rfl (fun ls hl => ?_)
        refine lv_goto (tgt := 4) hx hb dX4_left_34 (by decide) ?_
        exact ih (i + 1) (k + 1) (by omega) (by rw [← hv4]; simp only [lfZ, lfL, if_pos c_21_1]) ls (lv_sub hl [0, 1, 2] rfl)
  exact L4 5 0 0 rfl (by simp only [lfZ]) ls (lv_sub hl [0, 1, 2] rfl)
set_option maxHeartbeats 4000000 in
set_option maxRecDepth 100000 in
theorem c_X4_prizeAt (l : Launch) (G : qG) (a : Nat → Nat) (z sp pa st sv pd tl : Nat → Int32) (ns ty spt tm : Int32) (x : Int32) : MP l yX4_prizeAt wsX4_prizeAt 0 0 G [.ref (a 0), .int x] (mw G a z sp pa st sv pd tl ns ty spt tm) (mpZ z x) := by
  refine MP.of (ty := .int) (by decide) rfl (Nat.le_of_ble_eq_true rfl) rfl ?_
  intro p e s m below meth c hx hb hml hown hts hK hP Q hret ls hl
  have hown : s.vm.findClass RX4 = some m.cls := hown
  have hl : lv_has ls 6 [(0, .ref (a 0)), (1, .int x)] := hl
  have wk1 := hts (Cond.fieldLink RX4 7 "TurnBidsModel" "z" "[I") (List.mem_of_getElem? (i := 1) rfl)
  have hinX4 : ∀ w ∈ wsX40, w ∈ wsX4_prizeAt := fun _ h => (List.mem_cons_of_mem _ (List.mem_append_right _ h))
  refine lv_iconst (v := 0) hx hb dX4_prizeAt_0 (by decide) ?_
  refine lv_istore_n (lv' := [(2, .int 0), (0, .ref (a 0)), (1, .int x)]) hx hb dX4_prizeAt_1 rfl hl (by decide) rfl (fun ls hl => ?_)
  refine lv_iconst (v := 0) hx hb dX4_prizeAt_2 (by decide) ?_
  refine lv_istore_n (lv' := [(3, .int 0), (2, .int 0), (0, .ref (a 0)), (1, .int x)]) hx hb dX4_prizeAt_3 rfl hl (by decide) rfl (fun ls hl => ?_)
  have L4 : ∀ (f i : Nat) (k : Int32), i + f = 5 → mpL z x f i k = mpZ z x → ∀ ls : Array Slot, lv_has ls 6 [(3, .int (nI i)), (2, .int k), (0, .ref (a 0)), (1, .int x)] → W p l e { frames := 0, cells := 0, slots := 0, locals := 0 } s m ([.ref (a 0), .int x] : List Value).toArray below meth c s.heap [] 0 0 Q (F0 m 4 ls []) := by
    intro f
    induction f with
    | zero =>
      intro i k hi hv4 ls hl
      obtain rfl : i = 5 := by omega
      refine lv_iload_n hx hb dX4_prizeAt_4 rfl (lv_at hl 0 rfl) ?_
      refine lv_iconst (v := 5) hx hb dX4_prizeAt_5 (by decide) ?_
      refine lv_icmp_ge (tgt := 113) hx hb dX4_prizeAt_6 (by decide) (fun _ => ?_) (fun c_9 => absurd (by decide +kernel) c_9)
      refine lv_iload_n hx hb dX4_prizeAt_113 rfl (lv_at hl 1 rfl) ?_
      exact hret _ _ _ (by rw [← hv4]; simp only [mpZ, mpL]) dX4_prizeAt_114
    | succ f ih =>
      intro i k hi hv4 ls hl
      have hlt : i < 5 := by omega
      refine lv_iload_n hx hb dX4_prizeAt_4 rfl (lv_at hl 0 rfl) ?_
      refine lv_iconst (v := 5) hx hb dX4_prizeAt_5 (by decide) ?_
      refine lv_icmp_ge (tgt := 113) hx hb dX4_prizeAt_6 (by decide) (fun c_9 => absurd c_9 (nI_ge (b := 5) hlt (by decide))) (fun _ => ?_)
      refine lv_iconst (v := 0) hx hb dX4_prizeAt_9 (by decide) ?_
      refine lv_istore (lv' := [(4, .int 0), (3, .int (nI i)), (2, .int k), (0, .ref (a 0)), (1, .int x)]) hx hb dX4_prizeAt_10 hl (by decide) rfl (fun ls hl => ?_)
      refine lv_iconst (v := 0) hx hb dX4_prizeAt_12 (by decide) ?_
      refine lv_istore (lv' := [(5, .int 0), (4, .int 0), (3, .int (nI i)), (2, .int k), (0, .ref (a 0)), (1, .int x)]) hx hb dX4_prizeAt_13 hl (by decide) rfl (fun ls hl => ?_)
      have L15 : ∀ (f j : Nat) (v : Int32) (n : Int32), j + f = 5 → mhL z i f j n = v → (∀ ls : Array Slot, lv_has ls 6 [(5, .int (nI 5)), (4, .int v), (3, .int (nI i)), (2, .int k), (0, .ref (a 0)), (1, .int x)] → W p l e { frames := 0, cells := 0, slots := 0, locals := 0 } s m ([.ref (a 0), .int x] : List Value).toArray below meth c s.heap [] 0 0 Q (F0 m 87 ls [])) → ∀ ls : Array Slot, lv_has ls 6 [(5, .int (nI j)), (4, .int n), (3, .int (nI i)), (2, .int k), (0, .ref (a 0)), (1, .int x)] → W p l e { frames := 0, cells := 0, slots := 0, locals := 0 } s m ([.ref (a 0), .int x] : List Value).toArray below meth c s.heap [] 0 0 Q (F0 m 15 ls []) := by
        intro f
        induction f with
        | zero =>
          intro j v n hi hv15 kk ls hl
          obtain rfl : j = 5 := by omega
          refine lv_iload hx hb dX4_prizeAt_15 (lv_at hl 0 rfl) ?_
          refine lv_iconst (v := 5) hx hb dX4_prizeAt_17 (by decide) ?_
          refine lv_icmp_ge (tgt := 87) hx hb dX4_prizeAt_18 (by decide) (fun _ => ?_) (fun c_9 => absurd (by decide +kernel) c_9)
          have ho0 : n = v := (by rw [← hv15]; simp only [mpZ, mhL])
          rw [ho0] at hl
          exact kk ls (lv_sub hl [0, 1, 2, 3, 4, 5] rfl)
        | succ f ih =>
          intro j v n hi hv15 kk ls hl
          have hlt : j < 5 := by omega
          refine lv_iload hx hb dX4_prizeAt_15 (lv_at hl 0 rfl) ?_
          refine lv_iconst (v := 5) hx hb dX4_prizeAt_17 (by decide) ?_
          refine lv_icmp_ge (tgt := 87) hx hb dX4_prizeAt_18 (by decide) (fun c_9 => absurd c_9 (nI_ge (b := 5) hlt (by decide))) (fun _ => ?_)
          refine lv_iload hx hb dX4_prizeAt_21 (lv_at hl 1 rfl) ?_
          refine lv_aload_n hx hb dX4_prizeAt_23 rfl (lv_at hl 4 rfl) ?_
          refine va_get (D := G.1) (ci := 4) (v := .ref (a 1)) (C := RX4) (T := TX4) (N := 11) hx hb hts hinX4 hown hK.1 hP 0 rfl rfl 0 (by decide) wk1 (fun _ h9 => h9) rfl dX4_prizeAt_24 ?_
          refine lv_bipush (v := 48) hx hb dX4_prizeAt_27 (by decide) ?_
          refine lv_iload hx hb dX4_prizeAt_29 (lv_at hl 0 rfl) ?_
          refine lv_iadd hx hb dX4_prizeAt_31 ?_
          refine qtop (nI_add 48 j) ?_
          refine qild hx hb hK.1 hP 1 0 rfl rfl (k := 48 + j) (nI_clamp (by omega)) (vp_in_nI (by omega) (by decide)) dX4_prizeAt_32 ?_
          refine lv_aload_n hx hb dX4_prizeAt_33 rfl (lv_at hl 4 rfl) ?_
          refine va_get (D := G.1) (ci := 4) (v := .ref (a 1)) (C := RX4) (T := TX4) (N := 11) hx hb hts hinX4 hown hK.1 hP 0 rfl rfl 0 (by decide) wk1 (fun _ h9 => h9) rfl dX4_prizeAt_34 ?_
          refine lv_bipush (v := 48) hx hb dX4_prizeAt_37 (by decide) ?_
          refine lv_iload_n hx hb dX4_prizeAt_39 rfl (lv_at hl 2 rfl) ?_
          refine lv_iadd hx hb dX4_prizeAt_40 ?_
          refine qtop (nI_add 48 i) ?_
          refine qild hx hb hK.1 hP 1 0 rfl rfl (k := 48 + i) (nI_clamp (by omega)) (vp_in_nI (by omega) (by decide)) dX4_prizeAt_41 ?_
          refine lv_icmp_gt (tgt := 73) hx hb dX4_prizeAt_42 (by decide) (fun c_42_1 => ?_) (fun c_42_1 => ?_)
          · refine lv_iconst (v := 1) hx hb dX4_prizeAt_73 (by decide) ?_
            refine lv_goto (tgt := 78) hx hb dX4_prizeAt_74 (by decide) ?_
            refine lv_iadd hx hb dX4_prizeAt_78 ?_
            refine lv_istore (lv' := [(4, .int (n + 1)), (5, .int (nI j)), (3, .int (nI i)), (2, .int k), (0, .ref (a 0)), (1, .int x)]) hx hb dX4_prizeAt_79 hl (by decide) rfl (fun ls hl => ?_)
            refine lv_iinc (v := nI (j + 1)) (lv' := [(5, .int (nI (j + 1))), (4, .int (n + 1)), (3, .int (nI i)), (2, .int k), (0, .ref (a 0)), (1, .int x)]) hx hb dX4_prizeAt_81 hl (k := 1) rfl (nI_1 _) (by decide) rfl (fun ls hl => ?_)
            refine lv_goto (tgt := 15) hx hb dX4_prizeAt_84 (by decide) ?_
            exact ih (j + 1) v (n + 1) (by omega) (by rw [← hv15]; simp only [mpZ, mhL, if_pos c_42_1]) kk ls (lv_sub hl [0, 1, 2, 3, 4, 5] rfl)
          · refine lv_aload_n hx hb dX4_prizeAt_45 rfl (lv_at hl 4 rfl) ?_
            refine va_get (D := G.1) (ci := 4) (v := .ref (a 1)) (C := RX4) (T := TX4) (N := 11) hx hb hts hinX4 hown hK.1 hP 0 rfl rfl 0 (by decide) wk1 (fun _ h9 => h9) rfl dX4_prizeAt_46 ?_
            refine lv_bipush (v := 48) hx hb dX4_prizeAt_49 (by decide) ?_
            refine lv_iload hx hb dX4_prizeAt_51 (lv_at hl 0 rfl) ?_
            refine lv_iadd hx hb dX4_prizeAt_53 ?_
            refine qtop (nI_add 48 j) ?_
            refine qild hx hb hK.1 hP 1 0 rfl rfl (k := 48 + j) (nI_clamp (by omega)) (vp_in_nI (by omega) (by decide)) dX4_prizeAt_54 ?_
            refine lv_aload_n hx hb dX4_prizeAt_55 rfl (lv_at hl 4 rfl) ?_
            refine va_get (D := G.1) (ci := 4) (v := .ref (a 1)) (C := RX4) (T := TX4) (N := 11) hx hb hts hinX4 hown hK.1 hP 0 rfl rfl 0 (by decide) wk1 (fun _ h9 => h9) rfl dX4_prizeAt_56 ?_
            refine lv_bipush (v := 48) hx hb dX4_prizeAt_59 (by decide) ?_
            refine lv_iload_n hx hb dX4_prizeAt_61 rfl (lv_at hl 2 rfl) ?_
            refine lv_iadd hx hb dX4_prizeAt_62 ?_
            refine qtop (nI_add 48 i) ?_
            refine qild hx hb hK.1 hP 1 0 rfl rfl (k := 48 + i) (nI_clamp (by omega)) (vp_in_nI (by omega) (by decide)) dX4_prizeAt_63 ?_
            refine lv_icmp_ne (tgt := 77) hx hb dX4_prizeAt_64 (by decide) (fun c_64_2 => ?_) (fun c_64_2 => ?_)
            · refine lv_iconst (v := 0) hx hb dX4_prizeAt_77 (by decide) ?_
              refine lv_iadd hx hb dX4_prizeAt_78 ?_
              refine lv_istore (lv' := [(4, .int (n + 0)), (5, .int (nI j)), (3, .int (nI i)), (2, .int k), (0, .ref (a 0)), (1, .int x)]) hx hb dX4_prizeAt_79 hl (by decide) rfl (fun ls hl => ?_)
              refine lv_iinc (v := nI (j + 1)) (lv' := [(5, .int (nI (j + 1))), (4, .int (n + 0)), (3, .int (nI i)), (2, .int k), (0, .ref (a 0)), (1, .int x)]) hx hb dX4_prizeAt_81 hl (k := 1) rfl (nI_1 _) (by decide) rfl (fun ls hl => ?_)
              refine lv_goto (tgt := 15) hx hb dX4_prizeAt_84 (by decide) ?_
              exact ih (j + 1) v (n + 0) (by omega) (by rw [← hv15]; simp only [mpZ, mhL, if_neg c_42_1, if_neg c_64_2]) kk ls (lv_sub hl [0, 1, 2, 3, 4, 5] rfl)
            · refine lv_iload hx hb dX4_prizeAt_67 (lv_at hl 0 rfl) ?_
              refine lv_iload_n hx hb dX4_prizeAt_69 rfl (lv_at hl 2 rfl) ?_
              refine lv_icmp_ge (tgt := 77) hx hb dX4_prizeAt_70 (by decide) (fun c_70_3 => ?_) (fun c_70_3 => ?_)
              · refine lv_iconst (v := 0) hx hb dX4_prizeAt_77 (by decide) ?_
                refine lv_iadd hx hb dX4_prizeAt_78 ?_
                refine lv_istore (lv' := [(4, .int (n + 0)), (5, .int (nI j)), (3, .int (nI i)), (2, .int k), (0, .ref (a 0)), (1, .int x)]) hx hb dX4_prizeAt_79 hl (by decide) rfl (fun ls hl => ?_)
                refine lv_iinc (v := nI (j + 1)) (lv' := [(5, .int (nI (j + 1))), (4, .int (n + 0)), (3, .int (nI i)), (2, .int k), (0, .ref (a 0)), (1, .int x)]) hx hb dX4_prizeAt_81 hl (k := 1) rfl (nI_1 _) (by decide) rfl (fun ls hl => ?_)
                refine lv_goto (tgt := 15) hx hb dX4_prizeAt_84 (by decide) ?_
                exact ih (j + 1) v (n + 0) (by omega) (by rw [← hv15]; simp only [mpZ, mhL, if_neg c_42_1, if_pos c_64_2, if_pos c_70_3]) kk ls (lv_sub hl [0, 1, 2, 3, 4, 5] rfl)
              · refine lv_iconst (v := 1) hx hb dX4_prizeAt_73 (by decide) ?_
                refine lv_goto (tgt := 78) hx hb dX4_prizeAt_74 (by decide) ?_
                refine lv_iadd hx hb dX4_prizeAt_78 ?_
                refine lv_istore (lv' := [(4, .int (n + 1)), (5, .int (nI j)), (3, .int (nI i)), (2, .int k), (0, .ref (a 0)), (1, .int x)]) hx hb dX4_prizeAt_79 hl (by decide) rfl (fun ls hl => ?_)
                refine lv_iinc (v := nI (j + 1)) (lv' := [(5, .int (nI (j + 1))), (4, .int (n + 1)), (3, .int (nI i)), (2, .int k), (0, .ref (a 0)), (1, .int x)]) hx hb dX4_prizeAt_81 hl (k := 1) rfl (nI_1 _) (by decide) rfl (fun ls hl => ?_)
                refine lv_goto (tgt := 15) hx hb dX4_prizeAt_84 (by decide) ?_
                exact ih (j + 1) v (n + 1) (by omega) (by rw [← hv15]; simp only [mpZ, mhL, if_neg c_42_1, if_pos c_64_2, if_neg c_70_3]) kk ls (lv_sub hl [0, 1, 2, 3, 4, 5] rfl)
      refine L15 5 0 _ 0 rfl rfl (fun ls hl => ?_) ls (lv_sub hl [0, 1, 2, 3, 4, 5] rfl)
      refine lv_iload hx hb dX4_prizeAt_87 (lv_at hl 1 rfl) ?_
      refine lv_iload_n hx hb dX4_prizeAt_89 rfl (lv_at hl 5 rfl) ?_
      refine lv_icmp_ne (tgt := 105) hx hb dX4_prizeAt_90 (by decide) (fun c_90_4 => ?_) (fun c_90_4 => ?_)
      · refine lv_iload_n hx hb dX4_prizeAt_105 rfl (lv_at hl 3 rfl) ?_
        refine lv_istore_n (lv' := [(2, .int k), (5, .int (nI 5)), (4, .int (mhL z i 5 0 0)), (3, .int (nI i)), (0, .ref (a 0)), (1, .int x)]) hx hb dX4_prizeAt_106 rfl hl (by decide) rfl (fun ls hl => ?_)
        refine lv_iinc (v := nI (i + 1)) (lv' := [(3, .int (nI (i + 1))), (2, .int k), (5, .int (nI 5)), (4, .int (mhL z i 5 0 0)), (0, .ref (a 0)), (1, .int x)]) hx hb dX4_prizeAt_107 hl (k := 3) rfl (nI_1 _) (by decide) rfl (fun ls hl => ?_)
        refine lv_goto (tgt := 4) hx hb dX4_prizeAt_110 (by decide) ?_
        exact ih (i + 1) k (by omega) (by rw [← hv4]; simp only [mpZ, mpL, if_neg c_90_4]) ls (lv_sub hl [0, 1, 4, 5] rfl)
      · refine lv_aload_n hx hb dX4_prizeAt_93 rfl (lv_at hl 4 rfl) ?_
        refine va_get (D := G.1) (ci := 4) (v := .ref (a 1)) (C := RX4) (T := TX4) (N := 11) hx hb hts hinX4 hown hK.1 hP 0 rfl rfl 0 (by decide) wk1 (fun _ h9 => h9) rfl dX4_prizeAt_94 ?_
        refine lv_bipush (v := 48) hx hb dX4_prizeAt_97 (by decide) ?_
        refine lv_iload_n hx hb dX4_prizeAt_99 rfl (lv_at hl 2 rfl) ?_
        refine lv_iadd hx hb dX4_prizeAt_100 ?_
        refine qtop (nI_add 48 i) ?_
        refine qild hx hb hK.1 hP 1 0 rfl rfl (k := 48 + i) (nI_clamp (by omega)) (vp_in_nI (by omega) (by decide)) dX4_prizeAt_101 ?_
        refine lv_goto (tgt := 106) hx hb dX4_prizeAt_102 (by decide) ?_
        refine lv_istore_n (lv' := [(2, .int (z (48 + i))), (5, .int (nI 5)), (4, .int (mhL z i 5 0 0)), (3, .int (nI i)), (0, .ref (a 0)), (1, .int x)]) hx hb dX4_prizeAt_106 rfl hl (by decide) rfl (fun ls hl => ?_)
        refine lv_iinc (v := nI (i + 1)) (lv' := [(3, .int (nI (i + 1))), (2, .int (z (48 + i))), (5, .int (nI 5)), (4, .int (mhL z i 5 0 0)), (0, .ref (a 0)), (1, .int x)]) hx hb dX4_prizeAt_107 hl (k := 3) rfl (nI_1 _) (by decide) rfl (fun ls hl => ?_)
        refine lv_goto (tgt := 4) hx hb dX4_prizeAt_110 (by decide) ?_
        exact ih (i + 1) (z (48 + i)) (by omega) (by rw [← hv4]; simp only [mpZ, mpL, if_pos c_90_4]) ls (lv_sub hl [0, 1, 4, 5] rfl)
  exact L4 5 0 0 rfl (by simp only [mpZ]) ls (lv_sub hl [0, 1, 2, 3] rfl)
set_option maxHeartbeats 4000000 in
set_option maxRecDepth 100000 in
theorem c_X4_leftSet (l : Launch) (G : qG) (a : Nat → Nat) (z sp pa st sv pd tl : Nat → Int32) (ns ty spt tm : Int32)  : MP l yX4_leftSet wsX4_leftSet 0 0 G [.ref (a 0)] (mw G a z sp pa st sv pd tl ns ty spt tm) (lmZ z) := by
  refine MP.of (ty := .int) (by decide) rfl (Nat.le_of_ble_eq_true rfl) rfl ?_
  intro p e s m below meth c hx hb hml hown hts hK hP Q hret ls hl
  have hown : s.vm.findClass RX4 = some m.cls := hown
  have hl : lv_has ls 3 [(0, .ref (a 0))] := hl
  have wk1 := hts (Cond.fieldLink RX4 7 "TurnBidsModel" "z" "[I") (List.mem_of_getElem? (i := 1) rfl)
  have wk2 := hts (Cond.constant RX4 39 (-100006)) (List.mem_of_getElem? (i := 2) rfl)
  have hinX4 : ∀ w ∈ wsX40, w ∈ wsX4_leftSet := fun _ h => (List.mem_cons_of_mem _ (List.mem_append_right _ h))
  refine lv_iconst (v := 0) hx hb dX4_leftSet_0 (by decide) ?_
  refine lv_istore_n (lv' := [(1, .int 0), (0, .ref (a 0))]) hx hb dX4_leftSet_1 rfl hl (by decide) rfl (fun ls hl => ?_)
  refine lv_iconst (v := 0) hx hb dX4_leftSet_2 (by decide) ?_
  refine lv_istore_n (lv' := [(2, .int 0), (1, .int 0), (0, .ref (a 0))]) hx hb dX4_leftSet_3 rfl hl (by decide) rfl (fun ls hl => ?_)
  have L4 : ∀ (f i : Nat) (k : Int32), i + f = 5 → lsL z f i k = lmZ z → ∀ ls : Array Slot, lv_has ls 3 [(2, .int (nI i)), (1, .int k), (0, .ref (a 0))] → W p l e { frames := 0, cells := 0, slots := 0, locals := 0 } s m ([.ref (a 0)] : List Value).toArray below meth c s.heap [] 0 0 Q (F0 m 4 ls []) := by
    intro f
    induction f with
    | zero =>
      intro i k hi hv4 ls hl
      obtain rfl : i = 5 := by omega
      refine lv_iload_n hx hb dX4_leftSet_4 rfl (lv_at hl 0 rfl) ?_
      refine lv_iconst (v := 5) hx hb dX4_leftSet_5 (by decide) ?_
      refine lv_icmp_ge (tgt := 49) hx hb dX4_leftSet_6 (by decide) (fun _ => ?_) (fun c_9 => absurd (by decide +kernel) c_9)
      refine lv_iload_n hx hb dX4_leftSet_49 rfl (lv_at hl 1 rfl) ?_
      exact hret _ _ _ (by rw [← hv4]; simp only [lmZ, lsL]) dX4_leftSet_50
    | succ f ih =>
      intro i k hi hv4 ls hl
      have hlt : i < 5 := by omega
      refine lv_iload_n hx hb dX4_leftSet_4 rfl (lv_at hl 0 rfl) ?_
      refine lv_iconst (v := 5) hx hb dX4_leftSet_5 (by decide) ?_
      refine lv_icmp_ge (tgt := 49) hx hb dX4_leftSet_6 (by decide) (fun c_9 => absurd c_9 (nI_ge (b := 5) hlt (by decide))) (fun _ => ?_)
      refine lv_aload_n hx hb dX4_leftSet_9 rfl (lv_at hl 2 rfl) ?_
      refine va_get (D := G.1) (ci := 4) (v := .ref (a 1)) (C := RX4) (T := TX4) (N := 11) hx hb hts hinX4 hown hK.1 hP 0 rfl rfl 0 (by decide) wk1 (fun _ h9 => h9) rfl dX4_leftSet_10 ?_
      refine lv_iconst (v := 4) hx hb dX4_leftSet_13 (by decide) ?_
      refine qild hx hb hK.1 hP 1 0 rfl rfl (k := 4) rfl (vp_in_nI (n := 4) (by decide) (by decide)) dX4_leftSet_14 ?_
      refine lv_iconst (v := 1) hx hb dX4_leftSet_15 (by decide) ?_
      refine lv_icmp_ne (tgt := 49) hx hb dX4_leftSet_16 (by decide) (fun c_16_1 => ?_) (fun c_16_1 => ?_)
      · refine lv_iload_n hx hb dX4_leftSet_49 rfl (lv_at hl 1 rfl) ?_
        exact hret _ _ _ (by rw [← hv4]; simp only [lmZ, lsL, if_neg c_16_1]) dX4_leftSet_50
      · refine lv_iload_n hx hb dX4_leftSet_19 rfl (lv_at hl 1 rfl) ?_
        refine lv_aload_n hx hb dX4_leftSet_20 rfl (lv_at hl 2 rfl) ?_
        refine va_get (D := G.1) (ci := 4) (v := .ref (a 1)) (C := RX4) (T := TX4) (N := 11) hx hb hts hinX4 hown hK.1 hP 0 rfl rfl 0 (by decide) wk1 (fun _ h9 => h9) rfl dX4_leftSet_21 ?_
        refine lv_bipush (v := 28) hx hb dX4_leftSet_24 (by decide) ?_
        refine lv_iload_n hx hb dX4_leftSet_26 rfl (lv_at hl 0 rfl) ?_
        refine lv_iadd hx hb dX4_leftSet_27 ?_
        refine qtop (nI_add 28 i) ?_
        refine qild hx hb hK.1 hP 1 0 rfl rfl (k := 28 + i) (nI_clamp (by omega)) (vp_in_nI (by omega) (by decide)) dX4_leftSet_28 ?_
        refine lv_ldc (v := (-100006)) hx hb hown wk2 dX4_leftSet_29 ?_
        refine lv_icmp_ne (tgt := 40) hx hb dX4_leftSet_31 (by decide) (fun c_31_2 => ?_) (fun c_31_2 => ?_)
        · refine lv_iconst (v := 0) hx hb dX4_leftSet_40 (by decide) ?_
          refine lv_ior hx hb dX4_leftSet_41 ?_
          refine lv_istore_n (lv' := [(1, .int (k ||| 0)), (2, .int (nI i)), (0, .ref (a 0))]) hx hb dX4_leftSet_42 rfl hl (by decide) rfl (fun ls hl => ?_)
          refine lv_iinc (v := nI (i + 1)) (lv' := [(2, .int (nI (i + 1))), (1, .int (k ||| 0)), (0, .ref (a 0))]) hx hb dX4_leftSet_43 hl (k := 1) rfl (nI_1 _) (by decide) rfl (fun ls hl => ?_)
          refine lv_goto (tgt := 4) hx hb dX4_leftSet_46 (by decide) ?_
          exact ih (i + 1) (k ||| 0) (by omega) (by rw [← hv4]; simp only [lmZ, lsL, if_pos c_16_1, if_neg c_31_2]) ls (lv_sub hl [0, 1, 2] rfl)
        · refine lv_iconst (v := 1) hx hb dX4_leftSet_34 (by decide) ?_
          refine lv_iload_n hx hb dX4_leftSet_35 rfl (lv_at hl 0 rfl) ?_
          refine lv_ishl hx hb dX4_leftSet_36 ?_
          refine lv_goto (tgt := 41) hx hb dX4_leftSet_37 (by decide) ?_
          refine lv_ior hx hb dX4_leftSet_41 ?_
          refine lv_istore_n (lv' := [(1, .int (k ||| (1 <<< ((nI i) &&& 31)))), (2, .int (nI i)), (0, .ref (a 0))]) hx hb dX4_leftSet_42 rfl hl (by decide) rfl (fun ls hl => ?_)
          refine lv_iinc (v := nI (i + 1)) (lv' := [(2, .int (nI (i + 1))), (1, .int (k ||| (1 <<< ((nI i) &&& 31)))), (0, .ref (a 0))]) hx hb dX4_leftSet_43 hl (k := 1) rfl (nI_1 _) (by decide) rfl (fun ls hl => ?_)
          refine lv_goto (tgt := 4) hx hb dX4_leftSet_46 (by decide) ?_
          exact ih (i + 1) (k ||| (1 <<< ((nI i) &&& 31))) (by omega) (by rw [← hv4]; simp only [lmZ, lsL, if_pos c_16_1, if_pos c_31_2]) ls (lv_sub hl [0, 1, 2] rfl)
  exact L4 5 0 0 rfl (by simp only [lmZ]) ls (lv_sub hl [0, 1, 2] rfl)
set_option maxHeartbeats 4000000 in
set_option maxRecDepth 100000 in
theorem c_X4_mayBid (l : Launch) (G : qG) (a : Nat → Nat) (z sp pa st sv pd tl : Nat → Int32) (ns ty spt tm : Int32) (k : Int32) (hz4 : z 4 = 1 → vp_in (z 5) 5) : MP l yX4_mayBid wsX4_mayBid 2 41 G [.ref (a 0), .int k] (mw G a z sp pa st sv pd tl ns ty spt tm) (mbZ z k) := by
  refine MP.of (ty := .boolean) (by decide) rfl (Nat.le_of_ble_eq_true rfl) (mbZ_nar z k) ?_
  intro p e s m below meth c hx hb hml hown hts hK hP Q hret ls hl
  have hown : s.vm.findClass RX4 = some m.cls := hown
  have hl : lv_has ls 2 [(0, .ref (a 0)), (1, .int k)] := hl
  have wk1 := hts (Cond.fieldLink RX4 7 "TurnBidsModel" "z" "[I") (List.mem_of_getElem? (i := 1) rfl)
  have wk2 := hts (Cond.methodLink RX4 94 yX4_canBid) (List.mem_of_getElem? (i := 2) rfl)
  have hinX4 : ∀ w ∈ wsX40, w ∈ wsX4_mayBid := fun _ h => (List.mem_cons_of_mem _ (List.mem_append_right _ h))
  refine lv_aload_n hx hb dX4_mayBid_0 rfl (lv_at hl 0 rfl) ?_
  refine va_get (D := G.1) (ci := 4) (v := .ref (a 1)) (C := RX4) (T := TX4) (N := 11) hx hb hts hinX4 hown hK.1 hP 0 rfl rfl 0 (by decide) wk1 (fun _ h9 => h9) rfl dX4_mayBid_1 ?_
  refine lv_iconst (v := 4) hx hb dX4_mayBid_4 (by decide) ?_
  refine qild hx hb hK.1 hP 1 0 rfl rfl (k := 4) rfl (vp_in_nI (n := 4) (by decide) (by decide)) dX4_mayBid_5 ?_
  refine lv_iconst (v := 1) hx hb dX4_mayBid_6 (by decide) ?_
  refine lv_icmp_ne (tgt := 22) hx hb dX4_mayBid_7 (by decide) (fun c_7_1 => ?_) (fun c_7_1 => ?_)
  · refine lv_iconst (v := 0) hx hb dX4_mayBid_22 (by decide) ?_
    exact hret _ _ _ (by simp only [mbZ, if_neg c_7_1]) dX4_mayBid_23
  · have hz5 := hz4 c_7_1
    refine lv_aload_n hx hb dX4_mayBid_10 rfl (lv_at hl 0 rfl) ?_
    refine lv_iload_n hx hb dX4_mayBid_11 rfl (lv_at hl 1 rfl) ?_
    refine cPV (As := [.int k]) (rest := []) ⟨hx, hb, hml, hown, hts⟩ (c_X4_canBid l G a z sp pa st sv pd tl ns ty spt tm k (by assumption)) (cwV 1 hts gX4_mayBid_X4_canBid rfl rfl rfl (by decide +kernel) ⟨Nat.le_of_ble_eq_true rfl, Nat.le_of_ble_eq_true rfl⟩) hK hP 0 (ci := 4) rfl rfl rfl rfl rfl hl.1 (Nat.le_of_ble_eq_true rfl) dX4_mayBid_12 ⟨Nat.le_of_ble_eq_true rfl, Nat.le_of_ble_eq_true rfl⟩ ?_
    refine lv_if_eq (tgt := 22) hx hb dX4_mayBid_15 (by decide) (fun c_15_2 => ?_) (fun c_15_2 => ?_)
    · refine lv_iconst (v := 0) hx hb dX4_mayBid_22 (by decide) ?_
      exact hret _ _ _ (by simp only [mbZ, if_pos c_7_1, if_pos c_15_2]) dX4_mayBid_23
    · refine lv_iconst (v := 1) hx hb dX4_mayBid_18 (by decide) ?_
      refine lv_goto (tgt := 23) hx hb dX4_mayBid_19 (by decide) ?_
      exact hret _ _ _ (by simp only [mbZ, if_pos c_7_1, if_neg c_15_2]) dX4_mayBid_23
set_option maxHeartbeats 4000000 in
set_option maxRecDepth 100000 in
theorem c_X4_pass (l : Launch) (G : qG) (a : Nat → Nat) (z sp pa st sv pd tl : Nat → Int32) (ns ty spt tm : Int32) (hok : PaOK z) (sz : Nat) : MV l yX4_pass wsX4_pass 1 23 G sz [.ref (a 0)] (mw G a z sp pa st sv pd tl ns ty spt tm) (mw G a (psZ z) sp pa st sv pd tl ns ty spt tm) := by
  refine MV.of' (by decide) rfl (Nat.le_of_ble_eq_true rfl) ?_
  intro p e s m below meth c hx hb hml hown hts hK hsz hP A hAe hA hD hS hmn Q hret ls hl
  have hown : s.vm.findClass RX4 = some m.cls := hown
  have hl : lv_has ls 2 [(0, .ref (a 0))] := hl
  have wk1 := hts (Cond.fieldLink RX4 7 "TurnBidsModel" "z" "[I") (List.mem_of_getElem? (i := 1) rfl)
  have wk2 := hts (Cond.constant RX4 39 (-100006)) (List.mem_of_getElem? (i := 2) rfl)
  have wk3 := hts (Cond.methodLink RX4 70 yX4_playerAt) (List.mem_of_getElem? (i := 3) rfl)
  have hinX4 : ∀ w ∈ wsX40, w ∈ wsX4_pass := fun _ h => (List.mem_cons_of_mem _ (List.mem_append_right _ h))
  obtain ⟨hz5, hpl0, hpl, hsd0⟩ := hok
  refine lv_aload_n hx hb dX4_pass_0 rfl (lv_at hl 0 rfl) ?_
  refine va_get (D := G.1) (ci := 4) (v := .ref (a 1)) (C := RX4) (T := TX4) (N := 11) hx hb hts hinX4 hown hK.1 hP 0 rfl rfl 0 (by decide) wk1 (fun _ h9 => h9) rfl dX4_pass_1 ?_
  refine lv_bipush (v := 18) hx hb dX4_pass_4 (by decide) ?_
  refine lv_aload_n hx hb dX4_pass_6 rfl (lv_at hl 0 rfl) ?_
  refine va_get (D := G.1) (ci := 4) (v := .ref (a 1)) (C := RX4) (T := TX4) (N := 11) hx hb hts hinX4 hown hK.1 hP 0 rfl rfl 0 (by decide) wk1 (fun _ h9 => h9) rfl dX4_pass_7 ?_
  refine lv_iconst (v := 5) hx hb dX4_pass_10 (by decide) ?_
  refine qild hx hb hK.1 hP 1 0 rfl rfl (k := 5) rfl (vp_in_nI (n := 5) (by decide) (by decide)) dX4_pass_11 ?_
  refine lv_iadd hx hb dX4_pass_12 ?_
  refine qild hx hb hK.1 hP 1 0 rfl rfl (k := 18 + ix (z 5)) (ixa (c := 18) (m := 5) (n := 53) rfl (by assumption) (by decide) (by decide)).1 (ixa (c := 18) (m := 5) (n := 53) rfl (by assumption) (by decide) (by decide)).2 dX4_pass_13 ?_
  refine lv_istore_n (lv' := [(1, .int (z (18 + ix (z 5)))), (0, .ref (a 0))]) hx hb dX4_pass_14 rfl hl (by decide) rfl (fun ls hl => ?_)
  have L15 : ∀ (f j : Nat), j < 5 → sdP z f j → npL z f j = npL z 4 (ix (z (18 + ix (z 5)))) → ∀ ls : Array Slot, lv_has ls 2 [(1, .int (nI j)), (0, .ref (a 0))] → W p l e { frames := 1, cells := 0, slots := 0, locals := 23 } s m ([.ref (a 0)] : List Value).toArray below meth c s.heap [] 0 0 Q (F0 m 15 ls []) := by
    intro f
    induction f with
    | zero =>
      intro j hj hsd hv ls hl
      have hj2 : nxt j < 5 := Nat.mod_lt _ (by decide)
      have hv5 := hpl (nxt j) hj2
      refine lv_iload_n hx hb dX4_pass_15 rfl (lv_at hl 0 rfl) ?_
      refine lv_iconst (v := 1) hx hb dX4_pass_16 (by decide) ?_
      refine lv_iadd hx hb dX4_pass_17 ?_
      refine qtop (nI_add j 1) ?_
      refine lv_iconst (v := 5) hx hb dX4_pass_18 (by decide) ?_
      refine lv_irem hx hb dX4_pass_19 (by decide) ?_
      refine qtop (y := nI (nxt j)) (by rw [show nxt j = (j + 1) % 5 from rfl]; exact pk_rem (a := j + 1) (d := 5) (by omega) (by decide) (by decide)) ?_
      refine lv_istore_n (lv' := [(1, .int (nI (nxt j))), (0, .ref (a 0))]) hx hb dX4_pass_20 rfl hl (by decide) rfl (fun ls hl => ?_)
      refine lv_aload_n hx hb dX4_pass_21 rfl (lv_at hl 1 rfl) ?_
      refine va_get (D := G.1) (ci := 4) (v := .ref (a 1)) (C := RX4) (T := TX4) (N := 11) hx hb hts hinX4 hown hK.1 hP 0 rfl rfl 0 (by decide) wk1 (fun _ h9 => h9) rfl dX4_pass_22 ?_
      refine lv_bipush (v := 28) hx hb dX4_pass_25 (by decide) ?_
      refine lv_aload_n hx hb dX4_pass_27 rfl (lv_at hl 1 rfl) ?_
      refine lv_iload_n hx hb dX4_pass_28 rfl (lv_at hl 0 rfl) ?_
      refine cPV (As := [.int (nI (nxt j))]) (rest := [.int 28, .ref (a 1)]) ⟨hx, hb, hml, hown, hts⟩ (c_X4_playerAt l G a z sp pa st sv pd tl ns ty spt tm (nI (nxt j))) (cwV 1 hts gX4_pass_X4_playerAt rfl rfl rfl (by decide +kernel) ⟨Nat.le_of_ble_eq_true rfl, Nat.le_of_ble_eq_true rfl⟩) hK hP 0 (ci := 4) rfl rfl rfl rfl rfl hl.1 (Nat.le_of_ble_eq_true rfl) dX4_pass_29 ⟨Nat.le_of_ble_eq_true rfl, Nat.le_of_ble_eq_true rfl⟩ ?_
      refine lv_iadd hx hb dX4_pass_32 ?_
      refine qild hx hb hK.1 hP 1 0 rfl rfl (k := 28 + ix (mAt z (nI (nxt j)))) (ixa (c := 28) (m := 5) (n := 53) rfl (by assumption) (by decide) (by decide)).1 (ixa (c := 28) (m := 5) (n := 53) rfl (by assumption) (by decide) (by decide)).2 dX4_pass_33 ?_
      refine lv_ldc (v := (-100006)) hx hb hown wk2 dX4_pass_34 ?_
      refine lv_icmp_ne (tgt := 15) hx hb dX4_pass_36 (by decide) (fun c_9 => absurd hsd c_9) (fun _ => ?_)
      refine lv_aload_n hx hb dX4_pass_39 rfl (lv_at hl 1 rfl) ?_
      refine va_get (D := G.1) (ci := 4) (v := .ref (a 1)) (C := RX4) (T := TX4) (N := 11) hx hb hts hinX4 hown hK.1 hP 0 rfl rfl 0 (by decide) wk1 (fun _ h9 => h9) rfl dX4_pass_40 ?_
      refine lv_iconst (v := 5) hx hb dX4_pass_43 (by decide) ?_
      refine lv_aload_n hx hb dX4_pass_44 rfl (lv_at hl 1 rfl) ?_
      refine lv_iload_n hx hb dX4_pass_45 rfl (lv_at hl 0 rfl) ?_
      refine cPV (As := [.int (nI (nxt j))]) (rest := [.int 5, .ref (a 1)]) ⟨hx, hb, hml, hown, hts⟩ (c_X4_playerAt l G a z sp pa st sv pd tl ns ty spt tm (nI (nxt j))) (cwV 1 hts gX4_pass_X4_playerAt rfl rfl rfl (by decide +kernel) ⟨Nat.le_of_ble_eq_true rfl, Nat.le_of_ble_eq_true rfl⟩) hK hP 0 (ci := 4) rfl rfl rfl rfl rfl hl.1 (Nat.le_of_ble_eq_true rfl) dX4_pass_46 ⟨Nat.le_of_ble_eq_true rfl, Nat.le_of_ble_eq_true rfl⟩ ?_
      refine qist hx hb hK.1 hP hD hS 1 0 rfl rfl (k := 5) rfl (vp_in_nI (n := 5) (by decide) (by decide)) dX4_pass_49 (fun H locs hP hD hS => ?_)
      have hP : va_P G.1 vwCl (mw G a (upd z 5 (mAt z (nI (nxt j)))) sp pa st sv pd tl ns ty spt tm) H := hP
      have hD : va_D A (mw G a (upd z 5 (mAt z (nI (nxt j)))) sp pa st sv pd tl ns ty spt tm) := hD
      have hf0 : upd z 5 (mAt z (nI (nxt j))) = psZ z := by rw [psZ, ← hv]; simp only [npL]
      rw [hf0] at hP hD
      exact hret _ _ _ _ () trivial hP hD hS dX4_pass_50
    | succ f ih =>
      intro j hj hsd hv ls hl
      have hj2 : nxt j < 5 := Nat.mod_lt _ (by decide)
      have hv5 := hpl (nxt j) hj2
      refine lv_iload_n hx hb dX4_pass_15 rfl (lv_at hl 0 rfl) ?_
      refine lv_iconst (v := 1) hx hb dX4_pass_16 (by decide) ?_
      refine lv_iadd hx hb dX4_pass_17 ?_
      refine qtop (nI_add j 1) ?_
      refine lv_iconst (v := 5) hx hb dX4_pass_18 (by decide) ?_
      refine lv_irem hx hb dX4_pass_19 (by decide) ?_
      refine qtop (y := nI (nxt j)) (by rw [show nxt j = (j + 1) % 5 from rfl]; exact pk_rem (a := j + 1) (d := 5) (by omega) (by decide) (by decide)) ?_
      refine lv_istore_n (lv' := [(1, .int (nI (nxt j))), (0, .ref (a 0))]) hx hb dX4_pass_20 rfl hl (by decide) rfl (fun ls hl => ?_)
      refine lv_aload_n hx hb dX4_pass_21 rfl (lv_at hl 1 rfl) ?_
      refine va_get (D := G.1) (ci := 4) (v := .ref (a 1)) (C := RX4) (T := TX4) (N := 11) hx hb hts hinX4 hown hK.1 hP 0 rfl rfl 0 (by decide) wk1 (fun _ h9 => h9) rfl dX4_pass_22 ?_
      refine lv_bipush (v := 28) hx hb dX4_pass_25 (by decide) ?_
      refine lv_aload_n hx hb dX4_pass_27 rfl (lv_at hl 1 rfl) ?_
      refine lv_iload_n hx hb dX4_pass_28 rfl (lv_at hl 0 rfl) ?_
      refine cPV (As := [.int (nI (nxt j))]) (rest := [.int 28, .ref (a 1)]) ⟨hx, hb, hml, hown, hts⟩ (c_X4_playerAt l G a z sp pa st sv pd tl ns ty spt tm (nI (nxt j))) (cwV 1 hts gX4_pass_X4_playerAt rfl rfl rfl (by decide +kernel) ⟨Nat.le_of_ble_eq_true rfl, Nat.le_of_ble_eq_true rfl⟩) hK hP 0 (ci := 4) rfl rfl rfl rfl rfl hl.1 (Nat.le_of_ble_eq_true rfl) dX4_pass_29 ⟨Nat.le_of_ble_eq_true rfl, Nat.le_of_ble_eq_true rfl⟩ ?_
      refine lv_iadd hx hb dX4_pass_32 ?_
      refine qild hx hb hK.1 hP 1 0 rfl rfl (k := 28 + ix (mAt z (nI (nxt j)))) (ixa (c := 28) (m := 5) (n := 53) rfl (by assumption) (by decide) (by decide)).1 (ixa (c := 28) (m := 5) (n := 53) rfl (by assumption) (by decide) (by decide)).2 dX4_pass_33 ?_
      refine lv_ldc (v := (-100006)) hx hb hown wk2 dX4_pass_34 ?_
      refine lv_icmp_ne (tgt := 15) hx hb dX4_pass_36 (by decide) (fun c_36_1 => ?_) (fun c_36_1 => ?_)
      · exact ih (nxt j) hj2 (hsd.resolve_left c_36_1) (by rw [← hv]; simp only [npL, if_neg c_36_1]) ls (lv_sub hl [0, 1] rfl)
      · refine lv_aload_n hx hb dX4_pass_39 rfl (lv_at hl 1 rfl) ?_
        refine va_get (D := G.1) (ci := 4) (v := .ref (a 1)) (C := RX4) (T := TX4) (N := 11) hx hb hts hinX4 hown hK.1 hP 0 rfl rfl 0 (by decide) wk1 (fun _ h9 => h9) rfl dX4_pass_40 ?_
        refine lv_iconst (v := 5) hx hb dX4_pass_43 (by decide) ?_
        refine lv_aload_n hx hb dX4_pass_44 rfl (lv_at hl 1 rfl) ?_
        refine lv_iload_n hx hb dX4_pass_45 rfl (lv_at hl 0 rfl) ?_
        refine cPV (As := [.int (nI (nxt j))]) (rest := [.int 5, .ref (a 1)]) ⟨hx, hb, hml, hown, hts⟩ (c_X4_playerAt l G a z sp pa st sv pd tl ns ty spt tm (nI (nxt j))) (cwV 1 hts gX4_pass_X4_playerAt rfl rfl rfl (by decide +kernel) ⟨Nat.le_of_ble_eq_true rfl, Nat.le_of_ble_eq_true rfl⟩) hK hP 0 (ci := 4) rfl rfl rfl rfl rfl hl.1 (Nat.le_of_ble_eq_true rfl) dX4_pass_46 ⟨Nat.le_of_ble_eq_true rfl, Nat.le_of_ble_eq_true rfl⟩ ?_
        refine qist hx hb hK.1 hP hD hS 1 0 rfl rfl (k := 5) rfl (vp_in_nI (n := 5) (by decide) (by decide)) dX4_pass_49 (fun H locs hP hD hS => ?_)
        have hP : va_P G.1 vwCl (mw G a (upd z 5 (mAt z (nI (nxt j)))) sp pa st sv pd tl ns ty spt tm) H := hP
        have hD : va_D A (mw G a (upd z 5 (mAt z (nI (nxt j)))) sp pa st sv pd tl ns ty spt tm) := hD
        have hf0 : upd z 5 (mAt z (nI (nxt j))) = psZ z := by rw [psZ, ← hv]; simp only [npL, if_pos c_36_1]
        rw [hf0] at hP hD
        exact hret _ _ _ _ () trivial hP hD hS dX4_pass_50
  obtain ⟨j0, hj0, hj1⟩ := vp_in_of hpl0 (by decide)
  rw [hj1] at hl
  exact L15 4 j0 hj0 (by rw [hj1, ix, nI_clamp (by omega)] at hsd0; exact hsd0) (by rw [hj1, ix, nI_clamp (by omega)]) ls (lv_sub hl [0, 1] rfl)
set_option maxHeartbeats 4000000 in
set_option maxRecDepth 100000 in
theorem c_X4_bidNow (l : Launch) (G : qG) (a : Nat → Nat) (z sp pa st sv pd tl : Nat → Int32) (ns ty spt tm : Int32) (k : Int32) (hok : BdOK z k) (sz : Nat) : MV l yX4_bidNow wsX4_bidNow 2 44 G sz [.ref (a 0), .int k] (mw G a z sp pa st sv pd tl ns ty spt tm) (mw G a (bdZ z k) sp pa st sv pd tl ns ty spt tm) := by
  refine MV.of' (by decide) rfl (Nat.le_of_ble_eq_true rfl) ?_
  intro p e s m below meth c hx hb hml hown hts hK hsz hP A hAe hA hD hS hmn Q hret ls hl
  have hown : s.vm.findClass RX4 = some m.cls := hown
  have hl : lv_has ls 2 [(0, .ref (a 0)), (1, .int k)] := hl
  have wk1 := hts (Cond.fieldLink RX4 7 "TurnBidsModel" "z" "[I") (List.mem_of_getElem? (i := 1) rfl)
  have wk2 := hts (Cond.methodLink RX4 77 yX4_pass) (List.mem_of_getElem? (i := 2) rfl)
  have hinX4 : ∀ w ∈ wsX40, w ∈ wsX4_bidNow := fun _ h => (List.mem_cons_of_mem _ (List.mem_append_right _ h))
  obtain ⟨hz5, hpa⟩ := hok
  refine lv_aload_n hx hb dX4_bidNow_0 rfl (lv_at hl 0 rfl) ?_
  refine va_get (D := G.1) (ci := 4) (v := .ref (a 1)) (C := RX4) (T := TX4) (N := 11) hx hb hts hinX4 hown hK.1 hP 0 rfl rfl 0 (by decide) wk1 (fun _ h9 => h9) rfl dX4_bidNow_1 ?_
  refine lv_bipush (v := 23) hx hb dX4_bidNow_4 (by decide) ?_
  refine lv_aload_n hx hb dX4_bidNow_6 rfl (lv_at hl 0 rfl) ?_
  refine va_get (D := G.1) (ci := 4) (v := .ref (a 1)) (C := RX4) (T := TX4) (N := 11) hx hb hts hinX4 hown hK.1 hP 0 rfl rfl 0 (by decide) wk1 (fun _ h9 => h9) rfl dX4_bidNow_7 ?_
  refine lv_iconst (v := 5) hx hb dX4_bidNow_10 (by decide) ?_
  refine qild hx hb hK.1 hP 1 0 rfl rfl (k := 5) rfl (vp_in_nI (n := 5) (by decide) (by decide)) dX4_bidNow_11 ?_
  refine lv_iadd hx hb dX4_bidNow_12 ?_
  refine lv_iload_n hx hb dX4_bidNow_13 rfl (lv_at hl 1 rfl) ?_
  refine qist hx hb hK.1 hP hD hS 1 0 rfl rfl (k := 23 + ix (z 5)) (ixa (c := 23) (m := 5) (n := 53) rfl (by assumption) (by decide) (by decide)).1 (ixa (c := 23) (m := 5) (n := 53) rfl (by assumption) (by decide) (by decide)).2 dX4_bidNow_14 (fun H locs hP hD hS => ?_)
  have hP : va_P G.1 vwCl (mw G a (upd z (23 + ix (z 5)) k) sp pa st sv pd tl ns ty spt tm) H := hP
  have hD : va_D A (mw G a (upd z (23 + ix (z 5)) k) sp pa st sv pd tl ns ty spt tm) := hD
  refine lv_aload_n hx hb dX4_bidNow_15 rfl (lv_at hl 0 rfl) ?_
  refine va_get (D := G.1) (ci := 4) (v := .ref (a 1)) (C := RX4) (T := TX4) (N := 11) hx hb hts hinX4 hown hK.1 hP 0 rfl rfl 0 (by decide) wk1 (fun _ h9 => h9) rfl dX4_bidNow_16 ?_
  refine lv_bipush (v := 6) hx hb dX4_bidNow_19 (by decide) ?_
  refine lv_iload_n hx hb dX4_bidNow_21 rfl (lv_at hl 1 rfl) ?_
  refine qist hx hb hK.1 hP hD hS 1 0 rfl rfl (k := 6) rfl (vp_in_nI (n := 6) (by decide) (by decide)) dX4_bidNow_22 (fun H locs hP hD hS => ?_)
  have hP : va_P G.1 vwCl (mw G a (upd (upd z (23 + ix (z 5)) k) 6 k) sp pa st sv pd tl ns ty spt tm) H := hP
  have hD : va_D A (mw G a (upd (upd z (23 + ix (z 5)) k) 6 k) sp pa st sv pd tl ns ty spt tm) := hD
  refine lv_aload_n hx hb dX4_bidNow_23 rfl (lv_at hl 0 rfl) ?_
  refine cAV (As := []) (rest := []) ⟨hx, hb, hml, hown, hts⟩ (c_X4_pass l G a (upd (upd z (23 + ix (z 5)) k) 6 k) sp pa st sv pd tl ns ty spt tm hpa _) (cwV 0 hts gX4_bidNow_X4_pass rfl rfl rfl (by decide +kernel) ⟨Nat.le_of_ble_eq_true rfl, Nat.le_of_ble_eq_true rfl⟩) hK hP hD hS hA 0 (ci := 4) rfl rfl rfl rfl rfl hl.1 (Nat.le_of_ble_eq_true rfl) dX4_bidNow_24 ⟨Nat.le_of_ble_eq_true rfl, Nat.le_of_ble_eq_true rfl⟩ (fun u_1 H locs hr_1 hP hD hS => ?_)
  have hP : va_P G.1 vwCl (mw G a (psZ (upd (upd z (23 + ix (z 5)) k) 6 k)) sp pa st sv pd tl ns ty spt tm) H := hP
  have hD : va_D A (mw G a (psZ (upd (upd z (23 + ix (z 5)) k) 6 k)) sp pa st sv pd tl ns ty spt tm) := hD
  have hf0 : psZ (upd (upd z (23 + ix (z 5)) k) 6 k) = bdZ z k := (by simp only [bdZ, bdA])
  rw [hf0] at hP hD
  exact hret _ _ _ _ () trivial hP hD hS dX4_bidNow_27
set_option maxHeartbeats 4000000 in
set_option maxRecDepth 100000 in
theorem c_X4_endNow (l : Launch) (G : qG) (a : Nat → Nat) (z sp pa st sv pd tl : Nat → Int32) (ns ty spt tm : Int32) (x : Int32) (hx5 : vp_in x 5) (sz : Nat) : MV l yX4_endNow wsX4_endNow 1 25 G sz [.ref (a 0), .int x] (mw G a z sp pa st sv pd tl ns ty spt tm) (mw G a (ndZ z x) sp pa st sv pd tl ns ty spt tm) := by
  refine MV.of' (by decide) rfl (Nat.le_of_ble_eq_true rfl) ?_
  intro p e s m below meth c hx hb hml hown hts hK hsz hP A hAe hA hD hS hmn Q hret ls hl
  have hown : s.vm.findClass RX4 = some m.cls := hown
  have hl : lv_has ls 5 [(0, .ref (a 0)), (1, .int x)] := hl
  have wk1 := hts (Cond.fieldLink RX4 7 "TurnBidsModel" "z" "[I") (List.mem_of_getElem? (i := 1) rfl)
  have wk2 := hts (Cond.constant RX4 39 (-100006)) (List.mem_of_getElem? (i := 2) rfl)
  have wk3 := hts (Cond.methodLink RX4 83 yX4_pay) (List.mem_of_getElem? (i := 3) rfl)
  have wk8 := hts (Cond.methodLink RX4 91 yX4_prizeAt) (List.mem_of_getElem? (i := 8) rfl)
  have wk12 := hts (Cond.methodLink RX4 32 yX4_clearAuction) (List.mem_of_getElem? (i := 12) rfl)
  have hinX4 : ∀ w ∈ wsX40, w ∈ wsX4_endNow := fun _ h => (List.mem_cons_of_mem _ (List.mem_append_right _ h))
  refine lv_aload_n hx hb dX4_endNow_0 rfl (lv_at hl 0 rfl) ?_
  refine va_get (D := G.1) (ci := 4) (v := .ref (a 1)) (C := RX4) (T := TX4) (N := 11) hx hb hts hinX4 hown hK.1 hP 0 rfl rfl 0 (by decide) wk1 (fun _ h9 => h9) rfl dX4_endNow_1 ?_
  refine lv_bipush (v := 23) hx hb dX4_endNow_4 (by decide) ?_
  refine lv_iload_n hx hb dX4_endNow_6 rfl (lv_at hl 1 rfl) ?_
  refine lv_iadd hx hb dX4_endNow_7 ?_
  refine qild hx hb hK.1 hP 1 0 rfl rfl (k := 23 + ix x) (ixa (c := 23) (m := 5) (n := 53) rfl (by assumption) (by decide) (by decide)).1 (ixa (c := 23) (m := 5) (n := 53) rfl (by assumption) (by decide) (by decide)).2 dX4_endNow_8 ?_
  refine lv_ldc (v := (-100006)) hx hb hown wk2 dX4_endNow_9 ?_
  refine lv_icmp_eq (tgt := 41) hx hb dX4_endNow_11 (by decide) (fun c_11_1 => ?_) (fun c_11_1 => ?_)
  · refine lv_aload_n hx hb dX4_endNow_41 rfl (lv_at hl 0 rfl) ?_
    refine va_get (D := G.1) (ci := 4) (v := .ref (a 1)) (C := RX4) (T := TX4) (N := 11) hx hb hts hinX4 hown hK.1 hP 0 rfl rfl 0 (by decide) wk1 (fun _ h9 => h9) rfl dX4_endNow_42 ?_
    refine lv_bipush (v := 28) hx hb dX4_endNow_45 (by decide) ?_
    refine lv_iload_n hx hb dX4_endNow_47 rfl (lv_at hl 1 rfl) ?_
    refine lv_iadd hx hb dX4_endNow_48 ?_
    refine lv_iconst (v := 0) hx hb dX4_endNow_49 (by decide) ?_
    refine qist hx hb hK.1 hP hD hS 1 0 rfl rfl (k := 28 + ix x) (ixa (c := 28) (m := 5) (n := 53) rfl (by assumption) (by decide) (by decide)).1 (ixa (c := 28) (m := 5) (n := 53) rfl (by assumption) (by decide) (by decide)).2 dX4_endNow_50 (fun H locs hP hD hS => ?_)
    have hP : va_P G.1 vwCl (mw G a (upd z (28 + ix x) 0) sp pa st sv pd tl ns ty spt tm) H := hP
    have hD : va_D A (mw G a (upd z (28 + ix x) 0) sp pa st sv pd tl ns ty spt tm) := hD
    refine lv_aload_n hx hb dX4_endNow_51 rfl (lv_at hl 0 rfl) ?_
    refine va_get (D := G.1) (ci := 4) (v := .ref (a 1)) (C := RX4) (T := TX4) (N := 11) hx hb hts hinX4 hown hK.1 hP 0 rfl rfl 0 (by decide) wk1 (fun _ h9 => h9) rfl dX4_endNow_52 ?_
    refine lv_bipush (v := 43) hx hb dX4_endNow_55 (by decide) ?_
    refine lv_iload_n hx hb dX4_endNow_57 rfl (lv_at hl 1 rfl) ?_
    refine lv_iadd hx hb dX4_endNow_58 ?_
    refine lv_dup2_11 hx hb dX4_endNow_59 rfl rfl ?_
    refine qild hx hb hK.1 hP 1 0 rfl rfl (k := 43 + ix x) (ixa (c := 43) (m := 5) (n := 53) rfl (by assumption) (by decide) (by decide)).1 (ixa (c := 43) (m := 5) (n := 53) rfl (by assumption) (by decide) (by decide)).2 dX4_endNow_60 ?_
    refine lv_iconst (v := 1) hx hb dX4_endNow_61 (by decide) ?_
    refine lv_iadd hx hb dX4_endNow_62 ?_
    refine qist hx hb hK.1 hP hD hS 1 0 rfl rfl (k := 43 + ix x) (ixa (c := 43) (m := 5) (n := 53) rfl (by assumption) (by decide) (by decide)).1 (ixa (c := 43) (m := 5) (n := 53) rfl (by assumption) (by decide) (by decide)).2 dX4_endNow_63 (fun H locs hP hD hS => ?_)
    have hP : va_P G.1 vwCl (mw G a (upd (upd z (28 + ix x) 0) (43 + ix x) (((upd z (28 + ix x) 0) (43 + ix x)) + 1)) sp pa st sv pd tl ns ty spt tm) H := hP
    have hD : va_D A (mw G a (upd (upd z (28 + ix x) 0) (43 + ix x) (((upd z (28 + ix x) 0) (43 + ix x)) + 1)) sp pa st sv pd tl ns ty spt tm) := hD
    refine lv_iconst (v := 0) hx hb dX4_endNow_64 (by decide) ?_
    refine lv_istore_n (lv' := [(2, .int 0), (0, .ref (a 0)), (1, .int x)]) hx hb dX4_endNow_65 rfl hl (by decide) rfl (fun ls hl => ?_)
    have L66 : ∀ (f i : Nat)  (y : Nat → Int32), i + f = 5 → ndE (ndL f i y) = ndZ z x → ∀ (H : Heap) (locs : List Loc), va_P G.1 vwCl (mw G a y sp pa st sv pd tl ns ty spt tm) H → va_D A (mw G a y sp pa st sv pd tl ns ty spt tm) → va_S A s.heap H locs → ∀ ls : Array Slot, lv_has ls 5 [(2, .int (nI i)), (0, .ref (a 0)), (1, .int x)] → W p l e { frames := 1, cells := 0, slots := 0, locals := 25 } s m ([.ref (a 0), .int x] : List Value).toArray below meth c H locs 0 0 Q (F0 m 66 ls []) := by
      intro f
      induction f with
      | zero =>
        intro i y hi hv66 H locs hP hD hS ls hl
        obtain rfl : i = 5 := by omega
        refine lv_iload_n hx hb dX4_endNow_66 rfl (lv_at hl 0 rfl) ?_
        refine lv_iconst (v := 5) hx hb dX4_endNow_67 (by decide) ?_
        refine lv_icmp_ge (tgt := 160) hx hb dX4_endNow_68 (by decide) (fun _ => ?_) (fun c_9 => absurd (by decide +kernel) c_9)
        refine lv_aload_n hx hb dX4_endNow_160 rfl (lv_at hl 1 rfl) ?_
        refine va_get (D := G.1) (ci := 4) (v := .ref (a 1)) (C := RX4) (T := TX4) (N := 11) hx hb hts hinX4 hown hK.1 hP 0 rfl rfl 0 (by decide) wk1 (fun _ h9 => h9) rfl dX4_endNow_161 ?_
        refine lv_bipush (v := 7) hx hb dX4_endNow_164 (by decide) ?_
        refine lv_dup2_11 hx hb dX4_endNow_166 rfl rfl ?_
        refine qild hx hb hK.1 hP 1 0 rfl rfl (k := 7) rfl (vp_in_nI (n := 7) (by decide) (by decide)) dX4_endNow_167 ?_
        refine lv_iconst (v := 1) hx hb dX4_endNow_168 (by decide) ?_
        refine lv_iadd hx hb dX4_endNow_169 ?_
        refine qist hx hb hK.1 hP hD hS 1 0 rfl rfl (k := 7) rfl (vp_in_nI (n := 7) (by decide) (by decide)) dX4_endNow_170 (fun H locs hP hD hS => ?_)
        have hP : va_P G.1 vwCl (mw G a (upd y 7 ((y 7) + 1)) sp pa st sv pd tl ns ty spt tm) H := hP
        have hD : va_D A (mw G a (upd y 7 ((y 7) + 1)) sp pa st sv pd tl ns ty spt tm) := hD
        refine lv_aload_n hx hb dX4_endNow_171 rfl (lv_at hl 1 rfl) ?_
        refine cAV (As := []) (rest := []) ⟨hx, hb, hml, hown, hts⟩ (c_X4_clearAuction l G a (upd y 7 ((y 7) + 1)) sp pa st sv pd tl ns ty spt tm _) (cwV 0 hts gX4_endNow_X4_clearAuction rfl rfl rfl (by decide +kernel) ⟨Nat.le_of_ble_eq_true rfl, Nat.le_of_ble_eq_true rfl⟩) hK hP hD hS hA 0 (ci := 4) rfl rfl rfl rfl rfl hl.1 (Nat.le_of_ble_eq_true rfl) dX4_endNow_172 ⟨Nat.le_of_ble_eq_true rfl, Nat.le_of_ble_eq_true rfl⟩ (fun u_2 H locs hr_2 hP hD hS => ?_)
        have hP : va_P G.1 vwCl (mw G a (clZ (upd y 7 ((y 7) + 1))) sp pa st sv pd tl ns ty spt tm) H := hP
        have hD : va_D A (mw G a (clZ (upd y 7 ((y 7) + 1))) sp pa st sv pd tl ns ty spt tm) := hD
        have hf0 : clZ (upd y 7 ((y 7) + 1)) = ndZ z x := (by rw [← hv66]; simp only [ndZ, ndE, ndS, nd1, nd2, nd3, ndB, ndA, ndL, if_pos c_11_1])
        rw [hf0] at hP hD
        exact hret _ _ _ _ () trivial hP hD hS dX4_endNow_175
      | succ f ih =>
        intro i y hi hv66 H locs hP hD hS ls hl
        have hlt : i < 5 := by omega
        refine lv_iload_n hx hb dX4_endNow_66 rfl (lv_at hl 0 rfl) ?_
        refine lv_iconst (v := 5) hx hb dX4_endNow_67 (by decide) ?_
        refine lv_icmp_ge (tgt := 160) hx hb dX4_endNow_68 (by decide) (fun c_9 => absurd c_9 (nI_ge (b := 5) hlt (by decide))) (fun _ => ?_)
        refine lv_aload_n hx hb dX4_endNow_71 rfl (lv_at hl 1 rfl) ?_
        refine lv_aload_n hx hb dX4_endNow_72 rfl (lv_at hl 1 rfl) ?_
        refine va_get (D := G.1) (ci := 4) (v := .ref (a 1)) (C := RX4) (T := TX4) (N := 11) hx hb hts hinX4 hown hK.1 hP 0 rfl rfl 0 (by decide) wk1 (fun _ h9 => h9) rfl dX4_endNow_73 ?_
        refine lv_bipush (v := 28) hx hb dX4_endNow_76 (by decide) ?_
        refine lv_iload_n hx hb dX4_endNow_78 rfl (lv_at hl 0 rfl) ?_
        refine lv_iadd hx hb dX4_endNow_79 ?_
        refine qtop (nI_add 28 i) ?_
        refine qild hx hb hK.1 hP 1 0 rfl rfl (k := 28 + i) (nI_clamp (by omega)) (vp_in_nI (by omega) (by decide)) dX4_endNow_80 ?_
        refine cPV (As := [.int (y (28 + i))]) (rest := []) ⟨hx, hb, hml, hown, hts⟩ (c_X4_prizeAt l G a y sp pa st sv pd tl ns ty spt tm (y (28 + i))) (cwV 1 hts gX4_endNow_X4_prizeAt rfl rfl rfl (by decide +kernel) ⟨Nat.le_of_ble_eq_true rfl, Nat.le_of_ble_eq_true rfl⟩) hK hP 0 (ci := 4) rfl rfl rfl rfl rfl hl.1 (Nat.le_of_ble_eq_true rfl) dX4_endNow_81 ⟨Nat.le_of_ble_eq_true rfl, Nat.le_of_ble_eq_true rfl⟩ ?_
        refine lv_istore_n (lv' := [(3, .int (mpZ y (y (28 + i)))), (2, .int (nI i)), (0, .ref (a 0)), (1, .int x)]) hx hb dX4_endNow_84 rfl hl (by decide) rfl (fun ls hl => ?_)
        refine lv_aload_n hx hb dX4_endNow_85 rfl (lv_at hl 2 rfl) ?_
        refine va_get (D := G.1) (ci := 4) (v := .ref (a 1)) (C := RX4) (T := TX4) (N := 11) hx hb hts hinX4 hown hK.1 hP 0 rfl rfl 0 (by decide) wk1 (fun _ h9 => h9) rfl dX4_endNow_86 ?_
        refine lv_bipush (v := 8) hx hb dX4_endNow_89 (by decide) ?_
        refine lv_iload_n hx hb dX4_endNow_91 rfl (lv_at hl 1 rfl) ?_
        refine lv_iadd hx hb dX4_endNow_92 ?_
        refine qtop (nI_add 8 i) ?_
        refine qild hx hb hK.1 hP 1 0 rfl rfl (k := 8 + i) (nI_clamp (by omega)) (vp_in_nI (by omega) (by decide)) dX4_endNow_93 ?_
        refine lv_iload_n hx hb dX4_endNow_94 rfl (lv_at hl 0 rfl) ?_
        refine lv_iadd hx hb dX4_endNow_95 ?_
        refine lv_istore (lv' := [(4, .int ((y (8 + i)) + (mpZ y (y (28 + i))))), (3, .int (mpZ y (y (28 + i)))), (2, .int (nI i)), (0, .ref (a 0)), (1, .int x)]) hx hb dX4_endNow_96 hl (by decide) rfl (fun ls hl => ?_)
        refine lv_aload_n hx hb dX4_endNow_98 rfl (lv_at hl 3 rfl) ?_
        refine va_get (D := G.1) (ci := 4) (v := .ref (a 1)) (C := RX4) (T := TX4) (N := 11) hx hb hts hinX4 hown hK.1 hP 0 rfl rfl 0 (by decide) wk1 (fun _ h9 => h9) rfl dX4_endNow_99 ?_
        refine lv_bipush (v := 18) hx hb dX4_endNow_102 (by decide) ?_
        refine lv_iload_n hx hb dX4_endNow_104 rfl (lv_at hl 2 rfl) ?_
        refine lv_iadd hx hb dX4_endNow_105 ?_
        refine qtop (nI_add 18 i) ?_
        refine lv_aload_n hx hb dX4_endNow_106 rfl (lv_at hl 3 rfl) ?_
        refine va_get (D := G.1) (ci := 4) (v := .ref (a 1)) (C := RX4) (T := TX4) (N := 11) hx hb hts hinX4 hown hK.1 hP 0 rfl rfl 0 (by decide) wk1 (fun _ h9 => h9) rfl dX4_endNow_107 ?_
        refine lv_bipush (v := 28) hx hb dX4_endNow_110 (by decide) ?_
        refine lv_iload_n hx hb dX4_endNow_112 rfl (lv_at hl 2 rfl) ?_
        refine lv_iadd hx hb dX4_endNow_113 ?_
        refine qtop (nI_add 28 i) ?_
        refine qild hx hb hK.1 hP 1 0 rfl rfl (k := 28 + i) (nI_clamp (by omega)) (vp_in_nI (by omega) (by decide)) dX4_endNow_114 ?_
        refine qist hx hb hK.1 hP hD hS 1 0 rfl rfl (k := 18 + i) (nI_clamp (by omega)) (vp_in_nI (by omega) (by decide)) dX4_endNow_115 (fun H locs hP hD hS => ?_)
        have hP : va_P G.1 vwCl (mw G a (upd y (18 + i) (y (28 + i))) sp pa st sv pd tl ns ty spt tm) H := hP
        have hD : va_D A (mw G a (upd y (18 + i) (y (28 + i))) sp pa st sv pd tl ns ty spt tm) := hD
        refine lv_aload_n hx hb dX4_endNow_116 rfl (lv_at hl 3 rfl) ?_
        refine va_get (D := G.1) (ci := 4) (v := .ref (a 1)) (C := RX4) (T := TX4) (N := 11) hx hb hts hinX4 hown hK.1 hP 0 rfl rfl 0 (by decide) wk1 (fun _ h9 => h9) rfl dX4_endNow_117 ?_
        refine lv_bipush (v := 8) hx hb dX4_endNow_120 (by decide) ?_
        refine lv_iload_n hx hb dX4_endNow_122 rfl (lv_at hl 2 rfl) ?_
        refine lv_iadd hx hb dX4_endNow_123 ?_
        refine qtop (nI_add 8 i) ?_
        refine lv_iload hx hb dX4_endNow_124 (lv_at hl 0 rfl) ?_
        refine lv_sipush (v := 9999) hx hb dX4_endNow_126 (by decide) ?_
        refine lv_icmp_le (tgt := 138) hx hb dX4_endNow_129 (by decide) (fun c_129_3 => ?_) (fun c_129_3 => ?_)
        · refine lv_iload hx hb dX4_endNow_138 (lv_at hl 0 rfl) ?_
          refine qist hx hb hK.1 hP hD hS 1 0 rfl rfl (k := 8 + i) (nI_clamp (by omega)) (vp_in_nI (by omega) (by decide)) dX4_endNow_140 (fun H locs hP hD hS => ?_)
          have hP : va_P G.1 vwCl (mw G a (upd (upd y (18 + i) (y (28 + i))) (8 + i) ((y (8 + i)) + (mpZ y (y (28 + i))))) sp pa st sv pd tl ns ty spt tm) H := hP
          have hD : va_D A (mw G a (upd (upd y (18 + i) (y (28 + i))) (8 + i) ((y (8 + i)) + (mpZ y (y (28 + i))))) sp pa st sv pd tl ns ty spt tm) := hD
          refine lv_aload_n hx hb dX4_endNow_141 rfl (lv_at hl 3 rfl) ?_
          refine va_get (D := G.1) (ci := 4) (v := .ref (a 1)) (C := RX4) (T := TX4) (N := 11) hx hb hts hinX4 hown hK.1 hP 0 rfl rfl 0 (by decide) wk1 (fun _ h9 => h9) rfl dX4_endNow_142 ?_
          refine lv_bipush (v := 38) hx hb dX4_endNow_145 (by decide) ?_
          refine lv_iload_n hx hb dX4_endNow_147 rfl (lv_at hl 2 rfl) ?_
          refine lv_iadd hx hb dX4_endNow_148 ?_
          refine qtop (nI_add 38 i) ?_
          refine lv_dup2_11 hx hb dX4_endNow_149 rfl rfl ?_
          refine qild hx hb hK.1 hP 1 0 rfl rfl (k := 38 + i) (nI_clamp (by omega)) (vp_in_nI (by omega) (by decide)) dX4_endNow_150 ?_
          refine lv_iload_n hx hb dX4_endNow_151 rfl (lv_at hl 1 rfl) ?_
          refine lv_iadd hx hb dX4_endNow_152 ?_
          refine lv_topi (fun x_4 hx_4 => ?_)
          refine qist hx hb hK.1 hP hD hS 1 0 rfl rfl (k := 38 + i) (nI_clamp (by omega)) (vp_in_nI (by omega) (by decide)) dX4_endNow_153 (fun H locs hP hD hS => ?_)
          have hP : va_P G.1 vwCl (mw G a (upd (upd (upd y (18 + i) (y (28 + i))) (8 + i) ((y (8 + i)) + (mpZ y (y (28 + i))))) (38 + i) x_4) sp pa st sv pd tl ns ty spt tm) H := hP
          have hD : va_D A (mw G a (upd (upd (upd y (18 + i) (y (28 + i))) (8 + i) ((y (8 + i)) + (mpZ y (y (28 + i))))) (38 + i) x_4) sp pa st sv pd tl ns ty spt tm) := hD
          obtain ⟨z_5, hT_5⟩ : ∃ w₀ : Nat → Int32, w₀ = upd (upd (upd y (18 + i) (y (28 + i))) (8 + i) ((y (8 + i)) + (mpZ y (y (28 + i))))) (38 + i) x_4 := ⟨_, rfl⟩
          have hP : va_P G.1 vwCl (mw G a z_5 sp pa st sv pd tl ns ty spt tm) H := by rw [hT_5]; exact hP
          have hD : va_D A (mw G a z_5 sp pa st sv pd tl ns ty spt tm) := by rw [hT_5]; exact hD
          refine lv_iinc (v := nI (i + 1)) (lv' := [(2, .int (nI (i + 1))), (4, .int ((y (8 + i)) + (mpZ y (y (28 + i))))), (3, .int (mpZ y (y (28 + i)))), (0, .ref (a 0)), (1, .int x)]) hx hb dX4_endNow_154 hl (k := 2) rfl (nI_1 _) (by decide) rfl (fun ls hl => ?_)
          refine lv_goto (tgt := 66) hx hb dX4_endNow_157 (by decide) ?_
          exact ih (i + 1)  z_5 (by omega) (by subst hx_4 hT_5; rw [← hv66]; simp only [ndZ, ndE, ndS, nd1, nd2, nd3, ndB, ndA, ndL, if_pos c_11_1, if_pos c_129_3]) _ _ hP hD hS ls (lv_sub hl [0, 3, 4] rfl)
        · refine lv_sipush (v := 9999) hx hb dX4_endNow_132 (by decide) ?_
          refine lv_goto (tgt := 140) hx hb dX4_endNow_135 (by decide) ?_
          refine qist hx hb hK.1 hP hD hS 1 0 rfl rfl (k := 8 + i) (nI_clamp (by omega)) (vp_in_nI (by omega) (by decide)) dX4_endNow_140 (fun H locs hP hD hS => ?_)
          have hP : va_P G.1 vwCl (mw G a (upd (upd y (18 + i) (y (28 + i))) (8 + i) 9999) sp pa st sv pd tl ns ty spt tm) H := hP
          have hD : va_D A (mw G a (upd (upd y (18 + i) (y (28 + i))) (8 + i) 9999) sp pa st sv pd tl ns ty spt tm) := hD
          refine lv_aload_n hx hb dX4_endNow_141 rfl (lv_at hl 3 rfl) ?_
          refine va_get (D := G.1) (ci := 4) (v := .ref (a 1)) (C := RX4) (T := TX4) (N := 11) hx hb hts hinX4 hown hK.1 hP 0 rfl rfl 0 (by decide) wk1 (fun _ h9 => h9) rfl dX4_endNow_142 ?_
          refine lv_bipush (v := 38) hx hb dX4_endNow_145 (by decide) ?_
          refine lv_iload_n hx hb dX4_endNow_147 rfl (lv_at hl 2 rfl) ?_
          refine lv_iadd hx hb dX4_endNow_148 ?_
          refine qtop (nI_add 38 i) ?_
          refine lv_dup2_11 hx hb dX4_endNow_149 rfl rfl ?_
          refine qild hx hb hK.1 hP 1 0 rfl rfl (k := 38 + i) (nI_clamp (by omega)) (vp_in_nI (by omega) (by decide)) dX4_endNow_150 ?_
          refine lv_iload_n hx hb dX4_endNow_151 rfl (lv_at hl 1 rfl) ?_
          refine lv_iadd hx hb dX4_endNow_152 ?_
          refine lv_topi (fun x_6 hx_6 => ?_)
          refine qist hx hb hK.1 hP hD hS 1 0 rfl rfl (k := 38 + i) (nI_clamp (by omega)) (vp_in_nI (by omega) (by decide)) dX4_endNow_153 (fun H locs hP hD hS => ?_)
          have hP : va_P G.1 vwCl (mw G a (upd (upd (upd y (18 + i) (y (28 + i))) (8 + i) 9999) (38 + i) x_6) sp pa st sv pd tl ns ty spt tm) H := hP
          have hD : va_D A (mw G a (upd (upd (upd y (18 + i) (y (28 + i))) (8 + i) 9999) (38 + i) x_6) sp pa st sv pd tl ns ty spt tm) := hD
          refine lv_iinc (v := nI (i + 1)) (lv' := [(2, .int (nI (i + 1))), (4, .int ((y (8 + i)) + (mpZ y (y (28 + i))))), (3, .int (mpZ y (y (28 + i)))), (0, .ref (a 0)), (1, .int x)]) hx hb dX4_endNow_154 hl (k := 2) rfl (nI_1 _) (by decide) rfl (fun ls hl => ?_)
          refine lv_goto (tgt := 66) hx hb dX4_endNow_157 (by decide) ?_
          exact ih (i + 1)  (upd (upd (upd y (18 + i) (y (28 + i))) (8 + i) 9999) (38 + i) x_6) (by omega) (by subst hx_6; rw [← hv66]; simp only [ndZ, ndE, ndS, nd1, nd2, nd3, ndB, ndA, ndL, if_pos c_11_1, if_neg c_129_3]) _ _ hP hD hS ls (lv_sub hl [0, 3, 4] rfl)
    exact L66 5 0  (upd (upd z (28 + ix x) 0) (43 + ix x) (((upd z (28 + ix x) 0) (43 + ix x)) + 1)) rfl (by simp only [ndZ, ndE, ndS, nd1, nd2, nd3, ndB, ndA, if_pos c_11_1]) _ _ hP hD hS ls (lv_sub hl [0, 1, 2] rfl)
  · refine lv_aload_n hx hb dX4_endNow_14 rfl (lv_at hl 0 rfl) ?_
    refine lv_iload_n hx hb dX4_endNow_15 rfl (lv_at hl 1 rfl) ?_
    refine lv_aload_n hx hb dX4_endNow_16 rfl (lv_at hl 0 rfl) ?_
    refine va_get (D := G.1) (ci := 4) (v := .ref (a 1)) (C := RX4) (T := TX4) (N := 11) hx hb hts hinX4 hown hK.1 hP 0 rfl rfl 0 (by decide) wk1 (fun _ h9 => h9) rfl dX4_endNow_17 ?_
    refine lv_bipush (v := 23) hx hb dX4_endNow_20 (by decide) ?_
    refine lv_iload_n hx hb dX4_endNow_22 rfl (lv_at hl 1 rfl) ?_
    refine lv_iadd hx hb dX4_endNow_23 ?_
    refine qild hx hb hK.1 hP 1 0 rfl rfl (k := 23 + ix x) (ixa (c := 23) (m := 5) (n := 53) rfl (by assumption) (by decide) (by decide)).1 (ixa (c := 23) (m := 5) (n := 53) rfl (by assumption) (by decide) (by decide)).2 dX4_endNow_24 ?_
    refine lv_aload_n hx hb dX4_endNow_25 rfl (lv_at hl 0 rfl) ?_
    refine va_get (D := G.1) (ci := 4) (v := .ref (a 1)) (C := RX4) (T := TX4) (N := 11) hx hb hts hinX4 hown hK.1 hP 0 rfl rfl 0 (by decide) wk1 (fun _ h9 => h9) rfl dX4_endNow_26 ?_
    refine lv_iconst (v := 2) hx hb dX4_endNow_29 (by decide) ?_
    refine qild hx hb hK.1 hP 1 0 rfl rfl (k := 2) rfl (vp_in_nI (n := 2) (by decide) (by decide)) dX4_endNow_30 ?_
    refine lv_imul hx hb dX4_endNow_31 ?_
    refine lv_bipush (v := 99) hx hb dX4_endNow_32 (by decide) ?_
    refine lv_iadd hx hb dX4_endNow_34 ?_
    refine lv_bipush (v := 100) hx hb dX4_endNow_35 (by decide) ?_
    refine lv_idiv hx hb dX4_endNow_37 (by decide) ?_
    refine cAV (As := [.int x, .int ((((z (23 + ix x)) * (z 2)) + 99) / 100)]) (rest := []) ⟨hx, hb, hml, hown, hts⟩ (c_X4_pay l G a z sp pa st sv pd tl ns ty spt tm x ((((z (23 + ix x)) * (z 2)) + 99) / 100) (by assumption) _) (cwV 2 hts gX4_endNow_X4_pay rfl rfl rfl (by decide +kernel) ⟨Nat.le_of_ble_eq_true rfl, Nat.le_of_ble_eq_true rfl⟩) hK hP hD hS hA 0 (ci := 4) rfl rfl rfl rfl rfl hl.1 (Nat.le_of_ble_eq_true rfl) dX4_endNow_38 ⟨Nat.le_of_ble_eq_true rfl, Nat.le_of_ble_eq_true rfl⟩ (fun u_7 H locs hr_7 hP hD hS => ?_)
    have hP : va_P G.1 vwCl (mw G a (pyZ z x ((((z (23 + ix x)) * (z 2)) + 99) / 100)) sp pa st sv pd tl ns ty spt tm) H := hP
    have hD : va_D A (mw G a (pyZ z x ((((z (23 + ix x)) * (z 2)) + 99) / 100)) sp pa st sv pd tl ns ty spt tm) := hD
    refine lv_aload_n hx hb dX4_endNow_41 rfl (lv_at hl 0 rfl) ?_
    refine va_get (D := G.1) (ci := 4) (v := .ref (a 1)) (C := RX4) (T := TX4) (N := 11) hx hb hts hinX4 hown hK.1 hP 0 rfl rfl 0 (by decide) wk1 (fun _ h9 => h9) rfl dX4_endNow_42 ?_
    refine lv_bipush (v := 28) hx hb dX4_endNow_45 (by decide) ?_
    refine lv_iload_n hx hb dX4_endNow_47 rfl (lv_at hl 1 rfl) ?_
    refine lv_iadd hx hb dX4_endNow_48 ?_
    refine lv_iconst (v := 0) hx hb dX4_endNow_49 (by decide) ?_
    refine qist hx hb hK.1 hP hD hS 1 0 rfl rfl (k := 28 + ix x) (ixa (c := 28) (m := 5) (n := 53) rfl (by assumption) (by decide) (by decide)).1 (ixa (c := 28) (m := 5) (n := 53) rfl (by assumption) (by decide) (by decide)).2 dX4_endNow_50 (fun H locs hP hD hS => ?_)
    have hP : va_P G.1 vwCl (mw G a (upd (pyZ z x ((((z (23 + ix x)) * (z 2)) + 99) / 100)) (28 + ix x) 0) sp pa st sv pd tl ns ty spt tm) H := hP
    have hD : va_D A (mw G a (upd (pyZ z x ((((z (23 + ix x)) * (z 2)) + 99) / 100)) (28 + ix x) 0) sp pa st sv pd tl ns ty spt tm) := hD
    refine lv_aload_n hx hb dX4_endNow_51 rfl (lv_at hl 0 rfl) ?_
    refine va_get (D := G.1) (ci := 4) (v := .ref (a 1)) (C := RX4) (T := TX4) (N := 11) hx hb hts hinX4 hown hK.1 hP 0 rfl rfl 0 (by decide) wk1 (fun _ h9 => h9) rfl dX4_endNow_52 ?_
    refine lv_bipush (v := 43) hx hb dX4_endNow_55 (by decide) ?_
    refine lv_iload_n hx hb dX4_endNow_57 rfl (lv_at hl 1 rfl) ?_
    refine lv_iadd hx hb dX4_endNow_58 ?_
    refine lv_dup2_11 hx hb dX4_endNow_59 rfl rfl ?_
    refine qild hx hb hK.1 hP 1 0 rfl rfl (k := 43 + ix x) (ixa (c := 43) (m := 5) (n := 53) rfl (by assumption) (by decide) (by decide)).1 (ixa (c := 43) (m := 5) (n := 53) rfl (by assumption) (by decide) (by decide)).2 dX4_endNow_60 ?_
    refine lv_iconst (v := 1) hx hb dX4_endNow_61 (by decide) ?_
    refine lv_iadd hx hb dX4_endNow_62 ?_
    refine lv_topi (fun x_8 hx_8 => ?_)
    refine qist hx hb hK.1 hP hD hS 1 0 rfl rfl (k := 43 + ix x) (ixa (c := 43) (m := 5) (n := 53) rfl (by assumption) (by decide) (by decide)).1 (ixa (c := 43) (m := 5) (n := 53) rfl (by assumption) (by decide) (by decide)).2 dX4_endNow_63 (fun H locs hP hD hS => ?_)
    have hP : va_P G.1 vwCl (mw G a (upd (upd (pyZ z x ((((z (23 + ix x)) * (z 2)) + 99) / 100)) (28 + ix x) 0) (43 + ix x) x_8) sp pa st sv pd tl ns ty spt tm) H := hP
    have hD : va_D A (mw G a (upd (upd (pyZ z x ((((z (23 + ix x)) * (z 2)) + 99) / 100)) (28 + ix x) 0) (43 + ix x) x_8) sp pa st sv pd tl ns ty spt tm) := hD
    refine lv_iconst (v := 0) hx hb dX4_endNow_64 (by decide) ?_
    refine lv_istore_n (lv' := [(2, .int 0), (0, .ref (a 0)), (1, .int x)]) hx hb dX4_endNow_65 rfl hl (by decide) rfl (fun ls hl => ?_)
    have L66 : ∀ (f i : Nat)  (y : Nat → Int32), i + f = 5 → ndE (ndL f i y) = ndZ z x → ∀ (H : Heap) (locs : List Loc), va_P G.1 vwCl (mw G a y sp pa st sv pd tl ns ty spt tm) H → va_D A (mw G a y sp pa st sv pd tl ns ty spt tm) → va_S A s.heap H locs → ∀ ls : Array Slot, lv_has ls 5 [(2, .int (nI i)), (0, .ref (a 0)), (1, .int x)] → W p l e { frames := 1, cells := 0, slots := 0, locals := 25 } s m ([.ref (a 0), .int x] : List Value).toArray below meth c H locs 0 0 Q (F0 m 66 ls []) := by
      intro f
      induction f with
      | zero =>
        intro i y hi hv66 H locs hP hD hS ls hl
        obtain rfl : i = 5 := by omega
        refine lv_iload_n hx hb dX4_endNow_66 rfl (lv_at hl 0 rfl) ?_
        refine lv_iconst (v := 5) hx hb dX4_endNow_67 (by decide) ?_
        refine lv_icmp_ge (tgt := 160) hx hb dX4_endNow_68 (by decide) (fun _ => ?_) (fun c_9 => absurd (by decide +kernel) c_9)
        refine lv_aload_n hx hb dX4_endNow_160 rfl (lv_at hl 1 rfl) ?_
        refine va_get (D := G.1) (ci := 4) (v := .ref (a 1)) (C := RX4) (T := TX4) (N := 11) hx hb hts hinX4 hown hK.1 hP 0 rfl rfl 0 (by decide) wk1 (fun _ h9 => h9) rfl dX4_endNow_161 ?_
        refine lv_bipush (v := 7) hx hb dX4_endNow_164 (by decide) ?_
        refine lv_dup2_11 hx hb dX4_endNow_166 rfl rfl ?_
        refine qild hx hb hK.1 hP 1 0 rfl rfl (k := 7) rfl (vp_in_nI (n := 7) (by decide) (by decide)) dX4_endNow_167 ?_
        refine lv_iconst (v := 1) hx hb dX4_endNow_168 (by decide) ?_
        refine lv_iadd hx hb dX4_endNow_169 ?_
        refine qist hx hb hK.1 hP hD hS 1 0 rfl rfl (k := 7) rfl (vp_in_nI (n := 7) (by decide) (by decide)) dX4_endNow_170 (fun H locs hP hD hS => ?_)
        have hP : va_P G.1 vwCl (mw G a (upd y 7 ((y 7) + 1)) sp pa st sv pd tl ns ty spt tm) H := hP
        have hD : va_D A (mw G a (upd y 7 ((y 7) + 1)) sp pa st sv pd tl ns ty spt tm) := hD
        refine lv_aload_n hx hb dX4_endNow_171 rfl (lv_at hl 1 rfl) ?_
        refine cAV (As := []) (rest := []) ⟨hx, hb, hml, hown, hts⟩ (c_X4_clearAuction l G a (upd y 7 ((y 7) + 1)) sp pa st sv pd tl ns ty spt tm _) (cwV 0 hts gX4_endNow_X4_clearAuction rfl rfl rfl (by decide +kernel) ⟨Nat.le_of_ble_eq_true rfl, Nat.le_of_ble_eq_true rfl⟩) hK hP hD hS hA 0 (ci := 4) rfl rfl rfl rfl rfl hl.1 (Nat.le_of_ble_eq_true rfl) dX4_endNow_172 ⟨Nat.le_of_ble_eq_true rfl, Nat.le_of_ble_eq_true rfl⟩ (fun u_9 H locs hr_9 hP hD hS => ?_)
        have hP : va_P G.1 vwCl (mw G a (clZ (upd y 7 ((y 7) + 1))) sp pa st sv pd tl ns ty spt tm) H := hP
        have hD : va_D A (mw G a (clZ (upd y 7 ((y 7) + 1))) sp pa st sv pd tl ns ty spt tm) := hD
        have hf0 : clZ (upd y 7 ((y 7) + 1)) = ndZ z x := (by subst hx_8; rw [← hv66]; simp only [ndZ, ndE, ndS, nd1, nd2, nd3, ndB, ndA, ndL, if_neg c_11_1])
        rw [hf0] at hP hD
        exact hret _ _ _ _ () trivial hP hD hS dX4_endNow_175
      | succ f ih =>
        intro i y hi hv66 H locs hP hD hS ls hl
        have hlt : i < 5 := by omega
        refine lv_iload_n hx hb dX4_endNow_66 rfl (lv_at hl 0 rfl) ?_
        refine lv_iconst (v := 5) hx hb dX4_endNow_67 (by decide) ?_
        refine lv_icmp_ge (tgt := 160) hx hb dX4_endNow_68 (by decide) (fun c_9 => absurd c_9 (nI_ge (b := 5) hlt (by decide))) (fun _ => ?_)
        refine lv_aload_n hx hb dX4_endNow_71 rfl (lv_at hl 1 rfl) ?_
        refine lv_aload_n hx hb dX4_endNow_72 rfl (lv_at hl 1 rfl) ?_
        refine va_get (D := G.1) (ci := 4) (v := .ref (a 1)) (C := RX4) (T := TX4) (N := 11) hx hb hts hinX4 hown hK.1 hP 0 rfl rfl 0 (by decide) wk1 (fun _ h9 => h9) rfl dX4_endNow_73 ?_
        refine lv_bipush (v := 28) hx hb dX4_endNow_76 (by decide) ?_
        refine lv_iload_n hx hb dX4_endNow_78 rfl (lv_at hl 0 rfl) ?_
        refine lv_iadd hx hb dX4_endNow_79 ?_
        refine qtop (nI_add 28 i) ?_
        refine qild hx hb hK.1 hP 1 0 rfl rfl (k := 28 + i) (nI_clamp (by omega)) (vp_in_nI (by omega) (by decide)) dX4_endNow_80 ?_
        refine cPV (As := [.int (y (28 + i))]) (rest := []) ⟨hx, hb, hml, hown, hts⟩ (c_X4_prizeAt l G a y sp pa st sv pd tl ns ty spt tm (y (28 + i))) (cwV 1 hts gX4_endNow_X4_prizeAt rfl rfl rfl (by decide +kernel) ⟨Nat.le_of_ble_eq_true rfl, Nat.le_of_ble_eq_true rfl⟩) hK hP 0 (ci := 4) rfl rfl rfl rfl rfl hl.1 (Nat.le_of_ble_eq_true rfl) dX4_endNow_81 ⟨Nat.le_of_ble_eq_true rfl, Nat.le_of_ble_eq_true rfl⟩ ?_
        refine lv_istore_n (lv' := [(3, .int (mpZ y (y (28 + i)))), (2, .int (nI i)), (0, .ref (a 0)), (1, .int x)]) hx hb dX4_endNow_84 rfl hl (by decide) rfl (fun ls hl => ?_)
        refine lv_aload_n hx hb dX4_endNow_85 rfl (lv_at hl 2 rfl) ?_
        refine va_get (D := G.1) (ci := 4) (v := .ref (a 1)) (C := RX4) (T := TX4) (N := 11) hx hb hts hinX4 hown hK.1 hP 0 rfl rfl 0 (by decide) wk1 (fun _ h9 => h9) rfl dX4_endNow_86 ?_
        refine lv_bipush (v := 8) hx hb dX4_endNow_89 (by decide) ?_
        refine lv_iload_n hx hb dX4_endNow_91 rfl (lv_at hl 1 rfl) ?_
        refine lv_iadd hx hb dX4_endNow_92 ?_
        refine qtop (nI_add 8 i) ?_
        refine qild hx hb hK.1 hP 1 0 rfl rfl (k := 8 + i) (nI_clamp (by omega)) (vp_in_nI (by omega) (by decide)) dX4_endNow_93 ?_
        refine lv_iload_n hx hb dX4_endNow_94 rfl (lv_at hl 0 rfl) ?_
        refine lv_iadd hx hb dX4_endNow_95 ?_
        refine lv_istore (lv' := [(4, .int ((y (8 + i)) + (mpZ y (y (28 + i))))), (3, .int (mpZ y (y (28 + i)))), (2, .int (nI i)), (0, .ref (a 0)), (1, .int x)]) hx hb dX4_endNow_96 hl (by decide) rfl (fun ls hl => ?_)
        refine lv_aload_n hx hb dX4_endNow_98 rfl (lv_at hl 3 rfl) ?_
        refine va_get (D := G.1) (ci := 4) (v := .ref (a 1)) (C := RX4) (T := TX4) (N := 11) hx hb hts hinX4 hown hK.1 hP 0 rfl rfl 0 (by decide) wk1 (fun _ h9 => h9) rfl dX4_endNow_99 ?_
        refine lv_bipush (v := 18) hx hb dX4_endNow_102 (by decide) ?_
        refine lv_iload_n hx hb dX4_endNow_104 rfl (lv_at hl 2 rfl) ?_
        refine lv_iadd hx hb dX4_endNow_105 ?_
        refine qtop (nI_add 18 i) ?_
        refine lv_aload_n hx hb dX4_endNow_106 rfl (lv_at hl 3 rfl) ?_
        refine va_get (D := G.1) (ci := 4) (v := .ref (a 1)) (C := RX4) (T := TX4) (N := 11) hx hb hts hinX4 hown hK.1 hP 0 rfl rfl 0 (by decide) wk1 (fun _ h9 => h9) rfl dX4_endNow_107 ?_
        refine lv_bipush (v := 28) hx hb dX4_endNow_110 (by decide) ?_
        refine lv_iload_n hx hb dX4_endNow_112 rfl (lv_at hl 2 rfl) ?_
        refine lv_iadd hx hb dX4_endNow_113 ?_
        refine qtop (nI_add 28 i) ?_
        refine qild hx hb hK.1 hP 1 0 rfl rfl (k := 28 + i) (nI_clamp (by omega)) (vp_in_nI (by omega) (by decide)) dX4_endNow_114 ?_
        refine qist hx hb hK.1 hP hD hS 1 0 rfl rfl (k := 18 + i) (nI_clamp (by omega)) (vp_in_nI (by omega) (by decide)) dX4_endNow_115 (fun H locs hP hD hS => ?_)
        have hP : va_P G.1 vwCl (mw G a (upd y (18 + i) (y (28 + i))) sp pa st sv pd tl ns ty spt tm) H := hP
        have hD : va_D A (mw G a (upd y (18 + i) (y (28 + i))) sp pa st sv pd tl ns ty spt tm) := hD
        refine lv_aload_n hx hb dX4_endNow_116 rfl (lv_at hl 3 rfl) ?_
        refine va_get (D := G.1) (ci := 4) (v := .ref (a 1)) (C := RX4) (T := TX4) (N := 11) hx hb hts hinX4 hown hK.1 hP 0 rfl rfl 0 (by decide) wk1 (fun _ h9 => h9) rfl dX4_endNow_117 ?_
        refine lv_bipush (v := 8) hx hb dX4_endNow_120 (by decide) ?_
        refine lv_iload_n hx hb dX4_endNow_122 rfl (lv_at hl 2 rfl) ?_
        refine lv_iadd hx hb dX4_endNow_123 ?_
        refine qtop (nI_add 8 i) ?_
        refine lv_iload hx hb dX4_endNow_124 (lv_at hl 0 rfl) ?_
        refine lv_sipush (v := 9999) hx hb dX4_endNow_126 (by decide) ?_
        refine lv_icmp_le (tgt := 138) hx hb dX4_endNow_129 (by decide) (fun c_129_10 => ?_) (fun c_129_10 => ?_)
        · refine lv_iload hx hb dX4_endNow_138 (lv_at hl 0 rfl) ?_
          refine qist hx hb hK.1 hP hD hS 1 0 rfl rfl (k := 8 + i) (nI_clamp (by omega)) (vp_in_nI (by omega) (by decide)) dX4_endNow_140 (fun H locs hP hD hS => ?_)
          have hP : va_P G.1 vwCl (mw G a (upd (upd y (18 + i) (y (28 + i))) (8 + i) ((y (8 + i)) + (mpZ y (y (28 + i))))) sp pa st sv pd tl ns ty spt tm) H := hP
          have hD : va_D A (mw G a (upd (upd y (18 + i) (y (28 + i))) (8 + i) ((y (8 + i)) + (mpZ y (y (28 + i))))) sp pa st sv pd tl ns ty spt tm) := hD
          refine lv_aload_n hx hb dX4_endNow_141 rfl (lv_at hl 3 rfl) ?_
          refine va_get (D := G.1) (ci := 4) (v := .ref (a 1)) (C := RX4) (T := TX4) (N := 11) hx hb hts hinX4 hown hK.1 hP 0 rfl rfl 0 (by decide) wk1 (fun _ h9 => h9) rfl dX4_endNow_142 ?_
          refine lv_bipush (v := 38) hx hb dX4_endNow_145 (by decide) ?_
          refine lv_iload_n hx hb dX4_endNow_147 rfl (lv_at hl 2 rfl) ?_
          refine lv_iadd hx hb dX4_endNow_148 ?_
          refine qtop (nI_add 38 i) ?_
          refine lv_dup2_11 hx hb dX4_endNow_149 rfl rfl ?_
          refine qild hx hb hK.1 hP 1 0 rfl rfl (k := 38 + i) (nI_clamp (by omega)) (vp_in_nI (by omega) (by decide)) dX4_endNow_150 ?_
          refine lv_iload_n hx hb dX4_endNow_151 rfl (lv_at hl 1 rfl) ?_
          refine lv_iadd hx hb dX4_endNow_152 ?_
          refine lv_topi (fun x_11 hx_11 => ?_)
          refine qist hx hb hK.1 hP hD hS 1 0 rfl rfl (k := 38 + i) (nI_clamp (by omega)) (vp_in_nI (by omega) (by decide)) dX4_endNow_153 (fun H locs hP hD hS => ?_)
          have hP : va_P G.1 vwCl (mw G a (upd (upd (upd y (18 + i) (y (28 + i))) (8 + i) ((y (8 + i)) + (mpZ y (y (28 + i))))) (38 + i) x_11) sp pa st sv pd tl ns ty spt tm) H := hP
          have hD : va_D A (mw G a (upd (upd (upd y (18 + i) (y (28 + i))) (8 + i) ((y (8 + i)) + (mpZ y (y (28 + i))))) (38 + i) x_11) sp pa st sv pd tl ns ty spt tm) := hD
          obtain ⟨z_12, hT_12⟩ : ∃ w₀ : Nat → Int32, w₀ = upd (upd (upd y (18 + i) (y (28 + i))) (8 + i) ((y (8 + i)) + (mpZ y (y (28 + i))))) (38 + i) x_11 := ⟨_, rfl⟩
          have hP : va_P G.1 vwCl (mw G a z_12 sp pa st sv pd tl ns ty spt tm) H := by rw [hT_12]; exact hP
          have hD : va_D A (mw G a z_12 sp pa st sv pd tl ns ty spt tm) := by rw [hT_12]; exact hD
          refine lv_iinc (v := nI (i + 1)) (lv' := [(2, .int (nI (i + 1))), (4, .int ((y (8 + i)) + (mpZ y (y (28 + i))))), (3, .int (mpZ y (y (28 + i)))), (0, .ref (a 0)), (1, .int x)]) hx hb dX4_endNow_154 hl (k := 2) rfl (nI_1 _) (by decide) rfl (fun ls hl => ?_)
          refine lv_goto (tgt := 66) hx hb dX4_endNow_157 (by decide) ?_
          exact ih (i + 1)  z_12 (by omega) (by subst hx_8 hx_11 hT_12; rw [← hv66]; simp only [ndZ, ndE, ndS, nd1, nd2, nd3, ndB, ndA, ndL, if_neg c_11_1, if_pos c_129_10]) _ _ hP hD hS ls (lv_sub hl [0, 3, 4] rfl)
        · refine lv_sipush (v := 9999) hx hb dX4_endNow_132 (by decide) ?_
          refine lv_goto (tgt := 140) hx hb dX4_endNow_135 (by decide) ?_
          refine qist hx hb hK.1 hP hD hS 1 0 rfl rfl (k := 8 + i) (nI_clamp (by omega)) (vp_in_nI (by omega) (by decide)) dX4_endNow_140 (fun H locs hP hD hS => ?_)
          have hP : va_P G.1 vwCl (mw G a (upd (upd y (18 + i) (y (28 + i))) (8 + i) 9999) sp pa st sv pd tl ns ty spt tm) H := hP
          have hD : va_D A (mw G a (upd (upd y (18 + i) (y (28 + i))) (8 + i) 9999) sp pa st sv pd tl ns ty spt tm) := hD
          refine lv_aload_n hx hb dX4_endNow_141 rfl (lv_at hl 3 rfl) ?_
          refine va_get (D := G.1) (ci := 4) (v := .ref (a 1)) (C := RX4) (T := TX4) (N := 11) hx hb hts hinX4 hown hK.1 hP 0 rfl rfl 0 (by decide) wk1 (fun _ h9 => h9) rfl dX4_endNow_142 ?_
          refine lv_bipush (v := 38) hx hb dX4_endNow_145 (by decide) ?_
          refine lv_iload_n hx hb dX4_endNow_147 rfl (lv_at hl 2 rfl) ?_
          refine lv_iadd hx hb dX4_endNow_148 ?_
          refine qtop (nI_add 38 i) ?_
          refine lv_dup2_11 hx hb dX4_endNow_149 rfl rfl ?_
          refine qild hx hb hK.1 hP 1 0 rfl rfl (k := 38 + i) (nI_clamp (by omega)) (vp_in_nI (by omega) (by decide)) dX4_endNow_150 ?_
          refine lv_iload_n hx hb dX4_endNow_151 rfl (lv_at hl 1 rfl) ?_
          refine lv_iadd hx hb dX4_endNow_152 ?_
          refine lv_topi (fun x_13 hx_13 => ?_)
          refine qist hx hb hK.1 hP hD hS 1 0 rfl rfl (k := 38 + i) (nI_clamp (by omega)) (vp_in_nI (by omega) (by decide)) dX4_endNow_153 (fun H locs hP hD hS => ?_)
          have hP : va_P G.1 vwCl (mw G a (upd (upd (upd y (18 + i) (y (28 + i))) (8 + i) 9999) (38 + i) x_13) sp pa st sv pd tl ns ty spt tm) H := hP
          have hD : va_D A (mw G a (upd (upd (upd y (18 + i) (y (28 + i))) (8 + i) 9999) (38 + i) x_13) sp pa st sv pd tl ns ty spt tm) := hD
          refine lv_iinc (v := nI (i + 1)) (lv' := [(2, .int (nI (i + 1))), (4, .int ((y (8 + i)) + (mpZ y (y (28 + i))))), (3, .int (mpZ y (y (28 + i)))), (0, .ref (a 0)), (1, .int x)]) hx hb dX4_endNow_154 hl (k := 2) rfl (nI_1 _) (by decide) rfl (fun ls hl => ?_)
          refine lv_goto (tgt := 66) hx hb dX4_endNow_157 (by decide) ?_
          exact ih (i + 1)  (upd (upd (upd y (18 + i) (y (28 + i))) (8 + i) 9999) (38 + i) x_13) (by omega) (by subst hx_8 hx_13; rw [← hv66]; simp only [ndZ, ndE, ndS, nd1, nd2, nd3, ndB, ndA, ndL, if_neg c_11_1, if_neg c_129_10]) _ _ hP hD hS ls (lv_sub hl [0, 3, 4] rfl)
    exact L66 5 0  (upd (upd (pyZ z x ((((z (23 + ix x)) * (z 2)) + 99) / 100)) (28 + ix x) 0) (43 + ix x) x_8) rfl (by subst hx_8; simp only [ndZ, ndE, ndS, nd1, nd2, nd3, ndB, ndA, if_neg c_11_1]) _ _ hP hD hS ls (lv_sub hl [0, 1, 2] rfl)
end
