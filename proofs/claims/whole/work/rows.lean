section
-- ===== PART A: goes FIRST, ahead of the names: the tables' words, and 'selects' of the private methods out of them =====
/-- a private method of a class that the tables say can be made, by its rows of tables_1 -/
def lw_okq (q : MethodName × Nat) : Prop := (q.1.cls ≠ "java/lang/invoke/MethodHandle" ∧ q.1.cls ≠ "java/lang/invoke/VarHandle") ∧ Cond.instantiable q.1.cls q.2 ∈ tables_1 ∧ Cond.privateMethod q.1 ∈ tables_1 ∧ Cond.instanceMethod q.1 ∈ tables_1
theorem lw_p0 : lw_okq (⟨"Pegrow", "rowOf", "(I)LPegrow$Row;"⟩, 7) := ⟨⟨by decide +kernel, by decide +kernel⟩, List.mem_of_getElem? (i := 7) (by decide +kernel), List.mem_of_getElem? (i := 94) (by decide +kernel), List.mem_of_getElem? (i := 95) (by decide +kernel)⟩
theorem lw_p1 : lw_okq (⟨"Pegrow", "newThing", "(I)I"⟩, 7) := ⟨⟨by decide +kernel, by decide +kernel⟩, List.mem_of_getElem? (i := 7) (by decide +kernel), List.mem_of_getElem? (i := 105) (by decide +kernel), List.mem_of_getElem? (i := 106) (by decide +kernel)⟩
theorem lw_p2 : lw_okq (⟨"Pegrow$Row", "openAt", "(II)V"⟩, 3) := ⟨⟨by decide +kernel, by decide +kernel⟩, List.mem_of_getElem? (i := 18) (by decide +kernel), List.mem_of_getElem? (i := 113) (by decide +kernel), List.mem_of_getElem? (i := 114) (by decide +kernel)⟩
theorem lw_p3 : lw_okq (⟨"Pegrow", "noEnd", "(I)I"⟩, 7) := ⟨⟨by decide +kernel, by decide +kernel⟩, List.mem_of_getElem? (i := 7) (by decide +kernel), List.mem_of_getElem? (i := 124) (by decide +kernel), List.mem_of_getElem? (i := 125) (by decide +kernel)⟩
theorem lw_p4 : lw_okq (⟨"Pegrow", "refused", "(I)I"⟩, 7) := ⟨⟨by decide +kernel, by decide +kernel⟩, List.mem_of_getElem? (i := 7) (by decide +kernel), List.mem_of_getElem? (i := 128) (by decide +kernel), List.mem_of_getElem? (i := 129) (by decide +kernel)⟩
theorem lw_p5 : lw_okq (⟨"Pegrow", "pegOf", "(I)LPegrow$Peg;"⟩, 7) := ⟨⟨by decide +kernel, by decide +kernel⟩, List.mem_of_getElem? (i := 7) (by decide +kernel), List.mem_of_getElem? (i := 265) (by decide +kernel), List.mem_of_getElem? (i := 266) (by decide +kernel)⟩
theorem lw_p6 : lw_okq (⟨"Pegrow", "goOver", "(IZ)I"⟩, 7) := ⟨⟨by decide +kernel, by decide +kernel⟩, List.mem_of_getElem? (i := 7) (by decide +kernel), List.mem_of_getElem? (i := 277) (by decide +kernel), List.mem_of_getElem? (i := 278) (by decide +kernel)⟩
theorem lw_p7 : lw_okq (⟨"Pegrow", "handFault", "(LPegrow$Peg;LPegrow$Row;)I"⟩, 7) := ⟨⟨by decide +kernel, by decide +kernel⟩, List.mem_of_getElem? (i := 7) (by decide +kernel), List.mem_of_getElem? (i := 297) (by decide +kernel), List.mem_of_getElem? (i := 298) (by decide +kernel)⟩
theorem lw_p8 : lw_okq (⟨"Pegrow", "standingPegs", "()I"⟩, 7) := ⟨⟨by decide +kernel, by decide +kernel⟩, List.mem_of_getElem? (i := 7) (by decide +kernel), List.mem_of_getElem? (i := 321) (by decide +kernel), List.mem_of_getElem? (i := 322) (by decide +kernel)⟩
theorem lw_p9 : lw_okq (⟨"Pegrow", "oldPegs", "()I"⟩, 7) := ⟨⟨by decide +kernel, by decide +kernel⟩, List.mem_of_getElem? (i := 7) (by decide +kernel), List.mem_of_getElem? (i := 325) (by decide +kernel), List.mem_of_getElem? (i := 326) (by decide +kernel)⟩
theorem lw_p10 : lw_okq (⟨"PegrowModel", "make", "(I)I"⟩, 11) := ⟨⟨by decide +kernel, by decide +kernel⟩, List.mem_of_getElem? (i := 329) (by decide +kernel), List.mem_of_getElem? (i := 382) (by decide +kernel), List.mem_of_getElem? (i := 383) (by decide +kernel)⟩
theorem lw_p11 : lw_okq (⟨"PegrowModel", "open", "(III)V"⟩, 11) := ⟨⟨by decide +kernel, by decide +kernel⟩, List.mem_of_getElem? (i := 329) (by decide +kernel), List.mem_of_getElem? (i := 386) (by decide +kernel), List.mem_of_getElem? (i := 387) (by decide +kernel)⟩
theorem lw_p12 : lw_okq (⟨"PegrowModel", "thing", "(II)I"⟩, 11) := ⟨⟨by decide +kernel, by decide +kernel⟩, List.mem_of_getElem? (i := 329) (by decide +kernel), List.mem_of_getElem? (i := 390) (by decide +kernel), List.mem_of_getElem? (i := 391) (by decide +kernel)⟩
theorem lw_p13 : lw_okq (⟨"PegrowModel", "age", "(II)V"⟩, 11) := ⟨⟨by decide +kernel, by decide +kernel⟩, List.mem_of_getElem? (i := 329) (by decide +kernel), List.mem_of_getElem? (i := 394) (by decide +kernel), List.mem_of_getElem? (i := 395) (by decide +kernel)⟩
theorem lw_p14 : lw_okq (⟨"PegrowModel", "refuse", "(II)I"⟩, 11) := ⟨⟨by decide +kernel, by decide +kernel⟩, List.mem_of_getElem? (i := 329) (by decide +kernel), List.mem_of_getElem? (i := 402) (by decide +kernel), List.mem_of_getElem? (i := 403) (by decide +kernel)⟩
theorem lw_p15 : lw_okq (⟨"PegrowModel", "close", "(II)I"⟩, 11) := ⟨⟨by decide +kernel, by decide +kernel⟩, List.mem_of_getElem? (i := 329) (by decide +kernel), List.mem_of_getElem? (i := 410) (by decide +kernel), List.mem_of_getElem? (i := 411) (by decide +kernel)⟩
def lw_privs_1 : List (MethodName × Nat) := [(⟨"Pegrow", "rowOf", "(I)LPegrow$Row;"⟩, 7), (⟨"Pegrow", "newThing", "(I)I"⟩, 7), (⟨"Pegrow$Row", "openAt", "(II)V"⟩, 3), (⟨"Pegrow", "noEnd", "(I)I"⟩, 7), (⟨"Pegrow", "refused", "(I)I"⟩, 7), (⟨"Pegrow", "pegOf", "(I)LPegrow$Peg;"⟩, 7), (⟨"Pegrow", "goOver", "(IZ)I"⟩, 7), (⟨"Pegrow", "handFault", "(LPegrow$Peg;LPegrow$Row;)I"⟩, 7), (⟨"Pegrow", "standingPegs", "()I"⟩, 7), (⟨"Pegrow", "oldPegs", "()I"⟩, 7), (⟨"PegrowModel", "make", "(I)I"⟩, 11), (⟨"PegrowModel", "open", "(III)V"⟩, 11), (⟨"PegrowModel", "thing", "(II)I"⟩, 11), (⟨"PegrowModel", "age", "(II)V"⟩, 11), (⟨"PegrowModel", "refuse", "(II)I"⟩, 11), (⟨"PegrowModel", "close", "(II)I"⟩, 11)]
theorem lw_r1 : ∀ q ∈ lw_privs_1, lw_okq q := List.forall_mem_cons.mpr ⟨lw_p0, List.forall_mem_cons.mpr ⟨lw_p1, List.forall_mem_cons.mpr ⟨lw_p2, List.forall_mem_cons.mpr ⟨lw_p3, List.forall_mem_cons.mpr ⟨lw_p4, List.forall_mem_cons.mpr ⟨lw_p5, List.forall_mem_cons.mpr ⟨lw_p6, List.forall_mem_cons.mpr ⟨lw_p7, List.forall_mem_cons.mpr ⟨lw_p8, List.forall_mem_cons.mpr ⟨lw_p9, List.forall_mem_cons.mpr ⟨lw_p10, List.forall_mem_cons.mpr ⟨lw_p11, List.forall_mem_cons.mpr ⟨lw_p12, List.forall_mem_cons.mpr ⟨lw_p13, List.forall_mem_cons.mpr ⟨lw_p14, List.forall_mem_cons.mpr ⟨lw_p15, fun _ h => absurd h List.not_mem_nil⟩⟩⟩⟩⟩⟩⟩⟩⟩⟩⟩⟩⟩⟩⟩⟩
theorem lw_p16 : lw_okq (⟨"PegrowModel", "placeBy", "(IIZ)I"⟩, 11) := ⟨⟨by decide +kernel, by decide +kernel⟩, List.mem_of_getElem? (i := 329) (by decide +kernel), List.mem_of_getElem? (i := 434) (by decide +kernel), List.mem_of_getElem? (i := 435) (by decide +kernel)⟩
theorem lw_p17 : lw_okq (⟨"PegrowModel", "leave", "(I)V"⟩, 11) := ⟨⟨by decide +kernel, by decide +kernel⟩, List.mem_of_getElem? (i := 329) (by decide +kernel), List.mem_of_getElem? (i := 461) (by decide +kernel), List.mem_of_getElem? (i := 462) (by decide +kernel)⟩
theorem lw_p18 : lw_okq (⟨"PegrowModel", "bars", "(I)I"⟩, 11) := ⟨⟨by decide +kernel, by decide +kernel⟩, List.mem_of_getElem? (i := 329) (by decide +kernel), List.mem_of_getElem? (i := 497) (by decide +kernel), List.mem_of_getElem? (i := 498) (by decide +kernel)⟩
theorem lw_p19 : lw_okq (⟨"PegrowModel", "goes", "(III)I"⟩, 11) := ⟨⟨by decide +kernel, by decide +kernel⟩, List.mem_of_getElem? (i := 329) (by decide +kernel), List.mem_of_getElem? (i := 501) (by decide +kernel), List.mem_of_getElem? (i := 502) (by decide +kernel)⟩
theorem lw_p20 : lw_okq (⟨"PegrowModel", "barsHand", "(I)I"⟩, 11) := ⟨⟨by decide +kernel, by decide +kernel⟩, List.mem_of_getElem? (i := 329) (by decide +kernel), List.mem_of_getElem? (i := 517) (by decide +kernel), List.mem_of_getElem? (i := 518) (by decide +kernel)⟩
theorem lw_p21 : lw_okq (⟨"PegrowModel", "standing", "()I"⟩, 11) := ⟨⟨by decide +kernel, by decide +kernel⟩, List.mem_of_getElem? (i := 329) (by decide +kernel), List.mem_of_getElem? (i := 537) (by decide +kernel), List.mem_of_getElem? (i := 538) (by decide +kernel)⟩
def lw_privs_2 : List (MethodName × Nat) := [(⟨"PegrowModel", "placeBy", "(IIZ)I"⟩, 11), (⟨"PegrowModel", "leave", "(I)V"⟩, 11), (⟨"PegrowModel", "bars", "(I)I"⟩, 11), (⟨"PegrowModel", "goes", "(III)I"⟩, 11), (⟨"PegrowModel", "barsHand", "(I)I"⟩, 11), (⟨"PegrowModel", "standing", "()I"⟩, 11)]
theorem lw_r2 : ∀ q ∈ lw_privs_2, lw_okq q := List.forall_mem_cons.mpr ⟨lw_p16, List.forall_mem_cons.mpr ⟨lw_p17, List.forall_mem_cons.mpr ⟨lw_p18, List.forall_mem_cons.mpr ⟨lw_p19, List.forall_mem_cons.mpr ⟨lw_p20, List.forall_mem_cons.mpr ⟨lw_p21, fun _ h => absurd h List.not_mem_nil⟩⟩⟩⟩⟩⟩
def lw_privs : List (MethodName × Nat) := lw_privs_1 ++ (lw_privs_2)
def lw_tbl : List Cond := k2_sels lw_privs ++ tables_1
theorem lw_privs_ok : ∀ q ∈ lw_privs, lw_okq q := by
  show ∀ q ∈ lw_privs_1 ++ (lw_privs_2), lw_okq q
  exact List.forall_mem_append.mpr ⟨lw_r1, lw_r2⟩
end
section
/-! ===== BEGIN words of one list among another's, by their places ===== -/
theorem goodIn_r {big : List Cond} (ws : List Cond) (ps : List Nat) (hp : ws = ps.filterMap (fun i => big[i]?)) (h : ws.all goodWord = true) : GoodIn big ws := by
  intro w hw
  have h1 := List.all_eq_true.mp h w hw
  rw [hp] at hw
  obtain ⟨i, -, hi⟩ := List.mem_filterMap.mp hw
  have hm : w ∈ big := by first | exact List.mem_of_getElem? hi | exact List.getElem?_mem hi
  exact ⟨hm, good_of_word h1⟩
theorem goodIn_app {big a b : List Cond} (ha : GoodIn big a) (hb : GoodIn big b) : GoodIn big (a ++ b) := fun w h => (List.mem_append.mp h).elim (ha w) (hb w)
theorem goodIn_ca {big a b : List Cond} {c : Cond} (ha : GoodIn big (c :: a)) (hb : GoodIn big b) : GoodIn big (c :: (a ++ b)) := fun w h => (List.mem_cons.mp h).elim (fun e => ha w (List.mem_cons.mpr (Or.inl e))) (fun h => (List.mem_append.mp h).elim (fun h => ha w (List.mem_cons.mpr (Or.inr h))) (hb w))
theorem goodIn_sub {big ws : List Cond} (hm : ∀ w ∈ ws, w ∈ big) (h : ws.all goodWord = true) : GoodIn big ws := fun w hw => ⟨hm w hw, good_of_word (List.all_eq_true.mp h w hw)⟩
/-! ===== END ===== -/

/-! ===== BEGIN printed: names, fields, word lists, decode rows ===== -/
def RX0 : String := "Pegrow$Peg"
def TX0 : u_T := fun k => match k with
  | 0 => ("Pegrow$Peg", "row", "LPegrow$Row;", false)
  | 1 => ("Pegrow$Peg", "ahead", "I", false)
  | 2 => ("Pegrow$Peg", "seen", "I", false)
  | 3 => ("Pegrow$Peg", "hand", "I", false)
  | 4 => ("Pegrow$Peg", "held", "I", false)
  | _ => ("Pegrow$Peg", "missed", "Z", false)
def tyX0 : Nat → FieldType := fun k => match k with
  | 0 => .object "Pegrow$Row"
  | 1 => .int
  | 2 => .int
  | 3 => .int
  | 4 => .int
  | _ => .boolean
abbrev wsX00 : List Cond := u_ws RX0 TX0 6
theorem nmX0 : ∀ a, a < 6 → ∀ b, b < 6 → a ≠ b → (TX0 a).2.1 ≠ (TX0 b).2.1 := by decide +kernel
theorem tyX0_ok : ∀ k, k < 6 → parseFieldDescriptor (TX0 k).2.2.1 = some (tyX0 k) := by decide +kernel
abbrev cX0_init : ByteArray := prog_2_method_1_code
def yX0_init : MethodName := ⟨RX0, "<init>", "()V"⟩
abbrev cX0_standIn : ByteArray := prog_2_method_2_code
def yX0_standIn : MethodName := ⟨RX0, "standIn", "(LPegrow$Row;I)V"⟩
abbrev cX0_leave : ByteArray := prog_2_method_3_code
def yX0_leave : MethodName := ⟨RX0, "leave", "(LPegrow$Row;)V"⟩
abbrev cX0_hold : ByteArray := prog_2_method_4_code
def yX0_hold : MethodName := ⟨RX0, "hold", "(II)I"⟩
abbrev cX0_isOld : ByteArray := prog_2_method_5_code
def yX0_isOld : MethodName := ⟨RX0, "isOld", "()Z"⟩
def RX1 : String := "Pegrow$Row"
def TX1 : u_T := fun k => match k with
  | 0 => ("Pegrow$Row", "things", "[I", true)
  | 1 => ("Pegrow$Row", "length", "I", false)
  | _ => ("Pegrow$Row", "changes", "I", false)
def tyX1 : Nat → FieldType := fun k => match k with
  | 0 => .array .int
  | 1 => .int
  | _ => .int
abbrev wsX10 : List Cond := u_ws RX1 TX1 3
theorem nmX1 : ∀ a, a < 3 → ∀ b, b < 3 → a ≠ b → (TX1 a).2.1 ≠ (TX1 b).2.1 := by decide +kernel
theorem tyX1_ok : ∀ k, k < 3 → parseFieldDescriptor (TX1 k).2.2.1 = some (tyX1 k) := by decide +kernel
abbrev cX1_init : ByteArray := prog_3_method_1_code
def yX1_init : MethodName := ⟨RX1, "<init>", "()V"⟩
abbrev cX1_hasThingAt : ByteArray := prog_3_method_2_code
def yX1_hasThingAt : MethodName := ⟨RX1, "hasThingAt", "(I)Z"⟩
abbrev cX1_canPutAt : ByteArray := prog_3_method_3_code
def yX1_canPutAt : MethodName := ⟨RX1, "canPutAt", "(I)Z"⟩
abbrev cX1_hasRoomFor : ByteArray := prog_3_method_4_code
def yX1_hasRoomFor : MethodName := ⟨RX1, "hasRoomFor", "(I)Z"⟩
abbrev cX1_thingAt : ByteArray := prog_3_method_5_code
def yX1_thingAt : MethodName := ⟨RX1, "thingAt", "(I)I"⟩
abbrev cX1_layAt : ByteArray := prog_3_method_6_code
def yX1_layAt : MethodName := ⟨RX1, "layAt", "(II)I"⟩
abbrev cX1_putAt : ByteArray := prog_3_method_7_code
def yX1_putAt : MethodName := ⟨RX1, "putAt", "(II)V"⟩
abbrev cX1_putAllAt : ByteArray := prog_3_method_8_code
def yX1_putAllAt : MethodName := ⟨RX1, "putAllAt", "(ILPegrow$Row;)V"⟩
abbrev cX1_takeAt : ByteArray := prog_3_method_9_code
def yX1_takeAt : MethodName := ⟨RX1, "takeAt", "(I)I"⟩
abbrev cX1_placeOf : ByteArray := prog_3_method_10_code
def yX1_placeOf : MethodName := ⟨RX1, "placeOf", "(IZ)I"⟩
abbrev cX1_keepFirst : ByteArray := prog_3_method_11_code
def yX1_keepFirst : MethodName := ⟨RX1, "keepFirst", "(I)V"⟩
abbrev cX1_becomeLike : ByteArray := prog_3_method_12_code
def yX1_becomeLike : MethodName := ⟨RX1, "becomeLike", "(LPegrow$Row;)V"⟩
abbrev cX1_turnRound : ByteArray := prog_3_method_13_code
def yX1_turnRound : MethodName := ⟨RX1, "turnRound", "()V"⟩
abbrev cX1_weaveIn : ByteArray := prog_3_method_14_code
def yX1_weaveIn : MethodName := ⟨RX1, "weaveIn", "(LPegrow$Row;)V"⟩
abbrev cX1_takeRepeats : ByteArray := prog_3_method_15_code
def yX1_takeRepeats : MethodName := ⟨RX1, "takeRepeats", "()I"⟩
abbrev cX1_number : ByteArray := prog_3_method_16_code
def yX1_number : MethodName := ⟨RX1, "number", "()I"⟩
abbrev cX1_openAt : ByteArray := prog_3_method_17_code
def yX1_openAt : MethodName := ⟨RX1, "openAt", "(II)V"⟩
def RX2 : String := "Pegrow"
def TX2 : u_T := fun k => match k with
  | 0 => ("Pegrow", "rows", "[LPegrow$Row;", true)
  | 1 => ("Pegrow", "pegs", "[LPegrow$Peg;", true)
  | 2 => ("Pegrow", "made", "I", false)
  | 3 => ("Pegrow", "emptyRefusals", "I", false)
  | 4 => ("Pegrow", "placeRefusals", "I", false)
  | 5 => ("Pegrow", "stateRefusals", "I", false)
  | _ => ("Pegrow", "oldRefusals", "I", false)
def tyX2 : Nat → FieldType := fun k => match k with
  | 0 => .array (.object "Pegrow$Row")
  | 1 => .array (.object "Pegrow$Peg")
  | 2 => .int
  | 3 => .int
  | 4 => .int
  | 5 => .int
  | _ => .int
abbrev wsX20 : List Cond := u_ws RX2 TX2 7
theorem nmX2 : ∀ a, a < 7 → ∀ b, b < 7 → a ≠ b → (TX2 a).2.1 ≠ (TX2 b).2.1 := by decide +kernel
theorem tyX2_ok : ∀ k, k < 7 → parseFieldDescriptor (TX2 k).2.2.1 = some (tyX2 k) := by decide +kernel
abbrev cX2_init : ByteArray := prog_1_method_1_code
def yX2_init : MethodName := ⟨RX2, "<init>", "()V"⟩
abbrev cX2_put : ByteArray := prog_1_method_2_code
def yX2_put : MethodName := ⟨RX2, "put", "(IIZI)I"⟩
abbrev cX2_end : ByteArray := prog_1_method_3_code
def yX2_end : MethodName := ⟨RX2, "end", "(IZI)I"⟩
abbrev cX2_take : ByteArray := prog_1_method_4_code
def yX2_take : MethodName := ⟨RX2, "take", "(IZI)I"⟩
abbrev cX2_at : ByteArray := prog_1_method_5_code
def yX2_at : MethodName := ⟨RX2, "at", "(II)I"⟩
abbrev cX2_lay : ByteArray := prog_1_method_6_code
def yX2_lay : MethodName := ⟨RX2, "lay", "(III)I"⟩
abbrev cX2_insert : ByteArray := prog_1_method_7_code
def yX2_insert : MethodName := ⟨RX2, "insert", "(III)I"⟩
abbrev cX2_drop : ByteArray := prog_1_method_8_code
def yX2_drop : MethodName := ⟨RX2, "drop", "(II)I"⟩
abbrev cX2_find : ByteArray := prog_1_method_9_code
def yX2_find : MethodName := ⟨RX2, "find", "(IIZ)I"⟩
abbrev cX2_has : ByteArray := prog_1_method_10_code
def yX2_has : MethodName := ⟨RX2, "has", "(II)I"⟩
abbrev cX2_lose : ByteArray := prog_1_method_11_code
def yX2_lose : MethodName := ⟨RX2, "lose", "(III)I"⟩
abbrev cX2_all : ByteArray := prog_1_method_12_code
def yX2_all : MethodName := ⟨RX2, "all", "(III)I"⟩
abbrev cX2_clear : ByteArray := prog_1_method_13_code
def yX2_clear : MethodName := ⟨RX2, "clear", "(I)I"⟩
abbrev cX2_copy : ByteArray := prog_1_method_14_code
def yX2_copy : MethodName := ⟨RX2, "copy", "(II)I"⟩
abbrev cX2_turn : ByteArray := prog_1_method_15_code
def yX2_turn : MethodName := ⟨RX2, "turn", "(I)I"⟩
abbrev cX2_weave : ByteArray := prog_1_method_16_code
def yX2_weave : MethodName := ⟨RX2, "weave", "(II)I"⟩
abbrev cX2_prune : ByteArray := prog_1_method_17_code
def yX2_prune : MethodName := ⟨RX2, "prune", "(I)I"⟩
abbrev cX2_size : ByteArray := prog_1_method_18_code
def yX2_size : MethodName := ⟨RX2, "size", "(I)I"⟩
abbrev cX2_sum : ByteArray := prog_1_method_19_code
def yX2_sum : MethodName := ⟨RX2, "sum", "(I)I"⟩
abbrev cX2_peg : ByteArray := prog_1_method_20_code
def yX2_peg : MethodName := ⟨RX2, "peg", "(III)I"⟩
abbrev cX2_next : ByteArray := prog_1_method_21_code
def yX2_next : MethodName := ⟨RX2, "next", "(I)I"⟩
abbrev cX2_previous : ByteArray := prog_1_method_22_code
def yX2_previous : MethodName := ⟨RX2, "previous", "(I)I"⟩
abbrev cX2_side : ByteArray := prog_1_method_23_code
def yX2_side : MethodName := ⟨RX2, "side", "(II)I"⟩
abbrev cX2_change : ByteArray := prog_1_method_24_code
def yX2_change : MethodName := ⟨RX2, "change", "(II)I"⟩
abbrev cX2_add : ByteArray := prog_1_method_25_code
def yX2_add : MethodName := ⟨RX2, "add", "(II)I"⟩
abbrev cX2_remove : ByteArray := prog_1_method_26_code
def yX2_remove : MethodName := ⟨RX2, "remove", "(I)I"⟩
abbrev cX2_old : ByteArray := prog_1_method_27_code
def yX2_old : MethodName := ⟨RX2, "old", "(I)I"⟩
abbrev cX2_count : ByteArray := prog_1_method_28_code
def yX2_count : MethodName := ⟨RX2, "count", "(I)I"⟩
abbrev cX2_rowOf : ByteArray := prog_1_method_29_code
def yX2_rowOf : MethodName := ⟨RX2, "rowOf", "(I)LPegrow$Row;"⟩
abbrev cX2_pegOf : ByteArray := prog_1_method_30_code
def yX2_pegOf : MethodName := ⟨RX2, "pegOf", "(I)LPegrow$Peg;"⟩
abbrev cX2_isName : ByteArray := prog_1_method_31_code
def yX2_isName : MethodName := ⟨RX2, "isName", "(I)Z"⟩
abbrev cX2_isEndWay : ByteArray := prog_1_method_32_code
def yX2_isEndWay : MethodName := ⟨RX2, "isEndWay", "(IIZ)Z"⟩
abbrev cX2_oneIf : ByteArray := prog_1_method_33_code
def yX2_oneIf : MethodName := ⟨RX2, "oneIf", "(Z)I"⟩
abbrev cX2_newThing : ByteArray := prog_1_method_34_code
def yX2_newThing : MethodName := ⟨RX2, "newThing", "(I)I"⟩
abbrev cX2_noEnd : ByteArray := prog_1_method_35_code
def yX2_noEnd : MethodName := ⟨RX2, "noEnd", "(I)I"⟩
abbrev cX2_refused : ByteArray := prog_1_method_36_code
def yX2_refused : MethodName := ⟨RX2, "refused", "(I)I"⟩
abbrev cX2_goOver : ByteArray := prog_1_method_37_code
def yX2_goOver : MethodName := ⟨RX2, "goOver", "(IZ)I"⟩
abbrev cX2_handFault : ByteArray := prog_1_method_38_code
def yX2_handFault : MethodName := ⟨RX2, "handFault", "(LPegrow$Peg;LPegrow$Row;)I"⟩
abbrev cX2_standingPegs : ByteArray := prog_1_method_39_code
def yX2_standingPegs : MethodName := ⟨RX2, "standingPegs", "()I"⟩
abbrev cX2_oldPegs : ByteArray := prog_1_method_40_code
def yX2_oldPegs : MethodName := ⟨RX2, "oldPegs", "()I"⟩
def RX3 : String := "PegrowModel"
def TX3 : u_T := fun k => match k with
  | 0 => ("PegrowModel", "things", "[I", true)
  | 1 => ("PegrowModel", "sizes", "[I", true)
  | 2 => ("PegrowModel", "made", "I", false)
  | 3 => ("PegrowModel", "refusals", "[I", true)
  | 4 => ("PegrowModel", "rowOf", "[I", true)
  | 5 => ("PegrowModel", "placeOf", "[I", true)
  | 6 => ("PegrowModel", "hand", "[I", true)
  | 7 => ("PegrowModel", "handAt", "[I", true)
  | 8 => ("PegrowModel", "isLost", "[I", true)
  | 9 => ("PegrowModel", "isOld", "[I", true)
  | _ => ("PegrowModel", "aside", "[I", true)
def tyX3 : Nat → FieldType := fun k => match k with
  | 0 => .array .int
  | 1 => .array .int
  | 2 => .int
  | 3 => .array .int
  | 4 => .array .int
  | 5 => .array .int
  | 6 => .array .int
  | 7 => .array .int
  | 8 => .array .int
  | 9 => .array .int
  | _ => .array .int
abbrev wsX30 : List Cond := u_ws RX3 TX3 11
theorem nmX3 : ∀ a, a < 11 → ∀ b, b < 11 → a ≠ b → (TX3 a).2.1 ≠ (TX3 b).2.1 := by decide +kernel
theorem tyX3_ok : ∀ k, k < 11 → parseFieldDescriptor (TX3 k).2.2.1 = some (tyX3 k) := by decide +kernel
abbrev cX3_init : ByteArray := prog_5_method_1_code
def yX3_init : MethodName := ⟨RX3, "<init>", "()V"⟩
abbrev cX3_in : ByteArray := prog_5_method_2_code
def yX3_in : MethodName := ⟨RX3, "in", "(III)Z"⟩
abbrev cX3_isRow : ByteArray := prog_5_method_3_code
def yX3_isRow : MethodName := ⟨RX3, "isRow", "(I)Z"⟩
abbrev cX3_isName : ByteArray := prog_5_method_4_code
def yX3_isName : MethodName := ⟨RX3, "isName", "(I)Z"⟩
abbrev cX3_isPeg : ByteArray := prog_5_method_5_code
def yX3_isPeg : MethodName := ⟨RX3, "isPeg", "(I)Z"⟩
abbrev cX3_refuse : ByteArray := prog_5_method_6_code
def yX3_refuse : MethodName := ⟨RX3, "refuse", "(II)I"⟩
abbrev cX3_make : ByteArray := prog_5_method_7_code
def yX3_make : MethodName := ⟨RX3, "make", "(I)I"⟩
abbrev cX3_thing : ByteArray := prog_5_method_8_code
def yX3_thing : MethodName := ⟨RX3, "thing", "(II)I"⟩
abbrev cX3_age : ByteArray := prog_5_method_9_code
def yX3_age : MethodName := ⟨RX3, "age", "(II)V"⟩
abbrev cX3_open : ByteArray := prog_5_method_10_code
def yX3_open : MethodName := ⟨RX3, "open", "(III)V"⟩
abbrev cX3_close : ByteArray := prog_5_method_11_code
def yX3_close : MethodName := ⟨RX3, "close", "(II)I"⟩
abbrev cX3_placeBy : ByteArray := prog_5_method_12_code
def yX3_placeBy : MethodName := ⟨RX3, "placeBy", "(IIZ)I"⟩
abbrev cX3_put : ByteArray := prog_5_method_13_code
def yX3_put : MethodName := ⟨RX3, "put", "(IIZI)I"⟩
abbrev cX3_end : ByteArray := prog_5_method_14_code
def yX3_end : MethodName := ⟨RX3, "end", "(IZI)I"⟩
abbrev cX3_take : ByteArray := prog_5_method_15_code
def yX3_take : MethodName := ⟨RX3, "take", "(IZI)I"⟩
abbrev cX3_at : ByteArray := prog_5_method_16_code
def yX3_at : MethodName := ⟨RX3, "at", "(II)I"⟩
abbrev cX3_lay : ByteArray := prog_5_method_17_code
def yX3_lay : MethodName := ⟨RX3, "lay", "(III)I"⟩
abbrev cX3_insert : ByteArray := prog_5_method_18_code
def yX3_insert : MethodName := ⟨RX3, "insert", "(III)I"⟩
abbrev cX3_drop : ByteArray := prog_5_method_19_code
def yX3_drop : MethodName := ⟨RX3, "drop", "(II)I"⟩
abbrev cX3_find : ByteArray := prog_5_method_20_code
def yX3_find : MethodName := ⟨RX3, "find", "(IIZ)I"⟩
abbrev cX3_has : ByteArray := prog_5_method_21_code
def yX3_has : MethodName := ⟨RX3, "has", "(II)I"⟩
abbrev cX3_lose : ByteArray := prog_5_method_22_code
def yX3_lose : MethodName := ⟨RX3, "lose", "(III)I"⟩
abbrev cX3_areTwo : ByteArray := prog_5_method_23_code
def yX3_areTwo : MethodName := ⟨RX3, "areTwo", "(II)Z"⟩
abbrev cX3_all : ByteArray := prog_5_method_24_code
def yX3_all : MethodName := ⟨RX3, "all", "(III)I"⟩
abbrev cX3_clear : ByteArray := prog_5_method_25_code
def yX3_clear : MethodName := ⟨RX3, "clear", "(I)I"⟩
abbrev cX3_leave : ByteArray := prog_5_method_26_code
def yX3_leave : MethodName := ⟨RX3, "leave", "(I)V"⟩
abbrev cX3_copy : ByteArray := prog_5_method_27_code
def yX3_copy : MethodName := ⟨RX3, "copy", "(II)I"⟩
abbrev cX3_turn : ByteArray := prog_5_method_28_code
def yX3_turn : MethodName := ⟨RX3, "turn", "(I)I"⟩
abbrev cX3_weave : ByteArray := prog_5_method_29_code
def yX3_weave : MethodName := ⟨RX3, "weave", "(II)I"⟩
abbrev cX3_prune : ByteArray := prog_5_method_30_code
def yX3_prune : MethodName := ⟨RX3, "prune", "(I)I"⟩
abbrev cX3_size : ByteArray := prog_5_method_31_code
def yX3_size : MethodName := ⟨RX3, "size", "(I)I"⟩
abbrev cX3_sum : ByteArray := prog_5_method_32_code
def yX3_sum : MethodName := ⟨RX3, "sum", "(I)I"⟩
abbrev cX3_peg : ByteArray := prog_5_method_33_code
def yX3_peg : MethodName := ⟨RX3, "peg", "(III)I"⟩
abbrev cX3_bars : ByteArray := prog_5_method_34_code
def yX3_bars : MethodName := ⟨RX3, "bars", "(I)I"⟩
abbrev cX3_goes : ByteArray := prog_5_method_35_code
def yX3_goes : MethodName := ⟨RX3, "goes", "(III)I"⟩
abbrev cX3_next : ByteArray := prog_5_method_36_code
def yX3_next : MethodName := ⟨RX3, "next", "(I)I"⟩
abbrev cX3_previous : ByteArray := prog_5_method_37_code
def yX3_previous : MethodName := ⟨RX3, "previous", "(I)I"⟩
abbrev cX3_side : ByteArray := prog_5_method_38_code
def yX3_side : MethodName := ⟨RX3, "side", "(II)I"⟩
abbrev cX3_barsHand : ByteArray := prog_5_method_39_code
def yX3_barsHand : MethodName := ⟨RX3, "barsHand", "(I)I"⟩
abbrev cX3_change : ByteArray := prog_5_method_40_code
def yX3_change : MethodName := ⟨RX3, "change", "(II)I"⟩
abbrev cX3_add : ByteArray := prog_5_method_41_code
def yX3_add : MethodName := ⟨RX3, "add", "(II)I"⟩
abbrev cX3_remove : ByteArray := prog_5_method_42_code
def yX3_remove : MethodName := ⟨RX3, "remove", "(I)I"⟩
abbrev cX3_old : ByteArray := prog_5_method_43_code
def yX3_old : MethodName := ⟨RX3, "old", "(I)I"⟩
abbrev cX3_standing : ByteArray := prog_5_method_44_code
def yX3_standing : MethodName := ⟨RX3, "standing", "()I"⟩
abbrev cX3_count : ByteArray := prog_5_method_45_code
def yX3_count : MethodName := ⟨RX3, "count", "(I)I"⟩
def RJ9 : String := "java/lang/Math"
def TJ9 : u_T := fun k => match k with
  | _ => ("", "", "", false)
def tyJ9 : Nat → FieldType := fun k => match k with
  | _ => .int
abbrev wsJ90 : List Cond := u_ws RJ9 TJ9 0
theorem nmJ9 : ∀ a, a < 0 → ∀ b, b < 0 → a ≠ b → (TJ9 a).2.1 ≠ (TJ9 b).2.1 := by decide +kernel
theorem tyJ9_ok : ∀ k, k < 0 → parseFieldDescriptor (TJ9 k).2.2.1 = some (tyJ9 k) := by decide +kernel
abbrev cJ9_min_7cf53 : ByteArray := prog_6_method_69_code
def yJ9_min_7cf53 : MethodName := ⟨RJ9, "min", "(II)I"⟩
def RL : String := "PegrowLaw"
abbrev cL_law : ByteArray := code
def yL_law : MethodName := ⟨RL, "law", "([I)Z"⟩
def wsX0_init : List Cond := .code yX0_init cX0_init 1 none :: ([.methodLink RX0 3 objectInit, .instanceMethod objectInit, .code objectInit ⟨#[0xb1]⟩ 1 none, .fieldLink RX0 9 "Pegrow$Peg" "hand" "I"] ++ wsX00)
def wsX0_standIn : List Cond := .code yX0_standIn cX0_standIn 3 none :: ([.fieldLink RX0 15 "Pegrow$Peg" "row" "LPegrow$Row;", .fieldLink RX0 19 "Pegrow$Peg" "ahead" "I", .fieldLink RX0 27 "Pegrow$Peg" "seen" "I", .fieldLink RX0 9 "Pegrow$Peg" "hand" "I", .fieldLink RX0 30 "Pegrow$Peg" "missed" "Z"] ++ wsX00 ++ wsX10)
def wsX0_leave : List Cond := .code yX0_leave cX0_leave 2 none :: ([.fieldLink RX0 15 "Pegrow$Peg" "row" "LPegrow$Row;"] ++ wsX00)
def wsX0_hold : List Cond := .code yX0_hold cX0_hold 3 (some .int) :: ([.fieldLink RX0 9 "Pegrow$Peg" "hand" "I", .fieldLink RX0 34 "Pegrow$Peg" "held" "I", .fieldLink RX0 30 "Pegrow$Peg" "missed" "Z"] ++ wsX00)
def wsX0_isOld : List Cond := .code yX0_isOld cX0_isOld 1 (some .boolean) :: ([.fieldLink RX0 15 "Pegrow$Peg" "row" "LPegrow$Row;", .fieldLink RX0 27 "Pegrow$Peg" "seen" "I"] ++ wsX00 ++ wsX10)
def wsX1_init : List Cond := .code yX1_init cX1_init 1 none :: ([.methodLink RX1 3 objectInit, .instanceMethod objectInit, .code objectInit ⟨#[0xb1]⟩ 1 none, .arrayClass .int, .fieldLink RX1 9 "Pegrow$Row" "things" "[I"] ++ wsX10)
def wsX1_hasThingAt : List Cond := .code yX1_hasThingAt cX1_hasThingAt 2 (some .boolean) :: ([.fieldLink RX1 15 "Pegrow$Row" "length" "I"] ++ wsX10)
def wsX1_canPutAt : List Cond := .code yX1_canPutAt cX1_canPutAt 2 (some .boolean) :: ([.fieldLink RX1 15 "Pegrow$Row" "length" "I"] ++ wsX10)
def wsX1_hasRoomFor : List Cond := .code yX1_hasRoomFor cX1_hasRoomFor 2 (some .boolean) :: ([.fieldLink RX1 15 "Pegrow$Row" "length" "I"] ++ wsX10)
def wsX1_thingAt : List Cond := .code yX1_thingAt cX1_thingAt 2 (some .int) :: ([.fieldLink RX1 9 "Pegrow$Row" "things" "[I"] ++ wsX10)
def wsX1_layAt : List Cond := .code yX1_layAt cX1_layAt 4 (some .int) :: ([.fieldLink RX1 9 "Pegrow$Row" "things" "[I"] ++ wsX10)
def wsX1_openAt : List Cond := .code yX1_openAt cX1_openAt 4 none :: ([.fieldLink RX1 15 "Pegrow$Row" "length" "I", .fieldLink RX1 9 "Pegrow$Row" "things" "[I", .fieldLink RX1 27 "Pegrow$Row" "changes" "I"] ++ wsX10)
def wsX1_putAt : List Cond := .code yX1_putAt cX1_putAt 3 none :: ([.fieldLink RX1 9 "Pegrow$Row" "things" "[I", .methodLink RX1 19 yX1_openAt, .instanceMethod yX1_openAt, .selects RX1 yX1_openAt yX1_openAt, .initialized RX1, .code yX1_openAt cX1_openAt 4 none, .fieldLink RX1 15 "Pegrow$Row" "length" "I", .fieldLink RX1 27 "Pegrow$Row" "changes" "I"] ++ wsX10)
def wsX1_putAllAt : List Cond := .code yX1_putAllAt cX1_putAllAt 4 none :: ([.fieldLink RX1 15 "Pegrow$Row" "length" "I", .fieldLink RX1 9 "Pegrow$Row" "things" "[I", .methodLink RX1 19 yX1_openAt, .instanceMethod yX1_openAt, .selects RX1 yX1_openAt yX1_openAt, .initialized RX1, .code yX1_openAt cX1_openAt 4 none, .fieldLink RX1 27 "Pegrow$Row" "changes" "I"] ++ wsX10)
def wsX1_keepFirst : List Cond := .code yX1_keepFirst cX1_keepFirst 2 none :: ([.fieldLink RX1 15 "Pegrow$Row" "length" "I", .fieldLink RX1 27 "Pegrow$Row" "changes" "I"] ++ wsX10)
def wsX1_takeAt : List Cond := .code yX1_takeAt cX1_takeAt 4 (some .int) :: ([.fieldLink RX1 9 "Pegrow$Row" "things" "[I", .fieldLink RX1 15 "Pegrow$Row" "length" "I", .methodLink RX1 23 yX1_keepFirst, .instanceMethod yX1_keepFirst, .selects RX1 yX1_keepFirst yX1_keepFirst, .initialized RX1, .code yX1_keepFirst cX1_keepFirst 2 none, .fieldLink RX1 27 "Pegrow$Row" "changes" "I"] ++ wsX10)
def wsX1_placeOf : List Cond := .code yX1_placeOf cX1_placeOf 5 (some .int) :: ([.fieldLink RX1 15 "Pegrow$Row" "length" "I", .fieldLink RX1 9 "Pegrow$Row" "things" "[I"] ++ wsX10)
def wsX1_becomeLike : List Cond := .code yX1_becomeLike cX1_becomeLike 3 none :: ([.fieldLink RX1 15 "Pegrow$Row" "length" "I", .fieldLink RX1 9 "Pegrow$Row" "things" "[I"] ++ wsX10)
def wsX1_turnRound : List Cond := .code yX1_turnRound cX1_turnRound 2 none :: ([.fieldLink RX1 15 "Pegrow$Row" "length" "I", .fieldLink RX1 9 "Pegrow$Row" "things" "[I", .methodLink RX1 30 yX1_layAt, .instanceMethod yX1_layAt, .selects RX1 yX1_layAt yX1_layAt, .initialized RX1, .code yX1_layAt cX1_layAt 4 (some .int)] ++ wsX10)
def wsX1_weaveIn : List Cond := .code yX1_weaveIn cX1_weaveIn 4 none :: ([.fieldLink RX1 15 "Pegrow$Row" "length" "I", .methodLink RX1 34 Lib.Math.min.name, .static Lib.Math.min.name, .initialized "java/lang/Math", .code Lib.Math.min.name Lib.Math.min.code 2 (some .int), .fieldLink RX1 9 "Pegrow$Row" "things" "[I", .methodLink RX1 19 yX1_openAt, .instanceMethod yX1_openAt, .selects RX1 yX1_openAt yX1_openAt, .initialized RX1, .code yX1_openAt cX1_openAt 4 none, .fieldLink RX1 27 "Pegrow$Row" "changes" "I"] ++ wsX10)
def wsX1_takeRepeats : List Cond := .code yX1_takeRepeats cX1_takeRepeats 6 (some .int) :: ([.fieldLink RX1 15 "Pegrow$Row" "length" "I", .fieldLink RX1 9 "Pegrow$Row" "things" "[I", .methodLink RX1 23 yX1_keepFirst, .instanceMethod yX1_keepFirst, .selects RX1 yX1_keepFirst yX1_keepFirst, .initialized RX1, .code yX1_keepFirst cX1_keepFirst 2 none, .fieldLink RX1 27 "Pegrow$Row" "changes" "I"] ++ wsX10)
def wsX1_number : List Cond := .code yX1_number cX1_number 3 (some .int) :: ([.fieldLink RX1 15 "Pegrow$Row" "length" "I", .fieldLink RX1 9 "Pegrow$Row" "things" "[I", .constant RX1 39 (1000003)] ++ wsX10)
def wsX2_init : List Cond := .code yX2_init cX2_init 2 none :: ([.methodLink RX2 1 objectInit, .instanceMethod objectInit, .code objectInit ⟨#[0xb1]⟩ 1 none, .classLink RX2 9 RX1, .fieldLink RX2 11 "Pegrow" "rows" "[LPegrow$Row;", .classLink RX2 15 RX0, .fieldLink RX2 17 "Pegrow" "pegs" "[LPegrow$Peg;", .instantiable RX1 3, .initialized RX1, .instantiable RX0 6, .initialized RX0, .instanceMethod yX1_init, .code yX1_init cX1_init 1 none, .methodLink RX1 3 objectInit, .arrayClass .int, .fieldLink RX1 9 "Pegrow$Row" "things" "[I", .instanceMethod yX0_init, .code yX0_init cX0_init 1 none, .methodLink RX0 3 objectInit, .fieldLink RX0 9 "Pegrow$Peg" "hand" "I"] ++ wsX20 ++ wsX10 ++ wsX00)
def wsX2_rowOf : List Cond := .code yX2_rowOf cX2_rowOf 2 (some (.object "Pegrow$Row")) :: ([.fieldLink RX2 11 "Pegrow" "rows" "[LPegrow$Row;"] ++ wsX20)
def wsX2_isName : List Cond := .code yX2_isName cX2_isName 1 (some .boolean) :: ([])
def wsX2_newThing : List Cond := .code yX2_newThing cX2_newThing 3 (some .int) :: ([.fieldLink RX2 146 "Pegrow" "made" "I"] ++ wsX20)
def wsX2_put_r1 : List Cond := [Cond.methodLink RX2 23 yX2_rowOf, Cond.instanceMethod yX2_rowOf, Cond.selects RX2 yX2_rowOf yX2_rowOf, Cond.initialized RX2, Cond.code yX2_rowOf cX2_rowOf 2 (some (.object "Pegrow$Row")), Cond.fieldLink RX2 11 "Pegrow" "rows" "[LPegrow$Row;", Cond.methodLink RX2 27 yX2_isName, Cond.static yX2_isName, Cond.code yX2_isName cX2_isName 1 (some .boolean), Cond.methodLink RX2 31 yX1_hasRoomFor, Cond.instanceMethod yX1_hasRoomFor, Cond.selects RX1 yX1_hasRoomFor yX1_hasRoomFor, Cond.initialized RX1, Cond.code yX1_hasRoomFor cX1_hasRoomFor 2 (some .boolean), Cond.fieldLink RX1 15 "Pegrow$Row" "length" "I", Cond.methodLink RX2 38 yX2_newThing, Cond.instanceMethod yX2_newThing, Cond.selects RX2 yX2_newThing yX2_newThing, Cond.code yX2_newThing cX2_newThing 3 (some .int), Cond.fieldLink RX2 146 "Pegrow" "made" "I", Cond.methodLink RX2 42 yX1_putAt, Cond.instanceMethod yX1_putAt, Cond.selects RX1 yX1_putAt yX1_putAt, Cond.code yX1_putAt cX1_putAt 3 none]
def wsX2_put_r2 : List Cond := [Cond.fieldLink RX1 9 "Pegrow$Row" "things" "[I", Cond.methodLink RX1 19 yX1_openAt, Cond.instanceMethod yX1_openAt, Cond.selects RX1 yX1_openAt yX1_openAt, Cond.code yX1_openAt cX1_openAt 4 none, Cond.fieldLink RX1 27 "Pegrow$Row" "changes" "I"]
def wsX2_put : List Cond := .code yX2_put cX2_put 6 (some .int) :: ((wsX2_put_r1 ++ wsX2_put_r2) ++ wsX10 ++ wsX20)
def wsX2_isEndWay : List Cond := .code yX2_isEndWay cX2_isEndWay 3 (some .boolean) :: ([])
def wsX2_refused : List Cond := .code yX2_refused cX2_refused 2 (some .int) :: ([.fieldLink RX2 149 "Pegrow" "emptyRefusals" "I", .fieldLink RX2 152 "Pegrow" "placeRefusals" "I", .fieldLink RX2 155 "Pegrow" "stateRefusals" "I", .fieldLink RX2 158 "Pegrow" "oldRefusals" "I"] ++ wsX20)
def wsX2_noEnd : List Cond := .code yX2_noEnd cX2_noEnd 2 (some .int) :: ([.methodLink RX2 62 yX2_refused, .instanceMethod yX2_refused, .selects RX2 yX2_refused yX2_refused, .initialized RX2, .code yX2_refused cX2_refused 2 (some .int), .fieldLink RX2 149 "Pegrow" "emptyRefusals" "I", .fieldLink RX2 152 "Pegrow" "placeRefusals" "I", .fieldLink RX2 155 "Pegrow" "stateRefusals" "I", .fieldLink RX2 158 "Pegrow" "oldRefusals" "I"] ++ wsX20)
def wsX2_end_r1 : List Cond := [Cond.methodLink RX2 23 yX2_rowOf, Cond.instanceMethod yX2_rowOf, Cond.selects RX2 yX2_rowOf yX2_rowOf, Cond.initialized RX2, Cond.code yX2_rowOf cX2_rowOf 2 (some (.object "Pegrow$Row")), Cond.fieldLink RX2 11 "Pegrow" "rows" "[LPegrow$Row;", Cond.methodLink RX2 46 yX2_isEndWay, Cond.static yX2_isEndWay, Cond.code yX2_isEndWay cX2_isEndWay 3 (some .boolean), Cond.methodLink RX2 50 yX2_noEnd, Cond.instanceMethod yX2_noEnd, Cond.selects RX2 yX2_noEnd yX2_noEnd, Cond.code yX2_noEnd cX2_noEnd 2 (some .int), Cond.methodLink RX2 62 yX2_refused, Cond.instanceMethod yX2_refused, Cond.selects RX2 yX2_refused yX2_refused, Cond.code yX2_refused cX2_refused 2 (some .int), Cond.fieldLink RX2 149 "Pegrow" "emptyRefusals" "I", Cond.fieldLink RX2 152 "Pegrow" "placeRefusals" "I", Cond.fieldLink RX2 155 "Pegrow" "stateRefusals" "I", Cond.fieldLink RX2 158 "Pegrow" "oldRefusals" "I", Cond.methodLink RX2 53 yX1_thingAt, Cond.instanceMethod yX1_thingAt, Cond.selects RX1 yX1_thingAt yX1_thingAt]
def wsX2_end_r2 : List Cond := [Cond.initialized RX1, Cond.code yX1_thingAt cX1_thingAt 2 (some .int), Cond.fieldLink RX1 9 "Pegrow$Row" "things" "[I"]
def wsX2_end : List Cond := .code yX2_end cX2_end 5 (some .int) :: ((wsX2_end_r1 ++ wsX2_end_r2) ++ wsX10 ++ wsX20)
def wsX2_take_r1 : List Cond := [Cond.methodLink RX2 23 yX2_rowOf, Cond.instanceMethod yX2_rowOf, Cond.selects RX2 yX2_rowOf yX2_rowOf, Cond.initialized RX2, Cond.code yX2_rowOf cX2_rowOf 2 (some (.object "Pegrow$Row")), Cond.fieldLink RX2 11 "Pegrow" "rows" "[LPegrow$Row;", Cond.methodLink RX2 46 yX2_isEndWay, Cond.static yX2_isEndWay, Cond.code yX2_isEndWay cX2_isEndWay 3 (some .boolean), Cond.methodLink RX2 50 yX2_noEnd, Cond.instanceMethod yX2_noEnd, Cond.selects RX2 yX2_noEnd yX2_noEnd, Cond.code yX2_noEnd cX2_noEnd 2 (some .int), Cond.methodLink RX2 62 yX2_refused, Cond.instanceMethod yX2_refused, Cond.selects RX2 yX2_refused yX2_refused, Cond.code yX2_refused cX2_refused 2 (some .int), Cond.fieldLink RX2 149 "Pegrow" "emptyRefusals" "I", Cond.fieldLink RX2 152 "Pegrow" "placeRefusals" "I", Cond.fieldLink RX2 155 "Pegrow" "stateRefusals" "I", Cond.fieldLink RX2 158 "Pegrow" "oldRefusals" "I", Cond.methodLink RX2 56 yX1_takeAt, Cond.instanceMethod yX1_takeAt, Cond.selects RX1 yX1_takeAt yX1_takeAt]
def wsX2_take_r2 : List Cond := [Cond.initialized RX1, Cond.code yX1_takeAt cX1_takeAt 4 (some .int), Cond.fieldLink RX1 9 "Pegrow$Row" "things" "[I", Cond.fieldLink RX1 15 "Pegrow$Row" "length" "I", Cond.methodLink RX1 23 yX1_keepFirst, Cond.instanceMethod yX1_keepFirst, Cond.selects RX1 yX1_keepFirst yX1_keepFirst, Cond.code yX1_keepFirst cX1_keepFirst 2 none, Cond.fieldLink RX1 27 "Pegrow$Row" "changes" "I"]
def wsX2_take : List Cond := .code yX2_take cX2_take 5 (some .int) :: ((wsX2_take_r1 ++ wsX2_take_r2) ++ wsX10 ++ wsX20)
def wsX2_at_r1 : List Cond := [Cond.methodLink RX2 23 yX2_rowOf, Cond.instanceMethod yX2_rowOf, Cond.selects RX2 yX2_rowOf yX2_rowOf, Cond.initialized RX2, Cond.code yX2_rowOf cX2_rowOf 2 (some (.object "Pegrow$Row")), Cond.fieldLink RX2 11 "Pegrow" "rows" "[LPegrow$Row;", Cond.methodLink RX2 59 yX1_hasThingAt, Cond.instanceMethod yX1_hasThingAt, Cond.selects RX1 yX1_hasThingAt yX1_hasThingAt, Cond.initialized RX1, Cond.code yX1_hasThingAt cX1_hasThingAt 2 (some .boolean), Cond.fieldLink RX1 15 "Pegrow$Row" "length" "I", Cond.methodLink RX2 62 yX2_refused, Cond.instanceMethod yX2_refused, Cond.selects RX2 yX2_refused yX2_refused, Cond.code yX2_refused cX2_refused 2 (some .int), Cond.fieldLink RX2 149 "Pegrow" "emptyRefusals" "I", Cond.fieldLink RX2 152 "Pegrow" "placeRefusals" "I", Cond.fieldLink RX2 155 "Pegrow" "stateRefusals" "I", Cond.fieldLink RX2 158 "Pegrow" "oldRefusals" "I", Cond.methodLink RX2 53 yX1_thingAt, Cond.instanceMethod yX1_thingAt, Cond.selects RX1 yX1_thingAt yX1_thingAt, Cond.code yX1_thingAt cX1_thingAt 2 (some .int)]
def wsX2_at_r2 : List Cond := [Cond.fieldLink RX1 9 "Pegrow$Row" "things" "[I"]
def wsX2_at : List Cond := .code yX2_at cX2_at 4 (some .int) :: ((wsX2_at_r1 ++ wsX2_at_r2) ++ wsX20 ++ wsX10)
def wsX2_lay_r1 : List Cond := [Cond.methodLink RX2 23 yX2_rowOf, Cond.instanceMethod yX2_rowOf, Cond.selects RX2 yX2_rowOf yX2_rowOf, Cond.initialized RX2, Cond.code yX2_rowOf cX2_rowOf 2 (some (.object "Pegrow$Row")), Cond.fieldLink RX2 11 "Pegrow" "rows" "[LPegrow$Row;", Cond.methodLink RX2 27 yX2_isName, Cond.static yX2_isName, Cond.code yX2_isName cX2_isName 1 (some .boolean), Cond.methodLink RX2 59 yX1_hasThingAt, Cond.instanceMethod yX1_hasThingAt, Cond.selects RX1 yX1_hasThingAt yX1_hasThingAt, Cond.initialized RX1, Cond.code yX1_hasThingAt cX1_hasThingAt 2 (some .boolean), Cond.fieldLink RX1 15 "Pegrow$Row" "length" "I", Cond.methodLink RX2 62 yX2_refused, Cond.instanceMethod yX2_refused, Cond.selects RX2 yX2_refused yX2_refused, Cond.code yX2_refused cX2_refused 2 (some .int), Cond.fieldLink RX2 149 "Pegrow" "emptyRefusals" "I", Cond.fieldLink RX2 152 "Pegrow" "placeRefusals" "I", Cond.fieldLink RX2 155 "Pegrow" "stateRefusals" "I", Cond.fieldLink RX2 158 "Pegrow" "oldRefusals" "I", Cond.methodLink RX2 38 yX2_newThing]
def wsX2_lay_r2 : List Cond := [Cond.instanceMethod yX2_newThing, Cond.selects RX2 yX2_newThing yX2_newThing, Cond.code yX2_newThing cX2_newThing 3 (some .int), Cond.fieldLink RX2 146 "Pegrow" "made" "I", Cond.methodLink RX2 65 yX1_layAt, Cond.instanceMethod yX1_layAt, Cond.selects RX1 yX1_layAt yX1_layAt, Cond.code yX1_layAt cX1_layAt 4 (some .int), Cond.fieldLink RX1 9 "Pegrow$Row" "things" "[I"]
def wsX2_lay : List Cond := .code yX2_lay cX2_lay 5 (some .int) :: ((wsX2_lay_r1 ++ wsX2_lay_r2) ++ wsX20 ++ wsX10)
def wsX2_insert_r1 : List Cond := [Cond.methodLink RX2 23 yX2_rowOf, Cond.instanceMethod yX2_rowOf, Cond.selects RX2 yX2_rowOf yX2_rowOf, Cond.initialized RX2, Cond.code yX2_rowOf cX2_rowOf 2 (some (.object "Pegrow$Row")), Cond.fieldLink RX2 11 "Pegrow" "rows" "[LPegrow$Row;", Cond.methodLink RX2 27 yX2_isName, Cond.static yX2_isName, Cond.code yX2_isName cX2_isName 1 (some .boolean), Cond.methodLink RX2 31 yX1_hasRoomFor, Cond.instanceMethod yX1_hasRoomFor, Cond.selects RX1 yX1_hasRoomFor yX1_hasRoomFor, Cond.initialized RX1, Cond.code yX1_hasRoomFor cX1_hasRoomFor 2 (some .boolean), Cond.fieldLink RX1 15 "Pegrow$Row" "length" "I", Cond.methodLink RX2 69 yX1_canPutAt, Cond.instanceMethod yX1_canPutAt, Cond.selects RX1 yX1_canPutAt yX1_canPutAt, Cond.code yX1_canPutAt cX1_canPutAt 2 (some .boolean), Cond.methodLink RX2 62 yX2_refused, Cond.instanceMethod yX2_refused, Cond.selects RX2 yX2_refused yX2_refused, Cond.code yX2_refused cX2_refused 2 (some .int), Cond.fieldLink RX2 149 "Pegrow" "emptyRefusals" "I"]
def wsX2_insert_r2 : List Cond := [Cond.fieldLink RX2 152 "Pegrow" "placeRefusals" "I", Cond.fieldLink RX2 155 "Pegrow" "stateRefusals" "I", Cond.fieldLink RX2 158 "Pegrow" "oldRefusals" "I", Cond.methodLink RX2 38 yX2_newThing, Cond.instanceMethod yX2_newThing, Cond.selects RX2 yX2_newThing yX2_newThing, Cond.code yX2_newThing cX2_newThing 3 (some .int), Cond.fieldLink RX2 146 "Pegrow" "made" "I", Cond.methodLink RX2 42 yX1_putAt, Cond.instanceMethod yX1_putAt, Cond.selects RX1 yX1_putAt yX1_putAt, Cond.code yX1_putAt cX1_putAt 3 none, Cond.fieldLink RX1 9 "Pegrow$Row" "things" "[I", Cond.methodLink RX1 19 yX1_openAt, Cond.instanceMethod yX1_openAt, Cond.selects RX1 yX1_openAt yX1_openAt, Cond.code yX1_openAt cX1_openAt 4 none, Cond.fieldLink RX1 27 "Pegrow$Row" "changes" "I"]
def wsX2_insert : List Cond := .code yX2_insert cX2_insert 5 (some .int) :: ((wsX2_insert_r1 ++ wsX2_insert_r2) ++ wsX10 ++ wsX20)
def wsX2_drop_r1 : List Cond := [Cond.methodLink RX2 23 yX2_rowOf, Cond.instanceMethod yX2_rowOf, Cond.selects RX2 yX2_rowOf yX2_rowOf, Cond.initialized RX2, Cond.code yX2_rowOf cX2_rowOf 2 (some (.object "Pegrow$Row")), Cond.fieldLink RX2 11 "Pegrow" "rows" "[LPegrow$Row;", Cond.methodLink RX2 59 yX1_hasThingAt, Cond.instanceMethod yX1_hasThingAt, Cond.selects RX1 yX1_hasThingAt yX1_hasThingAt, Cond.initialized RX1, Cond.code yX1_hasThingAt cX1_hasThingAt 2 (some .boolean), Cond.fieldLink RX1 15 "Pegrow$Row" "length" "I", Cond.methodLink RX2 62 yX2_refused, Cond.instanceMethod yX2_refused, Cond.selects RX2 yX2_refused yX2_refused, Cond.code yX2_refused cX2_refused 2 (some .int), Cond.fieldLink RX2 149 "Pegrow" "emptyRefusals" "I", Cond.fieldLink RX2 152 "Pegrow" "placeRefusals" "I", Cond.fieldLink RX2 155 "Pegrow" "stateRefusals" "I", Cond.fieldLink RX2 158 "Pegrow" "oldRefusals" "I", Cond.methodLink RX2 56 yX1_takeAt, Cond.instanceMethod yX1_takeAt, Cond.selects RX1 yX1_takeAt yX1_takeAt, Cond.code yX1_takeAt cX1_takeAt 4 (some .int)]
def wsX2_drop_r2 : List Cond := [Cond.fieldLink RX1 9 "Pegrow$Row" "things" "[I", Cond.methodLink RX1 23 yX1_keepFirst, Cond.instanceMethod yX1_keepFirst, Cond.selects RX1 yX1_keepFirst yX1_keepFirst, Cond.code yX1_keepFirst cX1_keepFirst 2 none, Cond.fieldLink RX1 27 "Pegrow$Row" "changes" "I"]
def wsX2_drop : List Cond := .code yX2_drop cX2_drop 4 (some .int) :: ((wsX2_drop_r1 ++ wsX2_drop_r2) ++ wsX20 ++ wsX10)
def wsX2_find : List Cond := .code yX2_find cX2_find 6 (some .int) :: ([.methodLink RX2 23 yX2_rowOf, .instanceMethod yX2_rowOf, .selects RX2 yX2_rowOf yX2_rowOf, .initialized RX2, .code yX2_rowOf cX2_rowOf 2 (some (.object "Pegrow$Row")), .fieldLink RX2 11 "Pegrow" "rows" "[LPegrow$Row;", .methodLink RX2 27 yX2_isName, .static yX2_isName, .code yX2_isName cX2_isName 1 (some .boolean), .methodLink RX2 72 yX1_placeOf, .instanceMethod yX1_placeOf, .selects RX1 yX1_placeOf yX1_placeOf, .initialized RX1, .code yX1_placeOf cX1_placeOf 5 (some .int), .fieldLink RX1 15 "Pegrow$Row" "length" "I", .fieldLink RX1 9 "Pegrow$Row" "things" "[I"] ++ wsX20 ++ wsX10)
def wsX2_oneIf : List Cond := .code yX2_oneIf cX2_oneIf 1 (some .int) :: ([])
def wsX2_has : List Cond := .code yX2_has cX2_has 4 (some .int) :: ([.methodLink RX2 23 yX2_rowOf, .instanceMethod yX2_rowOf, .selects RX2 yX2_rowOf yX2_rowOf, .initialized RX2, .code yX2_rowOf cX2_rowOf 2 (some (.object "Pegrow$Row")), .fieldLink RX2 11 "Pegrow" "rows" "[LPegrow$Row;", .methodLink RX2 27 yX2_isName, .static yX2_isName, .code yX2_isName cX2_isName 1 (some .boolean), .methodLink RX2 72 yX1_placeOf, .instanceMethod yX1_placeOf, .selects RX1 yX1_placeOf yX1_placeOf, .initialized RX1, .code yX1_placeOf cX1_placeOf 5 (some .int), .fieldLink RX1 15 "Pegrow$Row" "length" "I", .fieldLink RX1 9 "Pegrow$Row" "things" "[I", .methodLink RX2 76 yX2_oneIf, .static yX2_oneIf, .code yX2_oneIf cX2_oneIf 1 (some .int)] ++ wsX20 ++ wsX10)
def wsX2_lose_r1 : List Cond := [Cond.methodLink RX2 23 yX2_rowOf, Cond.instanceMethod yX2_rowOf, Cond.selects RX2 yX2_rowOf yX2_rowOf, Cond.initialized RX2, Cond.code yX2_rowOf cX2_rowOf 2 (some (.object "Pegrow$Row")), Cond.fieldLink RX2 11 "Pegrow" "rows" "[LPegrow$Row;", Cond.methodLink RX2 27 yX2_isName, Cond.static yX2_isName, Cond.code yX2_isName cX2_isName 1 (some .boolean), Cond.methodLink RX2 72 yX1_placeOf, Cond.instanceMethod yX1_placeOf, Cond.selects RX1 yX1_placeOf yX1_placeOf, Cond.initialized RX1, Cond.code yX1_placeOf cX1_placeOf 5 (some .int), Cond.fieldLink RX1 15 "Pegrow$Row" "length" "I", Cond.fieldLink RX1 9 "Pegrow$Row" "things" "[I", Cond.methodLink RX2 56 yX1_takeAt, Cond.instanceMethod yX1_takeAt, Cond.selects RX1 yX1_takeAt yX1_takeAt, Cond.code yX1_takeAt cX1_takeAt 4 (some .int), Cond.methodLink RX1 23 yX1_keepFirst, Cond.instanceMethod yX1_keepFirst, Cond.selects RX1 yX1_keepFirst yX1_keepFirst, Cond.code yX1_keepFirst cX1_keepFirst 2 none]
def wsX2_lose_r2 : List Cond := [Cond.fieldLink RX1 27 "Pegrow$Row" "changes" "I"]
def wsX2_lose : List Cond := .code yX2_lose cX2_lose 6 (some .int) :: ((wsX2_lose_r1 ++ wsX2_lose_r2) ++ wsX20 ++ wsX10)
def wsX2_all_r1 : List Cond := [Cond.methodLink RX2 23 yX2_rowOf, Cond.instanceMethod yX2_rowOf, Cond.selects RX2 yX2_rowOf yX2_rowOf, Cond.initialized RX2, Cond.code yX2_rowOf cX2_rowOf 2 (some (.object "Pegrow$Row")), Cond.fieldLink RX2 11 "Pegrow" "rows" "[LPegrow$Row;", Cond.methodLink RX2 31 yX1_hasRoomFor, Cond.instanceMethod yX1_hasRoomFor, Cond.selects RX1 yX1_hasRoomFor yX1_hasRoomFor, Cond.initialized RX1, Cond.code yX1_hasRoomFor cX1_hasRoomFor 2 (some .boolean), Cond.fieldLink RX1 15 "Pegrow$Row" "length" "I", Cond.methodLink RX2 69 yX1_canPutAt, Cond.instanceMethod yX1_canPutAt, Cond.selects RX1 yX1_canPutAt yX1_canPutAt, Cond.code yX1_canPutAt cX1_canPutAt 2 (some .boolean), Cond.methodLink RX2 62 yX2_refused, Cond.instanceMethod yX2_refused, Cond.selects RX2 yX2_refused yX2_refused, Cond.code yX2_refused cX2_refused 2 (some .int), Cond.fieldLink RX2 149 "Pegrow" "emptyRefusals" "I", Cond.fieldLink RX2 152 "Pegrow" "placeRefusals" "I", Cond.fieldLink RX2 155 "Pegrow" "stateRefusals" "I", Cond.fieldLink RX2 158 "Pegrow" "oldRefusals" "I"]
def wsX2_all_r2 : List Cond := [Cond.methodLink RX2 80 yX1_putAllAt, Cond.instanceMethod yX1_putAllAt, Cond.selects RX1 yX1_putAllAt yX1_putAllAt, Cond.code yX1_putAllAt cX1_putAllAt 4 none, Cond.fieldLink RX1 9 "Pegrow$Row" "things" "[I", Cond.methodLink RX1 19 yX1_openAt, Cond.instanceMethod yX1_openAt, Cond.selects RX1 yX1_openAt yX1_openAt, Cond.code yX1_openAt cX1_openAt 4 none, Cond.fieldLink RX1 27 "Pegrow$Row" "changes" "I"]
def wsX2_all : List Cond := .code yX2_all cX2_all 7 (some .int) :: ((wsX2_all_r1 ++ wsX2_all_r2) ++ wsX10 ++ wsX20)
def wsX2_clear : List Cond := .code yX2_clear cX2_clear 4 (some .int) :: ([.methodLink RX2 23 yX2_rowOf, .instanceMethod yX2_rowOf, .selects RX2 yX2_rowOf yX2_rowOf, .initialized RX2, .code yX2_rowOf cX2_rowOf 2 (some (.object "Pegrow$Row")), .fieldLink RX2 11 "Pegrow" "rows" "[LPegrow$Row;", .methodLink RX2 84 yX1_keepFirst, .instanceMethod yX1_keepFirst, .selects RX1 yX1_keepFirst yX1_keepFirst, .initialized RX1, .code yX1_keepFirst cX1_keepFirst 2 none, .fieldLink RX1 15 "Pegrow$Row" "length" "I", .fieldLink RX1 27 "Pegrow$Row" "changes" "I"] ++ wsX10 ++ wsX20)
def wsX2_copy : List Cond := .code yX2_copy cX2_copy 6 (some .int) :: ([.fieldLink RX2 17 "Pegrow" "pegs" "[LPegrow$Peg;", .methodLink RX2 23 yX2_rowOf, .instanceMethod yX2_rowOf, .selects RX2 yX2_rowOf yX2_rowOf, .initialized RX2, .code yX2_rowOf cX2_rowOf 2 (some (.object "Pegrow$Row")), .fieldLink RX2 11 "Pegrow" "rows" "[LPegrow$Row;", .methodLink RX2 88 yX0_leave, .instanceMethod yX0_leave, .selects RX0 yX0_leave yX0_leave, .initialized RX0, .code yX0_leave cX0_leave 2 none, .fieldLink RX0 15 "Pegrow$Peg" "row" "LPegrow$Row;", .methodLink RX2 92 yX1_becomeLike, .instanceMethod yX1_becomeLike, .selects RX1 yX1_becomeLike yX1_becomeLike, .initialized RX1, .code yX1_becomeLike cX1_becomeLike 3 none, .fieldLink RX1 15 "Pegrow$Row" "length" "I", .fieldLink RX1 9 "Pegrow$Row" "things" "[I"] ++ wsX20 ++ wsX10 ++ wsX00)
def wsX2_turn : List Cond := .code yX2_turn cX2_turn 3 (some .int) :: ([.methodLink RX2 23 yX2_rowOf, .instanceMethod yX2_rowOf, .selects RX2 yX2_rowOf yX2_rowOf, .initialized RX2, .code yX2_rowOf cX2_rowOf 2 (some (.object "Pegrow$Row")), .fieldLink RX2 11 "Pegrow" "rows" "[LPegrow$Row;", .methodLink RX2 95 yX1_turnRound, .instanceMethod yX1_turnRound, .selects RX1 yX1_turnRound yX1_turnRound, .initialized RX1, .code yX1_turnRound cX1_turnRound 2 none, .fieldLink RX1 15 "Pegrow$Row" "length" "I", .fieldLink RX1 9 "Pegrow$Row" "things" "[I", .methodLink RX1 30 yX1_layAt, .instanceMethod yX1_layAt, .selects RX1 yX1_layAt yX1_layAt, .code yX1_layAt cX1_layAt 4 (some .int)] ++ wsX10 ++ wsX20)
def wsX2_weave_r1 : List Cond := [Cond.methodLink RX2 23 yX2_rowOf, Cond.instanceMethod yX2_rowOf, Cond.selects RX2 yX2_rowOf yX2_rowOf, Cond.initialized RX2, Cond.code yX2_rowOf cX2_rowOf 2 (some (.object "Pegrow$Row")), Cond.fieldLink RX2 11 "Pegrow" "rows" "[LPegrow$Row;", Cond.methodLink RX2 31 yX1_hasRoomFor, Cond.instanceMethod yX1_hasRoomFor, Cond.selects RX1 yX1_hasRoomFor yX1_hasRoomFor, Cond.initialized RX1, Cond.code yX1_hasRoomFor cX1_hasRoomFor 2 (some .boolean), Cond.fieldLink RX1 15 "Pegrow$Row" "length" "I", Cond.methodLink RX2 98 yX1_weaveIn, Cond.instanceMethod yX1_weaveIn, Cond.selects RX1 yX1_weaveIn yX1_weaveIn, Cond.code yX1_weaveIn cX1_weaveIn 4 none, Cond.methodLink RX1 34 Lib.Math.min.name, Cond.static Lib.Math.min.name, Cond.initialized "java/lang/Math", Cond.code Lib.Math.min.name Lib.Math.min.code 2 (some .int), Cond.fieldLink RX1 9 "Pegrow$Row" "things" "[I", Cond.methodLink RX1 19 yX1_openAt, Cond.instanceMethod yX1_openAt, Cond.selects RX1 yX1_openAt yX1_openAt]
def wsX2_weave_r2 : List Cond := [Cond.code yX1_openAt cX1_openAt 4 none, Cond.fieldLink RX1 27 "Pegrow$Row" "changes" "I"]
def wsX2_weave : List Cond := .code yX2_weave cX2_weave 5 (some .int) :: ((wsX2_weave_r1 ++ wsX2_weave_r2) ++ wsX10 ++ wsX20)
def wsX2_prune : List Cond := .code yX2_prune cX2_prune 3 (some .int) :: ([.methodLink RX2 23 yX2_rowOf, .instanceMethod yX2_rowOf, .selects RX2 yX2_rowOf yX2_rowOf, .initialized RX2, .code yX2_rowOf cX2_rowOf 2 (some (.object "Pegrow$Row")), .fieldLink RX2 11 "Pegrow" "rows" "[LPegrow$Row;", .methodLink RX2 101 yX1_takeRepeats, .instanceMethod yX1_takeRepeats, .selects RX1 yX1_takeRepeats yX1_takeRepeats, .initialized RX1, .code yX1_takeRepeats cX1_takeRepeats 6 (some .int), .fieldLink RX1 15 "Pegrow$Row" "length" "I", .fieldLink RX1 9 "Pegrow$Row" "things" "[I", .methodLink RX1 23 yX1_keepFirst, .instanceMethod yX1_keepFirst, .selects RX1 yX1_keepFirst yX1_keepFirst, .code yX1_keepFirst cX1_keepFirst 2 none, .fieldLink RX1 27 "Pegrow$Row" "changes" "I"] ++ wsX20 ++ wsX10)
def wsX2_size : List Cond := .code yX2_size cX2_size 3 (some .int) :: ([.methodLink RX2 23 yX2_rowOf, .instanceMethod yX2_rowOf, .selects RX2 yX2_rowOf yX2_rowOf, .initialized RX2, .code yX2_rowOf cX2_rowOf 2 (some (.object "Pegrow$Row")), .fieldLink RX2 11 "Pegrow" "rows" "[LPegrow$Row;"] ++ wsX10 ++ wsX20)
def wsX2_sum : List Cond := .code yX2_sum cX2_sum 3 (some .int) :: ([.methodLink RX2 23 yX2_rowOf, .instanceMethod yX2_rowOf, .selects RX2 yX2_rowOf yX2_rowOf, .initialized RX2, .code yX2_rowOf cX2_rowOf 2 (some (.object "Pegrow$Row")), .fieldLink RX2 11 "Pegrow" "rows" "[LPegrow$Row;", .methodLink RX2 105 yX1_number, .instanceMethod yX1_number, .selects RX1 yX1_number yX1_number, .initialized RX1, .code yX1_number cX1_number 3 (some .int), .fieldLink RX1 15 "Pegrow$Row" "length" "I", .fieldLink RX1 9 "Pegrow$Row" "things" "[I", .constant RX1 39 (1000003)] ++ wsX20 ++ wsX10)
def wsX2_pegOf : List Cond := .code yX2_pegOf cX2_pegOf 2 (some (.object "Pegrow$Peg")) :: ([.fieldLink RX2 17 "Pegrow" "pegs" "[LPegrow$Peg;"] ++ wsX20)
def wsX2_peg_r1 : List Cond := [Cond.methodLink RX2 108 yX2_pegOf, Cond.instanceMethod yX2_pegOf, Cond.selects RX2 yX2_pegOf yX2_pegOf, Cond.initialized RX2, Cond.code yX2_pegOf cX2_pegOf 2 (some (.object "Pegrow$Peg")), Cond.fieldLink RX2 17 "Pegrow" "pegs" "[LPegrow$Peg;", Cond.methodLink RX2 23 yX2_rowOf, Cond.instanceMethod yX2_rowOf, Cond.selects RX2 yX2_rowOf yX2_rowOf, Cond.code yX2_rowOf cX2_rowOf 2 (some (.object "Pegrow$Row")), Cond.fieldLink RX2 11 "Pegrow" "rows" "[LPegrow$Row;", Cond.methodLink RX2 69 yX1_canPutAt, Cond.instanceMethod yX1_canPutAt, Cond.selects RX1 yX1_canPutAt yX1_canPutAt, Cond.initialized RX1, Cond.code yX1_canPutAt cX1_canPutAt 2 (some .boolean), Cond.fieldLink RX1 15 "Pegrow$Row" "length" "I", Cond.methodLink RX2 62 yX2_refused, Cond.instanceMethod yX2_refused, Cond.selects RX2 yX2_refused yX2_refused, Cond.code yX2_refused cX2_refused 2 (some .int), Cond.fieldLink RX2 149 "Pegrow" "emptyRefusals" "I", Cond.fieldLink RX2 152 "Pegrow" "placeRefusals" "I", Cond.fieldLink RX2 155 "Pegrow" "stateRefusals" "I"]
def wsX2_peg_r2 : List Cond := [Cond.fieldLink RX2 158 "Pegrow" "oldRefusals" "I", Cond.methodLink RX2 112 yX0_standIn, Cond.instanceMethod yX0_standIn, Cond.selects RX0 yX0_standIn yX0_standIn, Cond.initialized RX0, Cond.code yX0_standIn cX0_standIn 3 none, Cond.fieldLink RX0 15 "Pegrow$Peg" "row" "LPegrow$Row;", Cond.fieldLink RX0 19 "Pegrow$Peg" "ahead" "I", Cond.fieldLink RX0 27 "Pegrow$Peg" "seen" "I", Cond.fieldLink RX0 9 "Pegrow$Peg" "hand" "I", Cond.fieldLink RX0 30 "Pegrow$Peg" "missed" "Z"]
def wsX2_peg : List Cond := .code yX2_peg cX2_peg 6 (some .int) :: ((wsX2_peg_r1 ++ wsX2_peg_r2) ++ wsX20 ++ wsX10 ++ wsX00)
def wsX2_goOver_r1 : List Cond := [Cond.methodLink RX2 108 yX2_pegOf, Cond.instanceMethod yX2_pegOf, Cond.selects RX2 yX2_pegOf yX2_pegOf, Cond.initialized RX2, Cond.code yX2_pegOf cX2_pegOf 2 (some (.object "Pegrow$Peg")), Cond.fieldLink RX2 17 "Pegrow" "pegs" "[LPegrow$Peg;", Cond.methodLink RX2 62 yX2_refused, Cond.instanceMethod yX2_refused, Cond.selects RX2 yX2_refused yX2_refused, Cond.code yX2_refused cX2_refused 2 (some .int), Cond.fieldLink RX2 149 "Pegrow" "emptyRefusals" "I", Cond.fieldLink RX2 152 "Pegrow" "placeRefusals" "I", Cond.fieldLink RX2 155 "Pegrow" "stateRefusals" "I", Cond.fieldLink RX2 158 "Pegrow" "oldRefusals" "I", Cond.methodLink RX2 59 yX1_hasThingAt, Cond.instanceMethod yX1_hasThingAt, Cond.selects RX1 yX1_hasThingAt yX1_hasThingAt, Cond.initialized RX1, Cond.code yX1_hasThingAt cX1_hasThingAt 2 (some .boolean), Cond.fieldLink RX1 15 "Pegrow$Row" "length" "I", Cond.methodLink RX2 53 yX1_thingAt, Cond.instanceMethod yX1_thingAt, Cond.selects RX1 yX1_thingAt yX1_thingAt, Cond.code yX1_thingAt cX1_thingAt 2 (some .int)]
def wsX2_goOver_r2 : List Cond := [Cond.fieldLink RX1 9 "Pegrow$Row" "things" "[I", Cond.methodLink RX2 139 yX0_hold, Cond.instanceMethod yX0_hold, Cond.selects RX0 yX0_hold yX0_hold, Cond.initialized RX0, Cond.code yX0_hold cX0_hold 3 (some .int), Cond.fieldLink RX0 9 "Pegrow$Peg" "hand" "I", Cond.fieldLink RX0 34 "Pegrow$Peg" "held" "I", Cond.fieldLink RX0 30 "Pegrow$Peg" "missed" "Z"]
def wsX2_goOver : List Cond := .code yX2_goOver cX2_goOver 6 (some .int) :: ((wsX2_goOver_r1 ++ wsX2_goOver_r2) ++ wsX00 ++ wsX10 ++ wsX20)
def wsX2_next_r1 : List Cond := [Cond.methodLink RX2 116 yX2_goOver, Cond.instanceMethod yX2_goOver, Cond.selects RX2 yX2_goOver yX2_goOver, Cond.initialized RX2, Cond.code yX2_goOver cX2_goOver 6 (some .int), Cond.methodLink RX2 108 yX2_pegOf, Cond.instanceMethod yX2_pegOf, Cond.selects RX2 yX2_pegOf yX2_pegOf, Cond.code yX2_pegOf cX2_pegOf 2 (some (.object "Pegrow$Peg")), Cond.fieldLink RX2 17 "Pegrow" "pegs" "[LPegrow$Peg;", Cond.methodLink RX2 62 yX2_refused, Cond.instanceMethod yX2_refused, Cond.selects RX2 yX2_refused yX2_refused, Cond.code yX2_refused cX2_refused 2 (some .int), Cond.fieldLink RX2 149 "Pegrow" "emptyRefusals" "I", Cond.fieldLink RX2 152 "Pegrow" "placeRefusals" "I", Cond.fieldLink RX2 155 "Pegrow" "stateRefusals" "I", Cond.fieldLink RX2 158 "Pegrow" "oldRefusals" "I", Cond.methodLink RX2 59 yX1_hasThingAt, Cond.instanceMethod yX1_hasThingAt, Cond.selects RX1 yX1_hasThingAt yX1_hasThingAt, Cond.initialized RX1, Cond.code yX1_hasThingAt cX1_hasThingAt 2 (some .boolean), Cond.fieldLink RX1 15 "Pegrow$Row" "length" "I"]
def wsX2_next_r2 : List Cond := [Cond.methodLink RX2 53 yX1_thingAt, Cond.instanceMethod yX1_thingAt, Cond.selects RX1 yX1_thingAt yX1_thingAt, Cond.code yX1_thingAt cX1_thingAt 2 (some .int), Cond.fieldLink RX1 9 "Pegrow$Row" "things" "[I", Cond.methodLink RX2 139 yX0_hold, Cond.instanceMethod yX0_hold, Cond.selects RX0 yX0_hold yX0_hold, Cond.initialized RX0, Cond.code yX0_hold cX0_hold 3 (some .int), Cond.fieldLink RX0 9 "Pegrow$Peg" "hand" "I", Cond.fieldLink RX0 34 "Pegrow$Peg" "held" "I", Cond.fieldLink RX0 30 "Pegrow$Peg" "missed" "Z"]
def wsX2_next : List Cond := .code yX2_next cX2_next 2 (some .int) :: ((wsX2_next_r1 ++ wsX2_next_r2) ++ wsX00 ++ wsX10 ++ wsX20)
def wsX2_previous_r1 : List Cond := [Cond.methodLink RX2 116 yX2_goOver, Cond.instanceMethod yX2_goOver, Cond.selects RX2 yX2_goOver yX2_goOver, Cond.initialized RX2, Cond.code yX2_goOver cX2_goOver 6 (some .int), Cond.methodLink RX2 108 yX2_pegOf, Cond.instanceMethod yX2_pegOf, Cond.selects RX2 yX2_pegOf yX2_pegOf, Cond.code yX2_pegOf cX2_pegOf 2 (some (.object "Pegrow$Peg")), Cond.fieldLink RX2 17 "Pegrow" "pegs" "[LPegrow$Peg;", Cond.methodLink RX2 62 yX2_refused, Cond.instanceMethod yX2_refused, Cond.selects RX2 yX2_refused yX2_refused, Cond.code yX2_refused cX2_refused 2 (some .int), Cond.fieldLink RX2 149 "Pegrow" "emptyRefusals" "I", Cond.fieldLink RX2 152 "Pegrow" "placeRefusals" "I", Cond.fieldLink RX2 155 "Pegrow" "stateRefusals" "I", Cond.fieldLink RX2 158 "Pegrow" "oldRefusals" "I", Cond.methodLink RX2 59 yX1_hasThingAt, Cond.instanceMethod yX1_hasThingAt, Cond.selects RX1 yX1_hasThingAt yX1_hasThingAt, Cond.initialized RX1, Cond.code yX1_hasThingAt cX1_hasThingAt 2 (some .boolean), Cond.fieldLink RX1 15 "Pegrow$Row" "length" "I"]
def wsX2_previous_r2 : List Cond := [Cond.methodLink RX2 53 yX1_thingAt, Cond.instanceMethod yX1_thingAt, Cond.selects RX1 yX1_thingAt yX1_thingAt, Cond.code yX1_thingAt cX1_thingAt 2 (some .int), Cond.fieldLink RX1 9 "Pegrow$Row" "things" "[I", Cond.methodLink RX2 139 yX0_hold, Cond.instanceMethod yX0_hold, Cond.selects RX0 yX0_hold yX0_hold, Cond.initialized RX0, Cond.code yX0_hold cX0_hold 3 (some .int), Cond.fieldLink RX0 9 "Pegrow$Peg" "hand" "I", Cond.fieldLink RX0 34 "Pegrow$Peg" "held" "I", Cond.fieldLink RX0 30 "Pegrow$Peg" "missed" "Z"]
def wsX2_previous : List Cond := .code yX2_previous cX2_previous 2 (some .int) :: ((wsX2_previous_r1 ++ wsX2_previous_r2) ++ wsX00 ++ wsX10 ++ wsX20)
def wsX2_side : List Cond := .code yX2_side cX2_side 5 (some .int) :: ([.methodLink RX2 108 yX2_pegOf, .instanceMethod yX2_pegOf, .selects RX2 yX2_pegOf yX2_pegOf, .initialized RX2, .code yX2_pegOf cX2_pegOf 2 (some (.object "Pegrow$Peg")), .fieldLink RX2 17 "Pegrow" "pegs" "[LPegrow$Peg;", .methodLink RX2 76 yX2_oneIf, .static yX2_oneIf, .code yX2_oneIf cX2_oneIf 1 (some .int)] ++ wsX00 ++ wsX10 ++ wsX20)
def wsX2_handFault : List Cond := .code yX2_handFault cX2_handFault 3 (some .int) :: ([.methodLink RX2 62 yX2_refused, .instanceMethod yX2_refused, .selects RX2 yX2_refused yX2_refused, .initialized RX2, .code yX2_refused cX2_refused 2 (some .int), .fieldLink RX2 149 "Pegrow" "emptyRefusals" "I", .fieldLink RX2 152 "Pegrow" "placeRefusals" "I", .fieldLink RX2 155 "Pegrow" "stateRefusals" "I", .fieldLink RX2 158 "Pegrow" "oldRefusals" "I", .methodLink RX2 59 yX1_hasThingAt, .instanceMethod yX1_hasThingAt, .selects RX1 yX1_hasThingAt yX1_hasThingAt, .initialized RX1, .code yX1_hasThingAt cX1_hasThingAt 2 (some .boolean), .fieldLink RX1 15 "Pegrow$Row" "length" "I", .methodLink RX2 53 yX1_thingAt, .instanceMethod yX1_thingAt, .selects RX1 yX1_thingAt yX1_thingAt, .code yX1_thingAt cX1_thingAt 2 (some .int), .fieldLink RX1 9 "Pegrow$Row" "things" "[I"] ++ wsX00 ++ wsX10 ++ wsX20)
def wsX2_change_r1 : List Cond := [Cond.methodLink RX2 108 yX2_pegOf, Cond.instanceMethod yX2_pegOf, Cond.selects RX2 yX2_pegOf yX2_pegOf, Cond.initialized RX2, Cond.code yX2_pegOf cX2_pegOf 2 (some (.object "Pegrow$Peg")), Cond.fieldLink RX2 17 "Pegrow" "pegs" "[LPegrow$Peg;", Cond.methodLink RX2 27 yX2_isName, Cond.static yX2_isName, Cond.code yX2_isName cX2_isName 1 (some .boolean), Cond.methodLink RX2 132 yX2_handFault, Cond.instanceMethod yX2_handFault, Cond.selects RX2 yX2_handFault yX2_handFault, Cond.code yX2_handFault cX2_handFault 3 (some .int), Cond.methodLink RX2 62 yX2_refused, Cond.instanceMethod yX2_refused, Cond.selects RX2 yX2_refused yX2_refused, Cond.code yX2_refused cX2_refused 2 (some .int), Cond.fieldLink RX2 149 "Pegrow" "emptyRefusals" "I", Cond.fieldLink RX2 152 "Pegrow" "placeRefusals" "I", Cond.fieldLink RX2 155 "Pegrow" "stateRefusals" "I", Cond.fieldLink RX2 158 "Pegrow" "oldRefusals" "I", Cond.methodLink RX2 59 yX1_hasThingAt, Cond.instanceMethod yX1_hasThingAt, Cond.selects RX1 yX1_hasThingAt yX1_hasThingAt]
def wsX2_change_r2 : List Cond := [Cond.initialized RX1, Cond.code yX1_hasThingAt cX1_hasThingAt 2 (some .boolean), Cond.fieldLink RX1 15 "Pegrow$Row" "length" "I", Cond.methodLink RX2 53 yX1_thingAt, Cond.instanceMethod yX1_thingAt, Cond.selects RX1 yX1_thingAt yX1_thingAt, Cond.code yX1_thingAt cX1_thingAt 2 (some .int), Cond.fieldLink RX1 9 "Pegrow$Row" "things" "[I", Cond.methodLink RX2 38 yX2_newThing, Cond.instanceMethod yX2_newThing, Cond.selects RX2 yX2_newThing yX2_newThing, Cond.code yX2_newThing cX2_newThing 3 (some .int), Cond.fieldLink RX2 146 "Pegrow" "made" "I", Cond.methodLink RX2 139 yX0_hold, Cond.instanceMethod yX0_hold, Cond.selects RX0 yX0_hold yX0_hold, Cond.initialized RX0, Cond.code yX0_hold cX0_hold 3 (some .int), Cond.fieldLink RX0 9 "Pegrow$Peg" "hand" "I", Cond.fieldLink RX0 34 "Pegrow$Peg" "held" "I", Cond.fieldLink RX0 30 "Pegrow$Peg" "missed" "Z", Cond.methodLink RX2 65 yX1_layAt, Cond.instanceMethod yX1_layAt, Cond.selects RX1 yX1_layAt yX1_layAt]
def wsX2_change_r3 : List Cond := [Cond.code yX1_layAt cX1_layAt 4 (some .int)]
def wsX2_change : List Cond := .code yX2_change cX2_change 7 (some .int) :: ((wsX2_change_r1 ++ (wsX2_change_r2 ++ wsX2_change_r3)) ++ wsX00 ++ wsX20 ++ wsX10)
def wsX2_add_r1 : List Cond := [Cond.methodLink RX2 108 yX2_pegOf, Cond.instanceMethod yX2_pegOf, Cond.selects RX2 yX2_pegOf yX2_pegOf, Cond.initialized RX2, Cond.code yX2_pegOf cX2_pegOf 2 (some (.object "Pegrow$Peg")), Cond.fieldLink RX2 17 "Pegrow" "pegs" "[LPegrow$Peg;", Cond.methodLink RX2 27 yX2_isName, Cond.static yX2_isName, Cond.code yX2_isName cX2_isName 1 (some .boolean), Cond.methodLink RX2 31 yX1_hasRoomFor, Cond.instanceMethod yX1_hasRoomFor, Cond.selects RX1 yX1_hasRoomFor yX1_hasRoomFor, Cond.initialized RX1, Cond.code yX1_hasRoomFor cX1_hasRoomFor 2 (some .boolean), Cond.fieldLink RX1 15 "Pegrow$Row" "length" "I", Cond.methodLink RX2 62 yX2_refused, Cond.instanceMethod yX2_refused, Cond.selects RX2 yX2_refused yX2_refused, Cond.code yX2_refused cX2_refused 2 (some .int), Cond.fieldLink RX2 149 "Pegrow" "emptyRefusals" "I", Cond.fieldLink RX2 152 "Pegrow" "placeRefusals" "I", Cond.fieldLink RX2 155 "Pegrow" "stateRefusals" "I", Cond.fieldLink RX2 158 "Pegrow" "oldRefusals" "I", Cond.methodLink RX2 38 yX2_newThing]
def wsX2_add_r2 : List Cond := [Cond.instanceMethod yX2_newThing, Cond.selects RX2 yX2_newThing yX2_newThing, Cond.code yX2_newThing cX2_newThing 3 (some .int), Cond.fieldLink RX2 146 "Pegrow" "made" "I", Cond.methodLink RX2 42 yX1_putAt, Cond.instanceMethod yX1_putAt, Cond.selects RX1 yX1_putAt yX1_putAt, Cond.code yX1_putAt cX1_putAt 3 none, Cond.fieldLink RX1 9 "Pegrow$Row" "things" "[I", Cond.methodLink RX1 19 yX1_openAt, Cond.instanceMethod yX1_openAt, Cond.selects RX1 yX1_openAt yX1_openAt, Cond.code yX1_openAt cX1_openAt 4 none, Cond.fieldLink RX1 27 "Pegrow$Row" "changes" "I", Cond.methodLink RX2 112 yX0_standIn, Cond.instanceMethod yX0_standIn, Cond.selects RX0 yX0_standIn yX0_standIn, Cond.initialized RX0, Cond.code yX0_standIn cX0_standIn 3 none, Cond.fieldLink RX0 15 "Pegrow$Peg" "row" "LPegrow$Row;", Cond.fieldLink RX0 19 "Pegrow$Peg" "ahead" "I", Cond.fieldLink RX0 27 "Pegrow$Peg" "seen" "I", Cond.fieldLink RX0 9 "Pegrow$Peg" "hand" "I", Cond.fieldLink RX0 30 "Pegrow$Peg" "missed" "Z"]
def wsX2_add : List Cond := .code yX2_add cX2_add 5 (some .int) :: ((wsX2_add_r1 ++ wsX2_add_r2) ++ wsX00 ++ wsX10 ++ wsX20)
def wsX2_remove_r1 : List Cond := [Cond.methodLink RX2 108 yX2_pegOf, Cond.instanceMethod yX2_pegOf, Cond.selects RX2 yX2_pegOf yX2_pegOf, Cond.initialized RX2, Cond.code yX2_pegOf cX2_pegOf 2 (some (.object "Pegrow$Peg")), Cond.fieldLink RX2 17 "Pegrow" "pegs" "[LPegrow$Peg;", Cond.methodLink RX2 132 yX2_handFault, Cond.instanceMethod yX2_handFault, Cond.selects RX2 yX2_handFault yX2_handFault, Cond.code yX2_handFault cX2_handFault 3 (some .int), Cond.methodLink RX2 62 yX2_refused, Cond.instanceMethod yX2_refused, Cond.selects RX2 yX2_refused yX2_refused, Cond.code yX2_refused cX2_refused 2 (some .int), Cond.fieldLink RX2 149 "Pegrow" "emptyRefusals" "I", Cond.fieldLink RX2 152 "Pegrow" "placeRefusals" "I", Cond.fieldLink RX2 155 "Pegrow" "stateRefusals" "I", Cond.fieldLink RX2 158 "Pegrow" "oldRefusals" "I", Cond.methodLink RX2 59 yX1_hasThingAt, Cond.instanceMethod yX1_hasThingAt, Cond.selects RX1 yX1_hasThingAt yX1_hasThingAt, Cond.initialized RX1, Cond.code yX1_hasThingAt cX1_hasThingAt 2 (some .boolean), Cond.fieldLink RX1 15 "Pegrow$Row" "length" "I"]
def wsX2_remove_r2 : List Cond := [Cond.methodLink RX2 53 yX1_thingAt, Cond.instanceMethod yX1_thingAt, Cond.selects RX1 yX1_thingAt yX1_thingAt, Cond.code yX1_thingAt cX1_thingAt 2 (some .int), Cond.fieldLink RX1 9 "Pegrow$Row" "things" "[I", Cond.methodLink RX2 56 yX1_takeAt, Cond.instanceMethod yX1_takeAt, Cond.selects RX1 yX1_takeAt yX1_takeAt, Cond.code yX1_takeAt cX1_takeAt 4 (some .int), Cond.methodLink RX1 23 yX1_keepFirst, Cond.instanceMethod yX1_keepFirst, Cond.selects RX1 yX1_keepFirst yX1_keepFirst, Cond.code yX1_keepFirst cX1_keepFirst 2 none, Cond.fieldLink RX1 27 "Pegrow$Row" "changes" "I", Cond.methodLink RX2 112 yX0_standIn, Cond.instanceMethod yX0_standIn, Cond.selects RX0 yX0_standIn yX0_standIn, Cond.initialized RX0, Cond.code yX0_standIn cX0_standIn 3 none, Cond.fieldLink RX0 15 "Pegrow$Peg" "row" "LPegrow$Row;", Cond.fieldLink RX0 19 "Pegrow$Peg" "ahead" "I", Cond.fieldLink RX0 27 "Pegrow$Peg" "seen" "I", Cond.fieldLink RX0 9 "Pegrow$Peg" "hand" "I", Cond.fieldLink RX0 30 "Pegrow$Peg" "missed" "Z"]
def wsX2_remove : List Cond := .code yX2_remove cX2_remove 6 (some .int) :: ((wsX2_remove_r1 ++ wsX2_remove_r2) ++ wsX00 ++ wsX20 ++ wsX10)
def wsX2_old : List Cond := .code yX2_old cX2_old 3 (some .int) :: ([.methodLink RX2 108 yX2_pegOf, .instanceMethod yX2_pegOf, .selects RX2 yX2_pegOf yX2_pegOf, .initialized RX2, .code yX2_pegOf cX2_pegOf 2 (some (.object "Pegrow$Peg")), .fieldLink RX2 17 "Pegrow" "pegs" "[LPegrow$Peg;", .methodLink RX2 142 yX0_isOld, .instanceMethod yX0_isOld, .selects RX0 yX0_isOld yX0_isOld, .initialized RX0, .code yX0_isOld cX0_isOld 1 (some .boolean), .fieldLink RX0 15 "Pegrow$Peg" "row" "LPegrow$Row;", .fieldLink RX0 27 "Pegrow$Peg" "seen" "I", .methodLink RX2 76 yX2_oneIf, .static yX2_oneIf, .code yX2_oneIf cX2_oneIf 1 (some .int)] ++ wsX00 ++ wsX20 ++ wsX10)
def wsX2_standingPegs : List Cond := .code yX2_standingPegs cX2_standingPegs 3 (some .int) :: ([.fieldLink RX2 17 "Pegrow" "pegs" "[LPegrow$Peg;"] ++ wsX20 ++ wsX00)
def wsX2_oldPegs : List Cond := .code yX2_oldPegs cX2_oldPegs 3 (some .int) :: ([.fieldLink RX2 17 "Pegrow" "pegs" "[LPegrow$Peg;", .methodLink RX2 142 yX0_isOld, .instanceMethod yX0_isOld, .selects RX0 yX0_isOld yX0_isOld, .initialized RX0, .code yX0_isOld cX0_isOld 1 (some .boolean), .fieldLink RX0 15 "Pegrow$Peg" "row" "LPegrow$Row;", .fieldLink RX0 27 "Pegrow$Peg" "seen" "I"] ++ wsX20 ++ wsX00 ++ wsX10)
def wsX2_count : List Cond := .code yX2_count cX2_count 2 (some .int) :: ([.fieldLink RX2 146 "Pegrow" "made" "I", .fieldLink RX2 149 "Pegrow" "emptyRefusals" "I", .fieldLink RX2 152 "Pegrow" "placeRefusals" "I", .fieldLink RX2 155 "Pegrow" "stateRefusals" "I", .fieldLink RX2 158 "Pegrow" "oldRefusals" "I", .methodLink RX2 161 yX2_standingPegs, .instanceMethod yX2_standingPegs, .selects RX2 yX2_standingPegs yX2_standingPegs, .initialized RX2, .code yX2_standingPegs cX2_standingPegs 3 (some .int), .fieldLink RX2 17 "Pegrow" "pegs" "[LPegrow$Peg;", .methodLink RX2 164 yX2_oldPegs, .instanceMethod yX2_oldPegs, .selects RX2 yX2_oldPegs yX2_oldPegs, .code yX2_oldPegs cX2_oldPegs 3 (some .int), .methodLink RX2 142 yX0_isOld, .instanceMethod yX0_isOld, .selects RX0 yX0_isOld yX0_isOld, .initialized RX0, .code yX0_isOld cX0_isOld 1 (some .boolean), .fieldLink RX0 15 "Pegrow$Peg" "row" "LPegrow$Row;", .fieldLink RX0 27 "Pegrow$Peg" "seen" "I"] ++ wsX20 ++ wsX00 ++ wsX10)
def wsX3_init : List Cond := .code yX3_init cX3_init 2 none :: ([.methodLink RX3 1 objectInit, .instanceMethod objectInit, .code objectInit ⟨#[0xb1]⟩ 1 none, .arrayClass .int, .fieldLink RX3 7 "PegrowModel" "things" "[I", .fieldLink RX3 13 "PegrowModel" "sizes" "[I", .fieldLink RX3 16 "PegrowModel" "refusals" "[I", .fieldLink RX3 19 "PegrowModel" "rowOf" "[I", .fieldLink RX3 22 "PegrowModel" "placeOf" "[I", .fieldLink RX3 25 "PegrowModel" "hand" "[I", .fieldLink RX3 28 "PegrowModel" "handAt" "[I", .fieldLink RX3 31 "PegrowModel" "isLost" "[I", .fieldLink RX3 34 "PegrowModel" "isOld" "[I", .fieldLink RX3 37 "PegrowModel" "aside" "[I"] ++ wsX30)
def wsX3_in : List Cond := .code yX3_in cX3_in 3 (some .boolean) :: ([])
def wsX3_isRow : List Cond := .code yX3_isRow cX3_isRow 1 (some .boolean) :: ([.methodLink RX3 40 yX3_in, .static yX3_in, .initialized RX3, .code yX3_in cX3_in 3 (some .boolean)])
def wsX3_isName : List Cond := .code yX3_isName cX3_isName 1 (some .boolean) :: ([.methodLink RX3 40 yX3_in, .static yX3_in, .initialized RX3, .code yX3_in cX3_in 3 (some .boolean)])
def wsX3_isPeg : List Cond := .code yX3_isPeg cX3_isPeg 1 (some .boolean) :: ([.methodLink RX3 40 yX3_in, .static yX3_in, .initialized RX3, .code yX3_in cX3_in 3 (some .boolean)])
def wsX3_refuse : List Cond := .code yX3_refuse cX3_refuse 3 (some .int) :: ([.fieldLink RX3 16 "PegrowModel" "refusals" "[I"] ++ wsX30)
def wsX3_make : List Cond := .code yX3_make cX3_make 2 (some .int) :: ([.fieldLink RX3 44 "PegrowModel" "made" "I"] ++ wsX30)
def wsX3_thing : List Cond := .code yX3_thing cX3_thing 3 (some .int) :: ([.fieldLink RX3 7 "PegrowModel" "things" "[I"] ++ wsX30)
def wsX3_age : List Cond := .code yX3_age cX3_age 4 none :: ([.fieldLink RX3 34 "PegrowModel" "isOld" "[I", .fieldLink RX3 19 "PegrowModel" "rowOf" "[I"] ++ wsX30)
def wsX3_open : List Cond := .code yX3_open cX3_open 5 none :: ([.fieldLink RX3 13 "PegrowModel" "sizes" "[I", .fieldLink RX3 7 "PegrowModel" "things" "[I", .methodLink RX3 48 yX3_thing, .instanceMethod yX3_thing, .selects RX3 yX3_thing yX3_thing, .initialized RX3, .code yX3_thing cX3_thing 3 (some .int)] ++ wsX30)
def wsX3_close : List Cond := .code yX3_close cX3_close 5 (some .int) :: ([.fieldLink RX3 13 "PegrowModel" "sizes" "[I", .fieldLink RX3 7 "PegrowModel" "things" "[I", .methodLink RX3 48 yX3_thing, .instanceMethod yX3_thing, .selects RX3 yX3_thing yX3_thing, .initialized RX3, .code yX3_thing cX3_thing 3 (some .int)] ++ wsX30)
def wsX3_placeBy : List Cond := .code yX3_placeBy cX3_placeBy 6 (some .int) :: ([.fieldLink RX3 13 "PegrowModel" "sizes" "[I", .methodLink RX3 48 yX3_thing, .instanceMethod yX3_thing, .selects RX3 yX3_thing yX3_thing, .initialized RX3, .code yX3_thing cX3_thing 3 (some .int), .fieldLink RX3 7 "PegrowModel" "things" "[I"] ++ wsX30)
def wsX3_put_r1 : List Cond := [Cond.fieldLink RX3 13 "PegrowModel" "sizes" "[I", Cond.methodLink RX3 52 yX3_isRow, Cond.static yX3_isRow, Cond.initialized RX3, Cond.code yX3_isRow cX3_isRow 1 (some .boolean), Cond.methodLink RX3 40 yX3_in, Cond.static yX3_in, Cond.code yX3_in cX3_in 3 (some .boolean), Cond.methodLink RX3 56 yX3_isName, Cond.static yX3_isName, Cond.code yX3_isName cX3_isName 1 (some .boolean), Cond.methodLink RX3 59 yX3_make, Cond.instanceMethod yX3_make, Cond.selects RX3 yX3_make yX3_make, Cond.code yX3_make cX3_make 2 (some .int), Cond.fieldLink RX3 44 "PegrowModel" "made" "I", Cond.methodLink RX3 63 yX3_open, Cond.instanceMethod yX3_open, Cond.selects RX3 yX3_open yX3_open, Cond.code yX3_open cX3_open 5 none, Cond.fieldLink RX3 7 "PegrowModel" "things" "[I", Cond.methodLink RX3 48 yX3_thing, Cond.instanceMethod yX3_thing, Cond.selects RX3 yX3_thing yX3_thing]
def wsX3_put_r2 : List Cond := [Cond.code yX3_thing cX3_thing 3 (some .int), Cond.methodLink RX3 67 yX3_age, Cond.instanceMethod yX3_age, Cond.selects RX3 yX3_age yX3_age, Cond.code yX3_age cX3_age 4 none, Cond.fieldLink RX3 34 "PegrowModel" "isOld" "[I", Cond.fieldLink RX3 19 "PegrowModel" "rowOf" "[I"]
def wsX3_put : List Cond := .code yX3_put cX3_put 5 (some .int) :: ((wsX3_put_r1 ++ wsX3_put_r2) ++ wsX30)
def wsX3_end : List Cond := .code yX3_end cX3_end 4 (some .int) :: ([.fieldLink RX3 13 "PegrowModel" "sizes" "[I", .methodLink RX3 52 yX3_isRow, .static yX3_isRow, .initialized RX3, .code yX3_isRow cX3_isRow 1 (some .boolean), .methodLink RX3 40 yX3_in, .static yX3_in, .code yX3_in cX3_in 3 (some .boolean), .methodLink RX3 71 yX3_refuse, .instanceMethod yX3_refuse, .selects RX3 yX3_refuse yX3_refuse, .code yX3_refuse cX3_refuse 3 (some .int), .fieldLink RX3 16 "PegrowModel" "refusals" "[I", .methodLink RX3 48 yX3_thing, .instanceMethod yX3_thing, .selects RX3 yX3_thing yX3_thing, .code yX3_thing cX3_thing 3 (some .int), .fieldLink RX3 7 "PegrowModel" "things" "[I"] ++ wsX30)
def wsX3_take_r1 : List Cond := [Cond.fieldLink RX3 13 "PegrowModel" "sizes" "[I", Cond.methodLink RX3 52 yX3_isRow, Cond.static yX3_isRow, Cond.initialized RX3, Cond.code yX3_isRow cX3_isRow 1 (some .boolean), Cond.methodLink RX3 40 yX3_in, Cond.static yX3_in, Cond.code yX3_in cX3_in 3 (some .boolean), Cond.methodLink RX3 71 yX3_refuse, Cond.instanceMethod yX3_refuse, Cond.selects RX3 yX3_refuse yX3_refuse, Cond.code yX3_refuse cX3_refuse 3 (some .int), Cond.fieldLink RX3 16 "PegrowModel" "refusals" "[I", Cond.methodLink RX3 67 yX3_age, Cond.instanceMethod yX3_age, Cond.selects RX3 yX3_age yX3_age, Cond.code yX3_age cX3_age 4 none, Cond.fieldLink RX3 34 "PegrowModel" "isOld" "[I", Cond.fieldLink RX3 19 "PegrowModel" "rowOf" "[I", Cond.methodLink RX3 74 yX3_close, Cond.instanceMethod yX3_close, Cond.selects RX3 yX3_close yX3_close, Cond.code yX3_close cX3_close 5 (some .int), Cond.fieldLink RX3 7 "PegrowModel" "things" "[I"]
def wsX3_take_r2 : List Cond := [Cond.methodLink RX3 48 yX3_thing, Cond.instanceMethod yX3_thing, Cond.selects RX3 yX3_thing yX3_thing, Cond.code yX3_thing cX3_thing 3 (some .int)]
def wsX3_take : List Cond := .code yX3_take cX3_take 4 (some .int) :: ((wsX3_take_r1 ++ wsX3_take_r2) ++ wsX30)
def wsX3_at : List Cond := .code yX3_at cX3_at 3 (some .int) :: ([.fieldLink RX3 13 "PegrowModel" "sizes" "[I", .methodLink RX3 52 yX3_isRow, .static yX3_isRow, .initialized RX3, .code yX3_isRow cX3_isRow 1 (some .boolean), .methodLink RX3 40 yX3_in, .static yX3_in, .code yX3_in cX3_in 3 (some .boolean), .methodLink RX3 48 yX3_thing, .instanceMethod yX3_thing, .selects RX3 yX3_thing yX3_thing, .code yX3_thing cX3_thing 3 (some .int), .fieldLink RX3 7 "PegrowModel" "things" "[I", .methodLink RX3 71 yX3_refuse, .instanceMethod yX3_refuse, .selects RX3 yX3_refuse yX3_refuse, .code yX3_refuse cX3_refuse 3 (some .int), .fieldLink RX3 16 "PegrowModel" "refusals" "[I"] ++ wsX30)
def wsX3_lay_r1 : List Cond := [Cond.fieldLink RX3 13 "PegrowModel" "sizes" "[I", Cond.fieldLink RX3 7 "PegrowModel" "things" "[I", Cond.methodLink RX3 52 yX3_isRow, Cond.static yX3_isRow, Cond.initialized RX3, Cond.code yX3_isRow cX3_isRow 1 (some .boolean), Cond.methodLink RX3 40 yX3_in, Cond.static yX3_in, Cond.code yX3_in cX3_in 3 (some .boolean), Cond.methodLink RX3 56 yX3_isName, Cond.static yX3_isName, Cond.code yX3_isName cX3_isName 1 (some .boolean), Cond.methodLink RX3 71 yX3_refuse, Cond.instanceMethod yX3_refuse, Cond.selects RX3 yX3_refuse yX3_refuse, Cond.code yX3_refuse cX3_refuse 3 (some .int), Cond.fieldLink RX3 16 "PegrowModel" "refusals" "[I", Cond.methodLink RX3 48 yX3_thing, Cond.instanceMethod yX3_thing, Cond.selects RX3 yX3_thing yX3_thing, Cond.code yX3_thing cX3_thing 3 (some .int), Cond.methodLink RX3 59 yX3_make, Cond.instanceMethod yX3_make, Cond.selects RX3 yX3_make yX3_make]
def wsX3_lay_r2 : List Cond := [Cond.code yX3_make cX3_make 2 (some .int), Cond.fieldLink RX3 44 "PegrowModel" "made" "I"]
def wsX3_lay : List Cond := .code yX3_lay cX3_lay 5 (some .int) :: ((wsX3_lay_r1 ++ wsX3_lay_r2) ++ wsX30)
def wsX3_insert_r1 : List Cond := [Cond.fieldLink RX3 13 "PegrowModel" "sizes" "[I", Cond.methodLink RX3 52 yX3_isRow, Cond.static yX3_isRow, Cond.initialized RX3, Cond.code yX3_isRow cX3_isRow 1 (some .boolean), Cond.methodLink RX3 40 yX3_in, Cond.static yX3_in, Cond.code yX3_in cX3_in 3 (some .boolean), Cond.methodLink RX3 56 yX3_isName, Cond.static yX3_isName, Cond.code yX3_isName cX3_isName 1 (some .boolean), Cond.methodLink RX3 71 yX3_refuse, Cond.instanceMethod yX3_refuse, Cond.selects RX3 yX3_refuse yX3_refuse, Cond.code yX3_refuse cX3_refuse 3 (some .int), Cond.fieldLink RX3 16 "PegrowModel" "refusals" "[I", Cond.methodLink RX3 59 yX3_make, Cond.instanceMethod yX3_make, Cond.selects RX3 yX3_make yX3_make, Cond.code yX3_make cX3_make 2 (some .int), Cond.fieldLink RX3 44 "PegrowModel" "made" "I", Cond.methodLink RX3 63 yX3_open, Cond.instanceMethod yX3_open, Cond.selects RX3 yX3_open yX3_open]
def wsX3_insert_r2 : List Cond := [Cond.code yX3_open cX3_open 5 none, Cond.fieldLink RX3 7 "PegrowModel" "things" "[I", Cond.methodLink RX3 48 yX3_thing, Cond.instanceMethod yX3_thing, Cond.selects RX3 yX3_thing yX3_thing, Cond.code yX3_thing cX3_thing 3 (some .int), Cond.methodLink RX3 67 yX3_age, Cond.instanceMethod yX3_age, Cond.selects RX3 yX3_age yX3_age, Cond.code yX3_age cX3_age 4 none, Cond.fieldLink RX3 34 "PegrowModel" "isOld" "[I", Cond.fieldLink RX3 19 "PegrowModel" "rowOf" "[I"]
def wsX3_insert : List Cond := .code yX3_insert cX3_insert 4 (some .int) :: ((wsX3_insert_r1 ++ wsX3_insert_r2) ++ wsX30)
def wsX3_drop_r1 : List Cond := [Cond.fieldLink RX3 13 "PegrowModel" "sizes" "[I", Cond.methodLink RX3 52 yX3_isRow, Cond.static yX3_isRow, Cond.initialized RX3, Cond.code yX3_isRow cX3_isRow 1 (some .boolean), Cond.methodLink RX3 40 yX3_in, Cond.static yX3_in, Cond.code yX3_in cX3_in 3 (some .boolean), Cond.methodLink RX3 71 yX3_refuse, Cond.instanceMethod yX3_refuse, Cond.selects RX3 yX3_refuse yX3_refuse, Cond.code yX3_refuse cX3_refuse 3 (some .int), Cond.fieldLink RX3 16 "PegrowModel" "refusals" "[I", Cond.methodLink RX3 67 yX3_age, Cond.instanceMethod yX3_age, Cond.selects RX3 yX3_age yX3_age, Cond.code yX3_age cX3_age 4 none, Cond.fieldLink RX3 34 "PegrowModel" "isOld" "[I", Cond.fieldLink RX3 19 "PegrowModel" "rowOf" "[I", Cond.methodLink RX3 74 yX3_close, Cond.instanceMethod yX3_close, Cond.selects RX3 yX3_close yX3_close, Cond.code yX3_close cX3_close 5 (some .int), Cond.fieldLink RX3 7 "PegrowModel" "things" "[I"]
def wsX3_drop_r2 : List Cond := [Cond.methodLink RX3 48 yX3_thing, Cond.instanceMethod yX3_thing, Cond.selects RX3 yX3_thing yX3_thing, Cond.code yX3_thing cX3_thing 3 (some .int)]
def wsX3_drop : List Cond := .code yX3_drop cX3_drop 3 (some .int) :: ((wsX3_drop_r1 ++ wsX3_drop_r2) ++ wsX30)
def wsX3_find : List Cond := .code yX3_find cX3_find 5 (some .int) :: ([.methodLink RX3 52 yX3_isRow, .static yX3_isRow, .initialized RX3, .code yX3_isRow cX3_isRow 1 (some .boolean), .methodLink RX3 40 yX3_in, .static yX3_in, .code yX3_in cX3_in 3 (some .boolean), .methodLink RX3 56 yX3_isName, .static yX3_isName, .code yX3_isName cX3_isName 1 (some .boolean), .methodLink RX3 77 yX3_placeBy, .instanceMethod yX3_placeBy, .selects RX3 yX3_placeBy yX3_placeBy, .code yX3_placeBy cX3_placeBy 6 (some .int), .fieldLink RX3 13 "PegrowModel" "sizes" "[I", .methodLink RX3 48 yX3_thing, .instanceMethod yX3_thing, .selects RX3 yX3_thing yX3_thing, .code yX3_thing cX3_thing 3 (some .int), .fieldLink RX3 7 "PegrowModel" "things" "[I"] ++ wsX30)
def wsX3_has : List Cond := .code yX3_has cX3_has 3 (some .int) :: ([.methodLink RX3 52 yX3_isRow, .static yX3_isRow, .initialized RX3, .code yX3_isRow cX3_isRow 1 (some .boolean), .methodLink RX3 40 yX3_in, .static yX3_in, .code yX3_in cX3_in 3 (some .boolean), .methodLink RX3 56 yX3_isName, .static yX3_isName, .code yX3_isName cX3_isName 1 (some .boolean), .methodLink RX3 77 yX3_placeBy, .instanceMethod yX3_placeBy, .selects RX3 yX3_placeBy yX3_placeBy, .code yX3_placeBy cX3_placeBy 6 (some .int), .fieldLink RX3 13 "PegrowModel" "sizes" "[I", .methodLink RX3 48 yX3_thing, .instanceMethod yX3_thing, .selects RX3 yX3_thing yX3_thing, .code yX3_thing cX3_thing 3 (some .int), .fieldLink RX3 7 "PegrowModel" "things" "[I"] ++ wsX30)
def wsX3_lose_r1 : List Cond := [Cond.methodLink RX3 52 yX3_isRow, Cond.static yX3_isRow, Cond.initialized RX3, Cond.code yX3_isRow cX3_isRow 1 (some .boolean), Cond.methodLink RX3 40 yX3_in, Cond.static yX3_in, Cond.code yX3_in cX3_in 3 (some .boolean), Cond.methodLink RX3 56 yX3_isName, Cond.static yX3_isName, Cond.code yX3_isName cX3_isName 1 (some .boolean), Cond.methodLink RX3 77 yX3_placeBy, Cond.instanceMethod yX3_placeBy, Cond.selects RX3 yX3_placeBy yX3_placeBy, Cond.code yX3_placeBy cX3_placeBy 6 (some .int), Cond.fieldLink RX3 13 "PegrowModel" "sizes" "[I", Cond.methodLink RX3 48 yX3_thing, Cond.instanceMethod yX3_thing, Cond.selects RX3 yX3_thing yX3_thing, Cond.code yX3_thing cX3_thing 3 (some .int), Cond.fieldLink RX3 7 "PegrowModel" "things" "[I", Cond.methodLink RX3 74 yX3_close, Cond.instanceMethod yX3_close, Cond.selects RX3 yX3_close yX3_close, Cond.code yX3_close cX3_close 5 (some .int)]
def wsX3_lose_r2 : List Cond := [Cond.methodLink RX3 67 yX3_age, Cond.instanceMethod yX3_age, Cond.selects RX3 yX3_age yX3_age, Cond.code yX3_age cX3_age 4 none, Cond.fieldLink RX3 34 "PegrowModel" "isOld" "[I", Cond.fieldLink RX3 19 "PegrowModel" "rowOf" "[I"]
def wsX3_lose : List Cond := .code yX3_lose cX3_lose 6 (some .int) :: ((wsX3_lose_r1 ++ wsX3_lose_r2) ++ wsX30)
def wsX3_areTwo : List Cond := .code yX3_areTwo cX3_areTwo 2 (some .boolean) :: ([.methodLink RX3 52 yX3_isRow, .static yX3_isRow, .initialized RX3, .code yX3_isRow cX3_isRow 1 (some .boolean), .methodLink RX3 40 yX3_in, .static yX3_in, .code yX3_in cX3_in 3 (some .boolean)])
def wsX3_all_r1 : List Cond := [Cond.fieldLink RX3 13 "PegrowModel" "sizes" "[I", Cond.methodLink RX3 81 yX3_areTwo, Cond.static yX3_areTwo, Cond.initialized RX3, Cond.code yX3_areTwo cX3_areTwo 2 (some .boolean), Cond.methodLink RX3 52 yX3_isRow, Cond.static yX3_isRow, Cond.code yX3_isRow cX3_isRow 1 (some .boolean), Cond.methodLink RX3 40 yX3_in, Cond.static yX3_in, Cond.code yX3_in cX3_in 3 (some .boolean), Cond.methodLink RX3 71 yX3_refuse, Cond.instanceMethod yX3_refuse, Cond.selects RX3 yX3_refuse yX3_refuse, Cond.code yX3_refuse cX3_refuse 3 (some .int), Cond.fieldLink RX3 16 "PegrowModel" "refusals" "[I", Cond.methodLink RX3 48 yX3_thing, Cond.instanceMethod yX3_thing, Cond.selects RX3 yX3_thing yX3_thing, Cond.code yX3_thing cX3_thing 3 (some .int), Cond.fieldLink RX3 7 "PegrowModel" "things" "[I", Cond.methodLink RX3 63 yX3_open, Cond.instanceMethod yX3_open, Cond.selects RX3 yX3_open yX3_open]
def wsX3_all_r2 : List Cond := [Cond.code yX3_open cX3_open 5 none, Cond.methodLink RX3 67 yX3_age, Cond.instanceMethod yX3_age, Cond.selects RX3 yX3_age yX3_age, Cond.code yX3_age cX3_age 4 none, Cond.fieldLink RX3 34 "PegrowModel" "isOld" "[I", Cond.fieldLink RX3 19 "PegrowModel" "rowOf" "[I"]
def wsX3_all : List Cond := .code yX3_all cX3_all 6 (some .int) :: ((wsX3_all_r1 ++ wsX3_all_r2) ++ wsX30)
def wsX3_clear : List Cond := .code yX3_clear cX3_clear 3 (some .int) :: ([.fieldLink RX3 13 "PegrowModel" "sizes" "[I", .methodLink RX3 52 yX3_isRow, .static yX3_isRow, .initialized RX3, .code yX3_isRow cX3_isRow 1 (some .boolean), .methodLink RX3 40 yX3_in, .static yX3_in, .code yX3_in cX3_in 3 (some .boolean), .methodLink RX3 67 yX3_age, .instanceMethod yX3_age, .selects RX3 yX3_age yX3_age, .code yX3_age cX3_age 4 none, .fieldLink RX3 34 "PegrowModel" "isOld" "[I", .fieldLink RX3 19 "PegrowModel" "rowOf" "[I"] ++ wsX30)
def wsX3_leave : List Cond := .code yX3_leave cX3_leave 2 none :: ([.fieldLink RX3 19 "PegrowModel" "rowOf" "[I", .fieldLink RX3 25 "PegrowModel" "hand" "[I", .fieldLink RX3 31 "PegrowModel" "isLost" "[I", .fieldLink RX3 34 "PegrowModel" "isOld" "[I"] ++ wsX30)
def wsX3_copy : List Cond := .code yX3_copy cX3_copy 4 (some .int) :: ([.fieldLink RX3 19 "PegrowModel" "rowOf" "[I", .fieldLink RX3 13 "PegrowModel" "sizes" "[I", .fieldLink RX3 7 "PegrowModel" "things" "[I", .methodLink RX3 81 yX3_areTwo, .static yX3_areTwo, .initialized RX3, .code yX3_areTwo cX3_areTwo 2 (some .boolean), .methodLink RX3 52 yX3_isRow, .static yX3_isRow, .code yX3_isRow cX3_isRow 1 (some .boolean), .methodLink RX3 40 yX3_in, .static yX3_in, .code yX3_in cX3_in 3 (some .boolean), .methodLink RX3 85 yX3_leave, .instanceMethod yX3_leave, .selects RX3 yX3_leave yX3_leave, .code yX3_leave cX3_leave 2 none, .fieldLink RX3 25 "PegrowModel" "hand" "[I", .fieldLink RX3 31 "PegrowModel" "isLost" "[I", .fieldLink RX3 34 "PegrowModel" "isOld" "[I", .methodLink RX3 48 yX3_thing, .instanceMethod yX3_thing, .selects RX3 yX3_thing yX3_thing, .code yX3_thing cX3_thing 3 (some .int)] ++ wsX30)
def wsX3_turn : List Cond := .code yX3_turn cX3_turn 4 (some .int) :: ([.fieldLink RX3 13 "PegrowModel" "sizes" "[I", .fieldLink RX3 37 "PegrowModel" "aside" "[I", .fieldLink RX3 7 "PegrowModel" "things" "[I", .methodLink RX3 52 yX3_isRow, .static yX3_isRow, .initialized RX3, .code yX3_isRow cX3_isRow 1 (some .boolean), .methodLink RX3 40 yX3_in, .static yX3_in, .code yX3_in cX3_in 3 (some .boolean), .methodLink RX3 48 yX3_thing, .instanceMethod yX3_thing, .selects RX3 yX3_thing yX3_thing, .code yX3_thing cX3_thing 3 (some .int)] ++ wsX30)
def wsX3_weave : List Cond := .code yX3_weave cX3_weave 7 (some .int) :: ([.fieldLink RX3 13 "PegrowModel" "sizes" "[I", .fieldLink RX3 37 "PegrowModel" "aside" "[I", .fieldLink RX3 7 "PegrowModel" "things" "[I", .methodLink RX3 81 yX3_areTwo, .static yX3_areTwo, .initialized RX3, .code yX3_areTwo cX3_areTwo 2 (some .boolean), .methodLink RX3 52 yX3_isRow, .static yX3_isRow, .code yX3_isRow cX3_isRow 1 (some .boolean), .methodLink RX3 40 yX3_in, .static yX3_in, .code yX3_in cX3_in 3 (some .boolean), .methodLink RX3 48 yX3_thing, .instanceMethod yX3_thing, .selects RX3 yX3_thing yX3_thing, .code yX3_thing cX3_thing 3 (some .int), .methodLink RX3 67 yX3_age, .instanceMethod yX3_age, .selects RX3 yX3_age yX3_age, .code yX3_age cX3_age 4 none, .fieldLink RX3 34 "PegrowModel" "isOld" "[I", .fieldLink RX3 19 "PegrowModel" "rowOf" "[I"] ++ wsX30)
def wsX3_prune : List Cond := .code yX3_prune cX3_prune 6 (some .int) :: ([.fieldLink RX3 13 "PegrowModel" "sizes" "[I", .fieldLink RX3 7 "PegrowModel" "things" "[I", .methodLink RX3 52 yX3_isRow, .static yX3_isRow, .initialized RX3, .code yX3_isRow cX3_isRow 1 (some .boolean), .methodLink RX3 40 yX3_in, .static yX3_in, .code yX3_in cX3_in 3 (some .boolean), .methodLink RX3 48 yX3_thing, .instanceMethod yX3_thing, .selects RX3 yX3_thing yX3_thing, .code yX3_thing cX3_thing 3 (some .int), .methodLink RX3 67 yX3_age, .instanceMethod yX3_age, .selects RX3 yX3_age yX3_age, .code yX3_age cX3_age 4 none, .fieldLink RX3 34 "PegrowModel" "isOld" "[I", .fieldLink RX3 19 "PegrowModel" "rowOf" "[I"] ++ wsX30)
def wsX3_size : List Cond := .code yX3_size cX3_size 2 (some .int) :: ([.fieldLink RX3 13 "PegrowModel" "sizes" "[I", .methodLink RX3 52 yX3_isRow, .static yX3_isRow, .initialized RX3, .code yX3_isRow cX3_isRow 1 (some .boolean), .methodLink RX3 40 yX3_in, .static yX3_in, .code yX3_in cX3_in 3 (some .boolean)] ++ wsX30)
def wsX3_sum : List Cond := .code yX3_sum cX3_sum 4 (some .int) :: ([.fieldLink RX3 13 "PegrowModel" "sizes" "[I", .constant RX3 89 (1000003), .methodLink RX3 52 yX3_isRow, .static yX3_isRow, .initialized RX3, .code yX3_isRow cX3_isRow 1 (some .boolean), .methodLink RX3 40 yX3_in, .static yX3_in, .code yX3_in cX3_in 3 (some .boolean), .methodLink RX3 48 yX3_thing, .instanceMethod yX3_thing, .selects RX3 yX3_thing yX3_thing, .code yX3_thing cX3_thing 3 (some .int), .fieldLink RX3 7 "PegrowModel" "things" "[I"] ++ wsX30)
def wsX3_peg_r1 : List Cond := [Cond.fieldLink RX3 13 "PegrowModel" "sizes" "[I", Cond.fieldLink RX3 19 "PegrowModel" "rowOf" "[I", Cond.fieldLink RX3 22 "PegrowModel" "placeOf" "[I", Cond.methodLink RX3 90 yX3_isPeg, Cond.static yX3_isPeg, Cond.initialized RX3, Cond.code yX3_isPeg cX3_isPeg 1 (some .boolean), Cond.methodLink RX3 40 yX3_in, Cond.static yX3_in, Cond.code yX3_in cX3_in 3 (some .boolean), Cond.methodLink RX3 52 yX3_isRow, Cond.static yX3_isRow, Cond.code yX3_isRow cX3_isRow 1 (some .boolean), Cond.methodLink RX3 71 yX3_refuse, Cond.instanceMethod yX3_refuse, Cond.selects RX3 yX3_refuse yX3_refuse, Cond.code yX3_refuse cX3_refuse 3 (some .int), Cond.fieldLink RX3 16 "PegrowModel" "refusals" "[I", Cond.methodLink RX3 85 yX3_leave, Cond.instanceMethod yX3_leave, Cond.selects RX3 yX3_leave yX3_leave, Cond.code yX3_leave cX3_leave 2 none, Cond.fieldLink RX3 25 "PegrowModel" "hand" "[I", Cond.fieldLink RX3 31 "PegrowModel" "isLost" "[I"]
def wsX3_peg_r2 : List Cond := [Cond.fieldLink RX3 34 "PegrowModel" "isOld" "[I"]
def wsX3_peg : List Cond := .code yX3_peg cX3_peg 4 (some .int) :: ((wsX3_peg_r1 ++ wsX3_peg_r2) ++ wsX30)
def wsX3_bars : List Cond := .code yX3_bars cX3_bars 2 (some .int) :: ([.fieldLink RX3 19 "PegrowModel" "rowOf" "[I", .fieldLink RX3 34 "PegrowModel" "isOld" "[I", .methodLink RX3 71 yX3_refuse, .instanceMethod yX3_refuse, .selects RX3 yX3_refuse yX3_refuse, .initialized RX3, .code yX3_refuse cX3_refuse 3 (some .int), .fieldLink RX3 16 "PegrowModel" "refusals" "[I"] ++ wsX30)
def wsX3_goes : List Cond := .code yX3_goes cX3_goes 5 (some .int) :: ([.fieldLink RX3 19 "PegrowModel" "rowOf" "[I", .fieldLink RX3 13 "PegrowModel" "sizes" "[I", .fieldLink RX3 31 "PegrowModel" "isLost" "[I", .fieldLink RX3 25 "PegrowModel" "hand" "[I", .fieldLink RX3 28 "PegrowModel" "handAt" "[I", .fieldLink RX3 22 "PegrowModel" "placeOf" "[I", .methodLink RX3 40 yX3_in, .static yX3_in, .initialized RX3, .code yX3_in cX3_in 3 (some .boolean), .methodLink RX3 71 yX3_refuse, .instanceMethod yX3_refuse, .selects RX3 yX3_refuse yX3_refuse, .code yX3_refuse cX3_refuse 3 (some .int), .fieldLink RX3 16 "PegrowModel" "refusals" "[I", .methodLink RX3 48 yX3_thing, .instanceMethod yX3_thing, .selects RX3 yX3_thing yX3_thing, .code yX3_thing cX3_thing 3 (some .int), .fieldLink RX3 7 "PegrowModel" "things" "[I"] ++ wsX30)
def wsX3_next_r1 : List Cond := [Cond.fieldLink RX3 22 "PegrowModel" "placeOf" "[I", Cond.methodLink RX3 90 yX3_isPeg, Cond.static yX3_isPeg, Cond.initialized RX3, Cond.code yX3_isPeg cX3_isPeg 1 (some .boolean), Cond.methodLink RX3 40 yX3_in, Cond.static yX3_in, Cond.code yX3_in cX3_in 3 (some .boolean), Cond.methodLink RX3 93 yX3_bars, Cond.instanceMethod yX3_bars, Cond.selects RX3 yX3_bars yX3_bars, Cond.code yX3_bars cX3_bars 2 (some .int), Cond.fieldLink RX3 19 "PegrowModel" "rowOf" "[I", Cond.fieldLink RX3 34 "PegrowModel" "isOld" "[I", Cond.methodLink RX3 71 yX3_refuse, Cond.instanceMethod yX3_refuse, Cond.selects RX3 yX3_refuse yX3_refuse, Cond.code yX3_refuse cX3_refuse 3 (some .int), Cond.fieldLink RX3 16 "PegrowModel" "refusals" "[I", Cond.methodLink RX3 96 yX3_goes, Cond.instanceMethod yX3_goes, Cond.selects RX3 yX3_goes yX3_goes, Cond.code yX3_goes cX3_goes 5 (some .int), Cond.fieldLink RX3 13 "PegrowModel" "sizes" "[I"]
def wsX3_next_r2 : List Cond := [Cond.fieldLink RX3 31 "PegrowModel" "isLost" "[I", Cond.fieldLink RX3 25 "PegrowModel" "hand" "[I", Cond.fieldLink RX3 28 "PegrowModel" "handAt" "[I", Cond.methodLink RX3 48 yX3_thing, Cond.instanceMethod yX3_thing, Cond.selects RX3 yX3_thing yX3_thing, Cond.code yX3_thing cX3_thing 3 (some .int), Cond.fieldLink RX3 7 "PegrowModel" "things" "[I"]
def wsX3_next : List Cond := .code yX3_next cX3_next 3 (some .int) :: ((wsX3_next_r1 ++ wsX3_next_r2) ++ wsX30)
def wsX3_previous_r1 : List Cond := [Cond.fieldLink RX3 22 "PegrowModel" "placeOf" "[I", Cond.methodLink RX3 90 yX3_isPeg, Cond.static yX3_isPeg, Cond.initialized RX3, Cond.code yX3_isPeg cX3_isPeg 1 (some .boolean), Cond.methodLink RX3 40 yX3_in, Cond.static yX3_in, Cond.code yX3_in cX3_in 3 (some .boolean), Cond.methodLink RX3 93 yX3_bars, Cond.instanceMethod yX3_bars, Cond.selects RX3 yX3_bars yX3_bars, Cond.code yX3_bars cX3_bars 2 (some .int), Cond.fieldLink RX3 19 "PegrowModel" "rowOf" "[I", Cond.fieldLink RX3 34 "PegrowModel" "isOld" "[I", Cond.methodLink RX3 71 yX3_refuse, Cond.instanceMethod yX3_refuse, Cond.selects RX3 yX3_refuse yX3_refuse, Cond.code yX3_refuse cX3_refuse 3 (some .int), Cond.fieldLink RX3 16 "PegrowModel" "refusals" "[I", Cond.methodLink RX3 96 yX3_goes, Cond.instanceMethod yX3_goes, Cond.selects RX3 yX3_goes yX3_goes, Cond.code yX3_goes cX3_goes 5 (some .int), Cond.fieldLink RX3 13 "PegrowModel" "sizes" "[I"]
def wsX3_previous_r2 : List Cond := [Cond.fieldLink RX3 31 "PegrowModel" "isLost" "[I", Cond.fieldLink RX3 25 "PegrowModel" "hand" "[I", Cond.fieldLink RX3 28 "PegrowModel" "handAt" "[I", Cond.methodLink RX3 48 yX3_thing, Cond.instanceMethod yX3_thing, Cond.selects RX3 yX3_thing yX3_thing, Cond.code yX3_thing cX3_thing 3 (some .int), Cond.fieldLink RX3 7 "PegrowModel" "things" "[I"]
def wsX3_previous : List Cond := .code yX3_previous cX3_previous 3 (some .int) :: ((wsX3_previous_r1 ++ wsX3_previous_r2) ++ wsX30)
def wsX3_side : List Cond := .code yX3_side cX3_side 4 (some .int) :: ([.fieldLink RX3 19 "PegrowModel" "rowOf" "[I", .fieldLink RX3 34 "PegrowModel" "isOld" "[I", .fieldLink RX3 22 "PegrowModel" "placeOf" "[I", .fieldLink RX3 13 "PegrowModel" "sizes" "[I", .methodLink RX3 90 yX3_isPeg, .static yX3_isPeg, .initialized RX3, .code yX3_isPeg cX3_isPeg 1 (some .boolean), .methodLink RX3 40 yX3_in, .static yX3_in, .code yX3_in cX3_in 3 (some .boolean)] ++ wsX30)
def wsX3_barsHand : List Cond := .code yX3_barsHand cX3_barsHand 3 (some .int) :: ([.fieldLink RX3 31 "PegrowModel" "isLost" "[I", .fieldLink RX3 25 "PegrowModel" "hand" "[I", .fieldLink RX3 19 "PegrowModel" "rowOf" "[I", .fieldLink RX3 28 "PegrowModel" "handAt" "[I", .methodLink RX3 93 yX3_bars, .instanceMethod yX3_bars, .selects RX3 yX3_bars yX3_bars, .initialized RX3, .code yX3_bars cX3_bars 2 (some .int), .fieldLink RX3 34 "PegrowModel" "isOld" "[I", .methodLink RX3 71 yX3_refuse, .instanceMethod yX3_refuse, .selects RX3 yX3_refuse yX3_refuse, .code yX3_refuse cX3_refuse 3 (some .int), .fieldLink RX3 16 "PegrowModel" "refusals" "[I", .methodLink RX3 48 yX3_thing, .instanceMethod yX3_thing, .selects RX3 yX3_thing yX3_thing, .code yX3_thing cX3_thing 3 (some .int), .fieldLink RX3 7 "PegrowModel" "things" "[I"] ++ wsX30)
def wsX3_change_r1 : List Cond := [Cond.fieldLink RX3 25 "PegrowModel" "hand" "[I", Cond.fieldLink RX3 7 "PegrowModel" "things" "[I", Cond.fieldLink RX3 19 "PegrowModel" "rowOf" "[I", Cond.fieldLink RX3 28 "PegrowModel" "handAt" "[I", Cond.methodLink RX3 90 yX3_isPeg, Cond.static yX3_isPeg, Cond.initialized RX3, Cond.code yX3_isPeg cX3_isPeg 1 (some .boolean), Cond.methodLink RX3 40 yX3_in, Cond.static yX3_in, Cond.code yX3_in cX3_in 3 (some .boolean), Cond.methodLink RX3 56 yX3_isName, Cond.static yX3_isName, Cond.code yX3_isName cX3_isName 1 (some .boolean), Cond.methodLink RX3 100 yX3_barsHand, Cond.instanceMethod yX3_barsHand, Cond.selects RX3 yX3_barsHand yX3_barsHand, Cond.code yX3_barsHand cX3_barsHand 3 (some .int), Cond.fieldLink RX3 31 "PegrowModel" "isLost" "[I", Cond.methodLink RX3 93 yX3_bars, Cond.instanceMethod yX3_bars, Cond.selects RX3 yX3_bars yX3_bars, Cond.code yX3_bars cX3_bars 2 (some .int), Cond.fieldLink RX3 34 "PegrowModel" "isOld" "[I"]
def wsX3_change_r2 : List Cond := [Cond.methodLink RX3 71 yX3_refuse, Cond.instanceMethod yX3_refuse, Cond.selects RX3 yX3_refuse yX3_refuse, Cond.code yX3_refuse cX3_refuse 3 (some .int), Cond.fieldLink RX3 16 "PegrowModel" "refusals" "[I", Cond.methodLink RX3 48 yX3_thing, Cond.instanceMethod yX3_thing, Cond.selects RX3 yX3_thing yX3_thing, Cond.code yX3_thing cX3_thing 3 (some .int), Cond.methodLink RX3 59 yX3_make, Cond.instanceMethod yX3_make, Cond.selects RX3 yX3_make yX3_make, Cond.code yX3_make cX3_make 2 (some .int), Cond.fieldLink RX3 44 "PegrowModel" "made" "I"]
def wsX3_change : List Cond := .code yX3_change cX3_change 5 (some .int) :: ((wsX3_change_r1 ++ wsX3_change_r2) ++ wsX30)
def wsX3_add_r1 : List Cond := [Cond.fieldLink RX3 19 "PegrowModel" "rowOf" "[I", Cond.fieldLink RX3 13 "PegrowModel" "sizes" "[I", Cond.fieldLink RX3 22 "PegrowModel" "placeOf" "[I", Cond.fieldLink RX3 25 "PegrowModel" "hand" "[I", Cond.fieldLink RX3 31 "PegrowModel" "isLost" "[I", Cond.methodLink RX3 90 yX3_isPeg, Cond.static yX3_isPeg, Cond.initialized RX3, Cond.code yX3_isPeg cX3_isPeg 1 (some .boolean), Cond.methodLink RX3 40 yX3_in, Cond.static yX3_in, Cond.code yX3_in cX3_in 3 (some .boolean), Cond.methodLink RX3 56 yX3_isName, Cond.static yX3_isName, Cond.code yX3_isName cX3_isName 1 (some .boolean), Cond.methodLink RX3 93 yX3_bars, Cond.instanceMethod yX3_bars, Cond.selects RX3 yX3_bars yX3_bars, Cond.code yX3_bars cX3_bars 2 (some .int), Cond.fieldLink RX3 34 "PegrowModel" "isOld" "[I", Cond.methodLink RX3 71 yX3_refuse, Cond.instanceMethod yX3_refuse, Cond.selects RX3 yX3_refuse yX3_refuse, Cond.code yX3_refuse cX3_refuse 3 (some .int)]
def wsX3_add_r2 : List Cond := [Cond.fieldLink RX3 16 "PegrowModel" "refusals" "[I", Cond.methodLink RX3 59 yX3_make, Cond.instanceMethod yX3_make, Cond.selects RX3 yX3_make yX3_make, Cond.code yX3_make cX3_make 2 (some .int), Cond.fieldLink RX3 44 "PegrowModel" "made" "I", Cond.methodLink RX3 63 yX3_open, Cond.instanceMethod yX3_open, Cond.selects RX3 yX3_open yX3_open, Cond.code yX3_open cX3_open 5 none, Cond.fieldLink RX3 7 "PegrowModel" "things" "[I", Cond.methodLink RX3 48 yX3_thing, Cond.instanceMethod yX3_thing, Cond.selects RX3 yX3_thing yX3_thing, Cond.code yX3_thing cX3_thing 3 (some .int), Cond.methodLink RX3 67 yX3_age, Cond.instanceMethod yX3_age, Cond.selects RX3 yX3_age yX3_age, Cond.code yX3_age cX3_age 4 none]
def wsX3_add : List Cond := .code yX3_add cX3_add 5 (some .int) :: ((wsX3_add_r1 ++ wsX3_add_r2) ++ wsX30)
def wsX3_remove_r1 : List Cond := [Cond.fieldLink RX3 19 "PegrowModel" "rowOf" "[I", Cond.fieldLink RX3 28 "PegrowModel" "handAt" "[I", Cond.fieldLink RX3 22 "PegrowModel" "placeOf" "[I", Cond.fieldLink RX3 25 "PegrowModel" "hand" "[I", Cond.methodLink RX3 90 yX3_isPeg, Cond.static yX3_isPeg, Cond.initialized RX3, Cond.code yX3_isPeg cX3_isPeg 1 (some .boolean), Cond.methodLink RX3 40 yX3_in, Cond.static yX3_in, Cond.code yX3_in cX3_in 3 (some .boolean), Cond.methodLink RX3 100 yX3_barsHand, Cond.instanceMethod yX3_barsHand, Cond.selects RX3 yX3_barsHand yX3_barsHand, Cond.code yX3_barsHand cX3_barsHand 3 (some .int), Cond.fieldLink RX3 31 "PegrowModel" "isLost" "[I", Cond.methodLink RX3 93 yX3_bars, Cond.instanceMethod yX3_bars, Cond.selects RX3 yX3_bars yX3_bars, Cond.code yX3_bars cX3_bars 2 (some .int), Cond.fieldLink RX3 34 "PegrowModel" "isOld" "[I", Cond.methodLink RX3 71 yX3_refuse, Cond.instanceMethod yX3_refuse, Cond.selects RX3 yX3_refuse yX3_refuse]
def wsX3_remove_r2 : List Cond := [Cond.code yX3_refuse cX3_refuse 3 (some .int), Cond.fieldLink RX3 16 "PegrowModel" "refusals" "[I", Cond.methodLink RX3 48 yX3_thing, Cond.instanceMethod yX3_thing, Cond.selects RX3 yX3_thing yX3_thing, Cond.code yX3_thing cX3_thing 3 (some .int), Cond.fieldLink RX3 7 "PegrowModel" "things" "[I", Cond.methodLink RX3 74 yX3_close, Cond.instanceMethod yX3_close, Cond.selects RX3 yX3_close yX3_close, Cond.code yX3_close cX3_close 5 (some .int), Cond.fieldLink RX3 13 "PegrowModel" "sizes" "[I", Cond.methodLink RX3 67 yX3_age, Cond.instanceMethod yX3_age, Cond.selects RX3 yX3_age yX3_age, Cond.code yX3_age cX3_age 4 none]
def wsX3_remove : List Cond := .code yX3_remove cX3_remove 4 (some .int) :: ((wsX3_remove_r1 ++ wsX3_remove_r2) ++ wsX30)
def wsX3_old : List Cond := .code yX3_old cX3_old 2 (some .int) :: ([.fieldLink RX3 19 "PegrowModel" "rowOf" "[I", .fieldLink RX3 34 "PegrowModel" "isOld" "[I", .methodLink RX3 90 yX3_isPeg, .static yX3_isPeg, .initialized RX3, .code yX3_isPeg cX3_isPeg 1 (some .boolean), .methodLink RX3 40 yX3_in, .static yX3_in, .code yX3_in cX3_in 3 (some .boolean)] ++ wsX30)
def wsX3_standing : List Cond := .code yX3_standing cX3_standing 3 (some .int) :: ([.fieldLink RX3 19 "PegrowModel" "rowOf" "[I"] ++ wsX30)
def wsX3_count : List Cond := .code yX3_count cX3_count 2 (some .int) :: ([.fieldLink RX3 44 "PegrowModel" "made" "I", .fieldLink RX3 16 "PegrowModel" "refusals" "[I", .fieldLink RX3 34 "PegrowModel" "isOld" "[I", .methodLink RX3 40 yX3_in, .static yX3_in, .initialized RX3, .code yX3_in cX3_in 3 (some .boolean), .methodLink RX3 103 yX3_standing, .instanceMethod yX3_standing, .selects RX3 yX3_standing yX3_standing, .code yX3_standing cX3_standing 3 (some .int), .fieldLink RX3 19 "PegrowModel" "rowOf" "[I"] ++ wsX30)
def wsJ9_min_7cf53 : List Cond := .code yJ9_min_7cf53 cJ9_min_7cf53 2 (some .int) :: ([])
def wsL_law_r1 : List Cond := [Cond.classLink RL 7 RX2, Cond.instantiable RX2 7, Cond.initialized RX2, Cond.classLink RL 10 RX3, Cond.instantiable RX3 11, Cond.initialized RX3, Cond.methodLink RL 9 yX2_init, Cond.instanceMethod yX2_init, Cond.code yX2_init cX2_init 2 none, Cond.methodLink RX2 1 objectInit, Cond.instanceMethod objectInit, Cond.code objectInit ⟨#[0xb1]⟩ 1 none, Cond.classLink RX2 9 RX1, Cond.fieldLink RX2 11 "Pegrow" "rows" "[LPegrow$Row;", Cond.classLink RX2 15 RX0, Cond.fieldLink RX2 17 "Pegrow" "pegs" "[LPegrow$Peg;", Cond.instantiable RX1 3, Cond.initialized RX1, Cond.instantiable RX0 6, Cond.initialized RX0, Cond.instanceMethod yX1_init, Cond.code yX1_init cX1_init 1 none, Cond.methodLink RX1 3 objectInit, Cond.arrayClass .int]
def wsL_law_r2 : List Cond := [Cond.fieldLink RX1 9 "Pegrow$Row" "things" "[I", Cond.instanceMethod yX0_init, Cond.code yX0_init cX0_init 1 none, Cond.methodLink RX0 3 objectInit, Cond.fieldLink RX0 9 "Pegrow$Peg" "hand" "I", Cond.methodLink RL 12 yX3_init, Cond.instanceMethod yX3_init, Cond.code yX3_init cX3_init 2 none, Cond.methodLink RX3 1 objectInit, Cond.fieldLink RX3 7 "PegrowModel" "things" "[I", Cond.fieldLink RX3 13 "PegrowModel" "sizes" "[I", Cond.fieldLink RX3 16 "PegrowModel" "refusals" "[I", Cond.fieldLink RX3 19 "PegrowModel" "rowOf" "[I", Cond.fieldLink RX3 22 "PegrowModel" "placeOf" "[I", Cond.fieldLink RX3 25 "PegrowModel" "hand" "[I", Cond.fieldLink RX3 28 "PegrowModel" "handAt" "[I", Cond.fieldLink RX3 31 "PegrowModel" "isLost" "[I", Cond.fieldLink RX3 34 "PegrowModel" "isOld" "[I", Cond.fieldLink RX3 37 "PegrowModel" "aside" "[I", Cond.methodLink RL 13 yX2_put, Cond.instanceMethod yX2_put, Cond.selects RX2 yX2_put yX2_put, Cond.code yX2_put cX2_put 6 (some .int), Cond.methodLink RX2 23 yX2_rowOf]
def wsL_law_r3 : List Cond := [Cond.instanceMethod yX2_rowOf, Cond.selects RX2 yX2_rowOf yX2_rowOf, Cond.code yX2_rowOf cX2_rowOf 2 (some (.object "Pegrow$Row")), Cond.methodLink RX2 27 yX2_isName, Cond.static yX2_isName, Cond.code yX2_isName cX2_isName 1 (some .boolean), Cond.methodLink RX2 31 yX1_hasRoomFor, Cond.instanceMethod yX1_hasRoomFor, Cond.selects RX1 yX1_hasRoomFor yX1_hasRoomFor, Cond.code yX1_hasRoomFor cX1_hasRoomFor 2 (some .boolean), Cond.fieldLink RX1 15 "Pegrow$Row" "length" "I", Cond.methodLink RX2 38 yX2_newThing, Cond.instanceMethod yX2_newThing, Cond.selects RX2 yX2_newThing yX2_newThing, Cond.code yX2_newThing cX2_newThing 3 (some .int), Cond.fieldLink RX2 146 "Pegrow" "made" "I", Cond.methodLink RX2 42 yX1_putAt, Cond.instanceMethod yX1_putAt, Cond.selects RX1 yX1_putAt yX1_putAt, Cond.code yX1_putAt cX1_putAt 3 none, Cond.methodLink RX1 19 yX1_openAt, Cond.instanceMethod yX1_openAt, Cond.selects RX1 yX1_openAt yX1_openAt, Cond.code yX1_openAt cX1_openAt 4 none]
def wsL_law_r4 : List Cond := [Cond.fieldLink RX1 27 "Pegrow$Row" "changes" "I", Cond.methodLink RL 17 yX3_put, Cond.instanceMethod yX3_put, Cond.selects RX3 yX3_put yX3_put, Cond.code yX3_put cX3_put 5 (some .int), Cond.methodLink RX3 52 yX3_isRow, Cond.static yX3_isRow, Cond.code yX3_isRow cX3_isRow 1 (some .boolean), Cond.methodLink RX3 40 yX3_in, Cond.static yX3_in, Cond.code yX3_in cX3_in 3 (some .boolean), Cond.methodLink RX3 56 yX3_isName, Cond.static yX3_isName, Cond.code yX3_isName cX3_isName 1 (some .boolean), Cond.methodLink RX3 59 yX3_make, Cond.instanceMethod yX3_make, Cond.selects RX3 yX3_make yX3_make, Cond.code yX3_make cX3_make 2 (some .int), Cond.fieldLink RX3 44 "PegrowModel" "made" "I", Cond.methodLink RX3 63 yX3_open, Cond.instanceMethod yX3_open, Cond.selects RX3 yX3_open yX3_open, Cond.code yX3_open cX3_open 5 none, Cond.methodLink RX3 48 yX3_thing]
def wsL_law_r5 : List Cond := [Cond.instanceMethod yX3_thing, Cond.selects RX3 yX3_thing yX3_thing, Cond.code yX3_thing cX3_thing 3 (some .int), Cond.methodLink RX3 67 yX3_age, Cond.instanceMethod yX3_age, Cond.selects RX3 yX3_age yX3_age, Cond.code yX3_age cX3_age 4 none, Cond.methodLink RL 18 yX2_end, Cond.instanceMethod yX2_end, Cond.selects RX2 yX2_end yX2_end, Cond.code yX2_end cX2_end 5 (some .int), Cond.methodLink RX2 46 yX2_isEndWay, Cond.static yX2_isEndWay, Cond.code yX2_isEndWay cX2_isEndWay 3 (some .boolean), Cond.methodLink RX2 50 yX2_noEnd, Cond.instanceMethod yX2_noEnd, Cond.selects RX2 yX2_noEnd yX2_noEnd, Cond.code yX2_noEnd cX2_noEnd 2 (some .int), Cond.methodLink RX2 62 yX2_refused, Cond.instanceMethod yX2_refused, Cond.selects RX2 yX2_refused yX2_refused, Cond.code yX2_refused cX2_refused 2 (some .int), Cond.fieldLink RX2 149 "Pegrow" "emptyRefusals" "I", Cond.fieldLink RX2 152 "Pegrow" "placeRefusals" "I"]
def wsL_law_r6 : List Cond := [Cond.fieldLink RX2 155 "Pegrow" "stateRefusals" "I", Cond.fieldLink RX2 158 "Pegrow" "oldRefusals" "I", Cond.methodLink RX2 53 yX1_thingAt, Cond.instanceMethod yX1_thingAt, Cond.selects RX1 yX1_thingAt yX1_thingAt, Cond.code yX1_thingAt cX1_thingAt 2 (some .int), Cond.methodLink RL 22 yX3_end, Cond.instanceMethod yX3_end, Cond.selects RX3 yX3_end yX3_end, Cond.code yX3_end cX3_end 4 (some .int), Cond.methodLink RX3 71 yX3_refuse, Cond.instanceMethod yX3_refuse, Cond.selects RX3 yX3_refuse yX3_refuse, Cond.code yX3_refuse cX3_refuse 3 (some .int), Cond.methodLink RL 23 yX2_take, Cond.instanceMethod yX2_take, Cond.selects RX2 yX2_take yX2_take, Cond.code yX2_take cX2_take 5 (some .int), Cond.methodLink RX2 56 yX1_takeAt, Cond.instanceMethod yX1_takeAt, Cond.selects RX1 yX1_takeAt yX1_takeAt, Cond.code yX1_takeAt cX1_takeAt 4 (some .int), Cond.methodLink RX1 23 yX1_keepFirst, Cond.instanceMethod yX1_keepFirst]
def wsL_law_r7 : List Cond := [Cond.selects RX1 yX1_keepFirst yX1_keepFirst, Cond.code yX1_keepFirst cX1_keepFirst 2 none, Cond.methodLink RL 26 yX3_take, Cond.instanceMethod yX3_take, Cond.selects RX3 yX3_take yX3_take, Cond.code yX3_take cX3_take 4 (some .int), Cond.methodLink RX3 74 yX3_close, Cond.instanceMethod yX3_close, Cond.selects RX3 yX3_close yX3_close, Cond.code yX3_close cX3_close 5 (some .int), Cond.methodLink RL 27 yX2_at, Cond.instanceMethod yX2_at, Cond.selects RX2 yX2_at yX2_at, Cond.code yX2_at cX2_at 4 (some .int), Cond.methodLink RX2 59 yX1_hasThingAt, Cond.instanceMethod yX1_hasThingAt, Cond.selects RX1 yX1_hasThingAt yX1_hasThingAt, Cond.code yX1_hasThingAt cX1_hasThingAt 2 (some .boolean), Cond.methodLink RL 31 yX3_at, Cond.instanceMethod yX3_at, Cond.selects RX3 yX3_at yX3_at, Cond.code yX3_at cX3_at 3 (some .int), Cond.methodLink RL 32 yX2_lay, Cond.instanceMethod yX2_lay]
def wsL_law_r8 : List Cond := [Cond.selects RX2 yX2_lay yX2_lay, Cond.code yX2_lay cX2_lay 5 (some .int), Cond.methodLink RX2 65 yX1_layAt, Cond.instanceMethod yX1_layAt, Cond.selects RX1 yX1_layAt yX1_layAt, Cond.code yX1_layAt cX1_layAt 4 (some .int), Cond.methodLink RL 36 yX3_lay, Cond.instanceMethod yX3_lay, Cond.selects RX3 yX3_lay yX3_lay, Cond.code yX3_lay cX3_lay 5 (some .int), Cond.methodLink RL 37 yX2_insert, Cond.instanceMethod yX2_insert, Cond.selects RX2 yX2_insert yX2_insert, Cond.code yX2_insert cX2_insert 5 (some .int), Cond.methodLink RX2 69 yX1_canPutAt, Cond.instanceMethod yX1_canPutAt, Cond.selects RX1 yX1_canPutAt yX1_canPutAt, Cond.code yX1_canPutAt cX1_canPutAt 2 (some .boolean), Cond.methodLink RL 40 yX3_insert, Cond.instanceMethod yX3_insert, Cond.selects RX3 yX3_insert yX3_insert, Cond.code yX3_insert cX3_insert 4 (some .int), Cond.methodLink RL 41 yX2_drop, Cond.instanceMethod yX2_drop]
def wsL_law_r9 : List Cond := [Cond.selects RX2 yX2_drop yX2_drop, Cond.code yX2_drop cX2_drop 4 (some .int), Cond.methodLink RL 44 yX3_drop, Cond.instanceMethod yX3_drop, Cond.selects RX3 yX3_drop yX3_drop, Cond.code yX3_drop cX3_drop 3 (some .int), Cond.methodLink RL 45 yX2_find, Cond.instanceMethod yX2_find, Cond.selects RX2 yX2_find yX2_find, Cond.code yX2_find cX2_find 6 (some .int), Cond.methodLink RX2 72 yX1_placeOf, Cond.instanceMethod yX1_placeOf, Cond.selects RX1 yX1_placeOf yX1_placeOf, Cond.code yX1_placeOf cX1_placeOf 5 (some .int), Cond.methodLink RL 49 yX3_find, Cond.instanceMethod yX3_find, Cond.selects RX3 yX3_find yX3_find, Cond.code yX3_find cX3_find 5 (some .int), Cond.methodLink RX3 77 yX3_placeBy, Cond.instanceMethod yX3_placeBy, Cond.selects RX3 yX3_placeBy yX3_placeBy, Cond.code yX3_placeBy cX3_placeBy 6 (some .int), Cond.methodLink RL 50 yX2_has, Cond.instanceMethod yX2_has]
def wsL_law_r10 : List Cond := [Cond.selects RX2 yX2_has yX2_has, Cond.code yX2_has cX2_has 4 (some .int), Cond.methodLink RX2 76 yX2_oneIf, Cond.static yX2_oneIf, Cond.code yX2_oneIf cX2_oneIf 1 (some .int), Cond.methodLink RL 53 yX3_has, Cond.instanceMethod yX3_has, Cond.selects RX3 yX3_has yX3_has, Cond.code yX3_has cX3_has 3 (some .int), Cond.methodLink RL 54 yX2_lose, Cond.instanceMethod yX2_lose, Cond.selects RX2 yX2_lose yX2_lose, Cond.code yX2_lose cX2_lose 6 (some .int), Cond.methodLink RL 57 yX3_lose, Cond.instanceMethod yX3_lose, Cond.selects RX3 yX3_lose yX3_lose, Cond.code yX3_lose cX3_lose 6 (some .int), Cond.methodLink RL 58 yX2_all, Cond.instanceMethod yX2_all, Cond.selects RX2 yX2_all yX2_all, Cond.code yX2_all cX2_all 7 (some .int), Cond.methodLink RX2 80 yX1_putAllAt, Cond.instanceMethod yX1_putAllAt, Cond.selects RX1 yX1_putAllAt yX1_putAllAt]
def wsL_law_r11 : List Cond := [Cond.code yX1_putAllAt cX1_putAllAt 4 none, Cond.methodLink RL 61 yX3_all, Cond.instanceMethod yX3_all, Cond.selects RX3 yX3_all yX3_all, Cond.code yX3_all cX3_all 6 (some .int), Cond.methodLink RX3 81 yX3_areTwo, Cond.static yX3_areTwo, Cond.code yX3_areTwo cX3_areTwo 2 (some .boolean), Cond.methodLink RL 62 yX2_clear, Cond.instanceMethod yX2_clear, Cond.selects RX2 yX2_clear yX2_clear, Cond.code yX2_clear cX2_clear 4 (some .int), Cond.methodLink RX2 84 yX1_keepFirst, Cond.methodLink RL 66 yX3_clear, Cond.instanceMethod yX3_clear, Cond.selects RX3 yX3_clear yX3_clear, Cond.code yX3_clear cX3_clear 3 (some .int), Cond.methodLink RL 67 yX2_copy, Cond.instanceMethod yX2_copy, Cond.selects RX2 yX2_copy yX2_copy, Cond.code yX2_copy cX2_copy 6 (some .int), Cond.methodLink RX2 88 yX0_leave, Cond.instanceMethod yX0_leave, Cond.selects RX0 yX0_leave yX0_leave]
def wsL_law_r12 : List Cond := [Cond.code yX0_leave cX0_leave 2 none, Cond.fieldLink RX0 15 "Pegrow$Peg" "row" "LPegrow$Row;", Cond.methodLink RX2 92 yX1_becomeLike, Cond.instanceMethod yX1_becomeLike, Cond.selects RX1 yX1_becomeLike yX1_becomeLike, Cond.code yX1_becomeLike cX1_becomeLike 3 none, Cond.methodLink RL 70 yX3_copy, Cond.instanceMethod yX3_copy, Cond.selects RX3 yX3_copy yX3_copy, Cond.code yX3_copy cX3_copy 4 (some .int), Cond.methodLink RX3 85 yX3_leave, Cond.instanceMethod yX3_leave, Cond.selects RX3 yX3_leave yX3_leave, Cond.code yX3_leave cX3_leave 2 none, Cond.methodLink RL 71 yX2_turn, Cond.instanceMethod yX2_turn, Cond.selects RX2 yX2_turn yX2_turn, Cond.code yX2_turn cX2_turn 3 (some .int), Cond.methodLink RX2 95 yX1_turnRound, Cond.instanceMethod yX1_turnRound, Cond.selects RX1 yX1_turnRound yX1_turnRound, Cond.code yX1_turnRound cX1_turnRound 2 none, Cond.methodLink RX1 30 yX1_layAt, Cond.methodLink RL 74 yX3_turn]
def wsL_law_r13 : List Cond := [Cond.instanceMethod yX3_turn, Cond.selects RX3 yX3_turn yX3_turn, Cond.code yX3_turn cX3_turn 4 (some .int), Cond.methodLink RL 75 yX2_weave, Cond.instanceMethod yX2_weave, Cond.selects RX2 yX2_weave yX2_weave, Cond.code yX2_weave cX2_weave 5 (some .int), Cond.methodLink RX2 98 yX1_weaveIn, Cond.instanceMethod yX1_weaveIn, Cond.selects RX1 yX1_weaveIn yX1_weaveIn, Cond.code yX1_weaveIn cX1_weaveIn 4 none, Cond.methodLink RX1 34 Lib.Math.min.name, Cond.static Lib.Math.min.name, Cond.initialized "java/lang/Math", Cond.code Lib.Math.min.name Lib.Math.min.code 2 (some .int), Cond.methodLink RL 78 yX3_weave, Cond.instanceMethod yX3_weave, Cond.selects RX3 yX3_weave yX3_weave, Cond.code yX3_weave cX3_weave 7 (some .int), Cond.methodLink RL 79 yX2_prune, Cond.instanceMethod yX2_prune, Cond.selects RX2 yX2_prune yX2_prune, Cond.code yX2_prune cX2_prune 3 (some .int), Cond.methodLink RX2 101 yX1_takeRepeats]
def wsL_law_r14 : List Cond := [Cond.instanceMethod yX1_takeRepeats, Cond.selects RX1 yX1_takeRepeats yX1_takeRepeats, Cond.code yX1_takeRepeats cX1_takeRepeats 6 (some .int), Cond.methodLink RL 82 yX3_prune, Cond.instanceMethod yX3_prune, Cond.selects RX3 yX3_prune yX3_prune, Cond.code yX3_prune cX3_prune 6 (some .int), Cond.methodLink RL 83 yX2_size, Cond.instanceMethod yX2_size, Cond.selects RX2 yX2_size yX2_size, Cond.code yX2_size cX2_size 3 (some .int), Cond.methodLink RL 86 yX3_size, Cond.instanceMethod yX3_size, Cond.selects RX3 yX3_size yX3_size, Cond.code yX3_size cX3_size 2 (some .int), Cond.methodLink RL 87 yX2_sum, Cond.instanceMethod yX2_sum, Cond.selects RX2 yX2_sum yX2_sum, Cond.code yX2_sum cX2_sum 3 (some .int), Cond.methodLink RX2 105 yX1_number, Cond.instanceMethod yX1_number, Cond.selects RX1 yX1_number yX1_number, Cond.code yX1_number cX1_number 3 (some .int), Cond.constant RX1 39 (1000003)]
def wsL_law_r15 : List Cond := [Cond.methodLink RL 90 yX3_sum, Cond.instanceMethod yX3_sum, Cond.selects RX3 yX3_sum yX3_sum, Cond.code yX3_sum cX3_sum 4 (some .int), Cond.constant RX3 89 (1000003), Cond.methodLink RL 91 yX2_peg, Cond.instanceMethod yX2_peg, Cond.selects RX2 yX2_peg yX2_peg, Cond.code yX2_peg cX2_peg 6 (some .int), Cond.methodLink RX2 108 yX2_pegOf, Cond.instanceMethod yX2_pegOf, Cond.selects RX2 yX2_pegOf yX2_pegOf, Cond.code yX2_pegOf cX2_pegOf 2 (some (.object "Pegrow$Peg")), Cond.methodLink RX2 112 yX0_standIn, Cond.instanceMethod yX0_standIn, Cond.selects RX0 yX0_standIn yX0_standIn, Cond.code yX0_standIn cX0_standIn 3 none, Cond.fieldLink RX0 19 "Pegrow$Peg" "ahead" "I", Cond.fieldLink RX0 27 "Pegrow$Peg" "seen" "I", Cond.fieldLink RX0 30 "Pegrow$Peg" "missed" "Z", Cond.methodLink RL 94 yX3_peg, Cond.instanceMethod yX3_peg, Cond.selects RX3 yX3_peg yX3_peg, Cond.code yX3_peg cX3_peg 4 (some .int)]
def wsL_law_r16 : List Cond := [Cond.methodLink RX3 90 yX3_isPeg, Cond.static yX3_isPeg, Cond.code yX3_isPeg cX3_isPeg 1 (some .boolean), Cond.methodLink RL 95 yX2_next, Cond.instanceMethod yX2_next, Cond.selects RX2 yX2_next yX2_next, Cond.code yX2_next cX2_next 2 (some .int), Cond.methodLink RX2 116 yX2_goOver, Cond.instanceMethod yX2_goOver, Cond.selects RX2 yX2_goOver yX2_goOver, Cond.code yX2_goOver cX2_goOver 6 (some .int), Cond.methodLink RX2 139 yX0_hold, Cond.instanceMethod yX0_hold, Cond.selects RX0 yX0_hold yX0_hold, Cond.code yX0_hold cX0_hold 3 (some .int), Cond.fieldLink RX0 34 "Pegrow$Peg" "held" "I", Cond.methodLink RL 98 yX3_next, Cond.instanceMethod yX3_next, Cond.selects RX3 yX3_next yX3_next, Cond.code yX3_next cX3_next 3 (some .int), Cond.methodLink RX3 93 yX3_bars, Cond.instanceMethod yX3_bars, Cond.selects RX3 yX3_bars yX3_bars, Cond.code yX3_bars cX3_bars 2 (some .int)]
def wsL_law_r17 : List Cond := [Cond.methodLink RX3 96 yX3_goes, Cond.instanceMethod yX3_goes, Cond.selects RX3 yX3_goes yX3_goes, Cond.code yX3_goes cX3_goes 5 (some .int), Cond.methodLink RL 99 yX2_previous, Cond.instanceMethod yX2_previous, Cond.selects RX2 yX2_previous yX2_previous, Cond.code yX2_previous cX2_previous 2 (some .int), Cond.methodLink RL 102 yX3_previous, Cond.instanceMethod yX3_previous, Cond.selects RX3 yX3_previous yX3_previous, Cond.code yX3_previous cX3_previous 3 (some .int), Cond.methodLink RL 103 yX2_side, Cond.instanceMethod yX2_side, Cond.selects RX2 yX2_side yX2_side, Cond.code yX2_side cX2_side 5 (some .int), Cond.methodLink RL 106 yX3_side, Cond.instanceMethod yX3_side, Cond.selects RX3 yX3_side yX3_side, Cond.code yX3_side cX3_side 4 (some .int), Cond.methodLink RL 107 yX2_change, Cond.instanceMethod yX2_change, Cond.selects RX2 yX2_change yX2_change, Cond.code yX2_change cX2_change 7 (some .int)]
def wsL_law_r18 : List Cond := [Cond.methodLink RX2 132 yX2_handFault, Cond.instanceMethod yX2_handFault, Cond.selects RX2 yX2_handFault yX2_handFault, Cond.code yX2_handFault cX2_handFault 3 (some .int), Cond.methodLink RL 110 yX3_change, Cond.instanceMethod yX3_change, Cond.selects RX3 yX3_change yX3_change, Cond.code yX3_change cX3_change 5 (some .int), Cond.methodLink RX3 100 yX3_barsHand, Cond.instanceMethod yX3_barsHand, Cond.selects RX3 yX3_barsHand yX3_barsHand, Cond.code yX3_barsHand cX3_barsHand 3 (some .int), Cond.methodLink RL 111 yX2_add, Cond.instanceMethod yX2_add, Cond.selects RX2 yX2_add yX2_add, Cond.code yX2_add cX2_add 5 (some .int), Cond.methodLink RL 114 yX3_add, Cond.instanceMethod yX3_add, Cond.selects RX3 yX3_add yX3_add, Cond.code yX3_add cX3_add 5 (some .int), Cond.methodLink RL 115 yX2_remove, Cond.instanceMethod yX2_remove, Cond.selects RX2 yX2_remove yX2_remove, Cond.code yX2_remove cX2_remove 6 (some .int)]
def wsL_law_r19 : List Cond := [Cond.methodLink RL 118 yX3_remove, Cond.instanceMethod yX3_remove, Cond.selects RX3 yX3_remove yX3_remove, Cond.code yX3_remove cX3_remove 4 (some .int), Cond.methodLink RL 119 yX2_old, Cond.instanceMethod yX2_old, Cond.selects RX2 yX2_old yX2_old, Cond.code yX2_old cX2_old 3 (some .int), Cond.methodLink RX2 142 yX0_isOld, Cond.instanceMethod yX0_isOld, Cond.selects RX0 yX0_isOld yX0_isOld, Cond.code yX0_isOld cX0_isOld 1 (some .boolean), Cond.methodLink RL 122 yX3_old, Cond.instanceMethod yX3_old, Cond.selects RX3 yX3_old yX3_old, Cond.code yX3_old cX3_old 2 (some .int), Cond.methodLink RL 123 yX2_count, Cond.instanceMethod yX2_count, Cond.selects RX2 yX2_count yX2_count, Cond.code yX2_count cX2_count 2 (some .int), Cond.methodLink RX2 161 yX2_standingPegs, Cond.instanceMethod yX2_standingPegs, Cond.selects RX2 yX2_standingPegs yX2_standingPegs, Cond.code yX2_standingPegs cX2_standingPegs 3 (some .int)]
def wsL_law_r20 : List Cond := [Cond.methodLink RX2 164 yX2_oldPegs, Cond.instanceMethod yX2_oldPegs, Cond.selects RX2 yX2_oldPegs yX2_oldPegs, Cond.code yX2_oldPegs cX2_oldPegs 3 (some .int), Cond.methodLink RL 126 yX3_count, Cond.instanceMethod yX3_count, Cond.selects RX3 yX3_count yX3_count, Cond.code yX3_count cX3_count 2 (some .int), Cond.methodLink RX3 103 yX3_standing, Cond.instanceMethod yX3_standing, Cond.selects RX3 yX3_standing yX3_standing, Cond.code yX3_standing cX3_standing 3 (some .int)]
def wsL_law : List Cond := (wsL_law_r1 ++ (wsL_law_r2 ++ (wsL_law_r3 ++ (wsL_law_r4 ++ (wsL_law_r5 ++ (wsL_law_r6 ++ (wsL_law_r7 ++ (wsL_law_r8 ++ (wsL_law_r9 ++ (wsL_law_r10 ++ (wsL_law_r11 ++ (wsL_law_r12 ++ (wsL_law_r13 ++ (wsL_law_r14 ++ (wsL_law_r15 ++ (wsL_law_r16 ++ (wsL_law_r17 ++ (wsL_law_r18 ++ (wsL_law_r19 ++ wsL_law_r20))))))))))))))))))) ++ wsX20 ++ wsX30 ++ wsX10 ++ wsX00 ++ ([] : List Cond)
abbrev vwCl : List vw_C := [(RX0, TX0, 6), (RX1, TX1, 3), (RX2, TX2, 7), (RX3, TX3, 11)]
end
section
theorem mem_pl {big : List Cond} (ws : List Cond) (ps : List Nat) (hp : ws = ps.filterMap (fun i => big[i]?)) : ∀ w ∈ ws, w ∈ big := by
  intro w hw
  rw [hp] at hw
  obtain ⟨i, -, hi⟩ := List.mem_filterMap.mp hw
  exact List.mem_of_getElem? hi
theorem mem_ap {big a b : List Cond} (ha : ∀ w ∈ a, w ∈ big) (hb : ∀ w ∈ b, w ∈ big) : ∀ w ∈ a ++ b, w ∈ big := fun w h => (List.mem_append.mp h).elim (ha w) (hb w)
set_option maxRecDepth 20000 in
theorem inT_wsL_law_r1 : ∀ w ∈ wsL_law_r1, w ∈ lw_tbl := mem_pl _ [28, 29, 23, 350, 351, 26, 30, 31, 32, 33, 34, 35, 36, 89, 38, 90, 40, 24, 59, 25, 42, 43, 44, 58] (by decide +kernel)
set_option maxRecDepth 20000 in
theorem inT_wsL_law_r2 : ∀ w ∈ wsL_law_r2, w ∈ lw_tbl := mem_pl _ [45, 61, 62, 63, 70, 352, 353, 354, 355, 356, 357, 359, 360, 361, 362, 363, 364, 365, 366, 111, 112, 113, 114, 115] (by decide +kernel)
set_option maxRecDepth 20000 in
theorem inT_wsL_law_r3 : ∀ w ∈ wsL_law_r3, w ∈ lw_tbl := mem_pl _ [117, 0, 118, 119, 120, 121, 122, 123, 124, 125, 46, 126, 128, 1, 129, 91, 130, 131, 132, 133, 134, 136, 2, 137] (by decide +kernel)
set_option maxRecDepth 20000 in
theorem inT_wsL_law_r4 : ∀ w ∈ wsL_law_r4, w ∈ lw_tbl := mem_pl _ [49, 390, 391, 392, 393, 394, 395, 396, 397, 398, 399, 400, 401, 402, 403, 405, 10, 406, 358, 407, 409, 11, 410, 411] (by decide +kernel)
set_option maxRecDepth 20000 in
theorem inT_wsL_law_r5 : ∀ w ∈ wsL_law_r5, w ∈ lw_tbl := mem_pl _ [413, 12, 414, 415, 417, 13, 418, 138, 139, 140, 141, 142, 143, 144, 145, 147, 3, 148, 149, 151, 4, 152, 92, 93] (by decide +kernel)
set_option maxRecDepth 20000 in
theorem inT_wsL_law_r6 : ∀ w ∈ wsL_law_r6, w ∈ lw_tbl := mem_pl _ [94, 95, 153, 154, 155, 156, 419, 420, 421, 422, 423, 425, 14, 426, 157, 158, 159, 160, 161, 162, 163, 164, 165, 166] (by decide +kernel)
set_option maxRecDepth 20000 in
theorem inT_wsL_law_r7 : ∀ w ∈ wsL_law_r7, w ∈ lw_tbl := mem_pl _ [167, 168, 427, 428, 429, 430, 431, 433, 15, 434, 169, 170, 171, 172, 173, 174, 175, 176, 435, 436, 437, 438, 177, 178] (by decide +kernel)
set_option maxRecDepth 20000 in
theorem inT_wsL_law_r8 : ∀ w ∈ wsL_law_r8, w ∈ lw_tbl := mem_pl _ [179, 180, 181, 182, 183, 184, 439, 440, 441, 442, 185, 186, 187, 188, 189, 190, 191, 192, 443, 444, 445, 446, 193, 194] (by decide +kernel)
set_option maxRecDepth 20000 in
theorem inT_wsL_law_r9 : ∀ w ∈ wsL_law_r9, w ∈ lw_tbl := mem_pl _ [195, 196, 447, 448, 449, 450, 197, 198, 199, 200, 201, 202, 203, 204, 451, 452, 453, 454, 455, 457, 16, 458, 205, 206] (by decide +kernel)
set_option maxRecDepth 20000 in
theorem inT_wsL_law_r10 : ∀ w ∈ wsL_law_r10, w ∈ lw_tbl := mem_pl _ [207, 208, 209, 210, 211, 459, 460, 461, 462, 212, 213, 214, 215, 463, 464, 465, 466, 216, 217, 218, 219, 220, 221, 222] (by decide +kernel)
set_option maxRecDepth 20000 in
theorem inT_wsL_law_r11 : ∀ w ∈ wsL_law_r11, w ∈ lw_tbl := mem_pl _ [223, 467, 468, 469, 470, 471, 472, 473, 224, 225, 226, 227, 228, 474, 475, 476, 477, 229, 230, 231, 232, 233, 234, 235] (by decide +kernel)
set_option maxRecDepth 20000 in
theorem inT_wsL_law_r12 : ∀ w ∈ wsL_law_r12, w ∈ lw_tbl := mem_pl _ [236, 64, 237, 238, 239, 240, 478, 479, 480, 481, 482, 484, 17, 485, 241, 242, 243, 244, 245, 246, 247, 248, 249, 486] (by decide +kernel)
set_option maxRecDepth 20000 in
theorem inT_wsL_law_r13 : ∀ w ∈ wsL_law_r13, w ∈ lw_tbl := mem_pl _ [487, 488, 489, 250, 251, 252, 253, 254, 255, 256, 257, 258, 259, 27, 260, 490, 491, 492, 493, 261, 262, 263, 264, 265] (by decide +kernel)
set_option maxRecDepth 20000 in
theorem inT_wsL_law_r14 : ∀ w ∈ wsL_law_r14, w ∈ lw_tbl := mem_pl _ [266, 267, 268, 494, 495, 496, 497, 269, 270, 271, 272, 498, 499, 500, 501, 273, 274, 275, 276, 277, 278, 279, 280, 281] (by decide +kernel)
set_option maxRecDepth 20000 in
theorem inT_wsL_law_r15 : ∀ w ∈ wsL_law_r15, w ∈ lw_tbl := mem_pl _ [502, 503, 504, 505, 506, 282, 283, 284, 285, 286, 288, 5, 289, 290, 291, 292, 293, 66, 68, 74, 507, 508, 509, 510] (by decide +kernel)
set_option maxRecDepth 20000 in
theorem inT_wsL_law_r16 : ∀ w ∈ wsL_law_r16, w ∈ lw_tbl := mem_pl _ [511, 512, 513, 294, 295, 296, 297, 298, 300, 6, 301, 302, 303, 304, 305, 72, 514, 515, 516, 517, 518, 520, 18, 521] (by decide +kernel)
set_option maxRecDepth 20000 in
theorem inT_wsL_law_r17 : ∀ w ∈ wsL_law_r17, w ∈ lw_tbl := mem_pl _ [522, 524, 19, 525, 306, 307, 308, 309, 526, 527, 528, 529, 310, 311, 312, 313, 530, 531, 532, 533, 314, 315, 316, 317] (by decide +kernel)
set_option maxRecDepth 20000 in
theorem inT_wsL_law_r18 : ∀ w ∈ wsL_law_r18, w ∈ lw_tbl := mem_pl _ [318, 320, 7, 321, 534, 535, 536, 537, 538, 540, 20, 541, 322, 323, 324, 325, 542, 543, 544, 545, 326, 327, 328, 329] (by decide +kernel)
set_option maxRecDepth 20000 in
theorem inT_wsL_law_r19 : ∀ w ∈ wsL_law_r19, w ∈ lw_tbl := mem_pl _ [546, 547, 548, 549, 330, 331, 332, 333, 334, 335, 336, 337, 550, 551, 552, 553, 338, 339, 340, 341, 342, 344, 8, 345] (by decide +kernel)
set_option maxRecDepth 20000 in
theorem inT_wsL_law_r20 : ∀ w ∈ wsL_law_r20, w ∈ lw_tbl := mem_pl _ [346, 348, 9, 349, 554, 555, 556, 557, 558, 560, 21, 561] (by decide +kernel)
set_option maxRecDepth 20000 in
theorem inT_wsX00 : ∀ w ∈ wsX00, w ∈ lw_tbl := mem_pl _ [76, 78, 80, 82, 84, 86] (by decide +kernel)
set_option maxRecDepth 20000 in
theorem inT_wsX10 : ∀ w ∈ wsX10, w ∈ lw_tbl := mem_pl _ [51, 53, 55] (by decide +kernel)
set_option maxRecDepth 20000 in
theorem inT_wsX20 : ∀ w ∈ wsX20, w ∈ lw_tbl := mem_pl _ [96, 98, 100, 102, 104, 106, 108] (by decide +kernel)
set_option maxRecDepth 20000 in
theorem inT_wsX30 : ∀ w ∈ wsX30, w ∈ lw_tbl := mem_pl _ [367, 369, 371, 373, 375, 377, 379, 381, 383, 385, 387] (by decide +kernel)
theorem wsL_law_in : ∀ w ∈ wsL_law, w ∈ lw_tbl := (mem_ap (mem_ap (mem_ap (mem_ap (mem_ap (mem_ap inT_wsL_law_r1 (mem_ap inT_wsL_law_r2 (mem_ap inT_wsL_law_r3 (mem_ap inT_wsL_law_r4 (mem_ap inT_wsL_law_r5 (mem_ap inT_wsL_law_r6 (mem_ap inT_wsL_law_r7 (mem_ap inT_wsL_law_r8 (mem_ap inT_wsL_law_r9 (mem_ap inT_wsL_law_r10 (mem_ap inT_wsL_law_r11 (mem_ap inT_wsL_law_r12 (mem_ap inT_wsL_law_r13 (mem_ap inT_wsL_law_r14 (mem_ap inT_wsL_law_r15 (mem_ap inT_wsL_law_r16 (mem_ap inT_wsL_law_r17 (mem_ap inT_wsL_law_r18 (mem_ap inT_wsL_law_r19 inT_wsL_law_r20))))))))))))))))))) inT_wsX20) inT_wsX30) inT_wsX10) inT_wsX00) (fun _ h => by cases h))
theorem inlX0 : ∀ w ∈ wsX00, w ∈ wsL_law := fun _ h => List.mem_append_left _ (List.mem_append_right _ h)
theorem inX0 : ∀ w ∈ wsX00, w ∈ lw_tbl := fun w h => wsL_law_in w (inlX0 w h)
theorem inlX1 : ∀ w ∈ wsX10, w ∈ wsL_law := fun _ h => List.mem_append_left _ (List.mem_append_left _ (List.mem_append_right _ h))
theorem inX1 : ∀ w ∈ wsX10, w ∈ lw_tbl := fun w h => wsL_law_in w (inlX1 w h)
theorem inlX2 : ∀ w ∈ wsX20, w ∈ wsL_law := fun _ h => List.mem_append_left _ (List.mem_append_left _ (List.mem_append_left _ (List.mem_append_left _ (List.mem_append_right _ h))))
theorem inX2 : ∀ w ∈ wsX20, w ∈ lw_tbl := fun w h => wsL_law_in w (inlX2 w h)
theorem inlX3 : ∀ w ∈ wsX30, w ∈ wsL_law := fun _ h => List.mem_append_left _ (List.mem_append_left _ (List.mem_append_left _ (List.mem_append_right _ h)))
theorem inX3 : ∀ w ∈ wsX30, w ∈ lw_tbl := fun w h => wsL_law_in w (inlX3 w h)
end
section
/-! the layer: what is known of the tables, contracts of methods that only read (pw_Mp) and that write (pw_Mm), their starts, ends and calls -/
/-- the words on nest mates' members and on arrays of own objects -/
def pw_NW (U : State) : Prop :=
  va_Nw (.fieldLinkNest "Pegrow" 34 "Pegrow$Row" "length" "I" "Pegrow") U ∧ va_Nw (.fieldLinkNest "Pegrow" 126 "Pegrow$Row" "changes" "I" "Pegrow") U ∧
  va_Nw (.fieldLinkNest "Pegrow" 119 "Pegrow$Peg" "row" "LPegrow$Row;" "Pegrow") U ∧ va_Nw (.fieldLinkNest "Pegrow" 129 "Pegrow$Peg" "ahead" "I" "Pegrow") U ∧
  va_Nw (.fieldLinkNest "Pegrow" 123 "Pegrow$Peg" "seen" "I" "Pegrow") U ∧ va_Nw (.fieldLinkNest "Pegrow" 136 "Pegrow$Peg" "hand" "I" "Pegrow") U ∧
  va_Nw (.fieldLinkNest "Pegrow" 171 "Pegrow$Peg" "held" "I" "Pegrow") U ∧ va_Nw (.fieldLinkNest "Pegrow" 167 "Pegrow$Peg" "missed" "Z" "Pegrow") U ∧
  va_Nw (.fieldLinkNest "Pegrow$Peg" 22 "Pegrow$Row" "changes" "I" "Pegrow") U ∧ va_Nw (.methodLinkNest "Pegrow" 21 yX1_init "Pegrow") U ∧ va_Nw (.methodLinkNest "Pegrow" 22 yX0_init "Pegrow") U ∧
  va_AO "Pegrow$Row" U ∧ va_AO "Pegrow$Peg" U
theorem pw_NW.moved {u U : State} (hW : u.WarmedH U.vm) (h : pw_NW u) : pw_NW U := by
  obtain ⟨h1, h2, h3, h4, h5, h6, h7, h8, h9, h10, h11, h12, h13⟩ := h
  exact ⟨va_Nw.warmF hW h1, va_Nw.warmF hW h2, va_Nw.warmF hW h3, va_Nw.warmF hW h4, va_Nw.warmF hW h5, va_Nw.warmF hW h6, va_Nw.warmF hW h7, va_Nw.warmF hW h8, va_Nw.warmF hW h9, va_Nw.warmM hW h10, va_Nw.warmM hW h11, va_AO.moved hW.alike h12, va_AO.moved hW.alike h13⟩
theorem pw_NW.same {u U : State} (hv : u.vm = U.vm) (h : pw_NW u) : pw_NW U := by
  obtain ⟨h1, h2, h3, h4, h5, h6, h7, h8, h9, h10, h11, h12, h13⟩ := h
  refine ⟨va_Nw.same rfl hv h1, va_Nw.same rfl hv h2, va_Nw.same rfl hv h3, va_Nw.same rfl hv h4, va_Nw.same rfl hv h5, va_Nw.same rfl hv h6, va_Nw.same rfl hv h7, va_Nw.same rfl hv h8, va_Nw.same rfl hv h9, va_Nw.same rfl hv h10, va_Nw.same rfl hv h11, va_AO.moved ?_ h12, va_AO.moved ?_ h13⟩ <;> (rw [hv]; exact Vm.Alike.refl _)
abbrev pw_tys (cI cP cR : ClassId) : List (ClassId × FieldType) := [(cI, .int), (cP, .object "Pegrow$Peg"), (cR, .object "Pegrow$Row")]
def pw_K (D : va_G) (cI cP cR : ClassId) (U : State) : Prop := va_K D vwCl (pw_tys cI cP cR) U ∧ pw_NW U
theorem pw_K.moved {D : va_G} {cI cP cR : ClassId} {u U : State} (hW : u.WarmedH U.vm) (h : pw_K D cI cP cR u) : pw_K D cI cP cR U := ⟨va_K.moved hW.alike h.1, h.2.moved hW⟩
theorem pw_K.calling {D : va_G} {cI cP cR : ClassId} {U : State} {g : JFrame} {mk : MethodId} {a : Array Value} (h : pw_K D cI cP cR U) : pw_K D cI cP cR (U.calling g mk a) :=
  ⟨va_K.moved (u := U) (U := U.calling g mk a) (Vm.Alike.refl U.vm) h.1, h.2.same rfl⟩
/-- the start of a method -/
def pw_Pc (D : va_G) (cI cP cR : ClassId) (as : List Value) (W0 : va_W) (sz : Nat) : Array Value → State → Prop :=
  va_Pc as (fun U => U.heap.size = sz ∧ va_P D vwCl W0 U.heap ∧ pw_K D cI cP cR U ∧ va_D (fun _ => True) W0)
/-- the end of a method that only reads -/
def pw_Qp (v : Value) : Array Value → State → Outcome → State → Prop := fun _ st oc t => oc = .returned (some v) ∧ t.heap = st.heap
/-- the end of a method that writes -/
def pw_Qm (post : Option Value → va_W → Prop) (D : va_G) (A : Nat → Prop) : Array Value → State → Outcome → State → Prop := fun _ st oc t =>
  (∃ (v : Option Value) (w : va_W), oc = .returned v ∧ post v w ∧ va_P D vwCl w t.heap ∧ va_D A w) ∧ va_F A st t
abbrev pw_Mp (l : Launch) (y : MethodName) (ws : List Cond) (rm : Room) (D : va_G) (cI cP cR : ClassId) (as : List Value) (W0 : va_W) (v : Value) : Prop :=
  ∀ sz : Nat, Met l y ws rm (pw_Pc D cI cP cR as W0 sz) (pw_Qp v) 0 0 (fun _ => False)
abbrev pw_Mm (l : Launch) (y : MethodName) (ws : List Cond) (rm : Room) (D : va_G) (cI cP cR : ClassId) (as : List Value) (W0 : va_W) (post : Option Value → va_W → Prop) : Prop :=
  ∀ sz : Nat, Met l y ws rm (pw_Pc D cI cP cR as W0 sz) (pw_Qm post D (va_A W0 sz)) 0 0 (va_A W0 sz)
/-- what a walk has at hand -/
def pw_E (p : Program) (s : State) (m : MethodId) (args : Array Value) (meth : Method) (c : Code) (cc : ByteArray) (ret : Option FieldType) (maxL : Nat) (own : String) (ws : List Cond) : Prop :=
  p.tables.exec = Jvm.exec ∧ c.code = cc ∧ meth.sig.returnType = ret ∧ c.maxLocals = maxL ∧ s.vm.findClass own = some m.cls ∧ (∀ w ∈ ws, w.before args s = true) ∧ meth.locks = false
theorem pw_ofm {l : Launch} {y : MethodName} {ws ws' : List Cond} {rm : Room} {D : va_G} {cI cP cR : ClassId} {as : List Value} {W0 : va_W} {post : Option Value → va_W → Prop} {cc : ByteArray} {maxL : Nat} {ret : Option FieldType} {own : String}
    (hy : plainName y.cls = true) (hw : ws = Cond.code y cc maxL ret :: ws') (hyc : y.cls = own) (hfit : (lg_sl as).length ≤ maxL)
    (body : ∀ (p : Program) (e : Env) (s : State) (m : MethodId) (below : List Frame) (meth : Method) (c : Code) (A : Nat → Prop), pw_E p s m as.toArray meth c cc ret maxL own ws → pw_K D cI cP cR s → va_P D vwCl W0 s.heap → va_D A W0 → (∀ q, s.heap.size ≤ q → A q) → va_S A s.heap s.heap [] → ∀ ls : Array Slot, lv_has ls maxL (lv_args 0 as) →
      W p l e rm s m as.toArray below meth c s.heap [] 0 0 (MQ below (pw_Qm post D A) as.toArray s 0 0 A) (F0 m 0 ls [])) : pw_Mm l y ws rm D cI cP cR as W0 post := by
  intro sz
  refine Met.ofW (cc := cc) (maxL := maxL) (ret := ret) hy hw ?_
  intro p e s m args below meth c s₁ B hml hv
  obtain ⟨rfl, hsz, hP, hK, hD0⟩ := hv
  have hts := atoms_spec (ws := ws) B.pre
  have hown : s.vm.findClass own = some m.cls := hyc ▸ findClass_of_methodNamed B.named
  subst hsz
  have hl := lv_entry as (n := maxL) hfit
  rw [lg_entry_eq]
  exact body p e s m below meth c _ ⟨B.exec, B.bytes, B.returns, hml, hown, hts, B.notSynchronized⟩ hK hP (hD0.self (sz := s.heap.size)) (fun q h => Or.inr h) va_S.rf _ hl
theorem pw_ofp {l : Launch} {y : MethodName} {ws ws' : List Cond} {rm : Room} {D : va_G} {cI cP cR : ClassId} {as : List Value} {W0 : va_W} {v : Value} {cc : ByteArray} {maxL : Nat} {ret : Option FieldType} {own : String}
    (hy : plainName y.cls = true) (hw : ws = Cond.code y cc maxL ret :: ws') (hyc : y.cls = own) (hfit : (lg_sl as).length ≤ maxL)
    (body : ∀ (p : Program) (e : Env) (s : State) (m : MethodId) (below : List Frame) (meth : Method) (c : Code), pw_E p s m as.toArray meth c cc ret maxL own ws → pw_K D cI cP cR s → va_P D vwCl W0 s.heap → va_D (fun _ => True) W0 → ∀ ls : Array Slot, lv_has ls maxL (lv_args 0 as) →
      W p l e rm s m as.toArray below meth c s.heap [] 0 0 (MQ below (pw_Qp v) as.toArray s 0 0 (fun _ => False)) (F0 m 0 ls [])) : pw_Mp l y ws rm D cI cP cR as W0 v := by
  intro sz
  refine Met.ofW (cc := cc) (maxL := maxL) (ret := ret) hy hw ?_
  intro p e s m args below meth c s₁ B hml hv
  obtain ⟨rfl, hsz, hP, hK, hD0⟩ := hv
  have hts := atoms_spec (ws := ws) B.pre
  have hown : s.vm.findClass own = some m.cls := hyc ▸ findClass_of_methodNamed B.named
  subst hsz
  have hl := lv_entry as (n := maxL) hfit
  rw [lg_entry_eq]
  exact body p e s m below meth c ⟨B.exec, B.bytes, B.returns, hml, hown, hts, B.notSynchronized⟩ hK hP hD0 _ hl
section PWL
variable {p : Program} {l : Launch} {e : Env} {R : Room} {s : State} {m : MethodId} {args : Array Value} {below : List Frame} {meth : Method} {c : Code} {H : Heap} {locs : List Loc} {cells slots : Nat} {Q : State → Prop}
variable {cc : ByteArray} {pc : Nat} {ls : Array Slot} {rest st0 : List Value} {D : va_G} {cI cP cR : ClassId} {A : Nat → Prop} {y : MethodName} {bytes : ByteArray} {maxL nL n index : Nat} {ret : Option FieldType} {ws Ts : List Cond} {rm : Room} {own C : String} {b : Nat} {As : List Value}
variable {w wc wr w1 : va_W} {v : Value} {post : Option Value → va_W → Prop}
theorem pw_iret {x : Int32} {ty : FieldType} (hx : p.tables.exec = Jvm.exec) (hb : c.code = cc) (hr : meth.sig.returnType = some ty) (hn : narrow ty (.int x) = .int x) (hlocks : meth.locks = false) (hdg : decode cc pc = .ok (.ireturn, 1)) (hS : va_S A s.heap H locs) (hP : va_P D vwCl w H) (hD : va_D A w) (hq : post (some (.int x)) w) :
    W p l e R s m args below meth c H locs 0 0 (MQ below (pw_Qm post D A) args s 0 0 A) (F0 m pc ls [.int x]) :=
  W.zret hx hb hr hn (fun t ht _ => ⟨⟨_, w, rfl, hq, by rw [ht]; exact hP, hD⟩, hS.F ht⟩) hS.2.2 hdg hlocks
theorem pw_vret (hx : p.tables.exec = Jvm.exec) (hb : c.code = cc) (hr : meth.sig.returnType = none) (hlocks : meth.locks = false) (hdg : decode cc pc = .ok (.return_, 1)) (hS : va_S A s.heap H locs) (hP : va_P D vwCl w H) (hD : va_D A w) (hq : post none w) :
    W p l e R s m args below meth c H locs 0 0 (MQ below (pw_Qm post D A) args s 0 0 A) (F0 m pc ls []) :=
  W.vret hx hb hr (fun t ht _ => ⟨⟨_, w, rfl, hq, by rw [ht]; exact hP, hD⟩, hS.F ht⟩) hS.2.2 hdg hlocks
theorem pw_piret {x : Int32} {ty : FieldType} (hx : p.tables.exec = Jvm.exec) (hb : c.code = cc) (hr : meth.sig.returnType = some ty) (hn : narrow ty (.int x) = .int x) (hlocks : meth.locks = false) (hdg : decode cc pc = .ok (.ireturn, 1)) (hq : v = .int x) :
    W p l e R s m args below meth c s.heap [] 0 0 (MQ below (pw_Qp v) args s 0 0 (fun _ => False)) (F0 m pc ls [.int x]) :=
  W.zret hx hb hr hn (fun t ht _ => ⟨by rw [hq], ht⟩) (fun _ h => by cases h) hdg hlocks
theorem pw_paret {nm : String} {x : Value} (hx : p.tables.exec = Jvm.exec) (hb : c.code = cc) (hr : meth.sig.returnType = some (.object nm)) (hlocks : meth.locks = false) (hdg : decode cc pc = .ok (.areturn, 1)) (hv : x = .null ∨ ∃ a, x = .ref a) (hq : v = x) :
    W p l e R s m args below meth c s.heap [] 0 0 (MQ below (pw_Qp v) args s 0 0 (fun _ => False)) (F0 m pc ls [x]) :=
  W.aret hx hb hr (Or.inl ⟨_, rfl⟩) hv (fun t ht _ => ⟨by rw [hq], ht⟩) (fun _ h => by cases h) hdg hlocks
theorem pw_preS (hK : pw_K D cI cP cR s) (hP : va_P D vwCl wc H) (hD : va_D A wc) : PreS s H (pw_Pc D cI cP cR As wc H.size) As :=
  ⟨fun a U g mk q => ⟨q.1, q.2.1, q.2.2.1, q.2.2.2.1.calling, q.2.2.2.2⟩, fun U hU hW => ⟨rfl, by rw [hU], by rw [hU]; exact hP, hK.moved hW, hD.weaken (fun _ _ _ _ => trivial)⟩⟩
theorem pw_preV (hK : pw_K D cI cP cR s) (hP : va_P D vwCl wc H) (hD : va_D A wc) (q0 : Nat) {ci : Nat} {fs : List Value} {r : vw_C} (he : wc[q0]? = some (b, .inr (ci, fs))) (hc : vwCl[ci]? = some r) : PreV s H r.1 b (pw_Pc D cI cP cR (.ref b :: As) wc H.size) As :=
  ⟨fun a U g mk q => ⟨q.1, q.2.1, q.2.2.1, q.2.2.2.1.calling, q.2.2.2.2⟩, va_recv hK.1 hP hc he, fun U hU hW => ⟨rfl, by rw [hU], by rw [hU]; exact hP, hK.moved hW, hD.weaken (fun _ _ _ _ => trivial)⟩⟩
theorem pw_goesp {a : Array Value} (hr : va_Run p l e R s m args below meth c H locs cells slots 0 0 (F0 m pc ls st0) rest (pw_Qp v a) (fun _ => False))
    (kk : W p l e R s m args below meth c H locs cells slots Q (F0 m (pc + 3) ls (v :: rest))) : W p l e R s m args below meth c H locs cells slots Q (F0 m pc ls st0) := by
  intro T hT X
  obtain ⟨v', st₀, t, T', L, h0, X', hL, e1, e2, ⟨hv, hh⟩, st⟩ := hr T hT X
  cases hv
  obtain ⟨t2, a1, b1⟩ := kk T' (by rw [e1, hh, h0]) (Stand.forget X' (fun q h => (hL q h).elim))
  exact ⟨t2, st t2 a1, b1⟩
theorem pw_goesm {a : Array Value} (hr : va_Run p l e R s m args below meth c H locs cells slots 0 0 (F0 m pc ls st0) rest (pw_Qm post D (va_A wc H.size) a) (va_A wc H.size))
    (hP : va_P D vwCl w H) (hD : va_D A w) (hS : va_S A s.heap H locs) (hA : ∀ q, s.heap.size ≤ q → A q) (isC isR : List Nat) (hC : isC.map (fun i => w[i]?) = wc.map some) (hR : isR.map (fun i => w[i]?) = wr.map some) (hn : va_nd isR = true) (hdis : ∀ i ∈ isR, i ∉ isC)
    (kk : ∀ (v : Option Value) (w1 : va_W) (H1 : Heap) (locs1 : List Loc), post v w1 → va_P D vwCl (wr ++ w1) H1 → va_D A (wr ++ w1) → va_S A s.heap H1 locs1 → W p l e R s m args below meth c H1 locs1 cells slots Q (F0 m (pc + 3) ls (v.toList ++ rest))) : W p l e R s m args below meth c H locs cells slots Q (F0 m pc ls st0) := by
  intro T hT X
  obtain ⟨v', st₀, t, T', L, h0, X', hL, e1, e2, ⟨⟨v1, w1, hv, hp, hP1, hD1⟩, hz, hk⟩, st⟩ := hr T hT X
  cases hv
  rw [h0] at hz hk
  have hF := va_free hD hS hA isC hC
  have hP1' : va_P D vwCl w1 T'.heap := by rw [e1]; exact hP1
  obtain ⟨hPj, hDj⟩ := va_join hP hD isC isR hC hR hn hdis (fun q h1 h2 => by rw [e1]; exact hk q h1 h2) hF hP1' hD1
  obtain ⟨t2, a1, b1⟩ := kk v' w1 T'.heap (locs ++ L) hp hPj hDj ⟨Nat.le_trans hS.1 (by rw [e1]; exact hz), fun q h1 h2 => by rw [e1, hk q (Nat.lt_of_lt_of_le h1 hS.1) (fun z => h2 (hF q z))]; exact hS.2.1 q h1 h2, fun q hq => by
      rcases List.mem_append.mp hq with h | h
      · exact hS.2.2 q h
      · exact hF _ (hL q h)⟩ T' rfl X'
  exact ⟨t2, st t2 a1, b1⟩
/-- a call of a method that only reads, by its receiver -/
theorem pw_cVp (S : CallFix p m c cc nL s args Ts own) (hM : pw_Mp l y ws rm D cI cP cR (.ref b :: As) wc v) (cw : ∀ C' : String, C' = C → CallW R s args own C' index y bytes maxL ret ws rm 0 0 n) (hK : pw_K D cI cP cR s) (hP : va_P D vwCl w H) (hD : va_D A w) (isC : List Nat) (hC : isC.map (fun i => w[i]?) = wc.map some) (hnC : va_nd isC = true)
    (q0 : Nat) {ci : Nat} {fs : List Value} {r : vw_C} (he : wc[q0]? = some (b, .inr (ci, fs))) (hc : vwCl[ci]? = some r) (hCr : r.1 = C) (hn : As.length = n) (hsize : ls.size = nL) (hst : st0 = As.reverse ++ .ref b :: rest) (hW : (rest.map fun v => v.category).sum ≤ 8) (hdg : decode cc pc = .ok (.invokevirtual index, 3)) (hf : cells ≤ R.cells ∧ slots ≤ R.slots)
    (kk : W p l e R s m args below meth c H locs cells slots Q (F0 m (pc + 3) ls (v :: rest))) : W p l e R s m args below meth c H locs cells slots Q (F0 m pc ls st0) :=
  have hPc : va_P D vwCl wc H := hP.sub isC (by
    have h2 := congrArg (fun z => z.filterMap id) hC
    simpa [List.filterMap_map, Function.comp_def] using h2)
  pw_goesp (va_runV (g := F0 m pc ls st0) S (hM H.size) (cw r.1 hCr) (pw_preV hK hPc (hD.sub isC hnC hC) q0 he hc) rfl hn hsize hst (lv_room hW) hdg hf) kk
theorem pw_cSp (S : CallFix p m c cc nL s args Ts own) (hM : pw_Mp l y ws rm D cI cP cR As [] v) (cw : CallB R s args own index y bytes maxL ret ws rm 0 0 n ∧ (Cond.static y).before args s = true) (hK : pw_K D cI cP cR s)
    (hn : As.length = n) (hsize : ls.size = nL) (hst : st0 = As.reverse ++ rest) (hW : (rest.map fun v => v.category).sum ≤ 8) (hdg : decode cc pc = .ok (.invokestatic index, 3)) (hf : cells ≤ R.cells ∧ slots ≤ R.slots)
    (kk : W p l e R s m args below meth c H locs cells slots Q (F0 m (pc + 3) ls (v :: rest))) : W p l e R s m args below meth c H locs cells slots Q (F0 m pc ls st0) :=
  pw_goesp (va_runS (g := F0 m pc ls st0) S (hM H.size) cw (pw_preS (A := fun _ => True) hK (fun k q h => by simp at h) ⟨fun i j p q h => by simp at h, fun k q h => by simp at h⟩) rfl hn hsize hst (lv_room hW) hdg hf) kk
/-- a call of a method that writes, by its receiver -/
theorem pw_cVm (S : CallFix p m c cc nL s args Ts own) (hM : pw_Mm l y ws rm D cI cP cR (.ref b :: As) wc post) (cw : ∀ C' : String, C' = C → CallW R s args own C' index y bytes maxL ret ws rm 0 0 n) (hK : pw_K D cI cP cR s) (hP : va_P D vwCl w H) (hD : va_D A w) (hS : va_S A s.heap H locs) (hA : ∀ q, s.heap.size ≤ q → A q) (isC isR : List Nat) (hC : isC.map (fun i => w[i]?) = wc.map some) (hR : isR.map (fun i => w[i]?) = wr.map some) (hnC : va_nd isC = true) (hnR : va_nd isR = true) (hdis : ∀ i ∈ isR, i ∉ isC)
    (q0 : Nat) {ci : Nat} {fs : List Value} {r : vw_C} (he : wc[q0]? = some (b, .inr (ci, fs))) (hc : vwCl[ci]? = some r) (hCr : r.1 = C) (hn : As.length = n) (hsize : ls.size = nL) (hst : st0 = As.reverse ++ .ref b :: rest) (hW : (rest.map fun v => v.category).sum ≤ 8) (hdg : decode cc pc = .ok (.invokevirtual index, 3)) (hf : cells ≤ R.cells ∧ slots ≤ R.slots)
    (kk : ∀ (v : Option Value) (w1 : va_W) (H1 : Heap) (locs1 : List Loc), post v w1 → va_P D vwCl (wr ++ w1) H1 → va_D A (wr ++ w1) → va_S A s.heap H1 locs1 → W p l e R s m args below meth c H1 locs1 cells slots Q (F0 m (pc + 3) ls (v.toList ++ rest))) : W p l e R s m args below meth c H locs cells slots Q (F0 m pc ls st0) :=
  have hPc : va_P D vwCl wc H := hP.sub isC (by
    have h2 := congrArg (fun z => z.filterMap id) hC
    simpa [List.filterMap_map, Function.comp_def] using h2)
  pw_goesm (va_runV (g := F0 m pc ls st0) S (hM H.size) (cw r.1 hCr) (pw_preV hK hPc (hD.sub isC hnC hC) q0 he hc) rfl hn hsize hst (lv_room hW) hdg hf) hP hD hS hA isC isR hC hR hnR hdis kk
end PWL
end
